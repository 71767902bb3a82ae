/-! one step: the running task's stack, frames and place beside each other -/
theorem k3_out {x : ka_T} {f n j f' n' j' : Nat} {v : Int32} (h : ¬ (f' = f ∧ n' = n)) : k3_up x f n j v f' n' j' = x f' n' j' := if_neg (fun hh => h ⟨hh.1, hh.2.1⟩)
/-- how an op ends: r is the class's answer; b, g bound the new ticket and emission counts -/
def Ro_ (cf : Nat → Nat) (a e s : Nat) (r : Int32) (k z : ka_T) : Prop := z 425 0 0 = nI s ∧ z 426 0 0 = r ∧
  ((r = 0 ∧ ∃ a' e' : Nat, a ≤ a' ∧ a' ≤ a + 1 ∧ e ≤ e' ∧ e' ≤ e + 1 ∧ Cp_ cf a' e' k z) ∨ ((∃ i : Nat, 1 ≤ i ∧ i ≤ 6 ∧ r = nI i) ∧ Cx_ cf a e k z s))
section CS
variable {cf : Nat → Nat} {a e : Nat} {k z k' z' : ka_T} {s c : Nat}
theorem cs_8 (hb : Cb_ cf) (h : Cs_ cf a e k z s) : s < 8 := Nat.lt_of_lt_of_le h.2.1 hb.2.1
theorem cs_live (h : Cs_ cf a e k z s) : ¬ z 409 0 s = 0 := by rw [h.2.2.1]; decide
theorem cs_l (h : Cs_ cf a e k z s) : Cl_ cf k z s := ((h.1.2.2 s h.2.1).2.2.2 (cs_live h)).2
theorem cs_count (h : Cs_ cf a e k z s) : ∃ c : Nat, c ≤ cf 1 ∧ k 101 (2 * s) 0 = nI c ∧ z 412 0 s = nI c ∧ ∀ j, j < c → k 100 (2 * s) j = z 413 s j := by
  obtain ⟨-, -, -, ⟨c, c1, c2, c3, c4, -⟩, -⟩ := cs_l h
  exact ⟨c, c1, c2, c3, c4⟩
theorem cs_frames (h : Cs_ cf a e k z s) : ∃ f : Nat, f ≤ 4 ∧ k 101 (2 * s + 1) 0 = nI f ∧ z 414 0 s = nI f ∧ ∀ j, j < f → k 100 (2 * s + 1) j = z 415 s j ∧ ∃ a : Nat, a ≤ 64 ∧ z 415 s j = nI a := by
  obtain ⟨-, -, -, -, hf, -⟩ := cs_l h
  exact hf
/-- the running task again, after work on its own fields that leaves state, ticket and reason -/
theorem cs_own (h : Cs_ cf a e k z s) (hk : ∀ f n j, ¬ (KO_ s f n ∧ ¬ f = 307 ∧ ¬ f = 203 ∧ ¬ f = 206 ∧ ¬ f = 207 ∧ ¬ f = 208 ∧ ¬ f = 210) → k' f n j = k f n j) (hz : ∀ f n j, ¬ (ZO_ s f n j ∧ ¬ f = 408 ∧ ¬ f = 409 ∧ ¬ f = 416 ∧ ¬ f = 417 ∧ ¬ f = 419 ∧ ¬ f = 420 ∧ ¬ f = 425 ∧ ¬ f = 426) → z' f n j = z f n j)
    (h4 : k' 204 s 0 = z' 411 0 s ∧ ∃ a : Nat, a ≤ 64 ∧ z' 411 0 s = nI a) (h5 : k' 205 s 0 = z' 410 0 s) (hc : ∃ c : Nat, c ≤ cf 1 ∧ k' 101 (2 * s) 0 = nI c ∧ z' 412 0 s = nI c ∧ ∀ j, j < c → k' 100 (2 * s) j = z' 413 s j) (hf : ∃ f : Nat, f ≤ 4 ∧ k' 101 (2 * s + 1) 0 = nI f ∧ z' 414 0 s = nI f ∧ ∀ j, j < f → k' 100 (2 * s + 1) j = z' 415 s j ∧ ∃ a : Nat, a ≤ 64 ∧ z' 415 s j = nI a) : Cs_ cf a e k' z' s := by
  obtain ⟨hp, hs, h1, h2, h3⟩ := h
  have e203 : k' 203 s 0 = k 203 s 0 := hk 203 s 0 (by omega)
  have e206 : k' 206 s 0 = k 206 s 0 := hk 206 s 0 (by omega)
  have e207 : k' 207 s 0 = k 207 s 0 := hk 207 s 0 (by omega)
  have e208 : k' 208 s 0 = k 208 s 0 := hk 208 s 0 (by omega)
  have e210 : k' 210 s 0 = k 210 s 0 := hk 210 s 0 (by omega)
  have e307 : k' 307 0 0 = k 307 0 0 := hk 307 0 0 (by omega)
  have d408 : z' 408 0 0 = z 408 0 0 := hz 408 0 0 (by omega)
  have d409 : z' 409 0 s = z 409 0 s := hz 409 0 s (by omega)
  have d416 : z' 416 0 s = z 416 0 s := hz 416 0 s (by omega)
  have d417 : z' 417 0 s = z 417 0 s := hz 417 0 s (by omega)
  have d419 : z' 419 0 s = z 419 0 s := hz 419 0 s (by omega)
  have d420 : z' 420 0 s = z 420 0 s := hz 420 0 s (by omega)
  have d425 : z' 425 0 0 = z 425 0 0 := hz 425 0 0 (by omega)
  have d426 : z' 426 0 0 = z 426 0 0 := hz 426 0 0 (by omega)
  have g := hp.1.2.2.2.2.2.1
  obtain ⟨t1, t2, t3, t4⟩ := hp.2.2 s hs
  obtain ⟨tb, l1, l2, l3, l4, l5, l6, l7, l8, l9, l10⟩ := t4 (by rw [h1]; decide)
  refine ⟨Cp_gen (Cp_x hp hs) (Nat.le_refl _) (fun f n j hn => hk f n j (fun hh => hn hh.1)) (fun f n j hn => hz f n j (fun hh => hn hh.1)) ⟨by rw [e307]; exact g.1, by rw [d408]; exact g.2⟩ ⟨by rw [e203, d409]; exact t1, by rw [e210, d420]; exact t2, by rw [d409]; exact t3, fun _ => ⟨by rw [d419]; exact tb, h4, h5, by rw [e206, d419]; exact l3, ?_, hf, by rw [d409, e207, d416]; exact l6, by rw [d409, e207]; exact l7, by rw [d409, e208, d417]; exact l8, by rw [d409, e208]; exact l9, fun h9 => ?_⟩⟩ (fun _ u hu hus hul => ?_), hs, by rw [d409]; exact h1, by rw [d425]; exact h2, by rw [d426]; exact h3⟩
  · obtain ⟨c, c1, c2, c3, c4⟩ := hc
    exact ⟨c, c1, c2, c3, c4, fun h9 => by rw [d409, h1] at h9; exact absurd h9 (by decide)⟩
  · rw [d409, h1] at h9
    exact absurd h9 (by decide)
  · rw [d419]
    exact fun h9 => hus (hp.2.1 u s hu hs hul (by rw [h1]; decide) h9)
theorem cs_stack (h : Cs_ cf a e k z s) (hk : ∀ f n j, ¬ ((f = 100 ∨ f = 101) ∧ n = 2 * s) → k' f n j = k f n j) (hz : ∀ f n j, ¬ ((f = 413 ∧ n = s) ∨ (f = 412 ∧ n = 0 ∧ j = s)) → z' f n j = z f n j) (hc : ∃ c : Nat, c ≤ cf 1 ∧ k' 101 (2 * s) 0 = nI c ∧ z' 412 0 s = nI c ∧ ∀ j, j < c → k' 100 (2 * s) j = z' 413 s j) : Cs_ cf a e k' z' s := by
  obtain ⟨⟨l1, l1b⟩, l2, -⟩ := cs_l h
  obtain ⟨f, f1, f2, f3, f4⟩ := cs_frames h
  refine cs_own h (fun f n j hn => hk f n j (fun hh => hn (by unfold KO_; omega))) (fun f n j hn => hz f n j (fun hh => hn (by unfold ZO_; omega))) ⟨?_, ?_⟩ ?_ hc ⟨f, f1, ?_, ?_, fun j hj => ?_⟩
  · rw [hk 204 s 0 (by omega), hz 411 0 s (by omega)]; exact l1
  · rw [hz 411 0 s (by omega)]; exact l1b
  · rw [hk 205 s 0 (by omega), hz 410 0 s (by omega)]; exact l2
  · rw [hk 101 _ 0 (by omega)]; exact f2
  · rw [hz 414 0 s (by omega)]; exact f3
  · rw [hk 100 _ j (by omega), hz 415 s j (by omega)]; exact f4 j hj
theorem cs_pop (h : Cs_ cf a e k z s) (hc : c + 1 ≤ cf 1) (h4 : ∀ j, j < c + 1 → k 100 (2 * s) j = z 413 s j) : Cs_ cf a e (k3_up k 101 (2 * s) 0 (nI c)) (k3_up z 412 0 s (nI c)) s :=
  cs_stack h (fun f n j hn => k3_out (by omega)) (fun f n j hn => k3_ne (by omega)) ⟨c, by omega, k3_same _ _ _ _ _, k3_same _ _ _ _ _, fun j hj => by rw [k3_out (by omega), k3_ne (by omega)]; exact h4 j (by omega)⟩
theorem cs_push (h : Cs_ cf a e k z s) (hc : c < cf 1) (h4 : ∀ j, j < c → k 100 (2 * s) j = z 413 s j) (v : Int32) : Cs_ cf a e (k3_up (k3_up k 100 (2 * s) c v) 101 (2 * s) 0 (nI (c + 1))) (k3_up (k3_up z 413 s c v) 412 0 s (nI (c + 1))) s := by
  refine cs_stack h (fun f n j hn => by rw [k3_out (by omega), k3_out (by omega)]) (fun f n j hn => by rw [k3_ne (by omega), k3_out (by omega)]) ⟨c + 1, by omega, k3_same _ _ _ _ _, k3_same _ _ _ _ _, fun j hj => ?_⟩
  have g1 : k3_up (k3_up k 100 (2 * s) c v) 101 (2 * s) 0 (nI (c + 1)) 100 (2 * s) j = k3_up k 100 (2 * s) c v 100 (2 * s) j := k3_ne (by omega)
  have g2 : k3_up (k3_up z 413 s c v) 412 0 s (nI (c + 1)) 413 s j = k3_up z 413 s c v 413 s j := k3_ne (by omega)
  rw [g1, g2]
  by_cases e : j = c
  · subst e
    rw [k3_same, k3_same]
  · rw [k3_ne (by omega), k3_ne (by omega)]
    exact h4 j (by omega)
/-- the op went well -/
theorem ro_ok (h : Cs_ cf a e k z s) : Ro_ cf a e s 0 k z := ⟨h.2.2.2.1, h.2.2.2.2, Or.inl ⟨rfl, a, e, Nat.le_refl _, by omega, Nat.le_refl _, by omega, h.1⟩⟩
/-- the op trapped: what it took is gone -/
theorem ro_trap (h : Cs_ cf a e k z s) (i : Nat) (hi : 1 ≤ i ∧ i ≤ 6) (hk : ∀ f n j, ¬ ((f = 100 ∨ f = 101) ∧ n = 2 * s) → k' f n j = k f n j) (hz : ∀ f n j, ¬ (f = 412 ∧ n = 0 ∧ j = s) → ¬ f = 426 → z' f n j = z f n j) (ht : z' 426 0 0 = nI i) : Ro_ cf a e s (nI i) k' z' := by
  obtain ⟨hp, hs, h1, h2, h3⟩ := h
  refine ⟨by rw [hz 425 0 0 (by omega) (by omega)]; exact h2, ht, Or.inr ⟨⟨i, hi.1, hi.2, rfl⟩, Cx_gen (Cp_x hp hs) (fun f n j hn => hk f n j (fun hh => hn (by unfold KO_; omega))) (fun f n j hn => ?_) ⟨hk _ _ _ (by omega), hz _ _ _ (by omega) (by omega)⟩ (hk _ _ _ (by omega)) (hk _ _ _ (by omega)) (hz _ _ _ (by omega) (by omega)) (hz _ _ _ (by omega) (by omega)) (hz _ _ _ (by omega) (by omega))⟩⟩
  by_cases e1 : f = 426
  · exact absurd (by unfold ZO_; omega) hn
  · exact hz f n j (fun hh => hn (by unfold ZO_; omega)) e1
end CS
