/-! next and step -/
section OS
variable {cf : Nat → Nat} {a e : Nat} {k z : ka_T} {s t c d p j f n : Nat} {v x y o : Int32} {P : Int32 → ka_T → Int32 → ka_T → Prop}
/-- the best of the ready below n -/
def nb_ (z : ka_T) : Nat → Option Nat
  | 0 => none
  | n + 1 => match nb_ z n with
    | none => if z 409 0 n = 1 then some n else none
    | some b => if z 409 0 n = 1 ∧ (z 410 0 b < z 410 0 n ∨ (z 410 0 n = z 410 0 b ∧ ¬ z 419 0 b ≤ z 419 0 n)) then some n else some b
def nr_o (o : Option Nat) : Int32 := match o with
  | none => -1
  | some b => nI b
theorem nb_in : ∀ {n b : Nat}, nb_ z n = some b → b < n ∧ z 409 0 b = 1 := by
  intro n
  induction n with
  | zero => intro b h; cases h
  | succ n ih =>
    intro b h
    unfold nb_ at h
    cases hn : nb_ z n with
    | none =>
      rw [hn] at h
      by_cases h1 : z 409 0 n = 1
      · simp only [h1, if_true] at h
        cases h
        exact ⟨by omega, h1⟩
      · simp [h1] at h
    | some m =>
      rw [hn] at h
      simp only at h
      by_cases h1 : z 409 0 n = 1 ∧ (z 410 0 m < z 410 0 n ∨ (z 410 0 n = z 410 0 m ∧ ¬ z 419 0 m ≤ z 419 0 n))
      · rw [if_pos h1] at h
        cases h
        exact ⟨by omega, h1.1⟩
      · rw [if_neg h1] at h
        cases h
        obtain ⟨g1, g2⟩ := ih hn
        exact ⟨by omega, g2⟩
theorem nb_yes (h : z 409 0 n = 1) (h2 : ∀ b, nb_ z n = some b → z 410 0 b < z 410 0 n ∨ (z 410 0 n = z 410 0 b ∧ ¬ z 419 0 b ≤ z 419 0 n)) : nb_ z (n + 1) = some n := by
  unfold nb_
  cases hn : nb_ z n with
  | none => simp [h]
  | some b => simp only; rw [if_pos ⟨h, h2 b hn⟩]
theorem nb_no (h : ¬ z 409 0 n = 1 ∨ ∃ b, nb_ z n = some b ∧ ¬ (z 410 0 b < z 410 0 n ∨ (z 410 0 n = z 410 0 b ∧ ¬ z 419 0 b ≤ z 419 0 n))) : nb_ z (n + 1) = nb_ z n := by
  show (match nb_ z n with | none => if z 409 0 n = 1 then some n else none | some b => if z 409 0 n = 1 ∧ (z 410 0 b < z 410 0 n ∨ (z 410 0 n = z 410 0 b ∧ ¬ z 419 0 b ≤ z 419 0 n)) then some n else some b) = nb_ z n
  cases hn : nb_ z n with
  | none =>
    rcases h with h | ⟨b, h1, -⟩
    · simp [h]
    · rw [hn] at h1; cases h1
  | some b =>
    rcases h with h | ⟨b', h1, h2⟩
    · simp [h]
    · rw [hn] at h1; cases h1
      simp only
      rw [if_neg (fun hh => h2 hh.2)]
theorem m_next {post : Int32 → ka_T → Prop} (hb : Cb_ cf) (hp : post (nr_o (nb_ z (cf 0))) z) : q_X4_next cf post z := by
  have h8 := hb.2.1
  have key : ∀ d i, i + d = cf 0 → q_X4_next_4 cf post (d + 1) (nr_o (nb_ z i)) (nI i) z := by
    intro d
    induction d with
    | zero =>
      intro i hi
      have : i = cf 0 := by omega
      subst this
      exact ⟨fun _ => hp, fun hn => absurd (nI_le (Nat.le_refl _) (by omega)) hn⟩
    | succ d ih =>
      intro i hi
      have ci : (nI i).toNatClampNeg = i := nI_clamp (by omega)
      have vi : vp_in (nI i) 8 := vp_in_nI (by omega) (by omega)
      have nxt := ih (i + 1) (by omega)
      have no : nb_ z (i + 1) = nb_ z i → q_X4_next_76 cf (q_X4_next_4 cf post (d + 1)) post (nr_o (nb_ z i)) (nI i) 0 z := fun e1 => by
        rw [e1, ← nI_1] at nxt
        exact ⟨fun _ => nxt, fun hn => absurd rfl hn⟩
      have yes : nb_ z (i + 1) = some i → q_X4_next_76 cf (q_X4_next_4 cf post (d + 1)) post (nr_o (nb_ z i)) (nI i) 1 z := fun e1 => by
        rw [e1, ← nI_1] at nxt
        exact ⟨fun hn => absurd hn (by decide), fun _ => nxt⟩
      refine ⟨fun hn => absurd hn (nI_ge (by omega) (by omega)), fun _ => ⟨vi, ?_⟩⟩
      rw [ci]
      refine ⟨fun h1 => no (nb_no (Or.inl h1)), fun h1 => ?_⟩
      cases hn : nb_ z i with
      | none =>
        rw [hn] at yes
        exact ⟨fun _ => yes (nb_yes h1 (fun b hb => by rw [hn] at hb; cases hb)), fun h9 => absurd (by decide) h9⟩
      | some b =>
        obtain ⟨b1, b2⟩ := nb_in hn
        rw [hn] at yes no
        have cb : (nI b).toNatClampNeg = b := nI_clamp (by omega)
        have vb : vp_in (nI b) 8 := vp_in_nI (by omega) (by omega)
        refine ⟨fun h9 => absurd h9 (nI_pos (by omega)), fun _ => ⟨vi, vb, ?_⟩⟩
        rw [show (nr_o (some b)).toNatClampNeg = b from cb]
        refine ⟨fun h2 => yes (nb_yes h1 (fun b' hb => by rw [hn] at hb; cases hb; exact Or.inl h2)), fun h2 => ⟨vi, vb, ?_⟩⟩
        refine ⟨fun h3 => no (by rw [← hn]; exact nb_no (Or.inr ⟨b, hn, fun hh => by rcases hh with hh | hh; exact h2 hh; exact h3 hh.1⟩)), fun h3 => ⟨vi, vb, ?_⟩⟩
        exact ⟨fun h4 => no (by rw [← hn]; exact nb_no (Or.inr ⟨b, hn, fun hh => by rcases hh with hh | hh; exact h2 hh; exact hh.2 h4⟩)), fun h4 => yes (nb_yes h1 (fun b' hb => by rw [hn] at hb; cases hb; exact Or.inr ⟨h3, h4⟩))⟩
  exact ⟨cf 0 + 1, key (cf 0) 0 (by omega)⟩
theorem e_next {post : Int32 → ka_T → Prop} (hb : Cb_ cf) (h : Cp_ cf a e k z) (hp : post (nr_o (nb_ z (cf 0))) k) : q_X3_next cf post k := by
  have h8 := hb.2.1
  have rd : ∀ u, u < cf 0 → z 409 0 u = 1 → k 205 u 0 = z 410 0 u ∧ k 206 u 0 = z 419 0 u := fun u hu h1 => by
    obtain ⟨-, l2, l3, -⟩ := ((h.2.2 u hu).2.2.2 (by rw [h1]; decide)).2
    exact ⟨l2, l3⟩
  have key : ∀ d i, i + d = cf 0 → q_X3_next_4 cf post (d + 1) (nr_o (nb_ z i)) (nI i) k := by
    intro d
    induction d with
    | zero =>
      intro i hi
      have : i = cf 0 := by omega
      subst this
      exact ⟨fun _ => hp, fun hn => absurd (nI_le (Nat.le_refl _) (by omega)) hn⟩
    | succ d ih =>
      intro i hi
      have ci : (nI i).toNatClampNeg = i := nI_clamp (by omega)
      have vi : vp_in (nI i) (cf 0) := vp_in_nI (by omega) (by omega)
      have nxt := ih (i + 1) (by omega)
      have no : nb_ z (i + 1) = nb_ z i → q_X3_next_4 cf post (d + 1) (nr_o (nb_ z i)) (nI i + 1) k := fun e1 => by
        rw [e1, ← nI_1] at nxt
        exact nxt
      have yes : nb_ z (i + 1) = some i → q_X3_next_4 cf post (d + 1) (nI i) (nI i + 1) k := fun e1 => by
        rw [e1, ← nI_1] at nxt
        exact nxt
      refine ⟨fun hn => absurd hn (nI_ge (by omega) (by omega)), fun _ => ⟨vi, fun t2 e2 _ => ?_⟩⟩
      rw [ci] at e2
      subst e2
      rw [(h.2.2 t2 (by omega)).1]
      refine ⟨fun h1 => no (nb_no (Or.inl h1)), fun h1 => ?_⟩
      cases hn : nb_ z t2 with
      | none =>
        exact ⟨fun _ => yes (nb_yes h1 (fun b hb => by rw [hn] at hb; cases hb)), fun h9 => absurd (by decide) h9⟩
      | some b =>
        obtain ⟨b1, b2⟩ := nb_in hn
        rw [hn] at no
        have cb : (nI b).toNatClampNeg = b := nI_clamp (by omega)
        refine ⟨fun h9 => absurd h9 (nI_pos (by omega)), fun _ => ⟨vi, fun t5 e5 _ => ⟨vp_in_nI (by omega) (by omega), fun t6 e6 _ => ?_⟩⟩⟩
        rw [ci] at e5
        have e6 : t6 = b := e6.trans cb
        subst e5; subst e6
        obtain ⟨r1, r2⟩ := rd t5 (by omega) h1
        obtain ⟨r3, r4⟩ := rd t6 (by omega) b2
        unfold q_X2_goesBefore
        rw [r1, r2, r3, r4]
        have N : ¬ (z 410 0 t6 < z 410 0 t5 ∨ (z 410 0 t5 = z 410 0 t6 ∧ ¬ z 419 0 t6 ≤ z 419 0 t5)) → ((0 : Int32) = 0 → q_X3_next_4 cf post (d + 1) (nr_o (some t6)) (nI t5 + 1) k) ∧ (¬ (0 : Int32) = 0 → q_X3_next_4 cf post (d + 1) (nI t5) (nI t5 + 1) k) := fun hh => ⟨fun _ => no (by rw [← hn]; exact nb_no (Or.inr ⟨t6, hn, hh⟩)), fun h9 => absurd rfl h9⟩
        have Y : (z 410 0 t6 < z 410 0 t5 ∨ (z 410 0 t5 = z 410 0 t6 ∧ ¬ z 419 0 t6 ≤ z 419 0 t5)) → ((1 : Int32) = 0 → q_X3_next_4 cf post (d + 1) (nr_o (some t6)) (nI t5 + 1) k) ∧ (¬ (1 : Int32) = 0 → q_X3_next_4 cf post (d + 1) (nI t5) (nI t5 + 1) k) := fun hh => ⟨fun h9 => absurd h9 (by decide), fun _ => yes (nb_yes h1 (fun b' hb => by rw [hn] at hb; cases hb; exact hh))⟩
        exact ⟨fun h2 => Y (Or.inl h2), fun h2 => ⟨fun h3 => N (fun hh => by rcases hh with hh | hh; exact h2 hh; exact h3 hh.1), fun h3 => ⟨fun h4 => N (fun hh => by rcases hh with hh | hh; exact h2 hh; exact hh.2 h4), fun h4 => Y (Or.inr ⟨h3, h4⟩)⟩⟩⟩
  exact ⟨cf 0 + 1, key (cf 0) 0 (by omega)⟩
theorem Cp_st (h : Cp_ cf a e k z) (x y : Int32) : Cp_ cf a e k (k3_up (k3_up z 425 0 0 x) 426 0 0 y) := by
  obtain ⟨g1, g2, g3, g4, g5, g6, g7, g8⟩ := h.1
  refine Cp_glob h (fun _ _ _ _ => rfl) (fun f n j h1 h2 => by rw [k3_ne (by omega), k3_ne (by omega)]) ⟨fun i hi => ?_, fun i hi => ?_, fun i hi => ?_, ⟨g4.1, ?_⟩, ?_, ⟨g6.1, ?_⟩, ?_, fun q hq => Cq_keep (g8 q hq) (fun _ _ _ => rfl) (by rw [k3_ne (by omega), k3_ne (by omega)]) (fun i => by rw [k3_ne (by omega), k3_ne (by omega)])⟩
  · rw [k3_ne (by omega), k3_ne (by omega)]; exact g1 i hi
  · rw [k3_ne (by omega), k3_ne (by omega)]; exact g2 i hi
  · rw [k3_ne (by omega), k3_ne (by omega)]; exact g3 i hi
  · rw [k3_ne (by omega), k3_ne (by omega)]; exact g4.2
  · rw [k3_ne (by omega), k3_ne (by omega)]; exact g5
  · rw [k3_ne (by omega), k3_ne (by omega)]; exact g6.2
  · rw [k3_ne (by omega), k3_ne (by omega)]; exact g7
end OS
