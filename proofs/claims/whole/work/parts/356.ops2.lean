/-! what holds behind stays true of more; further ops of the stack -/
section O2
variable {cf : Nat → Nat} {a e : Nat} {k z : ka_T} {s c d p : Nat} {v x o : Int32} {P : Int32 → ka_T → ka_T → Prop}
theorem mo_push {A B : Int32 → ka_T → Prop} (hm : ∀ r k, A r k → B r k) (h : q_X1_push cf A p x k) : q_X1_push cf B p x k :=
  ⟨fun h1 => ⟨(h.1 h1).1, fun k2 e2 k3 e3 => hm _ _ ((h.1 h1).2 k2 e2 k3 e3)⟩, fun h1 => hm _ _ (h.2 h1)⟩
theorem mo_put {A B : Int32 → ka_T → Prop} (hm : ∀ r k, A r k → B r k) (h : q_X2_put cf A s x k) : q_X2_put cf B s x k :=
  mo_push (fun r k hr => ⟨fun h1 => hm _ _ (hr.1 h1), fun h1 => hm _ _ (hr.2 h1)⟩) h
theorem mo_pop {A B : Int32 → ka_T → Prop} (hm : ∀ r k, A r k → B r k) (h : q_X1_pop cf A p k) : q_X1_pop cf B p k :=
  fun k1 e1 => ⟨(h k1 e1).1, hm _ _ (h k1 e1).2⟩
theorem mo_fall {A B : ka_T → Prop} (hm : ∀ k, A k → B k) (h : q_X4_fall cf A x z) : q_X4_fall cf B x z :=
  ⟨fun h1 k2 e2 => hm _ (h.1 h1 k2 e2), fun h1 k2 e2 => hm _ (h.2 h1 k2 e2)⟩
theorem mo_take17 {A B : Int32 → ka_T → Prop} (hm : ∀ r k, A r k → B r k) {z : ka_T} (h : q_X4_take_17 cf A z) : q_X4_take_17 cf B z :=
  ⟨fun h1 => ⟨(h.1 h1).1, (h.1 h1).2.1, fun k2 e2 => ⟨((h.1 h1).2.2 k2 e2).1, ((h.1 h1).2.2 k2 e2).2.1, hm _ _ ((h.1 h1).2.2 k2 e2).2.2⟩⟩, fun h1 => hm _ _ (h.2 h1)⟩
theorem mo_take {A B : Int32 → ka_T → Prop} (hm : ∀ r k, A r k → B r k) (h : q_X4_take cf A z) : q_X4_take cf B z :=
  ⟨h.1, fun h1 => mo_take17 hm (h.2.1 h1), fun h1 => mo_fall (fun _ hk => mo_take17 hm hk) (h.2.2 h1)⟩
theorem mo_give {A B : ka_T → Prop} (hm : ∀ k, A k → B k) {z : ka_T} {t : Int32} (h : q_X4_give cf A t x z) : q_X4_give cf B t x z :=
  ⟨h.1, h.2.1, fun k1 e1 => ⟨(h.2.2 k1 e1).1, (h.2.2 k1 e1).2.1, fun k2 e2 => hm _ ((h.2.2 k1 e1).2.2 k2 e2)⟩⟩
theorem mo_mput {A B : ka_T → Prop} (hm : ∀ k, A k → B k) (h : q_X4_put cf A x z) : q_X4_put cf B x z :=
  ⟨h.1, fun h1 => ⟨fun h2 => hm _ ((h.2.1 h1).1 h2), fun h2 => mo_give hm ((h.2.1 h1).2 h2)⟩, fun h1 => mo_fall (fun _ hk => ⟨fun h2 => hm _ (hk.1 h2), fun h2 => mo_give hm (hk.2 h2)⟩) (h.2.2 h1)⟩
/-- the reference's dispatch -/
theorem m_st1 {post : ka_T → Prop} (h : q_X4_put cf post x z) : q_X4_stackOp cf post 1 x z := by
  simp only [q_X4_stackOp, q_X4_stackOp_25, q_X4_stackOp_46]
  simpa using h
theorem m_st23 {post : ka_T → Prop} (h : q_X4_put cf post (z 425 0 0) z) : q_X4_stackOp cf post 23 x z := by
  simp only [q_X4_stackOp, q_X4_stackOp_25, q_X4_stackOp_46]
  simpa using h
theorem m_st24 {post : ka_T → Prop} (h : q_X4_put cf post (z 407 0 0) z) : q_X4_stackOp cf post 24 x z := by
  simp only [q_X4_stackOp, q_X4_stackOp_25, q_X4_stackOp_46]
  simpa using h
theorem m_st6 {post : ka_T → Prop} (h : q_X4_take cf (fun b k1 => q_X4_put cf (fun k3 => q_X4_put cf post b k3) b k1) z) : q_X4_stackOp cf post 6 x z := by
  simp only [q_X4_stackOp, q_X4_stackOp_25, q_X4_stackOp_46]
  simpa using h
theorem m_st7 {post : ka_T → Prop} (h : q_X4_take cf (fun _ k1 => post k1) z) : q_X4_stackOp cf post 7 x z := by
  simp only [q_X4_stackOp, q_X4_stackOp_25, q_X4_stackOp_46]
  simpa using h
theorem m_st8 {post : ka_T → Prop} (h : q_X4_take cf (fun b k1 => q_X4_take cf (fun a k2 => q_X4_put cf (fun k5 => q_X4_put cf post a k5) b k2) k1) z) : q_X4_stackOp cf post 8 x z := by
  simp only [q_X4_stackOp, q_X4_stackOp_25, q_X4_stackOp_46]
  simpa using h
theorem m_st19 {post : ka_T → Prop} (h : q_X4_take cf (fun b k1 => q_X4_take cf (fun a k2 => (b ≤ a → q_X4_put cf post 0 k2) ∧ (¬ b ≤ a → q_X4_put cf post 1 k2)) k1) z) : q_X4_stackOp cf post 19 x z := by
  simp only [q_X4_stackOp, q_X4_stackOp_25, q_X4_stackOp_46]
  simpa using h
theorem op_1 (hb : Cb_ cf) (h : Cs_ cf a e k z s) (x : Int32) (hp : ∀ r k' z', Ro_ cf a e s r k' z' → P r k' z') : q_X2_put cf (fun r k' => q_X4_stackOp cf (fun z' => P r k' z') 1 x z) s x k :=
  mo_put (fun _ _ hq => m_st1 hq) (op_put hb h x hp)
theorem op_23 (hb : Cb_ cf) (h : Cs_ cf a e k z s) (x : Int32) (hp : ∀ r k' z', Ro_ cf a e s r k' z' → P r k' z') : q_X2_put cf (fun r k' => q_X4_stackOp cf (fun z' => P r k' z') 23 x z) s (nI s) k :=
  mo_put (fun _ _ hq => m_st23 (by rw [h.2.2.2.1]; exact hq)) (op_put hb h (nI s) hp)
theorem op_24 (hb : Cb_ cf) (h : Cs_ cf a e k z s) (x : Int32) (hp : ∀ r k' z', Ro_ cf a e s r k' z' → P r k' z') : q_X2_put cf (fun r k' => q_X4_stackOp cf (fun z' => P r k' z') 24 x z) s (k 306 0 0) k :=
  mo_put (fun _ _ hq => m_st24 (by rw [← h.1.1.2.2.2.2.1]; exact hq)) (op_put hb h (k 306 0 0) hp)
/-- a number is taken by both -/
theorem cs_p1 (h : Cs_ cf a e k z s) (hc : d + 1 ≤ cf 1) (h4 : ∀ j, j < d + 1 → k 100 (2 * s) j = z 413 s j) : Cs_ cf a e (k3_up k 101 (2 * s) 0 (nI d)) (k3_up z 412 0 s (nI d)) s ∧ ∀ j, j < d → k3_up k 101 (2 * s) 0 (nI d) 100 (2 * s) j = k3_up z 412 0 s (nI d) 413 s j :=
  ⟨cs_pop h hc h4, fun j hj => by rw [k3_ne (by omega), k3_ne (by omega)]; exact h4 j (by omega)⟩
theorem op_7 (hb : Cb_ cf) (h : Cs_ cf a e k z s) (x : Int32) (hp : ∀ r k' z', Ro_ cf a e s r k' z' → P r k' z') : q_X3_drop cf (fun r k' => q_X4_stackOp cf (fun z' => P r k' z') 7 x z) s k := by
  obtain ⟨c, c1, c2, c3, c4⟩ := cs_count h
  have h8 := cs_8 hb h
  have h16 := hb.2.2.2.1
  unfold q_X3_drop
  rw [c2]
  refine ⟨fun h1 => ?_, fun h1 => ?_⟩
  · have hc : 1 ≤ c := Nat.not_lt.mp fun hh => i1_n hh h1
    obtain ⟨d, rfl⟩ : ∃ d, c = d + 1 := ⟨c - 1, by omega⟩
    exact e_pop c2 (by rw [pl_e]; omega) (by rw [pl_e]; omega) (m_st7 (m_take h.2.2.2.1 h8 h.2.2.2.2 c3 (by omega) (hp _ _ _ (ro_ok (cs_p1 h c1 c4).1))))
  · have hc : c = 0 := by have : ¬ 1 ≤ c := fun hh => h1 (i1_le hh (by omega)); omega
    rw [hc] at c3
    exact m_st7 (m_take0 h.2.2.2.1 h8 h.2.2.2.2 c3 (hp _ _ _ (ro_t h 1 (by decide) (Or.inl rfl) (Or.inl rfl))))
theorem op_6 (hb : Cb_ cf) (h : Cs_ cf a e k z s) (x : Int32) (hp : ∀ r k' z', Ro_ cf a e s r k' z' → P r k' z') : q_X3_copyTop cf (fun r k' => q_X4_stackOp cf (fun z' => P r k' z') 6 x z) s k := by
  obtain ⟨c, c1, c2, c3, c4⟩ := cs_count h
  have h8 := cs_8 hb h
  have h16 := hb.2.2.2.1
  have hs := h.2.2.2.1
  have ht := h.2.2.2.2
  unfold q_X3_copyTop
  rw [c2]
  refine ⟨fun h1 => ?_, fun h1 => ?_⟩
  · have hc : 1 ≤ c := Nat.not_lt.mp fun hh => i1_n hh h1
    obtain ⟨d, rfl⟩ : ∃ d, c = d + 1 := ⟨c - 1, by omega⟩
    have e1 : nI (d + 1) - 1 - 0 = nI d := by rw [nI_pred, Int32.sub_zero]
    refine ⟨fun hn => absurd hn (by decide), fun _ => ⟨fun hn => ?_, fun _ => ?_⟩⟩
    · rw [c2] at hn
      exact absurd hn (nI_ge (a := 0) (b := d + 1) (by omega) (by omega))
    · rw [c2, e1, nI_clamp (by omega), pl_e, c4 d (by omega)]
      refine ⟨vp_in_nI (by omega) (by omega), ?_⟩
      obtain ⟨zz, ezz⟩ : ∃ zz, zz = k3_up (k3_up (k3_up z 412 0 s (nI d)) 413 s d (z 413 s d)) 412 0 s (nI (d + 1)) := ⟨_, rfl⟩
      have h2 : Cs_ cf a e k zz s := by
        refine cs_stack h (fun _ _ _ _ => rfl) (fun f n j hn => ?_) ⟨d + 1, c1, c2, by rw [ezz]; exact k3_same _ _ _ _ _, fun j hj => ?_⟩
        · rw [ezz, k3_ne (by omega), k3_out (by omega), k3_ne (by omega)]
        · rw [ezz, k3_ne (by omega)]
          by_cases ej : j = d
          · subst ej; rw [k3_same]; exact c4 j hj
          · rw [k3_ne (by omega), k3_ne (by omega)]; exact c4 j hj
      refine mo_put (fun r k' hq => m_st6 (m_take hs h8 ht c3 (by omega) ?_)) (op_put hb h2 (z 413 s d) hp)
      refine m_put (s := s) (c := d) ?_ h8 ?_ (k3_same _ _ _ _ _) (by omega) h16 ?_
      · rw [k3_ne (by omega)]; exact hs
      · rw [k3_ne (by omega)]; exact ht
      · rw [← ezz]; exact hq
  · have hc : c = 0 := by have : ¬ 1 ≤ c := fun hh => h1 (i1_le hh (by omega)); omega
    rw [hc] at c3
    refine m_st6 (m_take0 hs h8 ht c3 ?_)
    have t1 : ¬ k3_up z 426 0 0 1 426 0 0 = 0 := by rw [k3_same]; decide
    have s1 : k3_up z 426 0 0 1 425 0 0 = nI s := by rw [k3_ne (by omega)]; exact hs
    exact m_putT s1 h8 t1 (m_putT s1 h8 t1 (hp _ _ _ (ro_t h 1 (by decide) (Or.inl rfl) (Or.inl rfl))))
/-- two numbers are taken by both, or there is a trap -/
theorem op_two (hb : Cb_ cf) (h : Cs_ cf a e k z s) {K : Int32 → Int32 → ka_T → (Int32 → ka_T → Prop) → Prop} {M : Int32 → Int32 → ka_T → (ka_T → Prop) → Prop} (hp : ∀ r k' z', Ro_ cf a e s r k' z' → P r k' z')
    (hT : ∀ (x y : Int32) (z1 : ka_T) (G : ka_T → Prop), z1 425 0 0 = nI s → ¬ z1 426 0 0 = 0 → G z1 → M x y z1 G)
    (hK : ∀ (d : Nat) (x y : Int32) (k2 z2 : ka_T), d + 2 ≤ cf 1 → Cs_ cf a e k2 z2 s → k2 101 (2 * s) 0 = nI d → z2 412 0 s = nI d → (∀ j, j < d → k2 100 (2 * s) j = z2 413 s j) → (∃ k' z', k2 = k3_up (k3_up k 101 (2 * s) 0 k') 101 (2 * s) 0 (nI d) ∧ z2 = k3_up (k3_up z 412 0 s z') 412 0 s (nI d)) → ∀ B : Int32 → ka_T → Prop, (∀ r k', M x y z2 (fun z' => P r k' z') → B r k') → K x y k2 B) :
    ((2 : Int32) ≤ k 101 (2 * s) 0 → q_X1_pop cf (fun r2 k2 => q_X1_pop cf (fun r3 k3 => K r2 r3 k3 (fun r k' => q_X4_take cf (fun b k9 => q_X4_take cf (fun a k10 => M b a k10 (fun z' => P r k' z')) k9) z)) (2 * s) k2) (2 * s) k) ∧ (¬ (2 : Int32) ≤ k 101 (2 * s) 0 → q_X4_take cf (fun b k9 => q_X4_take cf (fun a k10 => M b a k10 (fun z' => P 1 k z')) k9) z) := by
  obtain ⟨c, c1, c2, c3, c4⟩ := cs_count h
  have h8 := cs_8 hb h
  have h16 := hb.2.2.2.1
  have hs := h.2.2.2.1
  have ht := h.2.2.2.2
  rw [c2]
  refine ⟨fun h2 => ?_, fun h2 => ?_⟩
  · have hc : 2 ≤ c := Nat.not_lt.mp fun hh => i2_n hh h2
    obtain ⟨d, rfl⟩ : ∃ d, c = d + 2 := ⟨c - 2, by omega⟩
    obtain ⟨h1, c5⟩ := cs_p1 (d := d + 1) h c1 c4
    obtain ⟨h3, c6⟩ := cs_p1 (d := d) h1 (by omega) c5
    refine e_pop2 (F := fun r2 r3 k3 => K r2 r3 k3 (fun r k' => q_X4_take cf (fun b k9 => q_X4_take cf (fun a k10 => M b a k10 (fun z' => P r k' z')) k9) z)) c2 (by rw [pl_e]; omega) (by rw [pl_e]; omega) ?_
    rw [c4 (d + 1) (by omega), c4 d (by omega)]
    refine hK d _ _ _ _ c1 h3 (k3_same _ _ _ _ _) (k3_same _ _ _ _ _) c6 ⟨_, _, rfl, rfl⟩ _ (fun r k' hM => ?_)
    exact m_take2 (F := fun b a k10 => M b a k10 (fun z' => P r k' z')) hs h8 ht c3 (by omega) hM
  · have hc : c < 2 := Nat.not_le.mp fun hh => h2 (i2_le hh (by omega))
    by_cases hc1 : c = 1
    · rw [hc1] at c3
      exact m_take21 (F := fun b a k10 => M b a k10 (fun z' => P 1 k z')) hs h8 ht c3 (hT _ _ _ _ (by rw [k3_ne (by omega), k3_ne (by omega)]; exact hs) (by rw [k3_same]; decide) (hp _ _ _ (ro_t h 1 (by decide) (Or.inl rfl) (Or.inr ⟨_, Or.inl rfl⟩))))
    · have hc0 : c = 0 := by omega
      rw [hc0] at c3
      exact m_take20 (F := fun b a k10 => M b a k10 (fun z' => P 1 k z')) hs h8 ht c3 (hT _ _ _ _ (by rw [k3_ne (by omega)]; exact hs) (by rw [k3_same]; decide) (hp _ _ _ (ro_t h 1 (by decide) (Or.inl rfl) (Or.inl rfl))))
theorem op_8 (hb : Cb_ cf) (h : Cs_ cf a e k z s) (x : Int32) (hp : ∀ r k' z', Ro_ cf a e s r k' z' → P r k' z') : q_X3_swap cf (fun r k' => q_X4_stackOp cf (fun z' => P r k' z') 8 x z) s k := by
  have h8 := cs_8 hb h
  have h16 := hb.2.2.2.1
  have key := op_two (P := P) hb h (K := fun r2 r3 k3 B => q_X1_push cf (fun r4 k4 => q_X1_push cf (fun r5 k5 => B 0 k5) (2 * s) r3 k4) (2 * s) r2 k3) (M := fun b a k10 G => q_X4_put cf (fun k5 => q_X4_put cf G a k5) b k10) hp
    (fun x y z1 G s1 t1 hG => m_putT s1 h8 t1 (m_putT s1 h8 t1 hG))
    (fun d x y k2 z2 hd h2 kc zc c4 _ B hB => by
      have h3 := cs_push h2 (show d < cf 1 by omega) c4 x
      have c5 : ∀ j, j < d + 1 → k3_up (k3_up k2 100 (2 * s) d x) 101 (2 * s) 0 (nI (d + 1)) 100 (2 * s) j = k3_up (k3_up z2 413 s d x) 412 0 s (nI (d + 1)) 413 s j := fun j hj => by
        rw [k3_ne (by omega), k3_ne (show ¬ (413 = 412 ∧ s = 0 ∧ j = s) by omega)]
        by_cases ej : j = d
        · subst ej; rw [k3_same, k3_same]
        · rw [k3_ne (by omega), k3_ne (by omega)]; exact c4 j (by omega)
      refine e_push kc (by rw [pl_e]; omega) (by rw [pl_e]; omega) (e_push (k3_same _ _ _ _ _) (by rw [pl_e]; omega) (by rw [pl_e]; omega) (hB _ _ ?_))
      exact m_put h2.2.2.2.1 h8 h2.2.2.2.2 zc (by omega) h16 (m_put h3.2.2.2.1 h8 h3.2.2.2.2 (k3_same _ _ _ _ _) (by omega) h16 (hp _ _ _ (ro_ok (cs_push h3 (by omega) c5 y)))))
  refine ⟨fun h2 => mo_pop (fun _ _ hq => mo_pop (fun _ _ hq => mo_push (fun _ _ hq => mo_push (fun _ _ hq => m_st8 hq) hq) hq) hq) (key.1 h2), fun h2 => m_st8 (key.2 h2)⟩
theorem op_19 (hb : Cb_ cf) (h : Cs_ cf a e k z s) (x : Int32) (hp : ∀ r k' z', Ro_ cf a e s r k' z' → P r k' z') : q_X3_compute cf (fun r k' => q_X4_stackOp cf (fun z' => P r k' z') 19 x z) s 19 k := by
  have h8 := cs_8 hb h
  have h16 := hb.2.2.2.1
  have key := op_two (P := P) hb h (K := fun r2 r3 k3 B => (r2 ≤ r3 → q_X2_put cf B s 0 k3) ∧ (¬ r2 ≤ r3 → q_X2_put cf B s 1 k3)) (M := fun b a k2 G => (b ≤ a → q_X4_put cf G 0 k2) ∧ (¬ b ≤ a → q_X4_put cf G 1 k2)) hp
    (fun x y z1 G s1 t1 hG => ⟨fun _ => m_putT s1 h8 t1 hG, fun _ => m_putT s1 h8 t1 hG⟩)
    (fun d x y k2 z2 hd h2 kc zc c4 _ B hB => ⟨fun hxy => mo_put (fun r k' hq => hB r k' ⟨fun _ => hq, fun hn => absurd hxy hn⟩) (op_put hb h2 0 hp), fun hxy => mo_put (fun r k' hq => hB r k' ⟨fun hn => absurd hn hxy, fun _ => hq⟩) (op_put hb h2 1 hp)⟩)
  refine ⟨fun h2 => mo_pop (fun _ _ hq => mo_pop (fun _ _ hq => ?_) hq) (key.1 h2), fun h2 => m_st19 (key.2 h2)⟩
  refine ⟨fun hn => absurd hn (by decide), fun hn => absurd hn (by decide), fun hn => absurd hn (by decide), fun hn => absurd hn (by decide), fun _ _ _ _ => ⟨fun hxy => mo_put (fun _ _ hq => m_st19 hq) (hq.1 hxy), fun hxy => mo_put (fun _ _ hq => m_st19 hq) (hq.2 hxy)⟩⟩
end O2
