/-! ops of the stack, side by side -/
section O1
variable {cf : Nat → Nat} {a e : Nat} {k z : ka_T} {s c d p : Nat} {v x : Int32}
theorem e_pop2 {F : Int32 → Int32 → ka_T → Prop} (hc : k 101 p 0 = nI (d + 2)) (hl : d + 1 < pl_n cf p) (hb : pl_n cf p ≤ 16) (h : F (k 100 p (d + 1)) (k 100 p d) (k3_up (k3_up k 101 p 0 (nI (d + 1))) 101 p 0 (nI d))) : q_X1_pop cf (fun r2 k2 => q_X1_pop cf (fun r3 k3 => F r2 r3 k3) p k2) p k := by
  refine e_pop hc hl hb (e_pop (k3_same _ _ _ _ _) (by omega) hb ?_)
  rw [k3_ne (show ¬ (100 = 101 ∧ p = p ∧ d = 0) by omega)]
  exact h
theorem m_take2 {F : Int32 → Int32 → ka_T → Prop} (hs : z 425 0 0 = nI s) (h8 : s < 8) (ht : z 426 0 0 = 0) (hd : z 412 0 s = nI (d + 2)) (hc : d + 1 < 16) (h : F (z 413 s (d + 1)) (z 413 s d) (k3_up (k3_up z 412 0 s (nI (d + 1))) 412 0 s (nI d))) : q_X4_take cf (fun r9 k9 => q_X4_take cf (fun r10 k10 => F r9 r10 k10) k9) z := by
  refine m_take hs h8 ht hd hc (m_take (s := s) (c := d) ?_ h8 ?_ (k3_same _ _ _ _ _) (by omega) ?_)
  · rw [k3_ne (by omega)]; exact hs
  · rw [k3_ne (by omega)]; exact ht
  · rw [k3_ne (show ¬ (413 = 412 ∧ s = 0 ∧ d = s) by omega)]; exact h
theorem m_take21 {F : Int32 → Int32 → ka_T → Prop} (hs : z 425 0 0 = nI s) (h8 : s < 8) (ht : z 426 0 0 = 0) (hd : z 412 0 s = nI 1) (h : F (z 413 s 0) 0 (k3_up (k3_up z 412 0 s (nI 0)) 426 0 0 1)) : q_X4_take cf (fun r9 k9 => q_X4_take cf (fun r10 k10 => F r9 r10 k10) k9) z := by
  refine m_take (c := 0) hs h8 ht hd (by omega) (m_take0 (s := s) ?_ h8 ?_ (k3_same _ _ _ _ _) h)
  · rw [k3_ne (by omega)]; exact hs
  · rw [k3_ne (by omega)]; exact ht
theorem m_take20 {F : Int32 → Int32 → ka_T → Prop} (hs : z 425 0 0 = nI s) (h8 : s < 8) (ht : z 426 0 0 = 0) (hd : z 412 0 s = nI 0) (h : F 0 0 (k3_up z 426 0 0 1)) : q_X4_take cf (fun r9 k9 => q_X4_take cf (fun r10 k10 => F r9 r10 k10) k9) z := by
  refine m_take0 hs h8 ht hd (m_takeT (s := s) ?_ h8 ?_ h)
  · rw [k3_ne (by omega)]; exact hs
  · rw [k3_same]; decide
theorem i1_le {c : Nat} (h : 1 ≤ c) (hc : c ≤ 16) : (1 : Int32) ≤ nI c := nI_le (a := 1) h (by omega)
theorem i2_le {c : Nat} (h : 2 ≤ c) (hc : c ≤ 16) : (2 : Int32) ≤ nI c := nI_le (a := 2) h (by omega)
theorem i1_n {c : Nat} (h : c < 1) : ¬ (1 : Int32) ≤ nI c := nI_ge (a := c) (b := 1) h (by decide)
theorem i2_n {c : Nat} (h : c < 2) : ¬ (2 : Int32) ≤ nI c := nI_ge (a := c) (b := 2) h (by decide)
variable {P : Int32 → ka_T → ka_T → Prop}
/-- a trap where the class has taken nothing, or as much as it liked -/
theorem ro_t {k' z' : ka_T} (h : Cs_ cf a e k z s) (i : Nat) (hi : 1 ≤ i ∧ i ≤ 6) (hk : k' = k ∨ ∃ y, k' = k3_up k 101 (2 * s) 0 y ∨ ∃ y', k' = k3_up (k3_up k 101 (2 * s) 0 y) 101 (2 * s) 0 y') (hz : z' = k3_up z 426 0 0 (nI i) ∨ ∃ y, z' = k3_up (k3_up z 412 0 s y) 426 0 0 (nI i) ∨ ∃ y', z' = k3_up (k3_up (k3_up z 412 0 s y) 412 0 s y') 426 0 0 (nI i)) : Ro_ cf a e s (nI i) k' z' := by
  refine ro_trap h i hi (fun f n j hn => ?_) (fun f n j h1 h2 => ?_) ?_
  · rcases hk with rfl | ⟨y, rfl | ⟨y', rfl⟩⟩
    · rfl
    · exact k3_out (by omega)
    · rw [k3_out (by omega), k3_out (by omega)]
  · rcases hz with rfl | ⟨y, rfl | ⟨y', rfl⟩⟩
    · exact k3_out (by omega)
    · rw [k3_out (by omega), k3_ne (by omega)]
    · rw [k3_out (by omega), k3_ne (by omega), k3_ne (by omega)]
  · rcases hz with rfl | ⟨y, rfl | ⟨y', rfl⟩⟩ <;> exact k3_same _ _ _ _ _
/-- put -/
theorem op_put (hb : Cb_ cf) (h : Cs_ cf a e k z s) (x : Int32) (hp : ∀ r k' z', Ro_ cf a e s r k' z' → P r k' z') : q_X2_put cf (fun r k' => q_X4_put cf (fun z' => P r k' z') x z) s x k := by
  obtain ⟨c, c1, c2, c3, c4⟩ := cs_count h
  have h8 := cs_8 hb h
  have h16 := hb.2.2.2.1
  by_cases hc : c < cf 1
  · exact e_put c2 hc h16 (m_put h.2.2.2.1 h8 h.2.2.2.2 c3 hc h16 (hp _ _ _ (ro_ok (cs_push h hc c4 x))))
  · have hc2 : c = cf 1 := by omega
    rw [hc2] at c2 c3
    exact e_putF c2 (m_putF h.2.2.2.1 h8 h.2.2.2.2 c3 (hp _ _ _ (ro_t h 1 (by decide) (Or.inl rfl) (Or.inl rfl))))
theorem op_arith (hb : Cb_ cf) (h : Cs_ cf a e k z s) (o : Int32) (ho : o = 2 ∨ o = 3 ∨ o = 4 ∨ o = 5) (hp : ∀ r k' z', Ro_ cf a e s r k' z' → P r k' z') : q_X3_compute cf (fun r k' => q_X4_arithmetic cf (fun z' => P r k' z') o z) s o k := by
  obtain ⟨c, c1, c2, c3, c4⟩ := cs_count h
  have h8 := cs_8 hb h
  have h16 := hb.2.2.2.1
  have hs := h.2.2.2.1
  have ht := h.2.2.2.2
  unfold q_X3_compute
  rw [c2]
  refine ⟨fun h2 => ?_, fun h2 => ?_⟩
  · have hc : 2 ≤ c := Nat.not_lt.mp fun hh => i2_n hh h2
    obtain ⟨d, rfl⟩ : ∃ d, c = d + 2 := ⟨c - 2, by omega⟩
    have h1 := cs_pop (c := d + 1) h (by omega) (fun j hj => c4 j (by omega))
    have c4' : ∀ j, j < d + 1 → k3_up k 101 (2 * s) 0 (nI (d + 1)) 100 (2 * s) j = k3_up z 412 0 s (nI (d + 1)) 413 s j := fun j hj => by rw [k3_ne (by omega), k3_ne (by omega)]; exact c4 j (by omega)
    have h3 := cs_pop (c := d) h1 (by omega) c4'
    have c4'' : ∀ j, j < d → k3_up (k3_up k 101 (2 * s) 0 (nI (d + 1))) 101 (2 * s) 0 (nI d) 100 (2 * s) j = k3_up (k3_up z 412 0 s (nI (d + 1))) 412 0 s (nI d) 413 s j := fun j hj => by rw [k3_ne (by omega), k3_ne (by omega)]; exact c4' j (by omega)
    have hs3 := h3.2.2.2.1
    have ht3 := h3.2.2.2.2
    have u1 : k 100 (2 * s) (d + 1) = z 413 s (d + 1) := c4 (d + 1) (by omega)
    have u2 : k 100 (2 * s) d = z 413 s d := c4 d (by omega)
    refine e_pop2 c2 (by rw [pl_e]; omega) (by rw [pl_e]; omega) ?_
    rw [u1, u2]
    obtain ⟨kk, ekk⟩ : ∃ kk, kk = k3_up (k3_up k 101 (2 * s) 0 (nI (d + 1))) 101 (2 * s) 0 (nI d) := ⟨_, rfl⟩
    obtain ⟨zz, ezz⟩ : ∃ zz, zz = k3_up (k3_up z 412 0 s (nI (d + 1))) 412 0 s (nI d) := ⟨_, rfl⟩
    have kc : kk 101 (2 * s) 0 = nI d := by rw [ekk]; exact k3_same _ _ _ _ _
    have zc : zz 412 0 s = nI d := by rw [ezz]; exact k3_same _ _ _ _ _
    rw [← ekk, ← ezz] at h3 c4''
    rw [← ezz] at hs3 ht3
    rw [← ekk]
    have fin : ∀ y : Int32, q_X4_arithmetic cf (fun z' => P 0 (k3_up (k3_up kk 100 (2 * s) d y) 101 (2 * s) 0 (nI (d + 1))) z') o z → q_X2_put cf (fun r k' => q_X4_arithmetic cf (fun z' => P r k' z') o z) s y kk := fun y hy => e_put kc (by omega) h16 hy
    have lst : ∀ y : Int32, q_X4_put cf (fun z' => P 0 (k3_up (k3_up kk 100 (2 * s) d y) 101 (2 * s) 0 (nI (d + 1))) z') y zz := fun y => m_put hs3 h8 ht3 zc (by omega) h16 (hp _ _ _ (ro_ok (cs_push h3 (by omega) c4'' y)))
    have mt : ∀ {G : ka_T → Prop}, (((¬ o = (5 : Int32) → q_X4_arithmetic_24 cf G o (z 413 s (d + 1)) (z 413 s d) zz) ∧ (o = (5 : Int32) → ((¬ z 413 s (d + 1) = 0 → q_X4_arithmetic_24 cf G o (z 413 s (d + 1)) (z 413 s d) zz) ∧ (z 413 s (d + 1) = 0 → q_X4_fall cf (fun k13 => q_X4_arithmetic_24 cf G o (z 413 s (d + 1)) (z 413 s d) k13) (3 : Int32) zz))))) → q_X4_arithmetic cf G o z := fun hG => m_take2 (F := fun r9 r10 k10 => (¬ o = (5 : Int32) → q_X4_arithmetic_24 cf _ o r9 r10 k10) ∧ (o = (5 : Int32) → ((¬ r9 = 0 → q_X4_arithmetic_24 cf _ o r9 r10 k10) ∧ (r9 = 0 → q_X4_fall cf (fun k13 => q_X4_arithmetic_24 cf _ o r9 r10 k13) (3 : Int32) k10)))) hs h8 ht c3 (by omega) (by rw [← ezz]; exact hG)
    refine ⟨fun ho2 => ?_, fun ho2 => ?_, fun ho2 => ?_, fun ho2 => ⟨fun hd => ⟨hd, ?_⟩, fun hd => ?_⟩, fun n2 n3 n4 n5 => ?_⟩
    · subst ho2
      exact fin _ (mt ⟨fun _ => ⟨fun hn => absurd ht3 hn, fun _ => ⟨fun hn => absurd rfl hn, fun _ => lst _⟩⟩, fun hn => absurd hn (by decide)⟩)
    · subst ho2
      exact fin _ (mt ⟨fun _ => ⟨fun hn => absurd ht3 hn, fun _ => ⟨fun _ => ⟨fun hn => absurd rfl hn, fun _ => lst _⟩, fun hn => absurd hn (by decide)⟩⟩, fun hn => absurd hn (by decide)⟩)
    · subst ho2
      exact fin _ (mt ⟨fun _ => ⟨fun hn => absurd ht3 hn, fun _ => ⟨fun _ => ⟨fun _ => ⟨fun hn => absurd rfl hn, fun _ => lst _⟩, fun hn => absurd hn (by decide)⟩, fun hn => absurd hn (by decide)⟩⟩, fun hn => absurd hn (by decide)⟩)
    · subst ho2
      exact fin _ (mt ⟨fun hn => absurd rfl hn, fun _ => ⟨fun _ => ⟨fun hn => absurd ht3 hn, fun _ => ⟨fun _ => ⟨fun _ => ⟨fun _ => ⟨hd, lst _⟩, fun hn => absurd hn (by decide)⟩, fun hn => absurd hn (by decide)⟩, fun hn => absurd hn (by decide)⟩⟩, fun hn => absurd hn hd⟩⟩)
    · subst ho2
      refine mt ⟨fun hn => absurd rfl hn, fun _ => ⟨fun hn => absurd hd hn, fun _ => m_fall0 ht3 ⟨fun _ => hp _ _ _ (ro_t h 3 (by decide) (Or.inr ⟨_, Or.inr ⟨_, ekk⟩⟩) (Or.inr ⟨_, Or.inr ⟨_, by rw [ezz]; rfl⟩⟩)), fun hn => ?_⟩⟩⟩
      rw [k3_same] at hn
      exact absurd hn (by decide)
    · rcases ho with ho | ho | ho | ho
      · exact absurd ho n2
      · exact absurd ho n3
      · exact absurd ho n4
      · exact absurd ho n5
  · have hc : c < 2 := Nat.not_le.mp fun hh => h2 (i2_le hh (by omega))
    have tr : ∀ {G : ka_T → Prop} (r9 r10 : Int32) (y : ka_T), ¬ y 426 0 0 = 0 → G y → ((¬ o = (5 : Int32) → q_X4_arithmetic_24 cf G o r9 r10 y) ∧ (o = (5 : Int32) → ((¬ r9 = 0 → q_X4_arithmetic_24 cf G o r9 r10 y) ∧ (r9 = 0 → q_X4_fall cf (fun k13 => q_X4_arithmetic_24 cf G o r9 r10 k13) (3 : Int32) y)))) := fun {G} r9 r10 y hy hG =>
      have h24 : q_X4_arithmetic_24 cf G o r9 r10 y := ⟨fun _ => hG, fun hn => absurd hn hy⟩
      ⟨fun _ => h24, fun _ => ⟨fun _ => h24, fun _ => m_fall1 hy h24⟩⟩
    by_cases hc1 : c = 1
    · rw [hc1] at c3
      refine m_take21 (F := fun r9 r10 k10 => (¬ o = (5 : Int32) → q_X4_arithmetic_24 cf _ o r9 r10 k10) ∧ (o = (5 : Int32) → ((¬ r9 = 0 → q_X4_arithmetic_24 cf _ o r9 r10 k10) ∧ (r9 = 0 → q_X4_fall cf (fun k13 => q_X4_arithmetic_24 cf _ o r9 r10 k13) (3 : Int32) k10)))) hs h8 ht c3 (tr _ _ _ (by rw [k3_same]; decide) (hp _ _ _ (ro_t h 1 (by decide) (Or.inl rfl) (Or.inr ⟨_, Or.inl rfl⟩))))
    · have hc0 : c = 0 := by omega
      rw [hc0] at c3
      refine m_take20 (F := fun r9 r10 k10 => (¬ o = (5 : Int32) → q_X4_arithmetic_24 cf _ o r9 r10 k10) ∧ (o = (5 : Int32) → ((¬ r9 = 0 → q_X4_arithmetic_24 cf _ o r9 r10 k10) ∧ (r9 = 0 → q_X4_fall cf (fun k13 => q_X4_arithmetic_24 cf _ o r9 r10 k13) (3 : Int32) k10)))) hs h8 ht c3 (tr _ _ _ (by rw [k3_same]; decide) (hp _ _ _ (ro_t h 1 (by decide) (Or.inl rfl) (Or.inl rfl))))
end O1
