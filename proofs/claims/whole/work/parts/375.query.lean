/-! the calls that ask, poke, spawn, kill, side by side -/
section OW
variable {cf : Nat → Nat} {a e : Nat} {k z : ka_T} {s t c d p j f n m : Nat} {v x y o q w : Int32}
theorem bo_q (h : Cp_ cf a e k z) {Q R : (Int32 → ka_T → Prop) → Prop} (r : Int32) (hk : ∀ post : Int32 → ka_T → Prop, post r k → Q post) (hz : ∀ post : Int32 → ka_T → Prop, post r z → R post) : Bo_ cf 64 a e Q R := ⟨r, k, z, Af_0 h 64, hk, hz⟩
theorem n01 : ¬ (1 : Int32) = 0 := by decide
theorem op_poke (hb : Cb_ cf) (h : Cp_ cf a e k z) (x y : Int32) : Bo_ cf 64 a e (fun post => q_X3_poke cf post x y k) (fun post => q_X4_poke cf post x y z) := by
  have g7 := h.1.2.2.2.2.2.2.1
  have out : (x < 0 ∨ nI 64 ≤ x) → (x < 0 ∨ nI 63 < x) → Bo_ cf 64 a e (fun post => q_X3_poke cf post x y k) (fun post => q_X4_poke cf post x y z) := fun o1 o2 =>
    bo_q h 0 (fun post hq => e_place0 o1 ⟨fun _ => hq, fun hh => absurd rfl hh⟩) (fun post hq => m_place0 o2 ⟨fun _ => hq, fun hh => absurd rfl hh⟩)
  rcases ix_3 x (n := 64) (by decide) (by decide) with ⟨j, hj, ex⟩ | hx | ⟨-, h1, h2, -⟩
  · subst ex
    have cj : (nI j).toNatClampNeg = j := nI_clamp (by omega)
    have vj : vp_in (nI j) 64 := vp_in_nI hj (by decide)
    by_cases h0 : z 406 0 0 = 0
    · refine ⟨1, k3_up k 302 0 j y, k3_up z 404 0 j y, ⟨a, e, Nat.le_refl _, by omega, Nat.le_refl _, by omega, ?_⟩, fun post hq => e_place1 hj ⟨fun hh => absurd hh n01, fun _ => ⟨fun _ => ⟨vj, fun k4 e4 => ?_⟩, fun hh => absurd (g7.1.trans h0) hh⟩⟩, fun post hq => m_place1 hj ⟨fun hh => absurd hh n01, fun _ => ⟨fun _ => ⟨vj, fun k4 e4 => ?_⟩, fun hh => absurd h0 hh⟩⟩⟩
      · obtain ⟨g1, g2, g3, g4, g5, g6, g7, g8⟩ := h.1
        refine Cp_glob h (fun f n i hf => k3_ne (by omega)) (fun f n i h1 h2 => k3_ne (by omega)) ⟨fun i hi => ?_, fun i hi => ?_, fun i hi => ?_, ⟨?_, ?_⟩, ?_, ⟨?_, ?_⟩, ?_, fun q hq => Cq_keep (g8 q hq) (fun f i hf => k3_ne (by omega)) (k3_ne (by omega)) (fun i => k3_ne (by omega))⟩
        · by_cases ei : i = j
          · subst ei; rw [k3_same, k3_same]
          · rw [k3_ne (by omega), k3_ne (by omega)]; exact g1 i hi
        · rw [k3_ne (by omega), k3_ne (by omega)]; exact g2 i hi
        · rw [k3_ne (by omega), k3_ne (by omega)]; exact g3 i hi
        · rw [k3_ne (by omega)]; exact g4.1
        · rw [k3_ne (by omega)]; exact g4.2
        · rw [k3_ne (by omega), k3_ne (by omega)]; exact g5
        · rw [k3_ne (by omega)]; exact g6.1
        · rw [k3_ne (by omega)]; exact g6.2
        · rw [k3_ne (by omega), k3_ne (by omega)]; exact g7
      · rw [e4, cj]; exact hq
      · rw [e4, cj]; exact hq
    · exact bo_q h 0 (fun post hq => e_place1 hj ⟨fun hh => absurd hh n01, fun _ => ⟨fun hh => absurd (g7.1.symm.trans hh) h0, fun _ => hq⟩⟩) (fun post hq => m_place1 hj ⟨fun hh => absurd hh n01, fun _ => ⟨fun hh => absurd hh h0, fun _ => hq⟩⟩)
  · exact out (Or.inl hx) (Or.inl hx)
  · exact out (Or.inr h1) (Or.inr h2)
theorem Cp_spn (h : Cp_ cf a e k z) : Cp_ cf a e (k3_up k 308 0 0 1) (k3_up z 406 0 0 1) := by
  obtain ⟨g1, g2, g3, g4, g5, g6, g7, g8⟩ := h.1
  refine Cp_glob h (fun f n j hf => k3_ne (by omega)) (fun f n j h1 h2 => k3_ne (by omega)) ⟨fun i hi => ?_, fun i hi => ?_, fun i hi => ?_, ⟨?_, ?_⟩, ?_, ⟨?_, ?_⟩, ?_, fun q hq => Cq_keep (g8 q hq) (fun f j hf => k3_ne (by omega)) (k3_ne (by omega)) (fun i => k3_ne (by omega))⟩
  · rw [k3_ne (by omega), k3_ne (by omega)]; exact g1 i hi
  · rw [k3_ne (by omega), k3_ne (by omega)]; exact g2 i hi
  · rw [k3_ne (by omega), k3_ne (by omega)]; exact g3 i hi
  · rw [k3_ne (by omega)]; exact g4.1
  · rw [k3_ne (by omega)]; exact g4.2
  · rw [k3_ne (by omega), k3_ne (by omega)]; exact g5
  · rw [k3_ne (by omega)]; exact g6.1
  · rw [k3_ne (by omega)]; exact g6.2
  · rw [k3_same, k3_same]; exact ⟨rfl, Or.inr rfl⟩
theorem op_spawn (hb : Cb_ cf) (h : Cp_ cf a e k z) (ha : a < 2 ^ 31) (x y : Int32) : Bo_ cf 64 a e (fun post => q_X3_spawn cf post x y k) (fun post => q_X4_spawn cf post x y z) := by
  have h8 := hb.2.1
  have g7 := h.1.2.2.2.2.2.2.1
  have out : (x < 0 ∨ nI 64 ≤ x) → (x < 0 ∨ nI 63 < x) → Bo_ cf 64 a e (fun post => q_X3_spawn cf post x y k) (fun post => q_X4_spawn cf post x y z) := fun o1 o2 =>
    bo_q h (-2) (fun post hq => e_place0 o1 ⟨fun _ => hq, fun hh => absurd rfl hh⟩) (fun post hq => m_place0 o2 ⟨fun _ => hq, fun hh => absurd rfl hh⟩)
  rcases ix_3 x (n := 64) (by decide) (by decide) with ⟨j, hj, ex⟩ | hx | ⟨-, h1, h2, -⟩
  · subst ex
    by_cases y0 : y < 0
    · exact bo_q h (-2) (fun post hq => e_place1 hj ⟨fun hh => absurd hh n01, fun _ => ⟨fun _ => hq, fun hh => absurd y0 hh⟩⟩) (fun post hq => m_place1 hj ⟨fun hh => absurd hh n01, fun _ => ⟨fun _ => hq, fun hh => absurd y0 hh⟩⟩)
    · by_cases y7 : y ≤ 7
      · have hB := op_begin (P := fun r k' r' z' => r = r' ∧ ((r = -1 ∧ k' = k ∧ z' = z) ∨ ((∃ t : Nat, t < cf 0 ∧ r = nI t) ∧ Cp_ cf (a + 1) e k' z'))) hb h ha (show j ≤ 64 by omega) y (fun _ => ⟨rfl, Or.inl ⟨rfl, rfl, rfl⟩⟩) (fun t ht _ hc => ⟨rfl, Or.inr ⟨⟨t, ht, rfl⟩, hc⟩⟩)
        obtain ⟨r, k', hB2, w1⟩ := wt_X3_beginLeastFree hB
        obtain ⟨r', z', ⟨er, hB3⟩, w2⟩ := wt_X4_begin hB2
        subst er
        have X3 : ∀ post : Int32 → ka_T → Prop, ((r < 0 → (post r k')) ∧ (¬ r < 0 → (∀ k7 : ka_T, k7 = k3_up k' 308 0 0 (1 : Int32) → (post r k7)))) → q_X3_spawn cf post (nI j) y k := fun post hq => e_place1 hj ⟨fun hh => absurd hh n01, fun _ => ⟨fun hh => absurd hh y0, fun _ => ⟨fun _ => w1 _ hq, fun hh => absurd y7 hh⟩⟩⟩
        have X4 : ∀ post : Int32 → ka_T → Prop, ((¬ (z' 406 0 0) = 0 → (∀ k7 : ka_T, k7 = k3_up z' 406 0 0 (1 : Int32) → (post r k7))) ∧ ((z' 406 0 0) = 0 → ((r < 0 → (∀ k9 : ka_T, k9 = k3_up z' 406 0 0 (0 : Int32) → (post r k9))) ∧ (¬ r < 0 → (∀ k10 : ka_T, k10 = k3_up z' 406 0 0 (1 : Int32) → (post r k10)))))) → q_X4_spawn cf post (nI j) y z := fun post hq => m_place1 hj ⟨fun hh => absurd hh n01, fun _ => ⟨fun hh => absurd hh y0, fun _ => ⟨fun _ => w2 _ hq, fun hh => absurd y7 hh⟩⟩⟩
        rcases hB3 with ⟨r1, ek, ez⟩ | ⟨⟨t, ht, rt⟩, hc⟩
        · subst ek; subst ez
          have rn : r < 0 := by rw [r1]; decide
          have id0 : z' 406 0 0 = 0 → k3_up z' 406 0 0 0 = z' := fun hh => by
            have := k3_id z' 406 0 0
            rw [hh] at this
            exact this
          have id1 : ¬ z' 406 0 0 = 0 → k3_up z' 406 0 0 1 = z' := fun hh => by
            have := k3_id z' 406 0 0
            rcases g7.2 with g | g
            · exact absurd g hh
            · rw [g] at this
              exact this
          exact bo_q h r (fun post hq => X3 post ⟨fun _ => hq, fun hh => absurd rn hh⟩) (fun post hq => X4 post ⟨fun h0 k7 e7 => by rw [e7, id1 h0]; exact hq, fun h0 => ⟨fun _ k9 e9 => by rw [e9, id0 h0]; exact hq, fun hh => absurd rn hh⟩⟩)
        · have rn : ¬ r < 0 := by rw [rt]; exact nI_pos (by omega)
          exact ⟨r, _, _, ⟨a + 1, e, by omega, by omega, Nat.le_refl _, by omega, Cp_spn hc⟩, fun post hq => X3 post ⟨fun hh => absurd hh rn, fun _ k7 e7 => by rw [e7]; exact hq⟩, fun post hq => X4 post ⟨fun _ k7 e7 => by rw [e7]; exact hq, fun _ => ⟨fun hh => absurd hh rn, fun _ k7 e7 => by rw [e7]; exact hq⟩⟩⟩
      · exact bo_q h (-2) (fun post hq => e_place1 hj ⟨fun hh => absurd hh n01, fun _ => ⟨fun hh => absurd hh y0, fun _ => ⟨fun hh => absurd hh y7, fun _ => hq⟩⟩⟩) (fun post hq => m_place1 hj ⟨fun hh => absurd hh n01, fun _ => ⟨fun hh => absurd hh y0, fun _ => ⟨fun hh => absurd hh y7, fun _ => hq⟩⟩⟩)
  · exact out (Or.inl hx) (Or.inl hx)
  · exact out (Or.inr h1) (Or.inr h2)
/-- a call about a live task; M: what is asked of one -/
theorem bo_live (hb : Cb_ cf) (h : Cp_ cf a e k z) (x : Int32) {A B : Int32 → ka_T → (Int32 → ka_T → Prop) → Prop}
    (h0 : Bo_ cf 64 a e (A 0 k) (B 0 z)) (h1 : ∀ t, t < cf 0 → x = nI t → ¬ z 409 0 t = 0 → Bo_ cf 64 a e (A 1 k) (B 1 z)) : Bo_ cf 64 a e (fun post => q_X3_isLive cf (fun r k' => A r k' post) x k) (fun post => q_X4_isLive cf (fun r z' => B r z' post) x z) := by
  have out : (x < 0 ∨ nI (cf 0) ≤ x) → Bo_ cf 64 a e (fun post => q_X3_isLive cf (fun r k' => A r k' post) x k) (fun post => q_X4_isLive cf (fun r z' => B r z' post) x z) := fun o1 => by
    obtain ⟨r, k', z', f1, f2, f3⟩ := h0
    exact ⟨r, k', z', f1, fun post hq => e_liveO o1 (f2 post hq), fun post hq => m_liveO o1 (f3 post hq)⟩
  rcases ix_3 x (n := cf 0) (by have := hb.1; omega) (by have := hb.2.1; omega) with ⟨t, ht, ex⟩ | hx | ⟨-, hx, -⟩
  · subst ex
    obtain ⟨c1, -, c3, -⟩ := h.2.2 t ht
    by_cases hl : z 409 0 t = 0
    · obtain ⟨r, k', z', f1, f2, f3⟩ := h0
      exact ⟨r, k', z', f1, fun post hq => e_liveT hb ht (fun _ => f2 post hq) (fun hh => absurd (c1.trans hl) hh), fun post hq => m_liveT hb ht c3 (fun _ => f3 post hq) (fun hh => absurd hl hh)⟩
    · obtain ⟨r, k', z', f1, f2, f3⟩ := h1 t ht rfl hl
      exact ⟨r, k', z', f1, fun post hq => e_liveT hb ht (fun hh => absurd (c1.symm.trans hh) hl) (fun _ => f2 post hq), fun post hq => m_liveT hb ht c3 (fun hh => absurd hh hl) (fun _ => f3 post hq)⟩
  · exact out (Or.inl hx)
  · exact out (Or.inr hx)
theorem op_kill (hb : Cb_ cf) (h : Cp_ cf a e k z) (x : Int32) : Bo_ cf 64 a e (fun post => q_X3_kill cf post x k) (fun post => q_X4_kill cf post x z) := by
  have h8 := hb.2.1
  refine bo_live hb h x (A := fun r1 k1 post => (¬ r1 = 0 → (vp_in x (cf 0) ∧ (∀ t3 : Nat, t3 = x.toNatClampNeg → t3 < cf 0 → (q_X3_end cf (fun k4 => post (1 : Int32) k4) t3 (2 : Int32) k1)))) ∧ (r1 = 0 → (post (0 : Int32) k1))) (B := fun r1 k1 post => (¬ r1 = 0 → (q_X4_end cf (fun k3 => post (1 : Int32) k3) x (2 : Int32) k1)) ∧ (r1 = 0 → (post (0 : Int32) k1))) (bo_q h 0 (fun post hq => ⟨fun hh => absurd rfl hh, fun _ => hq⟩) (fun post hq => ⟨fun hh => absurd rfl hh, fun _ => hq⟩)) (fun t ht ex hl => ?_)
  subst ex
  refine ⟨1, _, _, ⟨a, e, Nat.le_refl _, by omega, Nat.le_refl _, by omega, cp_end (Cp_x h ht) 2⟩, fun post hq => ⟨fun _ => ⟨vp_in_nI ht (by omega), fun t3 e3 _ => ?_⟩, fun hh => absurd hh n01⟩, fun post hq => ⟨fun _ => m_end (by omega) hq, fun hh => absurd hh n01⟩⟩
  rw [nI_clamp (by omega)] at e3
  subst e3
  exact e_end hq
/-- a call about any task -/
theorem bo_task (hb : Cb_ cf) (h : Cp_ cf a e k z) (x : Int32) {Fk Fz : Nat → Int32} (hf : ∀ t, t < cf 0 → Fk t = Fz t) (r0 : Int32) : Bo_ cf 64 a e (fun post => q_X3_isTask cf (fun r1 k1 => (r1 = 0 → (post r0 k)) ∧ (¬ r1 = 0 → (vp_in x (cf 0) ∧ (∀ t3 : Nat, t3 = x.toNatClampNeg → t3 < cf 0 → (post (Fk t3) k))))) x k) (fun post => (x < 0 → (post r0 z)) ∧ (¬ x < 0 → ((x < (nI (cf 0)) → (vp_in x 8 ∧ (post (Fz x.toNatClampNeg) z))) ∧ (¬ x < (nI (cf 0)) → (post r0 z))))) := by
  have h8 := hb.2.1
  rcases ix_3 x (n := cf 0) (by have := hb.1; omega) (by omega) with ⟨t, ht, ex⟩ | hx | ⟨h1, h2, -, -, h5⟩
  · subst ex
    have cj : (nI t).toNatClampNeg = t := nI_clamp (by omega)
    refine bo_q h (Fz t) (fun post hq => ⟨fun hh => absurd hh (nI_pos (by omega)), fun _ => ⟨fun hh => absurd hh (nI_ge ht (by omega)), fun _ => ⟨fun hh => absurd hh n01, fun _ => ⟨vp_in_nI ht (by omega), fun t3 e3 _ => ?_⟩⟩⟩⟩) (fun post hq => ⟨fun hh => absurd hh (nI_pos (by omega)), fun _ => ⟨fun _ => ⟨vp_in_nI (by omega) (by omega), ?_⟩, fun hh => absurd (nI_lt ht (by omega)) hh⟩⟩)
    · rw [cj] at e3
      subst e3
      rw [hf t3 ht]
      exact hq
    · rw [cj]
      exact hq
  · exact bo_q h r0 (fun post hq => ⟨fun _ => ⟨fun _ => hq, fun hh => absurd rfl hh⟩, fun hh => absurd hx hh⟩) (fun post hq => ⟨fun _ => hq, fun hh => absurd hx hh⟩)
  · exact bo_q h r0 (fun post hq => ⟨fun hh => absurd hh h1, fun _ => ⟨fun _ => ⟨fun _ => hq, fun hh => absurd rfl hh⟩, fun hh => absurd h2 hh⟩⟩) (fun post hq => ⟨fun hh => absurd hh h1, fun _ => ⟨fun hh => absurd hh h5, fun _ => hq⟩⟩)
theorem op_state (hb : Cb_ cf) (h : Cp_ cf a e k z) (x : Int32) : Bo_ cf 64 a e (fun post => q_X3_state cf post x k) (fun post => q_X4_state cf post x z) := by
  obtain ⟨r, k', z', f1, f2, f3⟩ := bo_task hb h x (Fk := fun t => k 203 t 0) (Fz := fun t => z 409 0 t) (fun t ht => (h.2.2 t ht).1) (-1)
  refine ⟨r, k', z', f1, fun post hq => ?_, fun post hq => f3 post hq⟩
  exact f2 post hq
theorem op_why (hb : Cb_ cf) (h : Cp_ cf a e k z) (x : Int32) : Bo_ cf 64 a e (fun post => q_X3_why cf post x k) (fun post => q_X4_why cf post x z) := by
  obtain ⟨r, k', z', f1, f2, f3⟩ := bo_task hb h x (Fk := fun t => k 210 t 0) (Fz := fun t => z 420 0 t) (fun t ht => (h.2.2 t ht).2.1) (-1)
  refine ⟨r, k', z', f1, fun post hq => ?_, fun post hq => f3 post hq⟩
  exact f2 post hq
end OW
