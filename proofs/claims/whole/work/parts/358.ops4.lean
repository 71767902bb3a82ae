/-! jumps and frames; a task enters a state -/
section O4
variable {cf : Nat → Nat} {a e : Nat} {k z k' z' : ka_T} {s t c d p j : Nat} {v x o : Int32} {P : Int32 → ka_T → ka_T → Prop}
theorem cs_place (h : Cs_ cf a e k z s) (hp : p ≤ 64) : Cs_ cf a e (k3_up k 204 s 0 (nI p)) (k3_up z 411 0 s (nI p)) s := by
  obtain ⟨-, l2, -⟩ := cs_l h
  obtain ⟨c, c1, c2, c3, c4⟩ := cs_count h
  obtain ⟨f, f1, f2, f3, f4⟩ := cs_frames h
  refine cs_own h (fun f n i hn => k3_ne (fun hh => hn (by unfold KO_; omega))) (fun f n i hn => k3_ne (fun hh => hn (by unfold ZO_; omega))) ⟨by rw [k3_same, k3_same], p, hp, k3_same _ _ _ _ _⟩ (by rw [k3_ne (by omega), k3_ne (by omega)]; exact l2) ⟨c, c1, by rw [k3_ne (by omega)]; exact c2, by rw [k3_ne (by omega)]; exact c3, fun i hi => by rw [k3_ne (by omega), k3_ne (by omega)]; exact c4 i hi⟩ ⟨f, f1, by rw [k3_ne (by omega)]; exact f2, by rw [k3_ne (by omega)]; exact f3, fun i hi => ?_⟩
  rw [k3_ne (by omega), k3_ne (by omega)]
  exact f4 i hi
theorem op_jump (hb : Cb_ cf) (h : Cs_ cf a e k z s) (x : Int32) (hp : ∀ r k' z', Ro_ cf a e s r k' z' → P r k' z') : q_X3_jump cf (fun r k' => q_X4_jump cf (fun z' => P r k' z') x z) s x k := by
  have h8 := cs_8 hb h
  have hs := h.2.2.2.1
  have ht := h.2.2.2.2
  rcases ix_3 x (n := 64) (by decide) (by decide) with ⟨j, hj, rfl⟩ | hx | ⟨x1, x2, x3, x4, x5⟩
  · refine e_place1 hj ⟨fun _ k3 e3 => m_place1 hj ⟨fun _ => ⟨by rw [hs]; exact vp_in_nI h8 (by decide), fun k4 e4 => ?_⟩, fun hn => absurd hn (by decide)⟩, fun hn => absurd hn (by decide)⟩
    rw [hs, nI_clamp (by omega)] at e4
    rw [e3, e4]
    exact hp _ _ _ (ro_ok (cs_place h (by omega)))
  · exact e_place0 (Or.inl hx) ⟨fun hn => absurd rfl hn, fun _ => m_place0 (Or.inl hx) ⟨fun hn => absurd rfl hn, fun _ => m_fall0 ht (hp _ _ _ (ro_t h 2 (by decide) (Or.inl rfl) (Or.inl rfl)))⟩⟩
  · exact e_place0 (Or.inr x2) ⟨fun hn => absurd rfl hn, fun _ => m_place0 (Or.inr x3) ⟨fun hn => absurd rfl hn, fun _ => m_fall0 ht (hp _ _ _ (ro_t h 2 (by decide) (Or.inl rfl) (Or.inl rfl)))⟩⟩
theorem mo_jump {A B : Int32 → ka_T → Prop} (hm : ∀ r k, A r k → B r k) (h : q_X3_jump cf A s x k) : q_X3_jump cf B s x k :=
  have f : ∀ {r1 : Int32} {k1 : ka_T}, ((¬ r1 = 0 → (∀ k3 : ka_T, k3 = k3_up k1 204 s 0 x → A 0 k3)) ∧ (r1 = 0 → A 2 k1)) → ((¬ r1 = 0 → (∀ k3 : ka_T, k3 = k3_up k1 204 s 0 x → B 0 k3)) ∧ (r1 = 0 → B 2 k1)) := fun hq => ⟨fun h1 k3 e3 => hm _ _ (hq.1 h1 k3 e3), fun h1 => hm _ _ (hq.2 h1)⟩
  ⟨fun h1 => f (h.1 h1), fun h1 => ⟨fun h2 => f ((h.2 h1).1 h2), fun h2 => f ((h.2 h1).2 h2)⟩⟩
theorem op_11 (hb : Cb_ cf) (h : Cs_ cf a e k z s) (x : Int32) (hp : ∀ r k' z', Ro_ cf a e s r k' z' → P r k' z') : q_X3_jump cf (fun r k' => q_X4_jumpOp cf (fun z' => P r k' z') 11 x z) s x k :=
  mo_jump (fun _ _ hq => ⟨fun hn => absurd rfl hn, fun _ => hq⟩) (op_jump hb h x hp)
theorem op_12 (hb : Cb_ cf) (h : Cs_ cf a e k z s) (x : Int32) (hp : ∀ r k' z', Ro_ cf a e s r k' z' → P r k' z') : q_X3_jumpIfZero cf (fun r k' => q_X4_jumpOp cf (fun z' => P r k' z') 12 x z) s x k := by
  have key := op_one (P := P) hb h (K := fun r2 k2 B => (¬ r2 = 0 → B 0 k2) ∧ (r2 = 0 → q_X3_jump cf (fun r4 k4 => B r4 k4) s x k2)) (M := fun r16 k16 G => (¬ (k16 426 0 0) = 0 → G k16) ∧ ((k16 426 0 0) = 0 → ((¬ r16 = 0 → G k16) ∧ (r16 = 0 → q_X4_jump cf (fun k19 => G k19) x k16)))) hp
    (fun z1 G s1 t1 hG => ⟨fun _ => hG, fun hn => absurd hn (by rw [t1]; decide)⟩)
    (fun d y k2 z2 hd h2 kc zc c4 ek ez B hB => ⟨fun hy => hB _ _ ⟨fun hn => absurd h2.2.2.2.2 hn, fun _ => ⟨fun _ => hp _ _ _ (ro_ok h2), fun hn => absurd hn hy⟩⟩, fun hy => mo_jump (fun r k' hq => hB r k' ⟨fun hn => absurd h2.2.2.2.2 hn, fun _ => ⟨fun hn => absurd hy hn, fun _ => hq⟩⟩) (op_jump hb h2 x hp)⟩)
  have into : ∀ {G : ka_T → Prop}, q_X4_take cf (fun r16 k16 => (¬ (k16 426 0 0) = 0 → G k16) ∧ ((k16 426 0 0) = 0 → ((¬ r16 = 0 → G k16) ∧ (r16 = 0 → q_X4_jump cf (fun k19 => G k19) x k16)))) z → q_X4_jumpOp cf G 12 x z := fun hG => ⟨fun _ => ⟨fun hn => absurd rfl hn, fun _ => hG⟩, fun hn => absurd hn (by decide)⟩
  exact ⟨fun h1 => mo_pop (fun _ _ hq => ⟨fun h2 => into (hq.1 h2), fun h2 => mo_jump (fun _ _ hq => into hq) (hq.2 h2)⟩) (key.1 h1), fun h1 => into (key.2 h1)⟩
theorem op_13 (hb : Cb_ cf) (h : Cs_ cf a e k z s) (x : Int32) (hp : ∀ r k' z', Ro_ cf a e s r k' z' → P r k' z') : q_X3_callPlace cf (fun r k' => q_X4_jumpOp cf (fun z' => P r k' z') 13 x z) s x k := by
  have h8 := cs_8 hb h
  have hs := h.2.2.2.1
  have ht := h.2.2.2.2
  have e1 : (z 425 0 0).toNatClampNeg = s := by rw [hs, nI_clamp (by omega)]
  have v8 : vp_in (z 425 0 0) 8 := by rw [hs]; exact vp_in_nI h8 (by decide)
  obtain ⟨⟨l1, pa, l1a, l1b⟩, l2, -⟩ := cs_l h
  obtain ⟨c, c1, c2, c3, c4⟩ := cs_count h
  obtain ⟨f, f1, f2, f3, f4⟩ := cs_frames h
  rcases ix_3 x (n := 64) (by decide) (by decide) with ⟨j, hj, rfl⟩ | hx | ⟨x1, x2, x3, x4, x5⟩
  · refine e_place1 hj ⟨fun _ => ?_, fun hn => absurd hn (by decide)⟩
    by_cases hf : f < 4
    · refine e_push f2 (by rw [pl_o]; exact hf) (by rw [pl_o]; decide) ⟨fun _ k5 e5 => ⟨fun _ => ⟨fun _ => ⟨fun hn => absurd rfl hn, fun _ => ⟨v8, m_place1 hj ⟨fun _ => ⟨v8, ⟨fun _ => ⟨v8, ?_⟩, fun hn => ?_⟩⟩, fun hn => absurd hn (by decide)⟩⟩⟩, fun hn => absurd hn (by decide)⟩, fun hn => absurd hn (by decide)⟩, fun hn => absurd hn (by decide)⟩
      · rw [e1, f3, hs, show (4 : Int32) * nI s + nI f = nI (4 * s + f) by rw [show (4 : Int32) = nI 4 from rfl, pk_mul, nI_add], nI_clamp (show 4 * s + f < 2 ^ 31 by omega), show (4 * s + f) / 4 = s by omega, show (4 * s + f) % 4 = f by omega]
        refine ⟨vp_in_nI (by omega) (by decide), fun k11 e11 => ?_⟩
        have g1 : k11 425 0 0 = nI s := by rw [e11, k3_ne (by omega)]; exact hs
        have g2 : k11 414 0 s = nI f := by rw [e11, k3_ne (by omega)]; exact f3
        rw [g1, nI_clamp (show s < 2 ^ 31 by omega), g2, nI_1]
        refine ⟨vp_in_nI h8 (by decide), vp_in_nI h8 (by decide), fun k12 e12 => ?_⟩
        have g3 : k12 425 0 0 = nI s := by rw [e12, k3_ne (by omega)]; exact g1
        rw [g3, nI_clamp (show s < 2 ^ 31 by omega)]
        refine ⟨vp_in_nI h8 (by decide), fun k13 e13 => hp _ _ _ (ro_ok ?_)⟩
        rw [e5, e13, e12, e11, ← l1]
        refine cs_own h (fun f' n i hn => ?_) (fun f' n i hn => ?_) ⟨by rw [k3_same, k3_same], j, by omega, k3_same _ _ _ _ _⟩ ?_ ⟨c, c1, ?_, ?_, fun i hi => ?_⟩ ⟨f + 1, by omega, ?_, ?_, fun i hi => ?_⟩
        · rw [k3_ne (fun hh => hn (by unfold KO_; omega)), k3_ne (fun hh => hn (by unfold KO_; omega)), k3_ne (fun hh => hn (by unfold KO_; omega))]
        · rw [k3_ne (fun hh => hn (by unfold ZO_; omega)), k3_ne (fun hh => hn (by unfold ZO_; omega)), k3_ne (fun hh => hn (by unfold ZO_; omega))]
        · rw [k3_ne (by omega), k3_ne (by omega), k3_ne (by omega), k3_ne (by omega), k3_ne (by omega), k3_ne (by omega)]; exact l2
        · rw [k3_ne (by omega), k3_ne (by omega), k3_ne (by omega)]; exact c2
        · rw [k3_ne (by omega), k3_ne (by omega), k3_ne (by omega)]; exact c3
        · rw [k3_ne (by omega), k3_ne (by omega), k3_ne (by omega), k3_ne (by omega), k3_ne (by omega), k3_ne (by omega)]; exact c4 i hi
        · rw [k3_ne (by omega), k3_same]
        · rw [k3_ne (by omega), k3_same]
        · have q1 : k3_up (k3_up (k3_up k 100 (2 * s + 1) f (k 204 s 0)) 101 (2 * s + 1) 0 (nI (f + 1))) 204 s 0 (nI j) 100 (2 * s + 1) i = k3_up k 100 (2 * s + 1) f (k 204 s 0) 100 (2 * s + 1) i := by rw [k3_ne (by omega), k3_ne (by omega)]
          have q2 : k3_up (k3_up (k3_up z 415 s f (k 204 s 0)) 414 0 s (nI (f + 1))) 411 0 s (nI j) 415 s i = k3_up z 415 s f (k 204 s 0) 415 s i := by rw [k3_ne (by omega), k3_ne (by omega)]
          rw [q1, q2]
          by_cases ei : i = f
          · subst ei; rw [k3_same, k3_same]; exact ⟨rfl, pa, l1a, by rw [l1]; exact l1b⟩
          · rw [k3_ne (by omega), k3_ne (by omega)]; exact f4 i (by omega)
      · rw [e1, f3] at hn
        have := (nI_eq (show f < 2 ^ 31 by omega) (show 4 < 2 ^ 31 by decide)).mp hn
        omega
    · have hf4 : f = 4 := by omega
      rw [hf4] at f2 f3
      refine e_full (by rw [pl_o]; exact f2) ⟨fun hn => absurd rfl hn, fun _ => ⟨fun _ => ⟨fun _ => ⟨fun hn => absurd rfl hn, fun _ => ⟨v8, m_place1 hj ⟨fun _ => ⟨v8, ⟨fun hn => absurd (by rw [e1]; exact f3) hn, fun _ => m_fall0 ht (hp _ _ _ (ro_t h 5 (by decide) (Or.inl rfl) (Or.inl rfl)))⟩⟩, fun hn => absurd hn (by decide)⟩⟩⟩, fun hn => absurd hn (by decide)⟩, fun hn => absurd hn (by decide)⟩⟩
  · exact e_place0 (Or.inl hx) ⟨fun hn => absurd rfl hn, fun _ => ⟨fun _ => ⟨fun _ => ⟨fun hn => absurd rfl hn, fun _ => ⟨v8, m_place0 (Or.inl hx) ⟨fun hn => absurd rfl hn, fun _ => m_fall0 ht (hp _ _ _ (ro_t h 2 (by decide) (Or.inl rfl) (Or.inl rfl)))⟩⟩⟩, fun hn => absurd hn (by decide)⟩, fun hn => absurd hn (by decide)⟩⟩
  · exact e_place0 (Or.inr x2) ⟨fun hn => absurd rfl hn, fun _ => ⟨fun _ => ⟨fun _ => ⟨fun hn => absurd rfl hn, fun _ => ⟨v8, m_place0 (Or.inr x3) ⟨fun hn => absurd rfl hn, fun _ => m_fall0 ht (hp _ _ _ (ro_t h 2 (by decide) (Or.inl rfl) (Or.inl rfl)))⟩⟩⟩, fun hn => absurd hn (by decide)⟩, fun hn => absurd hn (by decide)⟩⟩
theorem op_14 (hb : Cb_ cf) (h : Cs_ cf a e k z s) (x : Int32) (hp : ∀ r k' z', Ro_ cf a e s r k' z' → P r k' z') : q_X3_goBack cf (fun r k' => q_X4_jumpOp cf (fun z' => P r k' z') 14 x z) s k := by
  have h8 := cs_8 hb h
  have hs := h.2.2.2.1
  have ht := h.2.2.2.2
  have e1 : (z 425 0 0).toNatClampNeg = s := by rw [hs, nI_clamp (by omega)]
  have v8 : vp_in (z 425 0 0) 8 := by rw [hs]; exact vp_in_nI h8 (by decide)
  obtain ⟨-, l2, -⟩ := cs_l h
  obtain ⟨c, c1, c2, c3, c4⟩ := cs_count h
  obtain ⟨f, f1, f2, f3, f4⟩ := cs_frames h
  unfold q_X3_goBack
  rw [f2]
  refine ⟨fun h1 => ?_, fun h1 => ?_⟩
  · have hf : 1 ≤ f := Nat.not_lt.mp fun hh => i1_n hh h1
    obtain ⟨d, rfl⟩ : ∃ d, f = d + 1 := ⟨f - 1, by omega⟩
    refine e_pop f2 (by rw [pl_o]; omega) (by rw [pl_o]; decide) (fun k3 e3 => ⟨fun _ => ⟨fun _ => ⟨fun _ => ⟨v8, fun _ => ⟨v8, v8, fun k5 e5 => ?_⟩, fun hn => ?_⟩, fun hn => absurd hn (by decide)⟩, fun hn => absurd hn (by decide)⟩, fun hn => absurd hn (by decide)⟩)
    · rw [e1, f3, nI_pred] at e5
      have g1 : k5 425 0 0 = nI s := by rw [e5, k3_ne (by omega)]; exact hs
      have g2 : k5 414 0 s = nI d := by rw [e5]; exact k3_same _ _ _ _ _
      rw [g1, nI_clamp (show s < 2 ^ 31 by omega), g2, show (4 : Int32) * nI s + nI d = nI (4 * s + d) by rw [show (4 : Int32) = nI 4 from rfl, pk_mul, nI_add], nI_clamp (show 4 * s + d < 2 ^ 31 by omega), show (4 * s + d) / 4 = s by omega, show (4 * s + d) % 4 = d by omega]
      refine ⟨vp_in_nI h8 (by decide), vp_in_nI (by omega) (by decide), vp_in_nI h8 (by decide), fun k6 e6 => hp _ _ _ (ro_ok ?_)⟩
      have g3 : k5 415 s d = k 100 (2 * s + 1) d := by rw [e5, k3_ne (by omega)]; exact ((f4 d (by omega)).1).symm
      obtain ⟨q1, pa, q2, q3⟩ := f4 d (by omega)
      rw [e3, e6, g3, e5]
      refine cs_own h (fun f' n i hn => ?_) (fun f' n i hn => ?_) ⟨by rw [k3_same, k3_same], pa, q2, by rw [k3_same, q1]; exact q3⟩ ?_ ⟨c, c1, ?_, ?_, fun i hi => ?_⟩ ⟨d, by omega, ?_, ?_, fun i hi => ?_⟩
      · rw [k3_ne (fun hh => hn (by unfold KO_; omega)), k3_ne (fun hh => hn (by unfold KO_; omega))]
      · rw [k3_ne (fun hh => hn (by unfold ZO_; omega)), k3_ne (fun hh => hn (by unfold ZO_; omega))]
      · rw [k3_ne (by omega), k3_ne (by omega), k3_ne (by omega), k3_ne (by omega)]; exact l2
      · rw [k3_ne (by omega), k3_ne (by omega)]; exact c2
      · rw [k3_ne (by omega), k3_ne (by omega)]; exact c3
      · rw [k3_ne (by omega), k3_ne (by omega), k3_ne (by omega), k3_ne (by omega)]; exact c4 i hi
      · rw [k3_ne (by omega), k3_same]
      · rw [k3_ne (by omega), k3_same]
      · rw [k3_ne (by omega), k3_ne (by omega), k3_ne (by omega), k3_ne (by omega)]; exact f4 i (by omega)
    · rw [e1, f3] at hn
      exact absurd hn (nI_ne0 (by omega) (by omega))
  · have hf : f = 0 := by have : ¬ 1 ≤ f := fun hh => h1 (i1_le hh (by omega)); omega
    rw [hf] at f3
    exact ⟨fun _ => ⟨fun _ => ⟨fun _ => ⟨v8, fun hn => absurd (by rw [e1]; exact f3) hn, fun _ => m_fall0 ht (hp _ _ _ (ro_t h 5 (by decide) (Or.inl rfl) (Or.inl rfl)))⟩, fun hn => absurd hn (by decide)⟩, fun hn => absurd hn (by decide)⟩, fun hn => absurd hn (by decide)⟩
theorem op_17 (hb : Cb_ cf) (h : Cs_ cf a e k z s) (x : Int32) (hp : ∀ r k' z', Ro_ cf a e s r k' z' → P r k' z') : q_X4_taskOp cf (fun z' => P 0 (k3_up k 205 s 0 (x &&& 7)) z') 17 x z := by
  have h8 := cs_8 hb h
  have hs := h.2.2.2.1
  have ht := h.2.2.2.2
  obtain ⟨⟨l1, l1b⟩, l2, -⟩ := cs_l h
  obtain ⟨c, c1, c2, c3, c4⟩ := cs_count h
  obtain ⟨f, f1, f2, f3, f4⟩ := cs_frames h
  refine ⟨fun _ => ⟨fun hn => absurd hn (by decide), fun _ => ⟨fun hn => absurd rfl hn, fun _ => ⟨fun _ => ⟨fun hn => absurd hn (by decide), fun hn => absurd hn (by decide), fun _ => ⟨by rw [hs]; exact vp_in_nI h8 (by decide), fun k10 e10 => hp _ _ _ (ro_ok ?_)⟩, fun hn => absurd hn (by decide), fun hn => absurd hn (by decide), fun _ _ hn => absurd rfl hn⟩, fun hn => absurd (i0_le ht) hn⟩⟩⟩, fun hn => absurd hn (by decide)⟩
  rw [hs, nI_clamp (by omega)] at e10
  rw [e10]
  refine cs_own h (fun f' n i hn => k3_ne (fun hh => hn (by unfold KO_; omega))) (fun f' n i hn => k3_ne (fun hh => hn (by unfold ZO_; omega))) ⟨by rw [k3_ne (by omega), k3_ne (by omega)]; exact l1, by rw [k3_ne (by omega)]; exact l1b⟩ (by rw [k3_same, k3_same]) ⟨c, c1, by rw [k3_ne (by omega)]; exact c2, by rw [k3_ne (by omega)]; exact c3, fun i hi => by rw [k3_ne (by omega), k3_ne (by omega)]; exact c4 i hi⟩ ⟨f, f1, by rw [k3_ne (by omega)]; exact f2, by rw [k3_ne (by omega)]; exact f3, fun i hi => ?_⟩
  rw [k3_ne (by omega), k3_ne (by omega)]
  exact f4 i hi
end O4
