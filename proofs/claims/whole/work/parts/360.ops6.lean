/-! a task begins; a task is killed -/
section O6
variable {cf : Nat → Nat} {a e : Nat} {k z k' z' : ka_T} {s t c d p j f n : Nat} {v x y o : Int32} {P : Int32 → ka_T → ka_T → Prop}
def bg_ (k : ka_T) (t : Nat) (x y : Int32) : ka_T := en_ (k3_up (k3_up (k3_up (k3_up k 204 t 0 x) 205 t 0 y) 101 (2 * t) 0 0) 101 (2 * t + 1) 0 0) t 1
def mb_ (z : ka_T) (t : Nat) (x y : Int32) : ka_T := se_ (k3_up (k3_up (k3_up (k3_up z 411 0 t x) 410 0 t y) 412 0 t 0) 414 0 t 0) t 1
theorem e_blN {post : Int32 → ka_T → Prop} (hb : Cb_ cf) (hp : post (-1) k) : ∀ d i, i + d = cf 0 → (∀ j, i ≤ j → j < cf 0 → ¬ k 203 j 0 = 0) → q_X3_beginLeastFree_2 cf post (d + 1) x y (nI i) k := by
  have h8 := hb.2.1
  intro d
  induction d with
  | zero =>
    intro i hi h
    exact ⟨fun _ => hp, fun hn => absurd (nI_le (by omega) (by omega)) hn⟩
  | succ d ih =>
    intro i hi h
    refine ⟨fun hn => absurd hn (nI_ge (by omega) (by omega)), fun _ => ⟨vp_in_nI (by omega) (by omega), fun t2 e2 ht2 => ⟨fun _ => ?_, fun h0 => ?_⟩⟩⟩
    · rw [nI_1]
      exact ih (i + 1) (by omega) (fun j h1 h2 => h j (by omega) h2)
    · rw [nI_clamp (by omega)] at e2
      exact absurd h0 (h t2 (by omega) ht2)
theorem e_blS {post : Int32 → ka_T → Prop} (hb : Cb_ cf) (ht : t < cf 0) (h0 : k 203 t 0 = 0) (hp : post (nI t) (bg_ k t x y)) : ∀ d i, i + d = t → (∀ j, i ≤ j → j < t → ¬ k 203 j 0 = 0) → q_X3_beginLeastFree_2 cf post (d + 1) x y (nI i) k := by
  have h8 := hb.2.1
  intro d
  induction d with
  | zero =>
    intro i hi h
    have hit : i = t := by omega
    subst hit
    have v : vp_in (nI i) (cf 0) := vp_in_nI ht (by omega)
    have ec : (nI i).toNatClampNeg = i := nI_clamp (by omega)
    refine ⟨fun hn => absurd hn (nI_ge ht (by omega)), fun _ => ⟨v, fun t2 e9 _ => ⟨fun hn => absurd (by rw [e9, ec]; exact h0) hn, fun _ => ⟨v, fun t4 e4 _ k1 e1 k2 e2 k3 e3 k4 e5 => ⟨v, fun t6 e6 _ => e_enter ?_⟩⟩⟩⟩⟩
    rw [ec] at e4 e6
    subst e4; subst e6
    rw [e5, e3, e2, e1]
    exact hp
  | succ d ih =>
    intro i hi h
    refine ⟨fun hn => absurd hn (nI_ge (by omega) (by omega)), fun _ => ⟨vp_in_nI (by omega) (by omega), fun t2 e2 ht2 => ⟨fun _ => ?_, fun h1 => ?_⟩⟩⟩
    · rw [nI_1]
      exact ih (i + 1) (by omega) (fun j h1 h2 => h j (by omega) h2)
    · rw [nI_clamp (by omega)] at e2
      exact absurd h1 (h t2 (by omega) (by omega))
theorem m_ftN {post : Int32 → ka_T → Prop} (hb : Cb_ cf) (hp : post (-1) z) : ∀ d i, i + d = cf 0 → (∀ j, i ≤ j → j < cf 0 → ¬ z 409 0 j = 0) → q_X4_freeTask_2 cf post (d + 1) (nI i) z := by
  have h8 := hb.2.1
  intro d
  induction d with
  | zero =>
    intro i hi h
    exact ⟨fun _ => hp, fun hn => absurd (nI_le (by omega) (by omega)) hn⟩
  | succ d ih =>
    intro i hi h
    refine ⟨fun hn => absurd hn (nI_ge (by omega) (by omega)), fun _ => ⟨vp_in_nI (by omega) (by omega), fun _ => ?_, fun h0 => ?_⟩⟩
    · rw [nI_1]
      exact ih (i + 1) (by omega) (fun j h1 h2 => h j (by omega) h2)
    · rw [nI_clamp (by omega)] at h0
      exact absurd h0 (h i (by omega) (by omega))
theorem m_ftS {post : Int32 → ka_T → Prop} (hb : Cb_ cf) (ht : t < cf 0) (h0 : z 409 0 t = 0) (hp : post (nI t) z) : ∀ d i, i + d = t → (∀ j, i ≤ j → j < t → ¬ z 409 0 j = 0) → q_X4_freeTask_2 cf post (d + 1) (nI i) z := by
  have h8 := hb.2.1
  intro d
  induction d with
  | zero =>
    intro i hi h
    have hit : i = t := by omega
    subst hit
    have ec : (nI i).toNatClampNeg = i := nI_clamp (by omega)
    exact ⟨fun hn => absurd hn (nI_ge ht (by omega)), fun _ => ⟨vp_in_nI (by omega) (by omega), fun hn => absurd (by rw [ec]; exact h0) hn, fun _ => hp⟩⟩
  | succ d ih =>
    intro i hi h
    refine ⟨fun hn => absurd hn (nI_ge (by omega) (by omega)), fun _ => ⟨vp_in_nI (by omega) (by omega), fun _ => ?_, fun h1 => ?_⟩⟩
    · rw [nI_1]
      exact ih (i + 1) (by omega) (fun j h1 h2 => h j (by omega) h2)
    · rw [nI_clamp (by omega)] at h1
      exact absurd h1 (h i (by omega) (by omega))
theorem m_bgS {post : Int32 → ka_T → Prop} (hb : Cb_ cf) (ht : t < cf 0) (h0 : z 409 0 t = 0) (hf : ∀ j, j < t → ¬ z 409 0 j = 0) (hp : post (nI t) (mb_ z t x y)) : q_X4_begin cf post x y z := by
  have h8 := hb.2.1
  have v : vp_in (nI t) 8 := vp_in_nI (by omega) (by omega)
  have ec : (nI t).toNatClampNeg = t := nI_clamp (by omega)
  refine ⟨t + 1, m_ftS hb ht h0 ⟨fun hn => absurd hn (nI_pos (by omega)), fun _ => ?_⟩ t 0 (by omega) (fun j _ hj => hf j hj)⟩
  rw [ec]
  refine ⟨v, fun k3 e3 => ⟨v, fun k4 e4 => ⟨v, fun k5 e5 => ⟨v, fun k6 e6 => m_set (by omega) ?_⟩⟩⟩⟩
  rw [e6, e5, e4, e3]
  exact hp
theorem m_bgN {post : Int32 → ka_T → Prop} (hb : Cb_ cf) (hf : ∀ j, j < cf 0 → ¬ z 409 0 j = 0) (hp : post (-1) z) : q_X4_begin cf post x y z :=
  ⟨cf 0 + 1, m_ftN hb ⟨fun _ => hp, fun hn => absurd (by decide) hn⟩ (cf 0) 0 (by omega) (fun j _ hj => hf j hj)⟩
theorem cp_begin (hb : Cb_ cf) (h : Cp_ cf a e k z) (ht : t < cf 0) (ha : a < 2 ^ 31) (hp : p ≤ 64) (y : Int32) : Cp_ cf (a + 1) e (bg_ k t (nI p) y) (mb_ z t (nI p) y) := by
  have g := h.1.2.2.2.2.2.1
  obtain ⟨t1, t2, t3, t4⟩ := h.2.2 t ht
  unfold bg_ mb_
  obtain ⟨k1, ek⟩ : ∃ k1, k1 = k3_up (k3_up (k3_up (k3_up k 204 t 0 (nI p)) 205 t 0 y) 101 (2 * t) 0 0) 101 (2 * t + 1) 0 0 := ⟨_, rfl⟩
  obtain ⟨z1, ez⟩ : ∃ z1, z1 = k3_up (k3_up (k3_up (k3_up z 411 0 t (nI p)) 410 0 t y) 412 0 t 0) 414 0 t 0 := ⟨_, rfl⟩
  rw [← ek, ← ez]
  have ko : ∀ f n j, ¬ ((f = 204 ∨ f = 205) ∧ n = t) → ¬ (f = 101 ∧ (n = 2 * t ∨ n = 2 * t + 1)) → k1 f n j = k f n j := fun f n j h1 h2 => by rw [ek, k3_ne (by omega), k3_ne (by omega), k3_ne (by omega), k3_ne (by omega)]
  have zo : ∀ f n j, ¬ ((f = 410 ∨ f = 411 ∨ f = 412 ∨ f = 414) ∧ n = 0 ∧ j = t) → z1 f n j = z f n j := fun f n j h1 => by rw [ez, k3_ne (by omega), k3_ne (by omega), k3_ne (by omega), k3_ne (by omega)]
  have k307 : k1 307 0 0 = nI a := by rw [ko _ _ _ (by omega) (by omega)]; exact g.1
  have z408 : z1 408 0 0 = nI a := by rw [zo _ _ _ (by omega)]; exact g.2
  have k204 : k1 204 t 0 = nI p := by rw [ek, k3_ne (by omega), k3_ne (by omega), k3_ne (by omega), k3_same]
  have k205 : k1 205 t 0 = y := by rw [ek, k3_ne (by omega), k3_ne (by omega), k3_same]
  have k101 : k1 101 (2 * t) 0 = 0 := by rw [ek, k3_ne (by omega), k3_same]
  have k101b : k1 101 (2 * t + 1) 0 = 0 := by rw [ek, k3_same]
  have z411 : z1 411 0 t = nI p := by rw [ez, k3_ne (by omega), k3_ne (by omega), k3_ne (by omega), k3_same]
  have z410 : z1 410 0 t = y := by rw [ez, k3_ne (by omega), k3_ne (by omega), k3_same]
  have z412 : z1 412 0 t = 0 := by rw [ez, k3_ne (by omega), k3_same]
  have z414 : z1 414 0 t = 0 := by rw [ez, k3_same]
  refine Cp_ent (Cp_x h ht) ha 1 (by decide) (fun f n j hn => ?_) (fun f n j hn => ?_) (by rw [en_307, k307, nI_1]) (by rw [se_408, z408, nI_1]) en_203 se_409 (by rw [se_419]; exact z408) (by rw [en_o (by omega) (by omega), ko _ _ _ (by omega) (by omega), se_o (by omega) (by omega), zo _ _ _ (by omega)]; exact t2) ?_
  · rw [en_o (fun hh => hn (by unfold KO_; omega)) (fun hh => hn (by unfold KO_; omega))]
    exact ko _ _ _ (fun hh => hn (by unfold KO_; omega)) (fun hh => hn (by unfold KO_; omega))
  · rw [se_o (fun hh => hn (by unfold ZO_; omega)) (fun hh => hn (by unfold ZO_; omega))]
    exact zo _ _ _ (fun hh => hn (by unfold ZO_; omega))
  · have s1 : ∀ m : Nat, m < 8 → (se_ z1 t 1 409 0 t = nI m ↔ 1 = m) := fun m hm => by rw [se_409]; exact nI_eq (a := 1) (by decide) (by omega)
    have s2 : ¬ 3 ≤ se_ z1 t 1 409 0 t := by rw [se_409]; decide
    refine ⟨⟨?_, p, hp, ?_⟩, ?_, ?_, ⟨0, by omega, ?_, ?_, fun j hj => absurd hj (by omega), fun h4 => absurd ((s1 4 (by decide)).mp h4) (by decide)⟩, ⟨0, by omega, ?_, ?_, fun j hj => absurd hj (by omega)⟩, fun h2 => absurd ((s1 2 (by decide)).mp h2) (by decide), fun _ => en_207, fun h3 => absurd h3 s2, fun _ => en_208, fun h3 => absurd ((s1 3 (by decide)).mp h3) (by decide)⟩
    · rw [en_o (by omega) (by omega), se_o (by omega) (by omega), k204, z411]
    · rw [se_o (by omega) (by omega), z411]
    · rw [en_o (by omega) (by omega), se_o (by omega) (by omega), k205, z410]
    · rw [en_206, se_419, k307, z408]
    · rw [en_o (by omega) (by omega), k101]; rfl
    · rw [se_o (by omega) (by omega), z412]; rfl
    · rw [en_o (by omega) (by omega), k101b]; rfl
    · rw [se_o (by omega) (by omega), z414]; rfl
theorem mb_o (h : ¬ (409 ≤ f ∧ f < 421 ∧ n = 0 ∧ j = t)) (h2 : ¬ f = 408) : mb_ z t x y f n j = z f n j := by
  unfold mb_
  rw [se_o (by omega) h2, k3_ne (by omega), k3_ne (by omega), k3_ne (by omega), k3_ne (by omega)]
/-- begin, side by side -/
theorem op_begin {P : Int32 → ka_T → Int32 → ka_T → Prop} (hb : Cb_ cf) (h : Cp_ cf a e k z) (ha : a < 2 ^ 31) (hp : p ≤ 64) (y : Int32) (hN : (∀ j, j < cf 0 → ¬ z 409 0 j = 0) → P (-1) k (-1) z) (hS : ∀ t, t < cf 0 → z 409 0 t = 0 → Cp_ cf (a + 1) e (bg_ k t (nI p) y) (mb_ z t (nI p) y) → P (nI t) (bg_ k t (nI p) y) (nI t) (mb_ z t (nI p) y)) : q_X3_beginLeastFree cf (fun r k' => q_X4_begin cf (fun r' z' => P r k' r' z') (nI p) y z) (nI p) y k := by
  have st : ∀ j, j < cf 0 → k 203 j 0 = z 409 0 j := fun j hj => (h.2.2 j hj).1
  cases hf : ff_n (fun t => decide (z 409 0 t = 0)) (cf 0) with
  | none =>
    have h0 : ∀ j, j < cf 0 → ¬ z 409 0 j = 0 := fun j hj => by simpa using ff_none hf j hj
    exact ⟨cf 0 + 1, e_blN (k := k) (post := fun r k' => q_X4_begin cf (fun r' z' => P r k' r' z') (nI p) y z) hb (m_bgN hb h0 (hN h0)) (cf 0) 0 (by omega) (fun j _ hj => by rw [st j hj]; exact h0 j hj)⟩
  | some t =>
    obtain ⟨h1, h2, h3⟩ := ff_some hf
    have h2 : z 409 0 t = 0 := by simpa using h2
    have h3 : ∀ j, j < t → ¬ z 409 0 j = 0 := fun j hj => by simpa using h3 j hj
    exact ⟨t + 1, e_blS (k := k) (post := fun r k' => q_X4_begin cf (fun r' z' => P r k' r' z') (nI p) y z) hb h1 (by rw [st t h1]; exact h2) (m_bgS hb h1 h2 h3 (hS t h1 h2 (cp_begin hb h h1 ha hp y))) t 0 (by omega) (fun j _ hj => by rw [st j (by omega)]; exact h3 j hj)⟩
theorem mo_blf {A B : Int32 → ka_T → Prop} (hm : ∀ r k, A r k → B r k) (h : q_X3_beginLeastFree cf A x y k) : q_X3_beginLeastFree cf B x y k := by
  obtain ⟨nf, h⟩ := h
  refine ⟨nf, ?_⟩
  have key : ∀ nf (i : Int32), q_X3_beginLeastFree_2 cf A nf x y i k → q_X3_beginLeastFree_2 cf B nf x y i k := by
    intro nf
    induction nf with
    | zero => intro i h; exact h
    | succ nf ih =>
      intro i h
      refine ⟨fun h1 => hm _ _ (h.1 h1), fun h1 => ⟨(h.2 h1).1, fun t2 e2 ht2 => ⟨fun h2 => ih _ (((h.2 h1).2 t2 e2 ht2).1 h2), fun h2 => ?_⟩⟩⟩
      obtain ⟨v, h3⟩ := ((h.2 h1).2 t2 e2 ht2).2 h2
      refine ⟨v, fun t4 e4 ht4 k1 e1 k2 e2 k3 e3 k4 e5 => ?_⟩
      obtain ⟨v2, h4⟩ := h3 t4 e4 ht4 k1 e1 k2 e2 k3 e3 k4 e5
      exact ⟨v2, fun t6 e6 ht6 k5 e5 k6 e6' k7 e7 k8 e8 k9 e9 => hm _ _ (h4 t6 e6 ht6 k5 e5 k6 e6' k7 e7 k8 e8 k9 e9)⟩
  exact key nf _ h
theorem op_18 (hb : Cb_ cf) (h : Cs_ cf a e k z s) (ha : a < 2 ^ 31) (x : Int32) (hp : ∀ r k' z', Ro_ cf a e s r k' z' → P r k' z') : q_X3_beginOther cf (fun r k' => q_X4_taskOp cf (fun z' => P r k' z') 18 x z) s x k := by
  have h8 := cs_8 hb h
  have h16 := hb.2.2.2.1
  have bad : (x < 0 ∨ nI 64 ≤ x) → (x < 0 ∨ nI 63 < x) → q_X3_beginOther cf (fun r k' => q_X4_taskOp cf (fun z' => P r k' z') 18 x z) s x k := fun h1 h2 => by
    refine e_place0 h1 ⟨fun hn => absurd rfl hn, fun _ => ⟨fun hn => absurd rfl hn, fun _ => m_place0 h2 ⟨fun hn => absurd rfl hn, fun _ => m_fall0 h.2.2.2.2 ⟨fun hn => absurd hn (by decide), fun _ => ⟨fun _ => ?_, fun hn => absurd hn (by decide)⟩⟩⟩⟩⟩
    have s1 : k3_up z 426 0 0 2 425 0 0 = nI s := by rw [k3_ne (by omega)]; exact h.2.2.2.1
    have t1 : ¬ k3_up z 426 0 0 2 426 0 0 ≤ 0 := by rw [k3_same]; decide
    exact m_takeT s1 h8 t1 ⟨fun hn => absurd hn t1, fun _ => hp _ _ _ (ro_t h 2 (by decide) (Or.inl rfl) (Or.inl rfl))⟩
  rcases ix_3 x (n := 64) (by decide) (by decide) with ⟨j, hj, rfl⟩ | hx | ⟨x1, x2, x3, x4, x5⟩
  · have into : ∀ {G : ka_T → Prop}, q_X4_take cf (fun r24 k24 => q_X4_taskOp_38 cf G 18 (nI j) r24 k24) z → q_X4_taskOp cf G 18 (nI j) z := fun hG => ⟨fun hn => absurd rfl hn, fun _ => m_place1 hj ⟨fun _ => ⟨fun hn => absurd hn (by decide), fun _ => ⟨fun _ => hG, fun hn => absurd hn (by decide)⟩⟩, fun hn => absurd hn (by decide)⟩⟩
    have key := op_one (P := P) hb h (K := fun r4 k4 B => q_X3_beginLeastFree cf (fun r5 k5 => q_X2_put cf (fun r6 k6 => B r6 k6) s r5 k5) (nI j) (r4 &&& 7) k4) (M := fun y0 k0 G => q_X4_taskOp_38 cf G 18 (nI j) y0 k0) hp (fun z1 G s1 t1 hG => m_tkT t1 hG)
      (fun d y k2 z2 hd h2 kc zc c4 ek ez B hB => by
        have dis : ∀ {G : ka_T → Prop}, q_X4_begin cf (fun r11 k11 => q_X4_put cf (fun k12 => G k12) r11 k11) (nI j) (y &&& 7) z2 → q_X4_taskOp_38 cf G 18 (nI j) y z2 := fun hG => ⟨fun _ => ⟨fun hn => absurd hn (by decide), fun hn => absurd hn (by decide), fun hn => absurd hn (by decide), fun _ => hG, fun hn => absurd hn (by decide), fun _ _ _ hn => absurd rfl hn⟩, fun hn => absurd (i0_le h2.2.2.2.2) hn⟩
        have room : d < cf 1 := by omega
        obtain hff := ff_n (fun t => decide (z2 409 0 t = 0)) (cf 0)
        have st : ∀ i, i < cf 0 → k2 203 i 0 = z2 409 0 i := fun i hi => (h2.1.2.2 i hi).1
        cases hf : ff_n (fun t => decide (z2 409 0 t = 0)) (cf 0) with
        | none =>
          have h0 : ∀ i, i < cf 0 → ¬ z2 409 0 i = 0 := fun i hi => by simpa using ff_none hf i hi
          refine ⟨cf 0 + 1, e_blN hb ?_ (cf 0) 0 (by omega) (fun i _ hi => by rw [st i hi]; exact h0 i hi)⟩
          exact mo_put (fun r k' hq => hB r k' (dis (m_bgN hb h0 hq))) (op_put hb h2 (-1) hp)
        | some t =>
          obtain ⟨g1, g2, g3⟩ := ff_some hf
          have g2 : z2 409 0 t = 0 := by simpa using g2
          have g3 : ∀ i, i < t → ¬ z2 409 0 i = 0 := fun i hi => by simpa using g3 i hi
          have hts : ¬ s = t := fun hh => by rw [← hh, h2.2.2.1] at g2; exact absurd g2 (by decide)
          have hc := cp_begin hb h2.1 g1 ha (show j ≤ 64 by omega) (y &&& 7)
          have hcs : Cs_ cf (a + 1) e (bg_ k2 t (nI j) (y &&& 7)) (mb_ z2 t (nI j) (y &&& 7)) s := ⟨hc, h2.2.1, by rw [mb_o (by omega) (by omega)]; exact h2.2.2.1, by rw [mb_o (by omega) (by omega)]; exact h2.2.2.2.1, by rw [mb_o (by omega) (by omega)]; exact h2.2.2.2.2⟩
          refine ⟨t + 1, e_blS hb g1 (by rw [st t g1]; exact g2) ?_ t 0 (by omega) (fun i _ hi => by rw [st i (by omega)]; exact g3 i hi)⟩
          obtain ⟨c, c1, c2, c3, c5⟩ := cs_count hcs
          have c6 : c = d := by
            rw [mb_o (by omega) (by omega), zc] at c3
            exact ((nI_eq (by omega) (by omega)).mp c3).symm
          subst c6
          refine e_put c2 room h16 (hB _ _ (dis (m_bgS hb g1 g2 g3 (m_put hcs.2.2.2.1 h8 hcs.2.2.2.2 c3 room h16 (hp _ _ _ ?_)))))
          have h9 := cs_push hcs room c5 (nI t)
          exact ro_cp (a' := a + 1) (e' := e) h9.2.2.2.1 h9.2.2.2.2 (by omega) (by omega) h9.1)
    refine e_place1 hj ⟨fun _ => ⟨fun h1 => mo_pop (fun _ _ hq => mo_blf (fun _ _ hq => mo_put (fun _ _ hq => into hq) hq) hq) (key.1 h1), fun h1 => into (key.2 h1)⟩, fun hn => absurd hn (by decide)⟩
  · exact bad (Or.inl hx) (Or.inl hx)
  · exact bad (Or.inr x2) (Or.inr x3)
end O6
