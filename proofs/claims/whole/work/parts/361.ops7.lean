/-! kill; who waits first -/
section O7
variable {cf : Nat → Nat} {a e : Nat} {k z k' z' : ka_T} {s t c d p j f n : Nat} {v x y o q : Int32} {P : Int32 → ka_T → ka_T → Prop}
theorem e_liveT {post : Int32 → ka_T → Prop} (hb : Cb_ cf) (ht : t < cf 0) (h0 : k 203 t 0 = 0 → post 0 k) (h1 : ¬ k 203 t 0 = 0 → post 1 k) : q_X3_isLive cf post (nI t) k := by
  have h8 := hb.2.1
  refine ⟨fun hn => absurd hn (nI_pos (by omega)), fun _ => ⟨fun hn => absurd hn (nI_ge ht (by omega)), fun _ => ⟨fun hn => absurd hn (by decide), fun _ => ⟨vp_in_nI ht (by omega), fun t3 e3 _ => ?_⟩⟩⟩⟩
  rw [nI_clamp (by omega)] at e3
  subst e3
  exact ⟨h0, h1⟩
theorem e_liveO {post : Int32 → ka_T → Prop} (hv : v < 0 ∨ nI (cf 0) ≤ v) (h : post 0 k) : q_X3_isLive cf post v k :=
  have g : ((0 : Int32) = 0 → post 0 k) ∧ (¬ (0 : Int32) = 0 → (vp_in v (cf 0) ∧ (∀ t3 : Nat, t3 = v.toNatClampNeg → t3 < cf 0 → (((k 203 t3 0) = 0 → post 0 k) ∧ (¬ (k 203 t3 0) = 0 → post 1 k))))) := ⟨fun _ => h, fun hn => absurd rfl hn⟩
  ⟨fun _ => g, fun h0 => ⟨fun _ => g, fun hn => by rcases hv with hv | hv; exact absurd hv h0; exact absurd hv hn⟩⟩
theorem m_liveT {post : Int32 → ka_T → Prop} (hb : Cb_ cf) (ht : t < cf 0) (hi : ∃ i : Nat, i ≤ 4 ∧ z 409 0 t = nI i) (h0 : z 409 0 t = 0 → post 0 z) (h1 : ¬ z 409 0 t = 0 → post 1 z) : q_X4_isLive cf post (nI t) z := by
  have h8 := hb.2.1
  obtain ⟨i, hi, ei⟩ := hi
  refine ⟨fun hn => absurd hn (nI_pos (by omega)), fun _ => ⟨fun hn => absurd hn (nI_ge ht (by omega)), fun _ => ⟨vp_in_nI (by omega) (by omega), ?_⟩⟩⟩
  rw [nI_clamp (by omega)]
  refine ⟨fun hl => h0 ?_, fun hl => h1 (fun hh => hl (by rw [hh]; decide))⟩
  rw [ei] at hl ⊢
  have : i = 0 := by
    by_cases h9 : i = 0
    · exact h9
    · exact absurd hl (nI_nle (by omega) (by omega))
  rw [this]; rfl
theorem m_liveO {post : Int32 → ka_T → Prop} (hv : v < 0 ∨ nI (cf 0) ≤ v) (h : post 0 z) : q_X4_isLive cf post v z :=
  ⟨fun _ => h, fun h0 => ⟨fun _ => h, fun hn => by rcases hv with hv | hv; exact absurd hv h0; exact absurd hv hn⟩⟩
theorem m_220 {post : ka_T → Prop} (hs : z 425 0 0 = nI s) (h8 : s < 8) (hl : ¬ z 409 0 s ≤ 0) (h : (x = 0 → q_X4_put cf post 0 z) ∧ (¬ x = 0 → q_X4_put cf post 1 z)) : q_X4_taskOp_220 cf post x z := by
  unfold q_X4_taskOp_220
  rw [hs, nI_clamp (by omega)]
  exact ⟨vp_in_nI h8 (by decide), fun hn => absurd hn hl, fun _ => h⟩
theorem m_220e {post : ka_T → Prop} (hs : z 425 0 0 = nI s) (h8 : s < 8) (hl : z 409 0 s ≤ 0) (h : post z) : q_X4_taskOp_220 cf post x z := by
  unfold q_X4_taskOp_220
  rw [hs, nI_clamp (by omega)]
  exact ⟨vp_in_nI h8 (by decide), fun _ => h, fun hn => absurd hl hn⟩
theorem mo_live {A B : Int32 → ka_T → Prop} (hm : ∀ r k, A r k → B r k) (h : q_X3_isLive cf A x k) : q_X3_isLive cf B x k := by
  have g : ∀ {r1 : Int32} {k1 : ka_T}, ((r1 = 0 → A 0 k1) ∧ (¬ r1 = 0 → (vp_in x (cf 0) ∧ (∀ t3 : Nat, t3 = x.toNatClampNeg → t3 < cf 0 → (((k1 203 t3 0) = 0 → A 0 k1) ∧ (¬ (k1 203 t3 0) = 0 → A 1 k1)))))) → ((r1 = 0 → B 0 k1) ∧ (¬ r1 = 0 → (vp_in x (cf 0) ∧ (∀ t3 : Nat, t3 = x.toNatClampNeg → t3 < cf 0 → (((k1 203 t3 0) = 0 → B 0 k1) ∧ (¬ (k1 203 t3 0) = 0 → B 1 k1)))))) := fun hq => ⟨fun h1 => hm _ _ (hq.1 h1), fun h1 => ⟨(hq.2 h1).1, fun t3 e3 h3 => ⟨fun h4 => hm _ _ (((hq.2 h1).2 t3 e3 h3).1 h4), fun h4 => hm _ _ (((hq.2 h1).2 t3 e3 h3).2 h4)⟩⟩⟩
  exact ⟨fun h1 => g (h.1 h1), fun h1 => ⟨fun h2 => g ((h.2 h1).1 h2), fun h2 => g ((h.2 h1).2 h2)⟩⟩
theorem op_25 (hb : Cb_ cf) (h : Cs_ cf a e k z s) (x : Int32) (hp : ∀ r k' z', Ro_ cf a e s r k' z' → P r k' z') : q_X3_killOther cf (fun r k' => q_X4_taskOp cf (fun z' => P r k' z') 25 x z) s k := by
  have h8 := cs_8 hb h
  have h08 := hb.2.1
  have h16 := hb.2.2.2.1
  have key := op_one (P := P) hb h (K := fun r2 k2 B => q_X3_isLive cf (fun r3 k3 => (¬ r3 = 0 → (vp_in r2 (cf 0) ∧ (∀ t5 : Nat, t5 = r2.toNatClampNeg → t5 < cf 0 → (q_X3_end cf (fun k6 => (¬ r2 = (nI s) → (q_X2_put cf (fun r8 k8 => B r8 k8) s 1 k6)) ∧ (r2 = (nI s) → B 0 k6)) t5 2 k3)))) ∧ (r3 = 0 → (q_X2_put cf (fun r9 k9 => B r9 k9) s 0 k3))) r2 k2) (M := fun y0 k0 G => q_X4_taskOp_38 cf G 25 x y0 k0) hp (fun z1 G s1 t1 hG => m_tkT t1 hG)
    (fun d y k2 z2 hd h2 kc zc c4 ek ez B hB => by
      have dis : ∀ {G : ka_T → Prop}, q_X4_isLive cf (fun r19 k19 => (r19 = 0 → (q_X4_taskOp_220 cf G r19 k19)) ∧ (¬ r19 = 0 → (q_X4_end cf (fun k21 => q_X4_taskOp_220 cf G r19 k21) y 2 k19))) y z2 → q_X4_taskOp_38 cf G 25 x y z2 := fun hG => ⟨fun _ => ⟨fun hn => absurd hn (by decide), fun hn => absurd hn (by decide), fun hn => absurd hn (by decide), fun hn => absurd hn (by decide), fun hn => absurd hn (by decide), fun _ _ _ _ _ => hG⟩, fun hn => absurd (i0_le h2.2.2.2.2) hn⟩
      have ls : ¬ z2 409 0 s ≤ 0 := by rw [h2.2.2.1]; decide
      have out : (y < 0 ∨ nI (cf 0) ≤ y) → q_X3_isLive cf (fun r3 k3 => (¬ r3 = 0 → (vp_in y (cf 0) ∧ (∀ t5 : Nat, t5 = y.toNatClampNeg → t5 < cf 0 → (q_X3_end cf (fun k6 => (¬ y = (nI s) → (q_X2_put cf (fun r8 k8 => B r8 k8) s 1 k6)) ∧ (y = (nI s) → B 0 k6)) t5 2 k3)))) ∧ (r3 = 0 → (q_X2_put cf (fun r9 k9 => B r9 k9) s 0 k3))) y k2 := fun hv =>
        e_liveO hv ⟨fun hn => absurd rfl hn, fun _ => mo_put (fun r k' hq => hB r k' (dis (m_liveO hv ⟨fun _ => m_220 h2.2.2.2.1 h8 ls ⟨fun _ => hq, fun hn => absurd rfl hn⟩, fun hn => absurd rfl hn⟩))) (op_put hb h2 0 hp)⟩
      rcases ix_3 y (n := cf 0) (by have := hb.1; omega) (by omega) with ⟨t, ht, rfl⟩ | hx | ⟨x1, x2, x3, x4, x5⟩
      · obtain ⟨t1, t2, t3, t4⟩ := h2.1.2.2 t ht
        refine e_liveT hb ht (fun h0 => ⟨fun hn => absurd rfl hn, fun _ => ?_⟩) (fun h1 => ⟨fun _ => ⟨vp_in_nI ht (by omega), fun t5 e5 _ => ?_⟩, fun hn => absurd hn (by decide)⟩)
        · rw [t1] at h0
          exact mo_put (fun r k' hq => hB r k' (dis (m_liveT hb ht t3 (fun _ => ⟨fun _ => m_220 h2.2.2.2.1 h8 ls ⟨fun _ => hq, fun hn => absurd rfl hn⟩, fun hn => absurd rfl hn⟩) (fun hn => absurd h0 hn)))) (op_put hb h2 0 hp)
        · rw [nI_clamp (by omega)] at e5
          subst e5
          rw [t1] at h1
          have hc := cp_end (Cp_x h2.1 ht) 2
          refine e_end ⟨fun hne => ?_, fun heq => ?_⟩
          · have hts : ¬ s = t5 := fun hh => hne (by rw [hh])
            have hcs : Cs_ cf a e (k3_up (k3_up k2 203 t5 0 0) 210 t5 0 2) (k3_up (k3_up z2 409 0 t5 0) 420 0 t5 2) s := ⟨hc, h2.2.1, by rw [k3_ne (by omega), k3_ne (by omega)]; exact h2.2.2.1, by rw [k3_ne (by omega), k3_ne (by omega)]; exact h2.2.2.2.1, by rw [k3_ne (by omega), k3_ne (by omega)]; exact h2.2.2.2.2⟩
            refine mo_put (fun r k' hq => hB r k' (dis (m_liveT hb ht t3 (fun h0 => absurd h0 h1) (fun _ => ⟨fun hn => absurd hn (by decide), fun _ => m_end (by omega) (m_220 hcs.2.2.2.1 h8 (by rw [hcs.2.2.1]; decide) ⟨fun hn => absurd hn (by decide), fun _ => hq⟩)⟩)))) (op_put hb hcs 1 hp)
          · have hts : t5 = s := (nI_eq (by omega) (by omega)).mp heq
            subst hts
            refine hB _ _ (dis (m_liveT hb ht t3 (fun h0 => absurd h0 h1) (fun _ => ⟨fun hn => absurd hn (by decide), fun _ => m_end (by omega) (m_220e (s := t5) ?_ h8 ?_ (hp _ _ _ (ro_cp (a' := a) (e' := e) ?_ ?_ (by omega) (by omega) hc)))⟩)))
            · rw [k3_ne (by omega), k3_ne (by omega)]; exact h2.2.2.2.1
            · rw [k3_ne (by omega), k3_same]; decide
            · rw [k3_ne (by omega), k3_ne (by omega)]; exact h2.2.2.2.1
            · rw [k3_ne (by omega), k3_ne (by omega)]; exact h2.2.2.2.2
      · exact out (Or.inl hx)
      · exact out (Or.inr x2))
  have into : ∀ {G : ka_T → Prop}, q_X4_take cf (fun b k9 => q_X4_taskOp_38 cf G 25 x b k9) z → q_X4_taskOp cf G 25 x z := fun hG => m_tk1 (Or.inr (Or.inr rfl)) hG
  refine ⟨fun h1 => mo_pop (fun _ _ hq => mo_live (fun _ _ hq => ⟨fun h2 => ⟨(hq.1 h2).1, fun t5 e5 h5 k1 e1 k2 e2 => ?_⟩, fun h2 => mo_put (fun _ _ hq => into hq) (hq.2 h2)⟩) hq) (key.1 h1), fun h1 => into (key.2 h1)⟩
  exact ⟨fun h3 => mo_put (fun _ _ hq => into hq) (((hq.1 h2).2 t5 e5 h5 k1 e1 k2 e2).1 h3), fun h3 => into (((hq.1 h2).2 t5 e5 h5 k1 e1 k2 e2).2 h3)⟩
/-- counting -/
def cb_n (R : Nat → Bool) : Nat → Nat
  | 0 => 0
  | n + 1 => if R n = true then cb_n R n + 1 else cb_n R n
theorem cb_ct {R P : Nat → Bool} {g : Nat → Nat} {x : Nat} : ∀ n, (∀ u, u < n → (R u = true ↔ P u = true ∧ g u < x)) → cb_n R n = ct_n P g x n := by
  intro n
  induction n with
  | zero => intro _; rfl
  | succ n ih =>
    intro h
    have h1 := ih (fun u hu => h u (by omega))
    have h2 := h n (by omega)
    unfold cb_n ct_n
    by_cases h3 : R n = true
    · rw [if_pos h3, if_pos (h2.mp h3), h1]
    · rw [if_neg h3, if_neg (fun hh => h3 (h2.mpr hh)), h1]
theorem cb_le (R : Nat → Bool) : ∀ n, cb_n R n ≤ n := by
  intro n
  induction n with
  | zero => exact Nat.le_refl _
  | succ n ih => unfold cb_n; split <;> omega
/-- who is in the state, at the queue -/
def iw_ (z : ka_T) (v q : Int32) (u : Nat) : Prop := z 409 0 u = v ∧ (q < 0 ∨ z 417 0 u = q)
def ib_ (z : ka_T) (v q : Int32) (t u : Nat) : Prop := iw_ z v q u ∧ ¬ z 419 0 t ≤ z 419 0 u
theorem m_inn {kh : Int32 → Int32 → Int32 → Int32 → ka_T → Prop} {post : Int32 → ka_T → Prop} (hb : Cb_ cf) (ht : t < cf 0) {B : Nat → Bool} (hB : ∀ u, u < cf 0 → (B u = true ↔ ib_ z v q t u))
    (hy : iw_ z v q t → nI (cb_n B (cf 0)) = y → post (nI t) z) (hn : ¬ (iw_ z v q t ∧ nI (cb_n B (cf 0)) = y) → kh v q y (nI t + 1) z) :
    ∀ d i, i + d = cf 0 → q_X4_inState_18 cf kh post (d + 1) v q y (nI t) (nI (cb_n B i)) (nI i) z := by
  have h8 := hb.2.1
  have ct : (nI t).toNatClampNeg = t := nI_clamp (by omega)
  have vt : vp_in (nI t) 8 := vp_in_nI (by omega) (by omega)
  intro d
  induction d with
  | zero =>
    intro i hi
    have : i = cf 0 := by omega
    subst this
    refine ⟨fun _ => ⟨vt, ?_⟩, fun hh => absurd (nI_le (Nat.le_refl _) (by omega)) hh⟩
    rw [ct]
    refine ⟨fun h1 => hn (fun hh => h1 hh.1.1), fun h1 => ⟨fun h2 => ⟨fun h3 => hn (fun hh => h3 hh.2), fun h3 => hy ⟨h1, Or.inl h2⟩ h3⟩, fun h2 => ⟨vt, fun h3 => hn (fun hh => ?_), fun h3 => ⟨fun h4 => hn (fun hh => h4 hh.2), fun h4 => hy ⟨h1, Or.inr h3⟩ h4⟩⟩⟩⟩
    rcases hh.1.2 with h5 | h5
    · exact h2 h5
    · exact h3 h5
  | succ d ih =>
    intro i hi
    have ci : (nI i).toNatClampNeg = i := nI_clamp (by omega)
    have vi : vp_in (nI i) 8 := vp_in_nI (by omega) (by omega)
    have nxt := ih (i + 1) (by omega)
    have no : ¬ ib_ z v q t i → q_X4_inState_75 cf (q_X4_inState_18 cf kh post (d + 1)) post v q y (nI t) (nI (cb_n B i)) (nI i) 0 z := fun hh => by
      have hb0 : ¬ B i = true := fun h9 => hh ((hB i (by omega)).mp h9)
      have e1 : cb_n B (i + 1) = cb_n B i := if_neg hb0
      rw [e1, ← nI_1] at nxt
      exact ⟨fun _ => nxt, fun h9 => absurd rfl h9⟩
    have yes : ib_ z v q t i → q_X4_inState_75 cf (q_X4_inState_18 cf kh post (d + 1)) post v q y (nI t) (nI (cb_n B i)) (nI i) 1 z := fun hh => by
      have e1 : cb_n B (i + 1) = cb_n B i + 1 := if_pos ((hB i (by omega)).mpr hh)
      rw [e1, ← nI_1, ← nI_1] at nxt
      exact ⟨fun h9 => absurd h9 (by decide), fun _ => nxt⟩
    have f53 : iw_ z v q i → q_X4_inState_53 cf (q_X4_inState_18 cf kh post (d + 1)) post v q y (nI t) (nI (cb_n B i)) (nI i) z := fun hh => by
      unfold q_X4_inState_53
      rw [ci, ct]
      exact ⟨vi, vt, fun h1 => no (fun h9 => h9.2 h1), fun h1 => yes ⟨hh, h1⟩⟩
    refine ⟨fun hh => absurd hh (nI_ge (by omega) (by omega)), fun _ => ⟨vi, ?_⟩⟩
    rw [ci]
    refine ⟨fun h1 => no (fun hh => h1 hh.1.1), fun h1 => ⟨fun h2 => f53 ⟨h1, Or.inl h2⟩, fun h2 => ⟨vi, fun h3 => no (fun hh => ?_), fun h3 => f53 ⟨h1, Or.inr h3⟩⟩⟩⟩
    rcases hh.1.2 with h5 | h5
    · exact h2 h5
    · exact h3 h5
theorem m_inState {post : Int32 → ka_T → Prop} (hb : Cb_ cf) {B : Nat → Nat → Bool} (hB : ∀ t u, t < cf 0 → u < cf 0 → (B t u = true ↔ ib_ z v q t u)) {R : Nat → Bool} (hR : ∀ t, t < cf 0 → (R t = true ↔ iw_ z v q t ∧ nI (cb_n (B t) (cf 0)) = y)) (hN : ff_n R (cf 0) = none → post (-1) z) (hS : ∀ t, ff_n R (cf 0) = some t → post (nI t) z) : q_X4_inState cf post v q y z := by
  have h8 := hb.2.1
  have key : ∀ d i, i + d = cf 0 → (∀ j, j < i → R j = false) → q_X4_inState_3 cf post (d + 1) v q y (nI i) z := by
    intro d
    induction d with
    | zero =>
      intro i hi hf
      exact ⟨fun _ => hN (ff_no (fun j hj => hf j (by omega))), fun hh => absurd (nI_le (by omega) (by omega)) hh⟩
    | succ d ih =>
      intro i hi hf
      refine ⟨fun hh => absurd hh (nI_ge (by omega) (by omega)), fun _ => ⟨cf 0 + 1, ?_⟩⟩
      refine m_inn (t := i) (B := B i) hb (by omega) (fun u hu => hB i u (by omega) hu) (fun h1 h2 => hS i (ff_is (by omega) ((hR i (by omega)).mpr ⟨h1, h2⟩) hf)) (fun h1 => ?_) (cf 0) 0 (by omega)
      rw [nI_1]
      refine ih (i + 1) (by omega) (fun j hj => ?_)
      by_cases ej : j = i
      · subst ej
        cases h9 : R j with
        | false => rfl
        | true => exact absurd ((hR j (by omega)).mp h9) h1
      · exact hf j (by omega)
  exact ⟨cf 0 + 1, key (cf 0) 0 (by omega) (fun j hj => absurd hj (by omega))⟩
/-- the class's: the least ticket among those that wait -/
theorem e_first {post : Option Nat → ka_T → Prop} (hb : Cb_ cf) {Q : Nat → Bool} {g : Nat → Nat} (hQ : ∀ u, u < cf 0 → (Q u = true ↔ k 203 u 0 = v ∧ k 208 u 0 = q)) (hg : ∀ u, u < cf 0 → Q u = true → k 206 u 0 = nI (g u) ∧ g u < 2 ^ 31) (hp : post (fm_n Q g (cf 0)) k) : q_X3_firstWaiting cf post v q k := by
  have h8 := hb.2.1
  have key : ∀ d i, i + d = cf 0 → q_X3_firstWaiting_5 cf post (d + 1) v q (fm_n Q g i) (nI i) k := by
    intro d
    induction d with
    | zero =>
      intro i hi
      have : i = cf 0 := by omega
      subst this
      refine ⟨fun h0 => ⟨fun _ => by rw [← h0]; exact hp, fun hh => absurd (nI_le (Nat.le_refl _) (by omega)) hh⟩, fun n3 h0 _ => ⟨fun _ => by rw [← h0]; exact hp, fun hh => absurd (nI_le (Nat.le_refl _) (by omega)) hh⟩⟩
    | succ d ih =>
      intro i hi
      have ci : (nI i).toNatClampNeg = i := nI_clamp (by omega)
      have vi : vp_in (nI i) (cf 0) := vp_in_nI (by omega) (by omega)
      have nxt := ih (i + 1) (by omega)
      refine ⟨fun h0 => ⟨fun hh => absurd hh (nI_ge (by omega) (by omega)), fun _ => ⟨vi, fun t2 e2 _ => ?_⟩⟩, fun n3 h0 hn3 => ⟨fun hh => absurd hh (nI_ge (by omega) (by omega)), fun _ => ⟨vi, fun t6 e6 _ => ?_⟩⟩⟩
      · rw [ci] at e2
        subst e2
        have no : ¬ (k 203 t2 0 = v ∧ k 208 t2 0 = q) → q_X3_firstWaiting_5 cf post (d + 1) v q none (nI t2 + 1) k := fun hh => by
          have e1 : fm_n Q g (t2 + 1) = none := by
            show (match fm_n Q g t2 with | none => if Q t2 = true then some t2 else none | some b => if Q t2 = true ∧ g t2 < g b then some t2 else some b) = none
            rw [h0]
            exact if_neg (fun h9 => hh ((hQ t2 (by omega)).mp h9))
          rw [e1, ← nI_1] at nxt
          exact nxt
        have yes : (k 203 t2 0 = v ∧ k 208 t2 0 = q) → q_X3_firstWaiting_5 cf post (d + 1) v q (some t2) (nI t2 + 1) k := fun hh => by
          have e1 : fm_n Q g (t2 + 1) = some t2 := by
            show (match fm_n Q g t2 with | none => if Q t2 = true then some t2 else none | some b => if Q t2 = true ∧ g t2 < g b then some t2 else some b) = some t2
            rw [h0]
            exact if_pos ((hQ t2 (by omega)).mpr hh)
          rw [e1, ← nI_1] at nxt
          exact nxt
        exact ⟨fun h1 => ⟨fun _ => no (fun hh => h1 hh.1), fun h9 => absurd rfl h9⟩, fun h1 => ⟨fun h2 => ⟨fun _ => no (fun hh => h2 hh.2), fun h9 => absurd rfl h9⟩, fun h2 => ⟨fun h9 => absurd h9 (by decide), fun _ => yes ⟨h1, h2⟩⟩⟩⟩
      · rw [ci] at e6
        subst e6
        obtain ⟨b1, b2, b3, b4⟩ := fm_some h0
        have no : ¬ ((k 203 t6 0 = v ∧ k 208 t6 0 = q) ∧ g t6 < g n3) → q_X3_firstWaiting_5 cf post (d + 1) v q (some n3) (nI t6 + 1) k := fun hh => by
          have e1 : fm_n Q g (t6 + 1) = some n3 := by
            show (match fm_n Q g t6 with | none => if Q t6 = true then some t6 else none | some b => if Q t6 = true ∧ g t6 < g b then some t6 else some b) = some n3
            rw [h0]
            exact if_neg (fun h9 => hh ⟨(hQ t6 (by omega)).mp h9.1, h9.2⟩)
          rw [e1, ← nI_1] at nxt
          exact nxt
        have yes : (k 203 t6 0 = v ∧ k 208 t6 0 = q) → g t6 < g n3 → q_X3_firstWaiting_5 cf post (d + 1) v q (some t6) (nI t6 + 1) k := fun hh h3 => by
          have e1 : fm_n Q g (t6 + 1) = some t6 := by
            show (match fm_n Q g t6 with | none => if Q t6 = true then some t6 else none | some b => if Q t6 = true ∧ g t6 < g b then some t6 else some b) = some t6
            rw [h0]
            exact if_pos ⟨(hQ t6 (by omega)).mpr hh, h3⟩
          rw [e1, ← nI_1] at nxt
          exact nxt
        refine ⟨fun h1 => ⟨fun _ => no (fun hh => h1 hh.1.1), fun h9 => absurd rfl h9⟩, fun h1 => ⟨fun h2 => ⟨fun _ => no (fun hh => h2 hh.1.2), fun h9 => absurd rfl h9⟩, fun h2 => ⟨fun h9 => absurd h9 (by decide), fun _ => ?_⟩⟩⟩
        obtain ⟨g1, g2⟩ := hg n3 hn3 b2
        obtain ⟨g3, g4⟩ := hg t6 (by omega) ((hQ t6 (by omega)).mpr ⟨h1, h2⟩)
        rw [g1, g3]
        exact ⟨fun h3 => no (fun hh => by have := (nI_leI g2 g4).mp h3; omega), fun h3 => yes ⟨h1, h2⟩ (Nat.not_le.mp fun hh => h3 (nI_le hh g4))⟩
  exact ⟨cf 0 + 1, key (cf 0) 0 (by omega)⟩
end O7
