/-! waiter, side by side -/
section OY
variable {cf : Nat → Nat} {a e : Nat} {k z : ka_T} {s t c d p j f n m : Nat} {v x y o q w : Int32}
theorem e_count {post : Int32 → ka_T → Prop} (hb : Cb_ cf) {Q : Nat → Bool} {g : Nat → Nat} (hQ : ∀ u, u < cf 0 → (Q u = true ↔ k 203 u 0 = v ∧ k 208 u 0 = q)) (hg : ∀ u, u < cf 0 → Q u = true → k 206 u 0 = nI (g u) ∧ g u < 2 ^ 31) (ht : t < cf 0) (hQt : Q t = true) (hp : post (nI (ct_n Q g (g t) (cf 0))) k) : q_X3_countBefore cf post t k := by
  have h8 := hb.2.1
  obtain ⟨t1, t2⟩ := (hQ t ht).mp hQt
  obtain ⟨t3, t4⟩ := hg t ht hQt
  have key : ∀ d i, i + d = cf 0 → q_X3_countBefore_4 cf post (d + 1) t (nI (ct_n Q g (g t) i)) (nI i) k := by
    intro d
    induction d with
    | zero =>
      intro i hi
      have : i = cf 0 := by omega
      subst this
      exact ⟨fun _ => hp, fun hh => absurd (nI_le (Nat.le_refl _) (by omega)) hh⟩
    | succ d ih =>
      intro i hi
      have ci : (nI i).toNatClampNeg = i := nI_clamp (by omega)
      have vi : vp_in (nI i) (cf 0) := vp_in_nI (by omega) (by omega)
      have nxt := ih (i + 1) (by omega)
      refine ⟨fun hh => absurd hh (nI_ge (by omega) (by omega)), fun _ => ⟨vi, fun t2' e2 _ => ?_⟩⟩
      rw [ci] at e2
      subst e2
      have no : ¬ (Q t2' = true ∧ g t2' < g t) → q_X3_countBefore_4 cf post (d + 1) t (nI (ct_n Q g (g t) t2')) (nI t2' + 1) k := fun hh => by
        rw [ct_nay hh, ← nI_1 t2'] at nxt
        exact nxt
      have yes : (Q t2' = true ∧ g t2' < g t) → q_X3_countBefore_4 cf post (d + 1) t (nI (ct_n Q g (g t) t2') + 1) (nI t2' + 1) k := fun hh => by
        rw [ct_yes hh, ← nI_1 t2', ← nI_1 (ct_n Q g (g t) t2')] at nxt
        exact nxt
      rw [t1, t2]
      have qq := hQ t2' (by omega)
      refine ⟨fun h1 => ⟨fun _ => no (fun hh => h1 (qq.mp hh.1).1), fun h9 => absurd rfl h9⟩, fun h1 => ⟨fun h2 => ⟨fun _ => no (fun hh => h2 (qq.mp hh.1).2), fun h9 => absurd rfl h9⟩, fun h2 => ⟨fun h9 => absurd h9 n01, fun _ => ⟨vi, fun t5 e5 _ => ?_⟩⟩⟩⟩
      rw [ci] at e5
      subst e5
      have hq5 := qq.mpr ⟨h1, h2⟩
      obtain ⟨g3, g4⟩ := hg t5 (by omega) hq5
      rw [t3, g3]
      exact ⟨fun h3 => no (fun hh => by have := (nI_leI t4 g4).mp h3; omega), fun h3 => yes ⟨hq5, Nat.not_le.mp fun hh => h3 (nI_le hh g4)⟩⟩
  have := key (cf 0) 0 (by omega)
  exact ⟨cf 0 + 1, this⟩
theorem e_in {post : Int32 → ka_T → Prop} (hb : Cb_ cf) {Q : Nat → Bool} {g : Nat → Nat} (hQ : ∀ u, u < cf 0 → (Q u = true ↔ k 203 u 0 = v ∧ k 208 u 0 = q)) (hg : ∀ u, u < cf 0 → Q u = true → k 206 u 0 = nI (g u) ∧ g u < 2 ^ 31) (hN : (∀ t, t < cf 0 → Q t = true → ¬ nI (ct_n Q g (g t) (cf 0)) = y) → post (-1) k) (hS : ∀ t, t < cf 0 → Q t = true → nI (ct_n Q g (g t) (cf 0)) = y → (∀ u, u < t → Q u = true → ¬ nI (ct_n Q g (g u) (cf 0)) = y) → post (nI t) k) : ∃ mf : Nat, q_X3_waiter_24 cf post mf q y v (0 : Int32) k := by
  have h8 := hb.2.1
  have key : ∀ d i, i + d = cf 0 → (∀ u, u < i → Q u = true → ¬ nI (ct_n Q g (g u) (cf 0)) = y) → q_X3_waiter_24 cf post (d + 1) q y v (nI i) k := by
    intro d
    induction d with
    | zero =>
      intro i hi hf
      exact ⟨fun _ => hN (fun t ht => hf t (by omega)), fun hh => absurd (nI_le (by omega) (by omega)) hh⟩
    | succ d ih =>
      intro i hi hf
      have ci : (nI i).toNatClampNeg = i := nI_clamp (by omega)
      have vi : vp_in (nI i) (cf 0) := vp_in_nI (by omega) (by omega)
      refine ⟨fun hh => absurd hh (nI_ge (by omega) (by omega)), fun _ => ⟨vi, fun t2 e2 _ => ?_⟩⟩
      rw [ci] at e2
      subst e2
      have no : ¬ (Q t2 = true ∧ nI (ct_n Q g (g t2) (cf 0)) = y) → q_X3_waiter_24 cf post (d + 1) q y v (nI t2 + 1) k := fun hh => by
        rw [nI_1]
        refine ih (t2 + 1) (by omega) (fun u hu hQu he => ?_)
        by_cases eu : u = t2
        · subst eu; exact hh ⟨hQu, he⟩
        · exact hf u (by omega) hQu he
      have qq := hQ t2 (by omega)
      refine ⟨fun h1 => ⟨fun _ => no (fun hh => h1 (qq.mp hh.1).1), fun h9 => absurd rfl h9⟩, fun h1 => ⟨fun h2 => ⟨fun _ => no (fun hh => h2 (qq.mp hh.1).2), fun h9 => absurd rfl h9⟩, fun h2 => ⟨fun h9 => absurd h9 n01, fun _ => ⟨vi, fun t5 e5 _ => ?_⟩⟩⟩⟩
      rw [ci] at e5
      subst e5
      have hq5 := qq.mpr ⟨h1, h2⟩
      exact e_count hb hQ hg (by omega) hq5 ⟨fun h3 => no (fun hh => h3 hh.2), fun h3 => hS t5 (by omega) hq5 h3 hf⟩
  exact ⟨cf 0 + 1, key (cf 0) 0 (by omega) (fun u hu => absurd hu (Nat.not_lt_zero _))⟩
theorem op_wait1 (hb : Cb_ cf) (h : Cp_ cf a e k z) (ha : a < 2 ^ 31) (i : Nat) (hi : 3 ≤ i ∧ i ≤ 4) {q : Nat} (hq : q < 2 ^ 31) (y : Int32) : ∃ r : Int32, (y < 0 → r = -1) ∧ (∀ post : Int32 → ka_T → Prop, post r k → ∃ mf : Nat, q_X3_waiter_24 cf post mf (nI q) y (nI i) (0 : Int32) k) ∧ ∀ post : Int32 → ka_T → Prop, post r z → q_X4_inState cf post (nI i) (nI q) y z := by
  have h8 := hb.2.1
  obtain ⟨g, hgd⟩ : ∃ g : Nat → Nat, g = fun u => (z 419 0 u).toNatClampNeg := ⟨_, rfl⟩
  obtain ⟨Q, hQd⟩ : ∃ Q : Nat → Bool, Q = fun u => decide (z 409 0 u = nI i ∧ z 417 0 u = nI q) := ⟨_, rfl⟩
  have Qi : ∀ u, Q u = true ↔ z 409 0 u = nI i ∧ z 417 0 u = nI q := fun u => by rw [hQd]; exact decide_eq_true_iff
  have live : ∀ u, z 409 0 u = nI i → ¬ z 409 0 u = 0 := fun u hu h0 => by
    rw [hu] at h0
    exact absurd h0 (nI_ne0 (by omega) (by omega))
  have tk : ∀ u, u < cf 0 → z 409 0 u = nI i → z 419 0 u = nI (g u) ∧ g u < 2 ^ 31 := fun u hu h1 => by
    obtain ⟨⟨b, b1, b2⟩, -⟩ := (h.2.2 u hu).2.2.2 (live u h1)
    have : g u = b := by rw [hgd]; show (z 419 0 u).toNatClampNeg = b; rw [b2]; exact nI_clamp (by omega)
    rw [this]
    exact ⟨b2, by omega⟩
  have le3 : ∀ u, z 409 0 u = nI i → 3 ≤ z 409 0 u := fun u hu => by rw [hu]; exact nI_le (a := 3) hi.1 (by omega)
  have hk : ∀ u, u < cf 0 → (Q u = true ↔ k 203 u 0 = nI i ∧ k 208 u 0 = nI q) := fun u hu => by
    rw [Qi u, (h.2.2 u hu).1]
    constructor
    · intro hh
      obtain ⟨-, -, -, -, -, -, -, l8, -⟩ := ((h.2.2 u hu).2.2.2 (live u hh.1)).2
      exact ⟨hh.1, by rw [l8 (le3 u hh.1)]; exact hh.2⟩
    · intro hh
      obtain ⟨-, -, -, -, -, -, -, l8, -⟩ := ((h.2.2 u hu).2.2.2 (live u hh.1)).2
      exact ⟨hh.1, by rw [← l8 (le3 u hh.1)]; exact hh.2⟩
  have hg : ∀ u, u < cf 0 → Q u = true → k 206 u 0 = nI (g u) ∧ g u < 2 ^ 31 := fun u hu hh => by
    have h1 := ((Qi u).mp hh).1
    obtain ⟨-, -, l3, -⟩ := ((h.2.2 u hu).2.2.2 (live u h1)).2
    rw [l3]
    exact tk u hu h1
  have iwi : ∀ u, u < cf 0 → (Q u = true ↔ iw_ z (nI i) (nI q) u) := fun u _ => by
    rw [Qi u]
    constructor
    · intro hh; exact ⟨hh.1, Or.inr hh.2⟩
    · intro hh
      refine ⟨hh.1, ?_⟩
      rcases hh.2 with h5 | h5
      · exact absurd h5 (nI_pos hq)
      · exact h5
  have hgz : ∀ u, u < cf 0 → Q u = true → z 419 0 u = nI (g u) ∧ g u < 2 ^ 31 := fun u hu hh => tk u hu ((Qi u).mp hh).1
  obtain ⟨F, hF⟩ : ∃ F, F = ff_n (fun t => Q t && decide (nI (ct_n Q g (g t) (cf 0)) = y)) (cf 0) := ⟨_, rfl⟩
  have RQ : ∀ t, ((Q t && decide (nI (ct_n Q g (g t) (cf 0)) = y)) = true ↔ Q t = true ∧ nI (ct_n Q g (g t) (cf 0)) = y) := fun t => by rw [Bool.and_eq_true, decide_eq_true_iff]
  have RN : ∀ t, ¬ (Q t = true ∧ nI (ct_n Q g (g t) (cf 0)) = y) → (Q t && decide (nI (ct_n Q g (g t) (cf 0)) = y)) = false := fun t hh => by
    cases h9 : (Q t && decide (nI (ct_n Q g (g t) (cf 0)) = y)) with
    | false => rfl
    | true => exact absurd ((RQ t).mp h9) hh
  have FN : (∀ t, t < cf 0 → Q t = true → ¬ nI (ct_n Q g (g t) (cf 0)) = y) → nr_o F = -1 := fun hn => by
    have : F = none := by rw [hF]; exact ff_no (fun t ht => RN t (fun hh => hn t ht hh.1 hh.2))
    rw [this]
    rfl
  have FS : ∀ t, t < cf 0 → Q t = true → nI (ct_n Q g (g t) (cf 0)) = y → (∀ u, u < t → Q u = true → ¬ nI (ct_n Q g (g u) (cf 0)) = y) → nr_o F = nI t := fun t ht h1 h2 h3 => by
    have : F = some t := by rw [hF]; exact ff_is ht ((RQ t).mpr ⟨h1, h2⟩) (fun u hu => RN u (fun hh => h3 u hu hh.1 hh.2))
    rw [this]
    rfl
  refine ⟨nr_o F, fun hy => FN (fun t ht _ he => ?_), fun post hp => e_in hb hk hg (fun hn => by rw [FN hn] at hp; exact hp) (fun t h1 h2 h3 h4 => by rw [FS t h1 h2 h3 h4] at hp; exact hp), fun post hp => m_in hb iwi hgz (fun hn => by rw [FN hn] at hp; exact hp) (fun t h1 h2 h3 h4 => by rw [FS t h1 h2 h3 h4] at hp; exact hp)⟩
  have hle := ct_le (P := Q) (g := g) (x := g t) (cf 0)
  rw [← he] at hy
  exact absurd hy (nI_pos (by omega))
theorem op_waiter (hb : Cb_ cf) (h : Cp_ cf a e k z) (ha : a < 2 ^ 31) (x y w : Int32) : Bo_ cf 64 a e (fun post => q_X3_waiter cf post x y w k) (fun post => q_X4_waiter cf post x y w z) := by
  have h4 := hb.2.2.2.2.1
  rcases ix_c x (cf 2) (by omega) with ⟨q, hj, ex, x0, x1, x2⟩ | hx | ⟨x0, x1, x2⟩
  · subst ex
    have go : ∀ i, 3 ≤ i ∧ i ≤ 4 → (y = 0 → i = 4) → (¬ y = 0 → i = 3) → Bo_ cf 64 a e (fun post => q_X3_waiter cf post (nI q) y w k) (fun post => q_X4_waiter cf post (nI q) y w z) := fun i hi i4 i3 => by
      obtain ⟨r, r0, w1, w2⟩ := op_wait1 hb h ha i hi (show q < 2 ^ 31 by omega) w
      refine bo_q h r (fun post hq => e_qu1 hb hj ⟨fun _ => ⟨fun hy => ?_, fun hy => ?_⟩, fun hh => absurd hh n01⟩) (fun post hq => ⟨fun hh => absurd hh x0, fun _ => ⟨fun hh => absurd hh x1, fun _ => ⟨fun _ => ⟨fun hy => ?_, fun hy => ?_⟩, fun hw => ?_⟩⟩⟩)
      · have := i4 hy; subst this; exact w1 post hq
      · have := i3 hy; subst this; exact w1 post hq
      · have := i4 hy; subst this; exact w2 post hq
      · have := i3 hy; subst this; exact w2 post hq
      · rw [← r0 (Int32.not_le.mp hw)]; exact hq
    by_cases hy : y = 0
    · exact go 4 (by decide) (fun _ => rfl) (fun hh => absurd hy hh)
    · exact go 3 (by decide) (fun hh => absurd hh hy) (fun _ => rfl)
  · exact bo_q h (-1) (fun post hq => e_qu0 (Or.inl hx) ⟨fun hh => absurd rfl hh, fun _ => hq⟩) (fun post hq => ⟨fun _ => hq, fun hh => absurd hx hh⟩)
  · exact bo_q h (-1) (fun post hq => e_qu0 (Or.inr x1) ⟨fun hh => absurd rfl hh, fun _ => hq⟩) (fun post hq => ⟨fun hh => absurd hh x0, fun _ => ⟨fun _ => hq, fun hh => absurd x1 hh⟩⟩)
end OY
