/-! run and tick, side by side -/
section OU
variable {cf : Nat → Nat} {a e : Nat} {k z : ka_T} {s t c d p j f n m : Nat} {v x y o q : Int32}
theorem Af_0 (h : Cp_ cf a e k z) (n : Nat) : Af_ cf n a e k z := ⟨a, e, Nat.le_refl _, by omega, Nat.le_refl _, by omega, h⟩
theorem Af_mo {n' : Nat} (h : Af_ cf n a e k z) (hn : n ≤ n') : Af_ cf n' a e k z := by
  obtain ⟨a', e', h1, h2, h3, h4, h5⟩ := h
  exact ⟨a', e', h1, by omega, h3, by omega, h5⟩
/-- a call of both: one answer, two states -/
def Bo_ (cf : Nat → Nat) (n a e : Nat) (Q R : (Int32 → ka_T → Prop) → Prop) : Prop := ∃ (r : Int32) (k' z' : ka_T), Af_ cf n a e k' z' ∧ (∀ post : Int32 → ka_T → Prop, post r k' → Q post) ∧ ∀ post : Int32 → ka_T → Prop, post r z' → R post
theorem e_tells {post : Int32 → ka_T → Prop} (hc : c < 16) (h0 : ¬ (c = 1 ∨ 8 ≤ c) → post 0 k) (h1 : (c = 1 ∨ 8 ≤ c) → post 1 k) : q_X3_tellsAnEnd cf post (nI c) k := by
  refine ⟨fun h => h1 (Or.inl ((nI_eq (by omega) (b := 1) (by decide)).mp h)), fun h => ⟨fun h2 => h0 (fun hh => ?_), fun h2 => h1 (Or.inr (Nat.not_lt.mp fun hh => h2 (nI_lt hh (by decide))))⟩⟩
  rcases hh with hh | hh
  · subst hh; exact h rfl
  · exact absurd ((nI_ltI (by omega) (b := 8) (by decide)).mp h2) (by omega)
theorem m_44 {kh : Int32 → Int32 → Int32 → ka_T → Prop} {post : Int32 → ka_T → Prop} (hm : m < 128) (h0 : ¬ (m % 16 = 1 ∨ 8 ≤ m % 16) → kh x y 1 z) (h1 : (m % 16 = 1 ∨ 8 ≤ m % 16) → kh x y 0 z) : q_X4_run_44 cf kh post x (nI m) y z := by
  unfold q_X4_run_44
  rw [pk_andN (n := m) (by omega) (m := 15) 4 (by decide)]
  have hc : m % 2 ^ 4 < 16 := Nat.mod_lt _ (by decide)
  refine ⟨fun h => absurd h (nI_pos (by omega)), fun _ => ⟨fun h => h1 (Or.inl ((nI_eq (a := m % 2 ^ 4) (by omega) (b := 1) (by decide)).mp h)), fun h => ⟨fun h2 => h1 (Or.inr ((nI_leI (a := 8) (b := m % 2 ^ 4) (by decide) (by omega)).mp h2)), fun h2 => h0 (fun hh => ?_)⟩⟩⟩
  rcases hh with hh | hh
  · exact h (by show nI (m % 16) = 1; rw [hh]; rfl)
  · exact h2 (nI_le (a := 8) (b := m % 2 ^ 4) hh (by omega))
theorem op_run1 (hb : Cb_ cf) (hm : m ≤ 64) : ∀ d i a e (k z : ka_T), i + d = m → Cp_ cf a e k z → a + d < 2 ^ 31 → e + d < 2 ^ 31 → ∃ (r : Int32) (k' z' : ka_T), Af_ cf d a e k' z' ∧ (∀ post : Int32 → ka_T → Prop, post r k' → q_X3_run_15 cf post (d + 1) (nI m) (nI i) k) ∧ ∀ post : Int32 → ka_T → Prop, post r z' → q_X4_run_17 cf post (d + 2) (nI m) (nI i) 1 z := by
  intro d
  induction d with
  | zero =>
    intro i a e k z hi h _ _
    have : i = m := by omega
    subst this
    have le : nI i ≤ nI i := nI_le (Nat.le_refl _) (by omega)
    exact ⟨nI i, k, z, Af_0 h 0, fun post hq => ⟨fun _ => hq, fun hh => absurd le hh⟩, fun post hq => ⟨fun _ => hq, fun hh => absurd le hh⟩⟩
  | succ d ih =>
    intro i a e k z hi h ha he
    have nle : ¬ nI m ≤ nI i := nI_ge (by omega) (by omega)
    have n1 : ¬ (1 : Int32) = 0 := by decide
    obtain ⟨r, k1, z1, hr, ⟨a', e', q1, q2, q3, q4, q5⟩, w1, w2⟩ := op_step hb h (by omega) (by omega)
    rcases hr with hr | ⟨j, hj, hr⟩
    · refine ⟨nI i, k1, z1, ⟨a', e', q1, by omega, q3, by omega, q5⟩, fun post hq => ⟨fun hh => absurd hh nle, fun _ => w1 _ ⟨fun hh => absurd hh (by rw [hr]; decide), fun _ => hq⟩⟩, fun post hq => ⟨fun hh => absurd hh nle, fun _ => ⟨fun hh => absurd hh n1, fun _ => w2 _ ⟨fun hh => absurd hh (by rw [hr]; decide), fun _ => ⟨fun _ => ⟨fun _ => hq, fun _ => ⟨fun _ => hq, fun hh => absurd rfl hh⟩⟩, fun hh => absurd (by rw [hr]; decide) hh⟩⟩⟩⟩⟩
    · have r0 : 0 ≤ r := by rw [hr]; exact nI_pos' (by omega)
      have rm : r - r / 16 * 16 = nI (j % 16) := by rw [hr]; exact pk_rem (a := j) (d := 16) (by omega) (by decide) (by decide)
      by_cases st : j % 16 = 1 ∨ 8 ≤ j % 16
      · refine ⟨nI (i + 1), k1, z1, ⟨a', e', q1, by omega, q3, by omega, q5⟩, fun post hq => ⟨fun hh => absurd hh nle, fun _ => w1 _ ⟨fun _ => ?_, fun hh => absurd r0 hh⟩⟩, fun post hq => ⟨fun hh => absurd hh nle, fun _ => ⟨fun hh => absurd hh n1, fun _ => w2 _ ⟨fun _ => ?_, fun hh => absurd r0 hh⟩⟩⟩⟩
        · rw [rm, nI_1]
          exact e_tells (Nat.mod_lt _ (by decide)) (fun hh => absurd st hh) (fun _ => ⟨fun hh => absurd hh (by decide), fun _ => hq⟩)
        · rw [hr, nI_1]
          exact m_44 hj (fun hh => absurd st hh) (fun _ => ⟨fun _ => hq, fun _ => ⟨fun _ => hq, fun hh => absurd rfl hh⟩⟩)
      · obtain ⟨r2, k2, z2, ⟨a2, e2, s1, s2, s3, s4, s5⟩, v1, v2⟩ := ih (i + 1) a' e' k1 z1 (by omega) q5 (by omega) (by omega)
        refine ⟨r2, k2, z2, ⟨a2, e2, by omega, by omega, by omega, by omega, s5⟩, fun post hq => ⟨fun hh => absurd hh nle, fun _ => w1 _ ⟨fun _ => ?_, fun hh => absurd r0 hh⟩⟩, fun post hq => ⟨fun hh => absurd hh nle, fun _ => ⟨fun hh => absurd hh n1, fun _ => w2 _ ⟨fun _ => ?_, fun hh => absurd r0 hh⟩⟩⟩⟩
        · rw [rm, nI_1]
          exact e_tells (Nat.mod_lt _ (by decide)) (fun _ => ⟨fun _ => v1 _ hq, fun hh => absurd rfl hh⟩) (fun hh => absurd hh st)
        · rw [hr, nI_1]
          exact m_44 hj (fun _ => v2 _ hq) (fun hh => absurd hh st)
theorem op_run (hb : Cb_ cf) (h : Cp_ cf a e k z) (ha : a + 64 < 2 ^ 31) (he : e + 64 < 2 ^ 31) (x : Int32) : Bo_ cf 64 a e (fun post => q_X3_run cf post x k) (fun post => q_X4_run cf post x z) := by
  by_cases h1 : x < 1
  · exact ⟨-1, k, z, Af_0 h 64, fun post hq => ⟨fun _ => hq, fun hh => absurd h1 hh⟩, fun post hq => ⟨fun _ => hq, fun hh => absurd h1 hh⟩⟩
  · by_cases h2 : x ≤ 64
    · have x0 : ¬ x < 0 := fun h0 => h1 (Int32.lt_trans h0 (by decide))
      obtain ⟨m, hm, em⟩ := nI_of2 (x := x) (M := 64) (n := 64) (by decide) x0 h2
      subst em
      obtain ⟨r, k', z', f1, w1, w2⟩ := op_run1 hb hm m 0 a e k z (by omega) h (by omega) (by omega)
      exact ⟨r, k', z', Af_mo f1 hm, fun post hq => ⟨fun hh => absurd hh h1, fun _ => ⟨fun _ => ⟨m + 1, w1 post hq⟩, fun hh => absurd h2 hh⟩⟩, fun post hq => ⟨fun hh => absurd hh h1, fun _ => ⟨fun _ => ⟨m + 2, w2 post hq⟩, fun hh => absurd h2 hh⟩⟩⟩
    · exact ⟨-1, k, z, Af_0 h 64, fun post hq => ⟨fun hh => absurd hh h1, fun _ => ⟨fun hh => absurd hh h2, fun _ => hq⟩⟩, fun post hq => ⟨fun hh => absurd hh h1, fun _ => ⟨fun hh => absurd hh h2, fun _ => hq⟩⟩⟩
/-- the reference's k-th in a state -/
theorem m_in {post : Int32 → ka_T → Prop} (hb : Cb_ cf) {Q : Nat → Bool} {g : Nat → Nat} (hQ : ∀ u, u < cf 0 → (Q u = true ↔ iw_ z v q u)) (hg : ∀ u, u < cf 0 → Q u = true → z 419 0 u = nI (g u) ∧ g u < 2 ^ 31) (hN : (∀ t, t < cf 0 → Q t = true → ¬ nI (ct_n Q g (g t) (cf 0)) = y) → post (-1) z) (hS : ∀ t, t < cf 0 → Q t = true → nI (ct_n Q g (g t) (cf 0)) = y → (∀ u, u < t → Q u = true → ¬ nI (ct_n Q g (g u) (cf 0)) = y) → post (nI t) z) : q_X4_inState cf post v q y z := by
  have key : ∀ t, t < cf 0 → Q t = true → cb_n (fun u => decide ((z 409 0 u = v ∧ (q < 0 ∨ z 417 0 u = q)) ∧ ¬ z 419 0 t ≤ z 419 0 u)) (cf 0) = ct_n Q g (g t) (cf 0) := fun t ht hQt => by
    refine cb_ct (cf 0) (fun u hu => ?_)
    rw [decide_eq_true_iff]
    obtain ⟨t1, t2⟩ := hg t ht hQt
    constructor
    · intro hh
      have hu2 := (hQ u hu).mpr hh.1
      obtain ⟨u1, u2⟩ := hg u hu hu2
      have h9 := hh.2
      rw [t1, u1] at h9
      exact ⟨hu2, Nat.not_le.mp fun h7 => h9 (nI_le h7 u2)⟩
    · intro hh
      obtain ⟨u1, u2⟩ := hg u hu hh.1
      refine ⟨(hQ u hu).mp hh.1, fun h9 => ?_⟩
      rw [t1, u1] at h9
      have := (nI_leI t2 u2).mp h9
      omega
  have RQ : ∀ t, t < cf 0 → ((Q t && decide (nI (ct_n Q g (g t) (cf 0)) = y)) = true ↔ Q t = true ∧ nI (ct_n Q g (g t) (cf 0)) = y) := fun t _ => by rw [Bool.and_eq_true, decide_eq_true_iff]
  refine m_inState (B := fun t u => decide ((z 409 0 u = v ∧ (q < 0 ∨ z 417 0 u = q)) ∧ ¬ z 419 0 t ≤ z 419 0 u)) hb (fun t u _ _ => decide_eq_true_iff) (R := fun t => Q t && decide (nI (ct_n Q g (g t) (cf 0)) = y)) (fun t ht => ?_) (fun hn => hN (fun t ht hQt he => ?_)) (fun t hs => ?_)
  · rw [RQ t ht, ← hQ t ht]
    constructor
    · intro hh
      exact ⟨hh.1, by rw [key t ht hh.1]; exact hh.2⟩
    · intro hh
      exact ⟨hh.1, by rw [← key t ht hh.1]; exact hh.2⟩
  · have := ff_none hn t ht
    rw [(RQ t ht).mpr ⟨hQt, he⟩] at this
    cases this
  · obtain ⟨f1, f2, f3⟩ := ff_some hs
    obtain ⟨f4, f5⟩ := (RQ t f1).mp f2
    refine hS t f1 f4 f5 (fun u hu hQu he => ?_)
    have := f3 u hu
    rw [(RQ u (by omega)).mpr ⟨hQu, he⟩] at this
    cases this
theorem ct_str {P : Nat → Bool} {g : Nat → Nat} {x y u : Nat} (hP : P u = true) (h1 : x ≤ g u) (h2 : g u < y) : ∀ n, ct_n P g x n + (if u < n then 1 else 0) ≤ ct_n P g y n := by
  intro n
  induction n with
  | zero => simp [ct_n]
  | succ n ih =>
    by_cases e : n = u
    · subst e
      rw [ct_yes ⟨hP, h2⟩, ct_nay (fun h => by omega), if_pos (Nat.lt_succ_self n)]
      rw [if_neg (Nat.lt_irrefl n)] at ih
      omega
    · have e2 : (if u < n + 1 then 1 else 0) = (if u < n then 1 else 0 : Nat) := by
        by_cases h : u < n
        · rw [if_pos h, if_pos (by omega)]
        · rw [if_neg h, if_neg (by omega)]
      rw [e2]
      by_cases h3 : P n = true ∧ g n < x
      · rw [ct_yes h3, ct_yes ⟨h3.1, by omega⟩]; omega
      · rw [ct_nay h3]
        by_cases h4 : P n = true ∧ g n < y
        · rw [ct_yes h4]; omega
        · rw [ct_nay h4]; exact ih
theorem ct_lt {P : Nat → Bool} {g : Nat → Nat} {x y u n : Nat} (hu : u < n) (hP : P u = true) (h1 : x ≤ g u) (h2 : g u < y) : ct_n P g x n < ct_n P g y n := by
  have := ct_str hP h1 h2 n
  rw [if_pos hu] at this
  omega
theorem ct_drop {P P' : Nat → Bool} {g g' : Nat → Nat} {x t : Nat} (hP : P t = true) (hx : g t < x) (ht : P' t = false) (ho : ∀ u, ¬ u = t → P' u = P u ∧ g' u = g u) : ∀ n, ct_n P g x n = ct_n P' g' x n + (if t < n then 1 else 0) := by
  intro n
  induction n with
  | zero => simp [ct_n]
  | succ n ih =>
    by_cases e : n = t
    · subst e
      rw [ct_yes ⟨hP, hx⟩, ct_nay (fun h => by rw [ht] at h; exact absurd h.1 (by decide)), if_pos (Nat.lt_succ_self n)]
      rw [if_neg (Nat.lt_irrefl n)] at ih
      omega
    · obtain ⟨o1, o2⟩ := ho n e
      have e2 : (if t < n + 1 then 1 else 0) = (if t < n then 1 else 0 : Nat) := by
        by_cases h : t < n
        · rw [if_pos h, if_pos (by omega)]
        · rw [if_neg h, if_neg (by omega)]
      rw [e2]
      by_cases h3 : P n = true ∧ g n < x
      · rw [ct_yes h3, ct_yes (P := P') (g := g') (by rw [o1, o2]; exact h3)]; omega
      · rw [ct_nay h3, ct_nay (P := P') (g := g') (by rw [o1, o2]; exact h3)]; exact ih
theorem ct_same {P P' : Nat → Bool} {g g' : Nat → Nat} {x t : Nat} (hx : ¬ g t < x) (ht : P' t = false) (ho : ∀ u, ¬ u = t → P' u = P u ∧ g' u = g u) : ∀ n, ct_n P g x n = ct_n P' g' x n := by
  intro n
  induction n with
  | zero => rfl
  | succ n ih =>
    by_cases e : n = t
    · subst e
      rw [ct_nay (fun h => hx h.2), ct_nay (fun h => by rw [ht] at h; exact absurd h.1 (by decide))]
      exact ih
    · obtain ⟨o1, o2⟩ := ho n e
      by_cases h3 : P n = true ∧ g n < x
      · rw [ct_yes h3, ct_yes (P := P') (g := g') (by rw [o1, o2]; exact h3)]; omega
      · rw [ct_nay h3, ct_nay (P := P') (g := g') (by rw [o1, o2]; exact h3)]; exact ih
end OU
