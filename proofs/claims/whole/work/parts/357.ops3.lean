/-! ranges; memory; jumps -/
theorem ix_hi {v : Int32} {n : Nat} (h : nI (n + 1) ≤ v) (hn : n + 1 < 2 ^ 31) : ¬ v < 0 ∧ ¬ v ≤ nI n ∧ nI n < v ∧ ¬ v < nI (n + 1) := by
  rw [Int32.le_iff_toInt_le, nI_toInt hn] at h
  refine ⟨?_, ?_, ?_, ?_⟩
  · rw [Int32.lt_iff_toInt_lt]; show ¬ v.toInt < 0; omega
  · rw [Int32.le_iff_toInt_le, nI_toInt (by omega)]; omega
  · rw [Int32.lt_iff_toInt_lt, nI_toInt (by omega)]; omega
  · rw [Int32.lt_iff_toInt_lt, nI_toInt hn]; omega
theorem ix_lo {v : Int32} {n : Nat} (h : v < 0) (hn : n < 2 ^ 31) : ¬ nI n ≤ v ∧ ¬ 0 ≤ v := by
  rw [Int32.lt_iff_toInt_lt] at h
  replace h : v.toInt < 0 := h
  refine ⟨?_, ?_⟩
  · rw [Int32.le_iff_toInt_le, nI_toInt hn]; omega
  · rw [Int32.le_iff_toInt_le]; show ¬ (0 : Int) ≤ v.toInt; omega
/-- a number against n places: in, or out on either side -/
theorem ix_3 (v : Int32) {n : Nat} (h0 : 0 < n) (hn : n < 2 ^ 31) : (∃ j, j < n ∧ v = nI j) ∨ (v < 0) ∨ (¬ v < 0 ∧ nI n ≤ v ∧ nI (n - 1) < v ∧ ¬ v ≤ nI (n - 1) ∧ ¬ v < nI n) := by
  rcases pk_ix v hn with h | h | h
  · exact Or.inr (Or.inl h)
  · obtain ⟨m, rfl⟩ : ∃ m, n = m + 1 := ⟨n - 1, by omega⟩
    obtain ⟨a, b, c, d⟩ := ix_hi h hn
    exact Or.inr (Or.inr ⟨a, h, by simpa using c, by simpa using b, d⟩)
  · exact Or.inl h
section O3
variable {cf : Nat → Nat} {a e : Nat} {k z k' z' : ka_T} {s c d p j : Nat} {v x o : Int32} {P : Int32 → ka_T → ka_T → Prop}
theorem e_cell1 {post : Int32 → ka_T → Prop} (hj : j < 16) (h : post 1 k) : q_X3_isCell cf post (nI j) k :=
  ⟨fun hn => absurd hn (nI_pos (by omega)), fun _ => ⟨fun hn => absurd hn (nI_ge (b := 16) hj (by decide)), fun _ => h⟩⟩
theorem e_cell0 {post : Int32 → ka_T → Prop} (hv : v < 0 ∨ nI 16 ≤ v) (h : post 0 k) : q_X3_isCell cf post v k :=
  ⟨fun _ => h, fun h0 => ⟨fun _ => h, fun hn => by rcases hv with hv | hv; exact absurd hv h0; exact absurd hv hn⟩⟩
theorem e_place1 {post : Int32 → ka_T → Prop} (hj : j < 64) (h : post 1 k) : q_X3_isCodePlace cf post (nI j) k :=
  ⟨fun hn => absurd hn (nI_pos (by omega)), fun _ => ⟨fun hn => absurd hn (nI_ge (b := 64) hj (by decide)), fun _ => h⟩⟩
theorem e_place0 {post : Int32 → ka_T → Prop} (hv : v < 0 ∨ nI 64 ≤ v) (h : post 0 k) : q_X3_isCodePlace cf post v k :=
  ⟨fun _ => h, fun h0 => ⟨fun _ => h, fun hn => by rcases hv with hv | hv; exact absurd hv h0; exact absurd hv hn⟩⟩
theorem m_place1 {post : Int32 → ka_T → Prop} (hj : j < 64) (h : post 1 k) : q_X4_isPlace cf post (nI j) k :=
  ⟨fun hn => absurd hn (nI_pos (by omega)), fun _ => ⟨fun hn => absurd hn (nI_nlt (a := 63) (b := j) (by omega) (by decide)), fun _ => h⟩⟩
theorem m_place0 {post : Int32 → ka_T → Prop} (hv : v < 0 ∨ nI 63 < v) (h : post 0 k) : q_X4_isPlace cf post v k :=
  ⟨fun _ => h, fun h0 => ⟨fun _ => h, fun hn => by rcases hv with hv | hv; exact absurd hv h0; exact absurd hv hn⟩⟩
/-- what belongs to no task has changed -/
theorem Cp_glob {e' : Nat} (h : Cp_ cf a e k z) (hk : ∀ f n j, f < 300 → k' f n j = k f n j) (hz : ∀ f n j, 409 ≤ f → f < 421 → z' f n j = z f n j) (hg : Cg_ cf a e' k' z') : Cp_ cf a e' k' z' :=
  ⟨hg, fun t u h1 h2 h3 h4 h5 => h.2.1 t u h1 h2 (by rw [← hz 409 0 t (by decide) (by decide)]; exact h3) (by rw [← hz 409 0 u (by decide) (by decide)]; exact h4) (by rw [← hz 419 0 t (by decide) (by decide), ← hz 419 0 u (by decide) (by decide)]; exact h5),
    fun t ht => Ct_keep (h.2.2 t ht) (Nat.le_refl _) (fun f h1 h2 => hk f t 0 (by omega)) (hk _ _ _ (by decide)) (hk _ _ _ (by decide)) (fun j => hk _ _ j (by decide)) (fun j => hk _ _ j (by decide)) (fun f h1 h2 _ _ => hz f 0 t h2 h1) (fun j => hz _ _ j (by decide) (by decide)) (fun j => hz _ _ j (by decide) (by decide))⟩
theorem cs_mem (h : Cs_ cf a e k z s) (hj : j < 16) (v : Int32) : Cs_ cf a e (k3_up k 303 0 j v) (k3_up z 405 0 j v) s := by
  obtain ⟨hp, hs, h1, h2, h3⟩ := h
  obtain ⟨g1, g2, g3, g4, g5, g6, g7, g8⟩ := hp.1
  refine ⟨Cp_glob hp (fun f n i hf => k3_ne (by omega)) (fun f n i hf hf2 => k3_ne (by omega)) ⟨fun i hi => ?_, fun i hi => ?_, fun i hi => ?_, ⟨?_, ?_⟩, ?_, ⟨?_, ?_⟩, ?_, fun q hq => Cq_keep (g8 q hq) (fun f i hf => k3_ne (by omega)) (k3_ne (by omega)) (fun i => k3_ne (by omega))⟩, hs, by rw [k3_ne (by omega)]; exact h1, by rw [k3_ne (by omega)]; exact h2, by rw [k3_ne (by omega)]; exact h3⟩
  · rw [k3_ne (by omega), k3_ne (by omega)]; exact g1 i hi
  · by_cases e1 : i = j
    · subst e1; rw [k3_same, k3_same]
    · rw [k3_ne (by omega), k3_ne (by omega)]; exact g2 i hi
  · rw [k3_ne (by omega), k3_ne (by omega)]; exact g3 i hi
  · rw [k3_ne (by omega)]; exact g4.1
  · rw [k3_ne (by omega)]; exact g4.2
  · rw [k3_ne (by omega), k3_ne (by omega)]; exact g5
  · rw [k3_ne (by omega)]; exact g6.1
  · rw [k3_ne (by omega)]; exact g6.2
  · rw [k3_ne (by omega), k3_ne (by omega)]; exact g7
/-- one number is taken by both, or there is a trap -/
theorem op_one (hb : Cb_ cf) (h : Cs_ cf a e k z s) {K : Int32 → ka_T → (Int32 → ka_T → Prop) → Prop} {M : Int32 → ka_T → (ka_T → Prop) → Prop} (hp : ∀ r k' z', Ro_ cf a e s r k' z' → P r k' z')
    (hT : ∀ (z1 : ka_T) (G : ka_T → Prop), z1 425 0 0 = nI s → z1 426 0 0 = 1 → G z1 → M 0 z1 G)
    (hK : ∀ (d : Nat) (x : Int32) (k2 z2 : ka_T), d + 1 ≤ cf 1 → Cs_ cf a e k2 z2 s → k2 101 (2 * s) 0 = nI d → z2 412 0 s = nI d → (∀ j, j < d → k2 100 (2 * s) j = z2 413 s j) → k2 = k3_up k 101 (2 * s) 0 (nI d) → z2 = k3_up z 412 0 s (nI d) → ∀ B : Int32 → ka_T → Prop, (∀ r k', M x z2 (fun z' => P r k' z') → B r k') → K x k2 B) :
    ((1 : Int32) ≤ k 101 (2 * s) 0 → q_X1_pop cf (fun r2 k2 => K r2 k2 (fun r k' => q_X4_take cf (fun b k9 => M b k9 (fun z' => P r k' z')) z)) (2 * s) k) ∧ (¬ (1 : Int32) ≤ k 101 (2 * s) 0 → q_X4_take cf (fun b k9 => M b k9 (fun z' => P 1 k z')) z) := by
  obtain ⟨c, c1, c2, c3, c4⟩ := cs_count h
  have h8 := cs_8 hb h
  have h16 := hb.2.2.2.1
  have hs := h.2.2.2.1
  have ht := h.2.2.2.2
  rw [c2]
  refine ⟨fun h1 => ?_, fun h1 => ?_⟩
  · have hc : 1 ≤ c := Nat.not_lt.mp fun hh => i1_n hh h1
    obtain ⟨d, rfl⟩ : ∃ d, c = d + 1 := ⟨c - 1, by omega⟩
    obtain ⟨h3, c6⟩ := cs_p1 (d := d) h c1 c4
    refine e_pop c2 (by rw [pl_e]; omega) (by rw [pl_e]; omega) ?_
    rw [c4 d (by omega)]
    refine hK d _ _ _ c1 h3 (k3_same _ _ _ _ _) (k3_same _ _ _ _ _) c6 rfl rfl _ (fun r k' hM => ?_)
    exact m_take hs h8 ht c3 (by omega) hM
  · have hc : c = 0 := by have : ¬ 1 ≤ c := fun hh => h1 (i1_le hh (by omega)); omega
    rw [hc] at c3
    exact m_take0 hs h8 ht c3 (hT _ _ (by rw [k3_ne (by omega)]; exact hs) (k3_same _ _ _ _ _) (hp _ _ _ (ro_t h 1 (by decide) (Or.inl rfl) (Or.inl rfl))))
theorem m_mem20 {post : ka_T → Prop} (ht : ¬ z 426 0 0 = 0) (h : post z) : q_X4_memoryOp_20 cf post o x z :=
  have h46 : q_X4_memoryOp_46 cf post x z := ⟨fun _ => h, fun hn => absurd hn ht⟩
  ⟨fun _ => h46, fun hn => absurd hn ht⟩
/-- the reference's memory op, its place in range or not -/
theorem m_memr {post : ka_T → Prop} (h : ∀ (b : Int32) (y : ka_T), True) (hq : q_X4_take cf (fun r9 k9 => (r9 < 0 → q_X4_fall cf (fun k11 => q_X4_memoryOp_20 cf post o r9 k11) 2 k9) ∧ (¬ r9 < 0 → ((r9 ≤ 15 → q_X4_memoryOp_20 cf post o r9 k9) ∧ (¬ r9 ≤ 15 → q_X4_fall cf (fun k13 => q_X4_memoryOp_20 cf post o r9 k13) 2 k9)))) z) : q_X4_memoryOp cf post o z := hq
theorem op_9 (hb : Cb_ cf) (h : Cs_ cf a e k z s) (hp : ∀ r k' z', Ro_ cf a e s r k' z' → P r k' z') : q_X3_load cf (fun r k' => q_X4_memoryOp cf (fun z' => P r k' z') 9 z) s k := by
  have h8 := cs_8 hb h
  refine op_one (P := P) hb h (K := fun r2 k2 B => q_X3_isCell cf (fun r3 k3 => (r3 = 0 → B 2 k3) ∧ (¬ r3 = 0 → (vp_in r2 16 ∧ q_X2_put cf (fun r5 k5 => B r5 k5) s (k3 303 0 r2.toNatClampNeg) k3))) r2 k2) (M := fun r9 k9 G => (r9 < 0 → q_X4_fall cf (fun k11 => q_X4_memoryOp_20 cf G 9 r9 k11) 2 k9) ∧ (¬ r9 < 0 → ((r9 ≤ 15 → q_X4_memoryOp_20 cf G 9 r9 k9) ∧ (¬ r9 ≤ 15 → q_X4_fall cf (fun k13 => q_X4_memoryOp_20 cf G 9 r9 k13) 2 k9)))) hp ?_ ?_
  · intro z1 G s1 t1 hG
    have t2 : ¬ z1 426 0 0 = 0 := by rw [t1]; decide
    exact ⟨fun hn => absurd hn (by decide), fun _ => ⟨fun _ => m_mem20 t2 hG, fun hn => absurd (by decide) hn⟩⟩
  · intro d x k2 z2 hd h2 kc zc c4 ek ez B hB
    rcases ix_3 x (n := 16) (by decide) (by decide) with ⟨j, hj, rfl⟩ | hx | ⟨x1, x2, x3, x4, x5⟩
    · refine e_cell1 hj ⟨fun hn => absurd hn (by decide), fun _ => ⟨vp_in_nI hj (by decide), ?_⟩⟩
      have em := h2.1.1.2.1 j hj
      rw [nI_clamp (by omega)]
      refine mo_put (fun r k' hq => hB r k' ⟨fun hn => absurd hn (nI_pos (by omega)), fun _ => ⟨fun _ => ⟨fun hn => absurd h2.2.2.2.2 hn, fun _ => ⟨fun hn => absurd rfl hn, fun _ => ⟨vp_in_nI hj (by decide), ?_⟩⟩⟩, fun hn => absurd (nI_le (b := 15) (by omega) (by decide)) hn⟩⟩) (op_put hb h2 (k2 303 0 j) hp)
      rw [nI_clamp (by omega), ← em]
      exact hq
    · refine e_cell0 (Or.inl hx) ⟨fun _ => hB _ _ ⟨fun _ => m_fall0 h2.2.2.2.2 (m_mem20 (by rw [k3_same]; decide) (hp _ _ _ (ro_t h 2 (by decide) (Or.inr ⟨_, Or.inl ek⟩) (Or.inr ⟨_, Or.inl (by rw [ez]; rfl)⟩)))), fun hn => absurd hx hn⟩, fun hn => absurd rfl hn⟩
    · refine e_cell0 (Or.inr x2) ⟨fun _ => hB _ _ ⟨fun hn => absurd hn x1, fun _ => ⟨fun hn => absurd hn x4, fun _ => m_fall0 h2.2.2.2.2 (m_mem20 (by rw [k3_same]; decide) (hp _ _ _ (ro_t h 2 (by decide) (Or.inr ⟨_, Or.inl ek⟩) (Or.inr ⟨_, Or.inl (by rw [ez]; rfl)⟩))))⟩⟩, fun hn => absurd rfl hn⟩
theorem op_10 (hb : Cb_ cf) (h : Cs_ cf a e k z s) (hp : ∀ r k' z', Ro_ cf a e s r k' z' → P r k' z') : q_X3_store cf (fun r k' => q_X4_memoryOp cf (fun z' => P r k' z') 10 z) s k := by
  have h8 := cs_8 hb h
  refine op_one (P := P) hb h (K := fun r2 k2 B => q_X3_isCell cf (fun r3 k3 => (¬ r3 = 0 → (((1 : Int32) ≤ (k3 101 (2 * s) 0) → (q_X1_pop cf (fun r6 k6 => vp_in r2 16 ∧ (∀ k7 : ka_T, k7 = k3_up k6 303 0 r2.toNatClampNeg r6 → B 0 k7)) (2 * s) k3)) ∧ (¬ (1 : Int32) ≤ (k3 101 (2 * s) 0) → B 1 k3))) ∧ (r3 = 0 → B 2 k3)) r2 k2) (M := fun r9 k9 G => (r9 < 0 → q_X4_fall cf (fun k11 => q_X4_memoryOp_20 cf G 10 r9 k11) 2 k9) ∧ (¬ r9 < 0 → ((r9 ≤ 15 → q_X4_memoryOp_20 cf G 10 r9 k9) ∧ (¬ r9 ≤ 15 → q_X4_fall cf (fun k13 => q_X4_memoryOp_20 cf G 10 r9 k13) 2 k9)))) hp ?_ ?_
  · intro z1 G s1 t1 hG
    have t2 : ¬ z1 426 0 0 = 0 := by rw [t1]; decide
    exact ⟨fun hn => absurd hn (by decide), fun _ => ⟨fun _ => m_mem20 t2 hG, fun hn => absurd (by decide) hn⟩⟩
  · intro d x k2 z2 hd h2 kc zc c4 ek ez B hB
    rcases ix_3 x (n := 16) (by decide) (by decide) with ⟨j, hj, rfl⟩ | hx | ⟨x1, x2, x3, x4, x5⟩
    · refine e_cell1 hj ⟨fun _ => ?_, fun hn => absurd hn (by decide)⟩
      have into : ∀ {G : ka_T → Prop}, q_X4_take cf (fun r2 k2 => (¬ (k2 426 0 0) = 0 → (vp_in (nI j) 16 ∧ (vp_in (nI j) 16 ∧ (∀ k4 : ka_T, k4 = k3_up k2 405 0 (nI j).toNatClampNeg (k2 405 0 (nI j).toNatClampNeg) → G k4)))) ∧ ((k2 426 0 0) = 0 → (vp_in (nI j) 16 ∧ (∀ k5 : ka_T, k5 = k3_up k2 405 0 (nI j).toNatClampNeg r2 → G k5)))) z2 → ((nI j < 0 → q_X4_fall cf (fun k11 => q_X4_memoryOp_20 cf G 10 (nI j) k11) 2 z2) ∧ (¬ nI j < 0 → ((nI j ≤ 15 → q_X4_memoryOp_20 cf G 10 (nI j) z2) ∧ (¬ nI j ≤ 15 → q_X4_fall cf (fun k13 => q_X4_memoryOp_20 cf G 10 (nI j) k13) 2 z2)))) := fun hG =>
        ⟨fun hn => absurd hn (nI_pos (by omega)), fun _ => ⟨fun _ => ⟨fun hn => absurd h2.2.2.2.2 hn, fun _ => ⟨fun _ => ⟨fun hn => absurd h2.2.2.2.2 hn, fun _ => hG⟩, fun hn => absurd hn (by decide)⟩⟩, fun hn => absurd (nI_le (b := 15) (by omega) (by decide)) hn⟩⟩
      have key := op_one (P := P) hb h2 (K := fun r6 k6 B => vp_in (nI j) 16 ∧ (∀ k7 : ka_T, k7 = k3_up k6 303 0 (nI j).toNatClampNeg r6 → B 0 k7)) (M := fun r2 k2 G => (¬ (k2 426 0 0) = 0 → (vp_in (nI j) 16 ∧ (vp_in (nI j) 16 ∧ (∀ k4 : ka_T, k4 = k3_up k2 405 0 (nI j).toNatClampNeg (k2 405 0 (nI j).toNatClampNeg) → G k4)))) ∧ ((k2 426 0 0) = 0 → (vp_in (nI j) 16 ∧ (∀ k5 : ka_T, k5 = k3_up k2 405 0 (nI j).toNatClampNeg r2 → G k5)))) (fun r k' z' hr => ?_)
        (fun z1 G s1 t1 hG => ⟨fun _ => ⟨vp_in_nI hj (by decide), vp_in_nI hj (by decide), fun k4 e4 => by rw [e4, k3_id]; exact hG⟩, fun hn => absurd hn (by rw [t1]; decide)⟩)
        (fun d2 y k4 z4 hd4 h4 kc4 zc4 c44 ek4 ez4 B2 hB2 => ⟨vp_in_nI hj (by decide), fun k7 e7 => hB2 _ _ ⟨fun hn => absurd h4.2.2.2.2 hn, fun _ => ⟨vp_in_nI hj (by decide), fun k5 e5 => by
          rw [e7, e5, nI_clamp (by omega)]
          exact hp _ _ _ (ro_ok (cs_mem h4 hj y))⟩⟩⟩)
      · exact ⟨fun h1 => mo_pop (fun _ _ hq => ⟨hq.1, fun k7 e7 => hB _ _ (into (hq.2 k7 e7))⟩) (key.1 h1), fun h1 => hB _ _ (into (key.2 h1))⟩
      · exact hp _ _ _ hr
    · refine e_cell0 (Or.inl hx) ⟨fun hn => absurd rfl hn, fun _ => hB _ _ ⟨fun _ => m_fall0 h2.2.2.2.2 (m_mem20 (by rw [k3_same]; decide) (hp _ _ _ (ro_t h 2 (by decide) (Or.inr ⟨_, Or.inl ek⟩) (Or.inr ⟨_, Or.inl (by rw [ez]; rfl)⟩)))), fun hn => absurd hx hn⟩⟩
    · refine e_cell0 (Or.inr x2) ⟨fun hn => absurd rfl hn, fun _ => hB _ _ ⟨fun hn => absurd hn x1, fun _ => ⟨fun hn => absurd hn x4, fun _ => m_fall0 h2.2.2.2.2 (m_mem20 (by rw [k3_same]; decide) (hp _ _ _ (ro_t h 2 (by decide) (Or.inr ⟨_, Or.inl ek⟩) (Or.inr ⟨_, Or.inl (by rw [ez]; rfl)⟩))))⟩⟩⟩
end O3
