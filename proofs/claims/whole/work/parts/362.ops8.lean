/-! queues -/
section O8
variable {cf : Nat → Nat} {a e : Nat} {k z k' z' : ka_T} {s t c d p j f n q : Nat} {v x y o : Int32} {P : Int32 → ka_T → ka_T → Prop}
theorem w_first (hb : Cb_ cf) (h : Cp_ cf a e k z) (ha : a < 2 ^ 31) (i : Nat) (hi : 3 ≤ i ∧ i ≤ 4) (hq : q < 2 ^ 31) : ∃ F : Option Nat, (∀ t, F = some t → t < cf 0 ∧ z 409 0 t = nI i ∧ z 417 0 t = nI q) ∧ (∀ post : Option Nat → ka_T → Prop, post F k → q_X3_firstWaiting cf post (nI i) (nI q) k) ∧ (∀ post : Int32 → ka_T → Prop, (F = none → post (-1) z) → (∀ t, F = some t → post (nI t) z) → q_X4_inState cf post (nI i) (nI q) 0 z) := by
  have h8 := hb.2.1
  obtain ⟨g, hgd⟩ : ∃ g : Nat → Nat, g = fun u => (z 419 0 u).toNatClampNeg := ⟨_, rfl⟩
  obtain ⟨Q, hQd⟩ : ∃ Q : Nat → Bool, Q = fun u => decide (z 409 0 u = nI i ∧ z 417 0 u = nI q) := ⟨_, rfl⟩
  have Qi : ∀ u, Q u = true ↔ z 409 0 u = nI i ∧ z 417 0 u = nI q := fun u => by rw [hQd]; exact decide_eq_true_iff
  have live : ∀ u, z 409 0 u = nI i → ¬ z 409 0 u = 0 := fun u hu h0 => by
    rw [hu] at h0
    exact absurd h0 (nI_ne0 (by omega) (by omega))
  have tk : ∀ u, u < cf 0 → z 409 0 u = nI i → z 419 0 u = nI (g u) ∧ g u < 2 ^ 31 := fun u hu h1 => by
    obtain ⟨⟨b, b1, b2⟩, -⟩ := (h.2.2 u hu).2.2.2 (live u h1)
    have : g u = b := by rw [hgd]; show (z 419 0 u).toNatClampNeg = b; rw [b2]; exact nI_clamp (by omega)
    rw [this]
    exact ⟨b2, by omega⟩
  have le3 : ∀ u, z 409 0 u = nI i → 3 ≤ z 409 0 u := fun u hu => by rw [hu]; exact nI_le (a := 3) hi.1 (by omega)
  have hk : ∀ u, u < cf 0 → (Q u = true ↔ k 203 u 0 = nI i ∧ k 208 u 0 = nI q) := fun u hu => by
    rw [Qi u, (h.2.2 u hu).1]
    constructor
    · intro hh
      obtain ⟨-, -, -, -, -, -, -, l8, -⟩ := ((h.2.2 u hu).2.2.2 (live u hh.1)).2
      exact ⟨hh.1, by rw [l8 (le3 u hh.1)]; exact hh.2⟩
    · intro hh
      obtain ⟨-, -, -, -, -, -, -, l8, -⟩ := ((h.2.2 u hu).2.2.2 (live u hh.1)).2
      exact ⟨hh.1, by rw [← l8 (le3 u hh.1)]; exact hh.2⟩
  have hg : ∀ u, u < cf 0 → Q u = true → k 206 u 0 = nI (g u) ∧ g u < 2 ^ 31 := fun u hu hh => by
    have h1 := ((Qi u).mp hh).1
    obtain ⟨-, -, l3, -⟩ := ((h.2.2 u hu).2.2.2 (live u h1)).2
    rw [l3]
    exact tk u hu h1
  refine ⟨fm_n Q g (cf 0), fun t hF => ?_, fun post hp => e_first hb hk hg hp, fun post hN hS => ?_⟩
  · obtain ⟨f1, f2, -⟩ := fm_some hF
    exact ⟨f1, (Qi t).mp f2⟩
  · have iwi : ∀ u, iw_ z (nI i) (nI q) u ↔ Q u = true := fun u => by
      rw [Qi u]
      constructor
      · intro hh
        refine ⟨hh.1, ?_⟩
        rcases hh.2 with h5 | h5
        · exact absurd h5 (nI_pos hq)
        · exact h5
      · intro hh; exact ⟨hh.1, Or.inr hh.2⟩
    rw [fm_ff] at hN hS
    refine m_inState (B := fun t u => decide ((z 409 0 u = nI i ∧ (nI q < 0 ∨ z 417 0 u = nI q)) ∧ ¬ z 419 0 t ≤ z 419 0 u)) hb (fun t u _ _ => decide_eq_true_iff) (R := fun t => Q t && decide (ct_n Q g (g t) (cf 0) = 0)) (fun t ht => ?_) hN hS
    rw [Bool.and_eq_true, decide_eq_true_iff, iwi t]
    have key : Q t = true → cb_n (fun u => decide ((z 409 0 u = nI i ∧ (nI q < 0 ∨ z 417 0 u = nI q)) ∧ ¬ z 419 0 t ≤ z 419 0 u)) (cf 0) = ct_n Q g (g t) (cf 0) := fun hQt => by
      refine cb_ct (cf 0) (fun u hu => ?_)
      rw [decide_eq_true_iff]
      obtain ⟨t1, t2⟩ := tk t ht ((Qi t).mp hQt).1
      constructor
      · intro hh
        obtain ⟨u1, u2⟩ := tk u hu hh.1.1
        have h9 := hh.2
        rw [t1, u1] at h9
        exact ⟨(iwi u).mp hh.1, Nat.not_le.mp fun h7 => h9 (nI_le h7 u2)⟩
      · intro hh
        obtain ⟨u1, u2⟩ := tk u hu ((Qi u).mp hh.1).1
        refine ⟨(iwi u).mpr hh.1, fun h9 => ?_⟩
        rw [t1, u1] at h9
        have := (nI_leI t2 u2).mp h9
        omega
    constructor
    · intro hh
      refine ⟨hh.1, ?_⟩
      rw [key hh.1, hh.2]
      rfl
    · intro hh
      refine ⟨hh.1, ?_⟩
      have h9 := hh.2
      rw [key hh.1] at h9
      have hle := ct_le (P := Q) (g := g) (x := g t) (cf 0)
      exact (nI_eq (by omega) (by decide)).mp h9
theorem Cl_mk (i : Nat) (hi : 1 ≤ i ∧ i ≤ 4) (h409 : z' 409 0 t = nI i) (p1 : k' 204 t 0 = z' 411 0 t ∧ ∃ a : Nat, a ≤ 64 ∧ z' 411 0 t = nI a) (p2 : k' 205 t 0 = z' 410 0 t) (p3 : k' 206 t 0 = z' 419 0 t) (p4 : ∃ c : Nat, c ≤ cf 1 ∧ k' 101 (2 * t) 0 = nI c ∧ z' 412 0 t = nI c ∧ (∀ j, j < c → k' 100 (2 * t) j = z' 413 t j) ∧ (i = 4 → c < cf 1)) (p5 : ∃ f : Nat, f ≤ 4 ∧ k' 101 (2 * t + 1) 0 = nI f ∧ z' 414 0 t = nI f ∧ ∀ j, j < f → k' 100 (2 * t + 1) j = z' 415 t j ∧ ∃ a : Nat, a ≤ 64 ∧ z' 415 t j = nI a) (w2 : i = 2 → k' 207 t 0 = z' 416 0 t) (w0 : ¬ i = 2 → k' 207 t 0 = 0) (q3 : 3 ≤ i → k' 208 t 0 = z' 417 0 t) (q0 : ¬ 3 ≤ i → k' 208 t 0 = -1) (s3 : i = 3 → k' 209 t 0 = z' 418 0 t) : Cl_ cf k' z' t := by
  have eq : ∀ m : Nat, m < 8 → (z' 409 0 t = nI m ↔ i = m) := fun m hm => by rw [h409]; exact nI_eq (by omega) (by omega)
  have le : 3 ≤ z' 409 0 t ↔ 3 ≤ i := by rw [h409]; exact nI_leI (a := 3) (by decide) (by omega)
  obtain ⟨c, c1, c2, c3, c4, c5⟩ := p4
  exact ⟨p1, p2, p3, ⟨c, c1, c2, c3, c4, fun h => c5 ((eq 4 (by decide)).mp h)⟩, p5, fun h => w2 ((eq 2 (by decide)).mp h), fun h => w0 (fun hh => h ((eq 2 (by decide)).mpr hh)), fun h => q3 (le.mp h), fun h => q0 (fun hh => h (le.mpr hh)), fun h => s3 ((eq 3 (by decide)).mp h)⟩
theorem Cp_queue (h : Cp_ cf a e k z) (hk : ∀ f n j, ¬ (f < 3 ∧ n = q) → k' f n j = k f n j) (hz : ∀ f n j, ¬ ((f = 421 ∧ n = 0 ∧ j = q) ∨ (f = 422 ∧ n = q)) → z' f n j = z f n j) (hq : Cq_ cf k' z' q) : Cp_ cf a e k' z' := by
  obtain ⟨⟨g1, g2, g3, g4, g5, g6, g7, g8⟩, hd, ht⟩ := h
  refine ⟨⟨fun i hi => ?_, fun i hi => ?_, fun i hi => ?_, ⟨?_, ?_⟩, ?_, ⟨?_, ?_⟩, ?_, fun u hu => ?_⟩, fun t u h1 h2 h3 h4 h5 => hd t u h1 h2 (by rw [← hz 409 0 t (by omega)]; exact h3) (by rw [← hz 409 0 u (by omega)]; exact h4) (by rw [← hz 419 0 t (by omega), ← hz 419 0 u (by omega)]; exact h5), fun t h1 => Ct_keep (ht t h1) (Nat.le_refl _) (fun f h1 h2 => hk f t 0 (by omega)) (hk _ _ _ (by omega)) (hk _ _ _ (by omega)) (fun j => hk _ _ j (by omega)) (fun j => hk _ _ j (by omega)) (fun f h1 h2 _ _ => hz f 0 t (by omega)) (fun j => hz _ _ j (by omega)) (fun j => hz _ _ j (by omega))⟩
  · rw [hk _ _ _ (by omega), hz _ _ _ (by omega)]; exact g1 i hi
  · rw [hk _ _ _ (by omega), hz _ _ _ (by omega)]; exact g2 i hi
  · rw [hk _ _ _ (by omega), hz _ _ _ (by omega)]; exact g3 i hi
  · rw [hk _ _ _ (by omega)]; exact g4.1
  · rw [hz _ _ _ (by omega)]; exact g4.2
  · rw [hk _ _ _ (by omega), hz _ _ _ (by omega)]; exact g5
  · rw [hk _ _ _ (by omega)]; exact g6.1
  · rw [hz _ _ _ (by omega)]; exact g6.2
  · rw [hk _ _ _ (by omega), hz _ _ _ (by omega)]; exact g7
  · by_cases e1 : u = q
    · subst e1; exact hq
    · exact Cq_keep (g8 u hu) (fun f j hf => hk f u j (by omega)) (hz _ _ _ (by omega)) (fun j => hz _ _ _ (by omega))
def wr_ (cf : Nat → Nat) (m : Nat) : Nat := if m < cf 3 then m else m - cf 3
theorem e_slot {post : Int32 → ka_T → Prop} (hb : Cb_ cf) (hf : k 1 q 0 = nI f) (h1 : f < cf 3) (h2 : c ≤ cf 3) (hp : post (nI (wr_ cf (f + c))) k) : q_X0_slot cf post q (nI c) k := by
  have h6 := hb.2.2.2.2.2.2
  unfold q_X0_slot
  rw [hf, nI_add]
  unfold wr_ at hp
  refine ⟨fun h3 => ?_, fun h3 => ?_⟩
  · have h4 := (nI_leI (show cf 3 < 2 ^ 31 by omega) (show f + c < 2 ^ 31 by omega)).mp h3
    rw [if_neg (by omega)] at hp
    rw [pk_sub h4]
    exact hp
  · have h4 : ¬ cf 3 ≤ f + c := fun hh => h3 (nI_le hh (by omega))
    rw [if_pos (by omega)] at hp
    exact hp
theorem e_add {post : Int32 → ka_T → Prop} (hb : Cb_ cf) (hc : k 2 q 0 = nI c) (hf : k 1 q 0 = nI f) (h1 : f < cf 3) (h2 : c < cf 3) (hp : post 1 (k3_up (k3_up k 0 q (wr_ cf (f + c)) v) 2 q 0 (nI (c + 1)))) : q_X0_addLast cf post q v k := by
  have h6 := hb.2.2.2.2.2.2
  have hw : wr_ cf (f + c) < cf 3 := by unfold wr_; split <;> omega
  unfold q_X0_addLast
  rw [hc]
  refine ⟨fun _ => e_slot hb hf h1 (by omega) ⟨vp_in_nI hw (by omega), fun k3 e3 k4 e4 => ?_⟩, fun hn => absurd (nI_lt h2 (by omega)) hn⟩
  rw [nI_clamp (by omega)] at e3
  have f1 : k3 2 q 0 = nI c := by rw [e3, k3_ne (by omega)]; exact hc
  rw [e4, f1, nI_1, e3]
  exact hp
theorem e_addF {post : Int32 → ka_T → Prop} (hc : k 2 q 0 = nI (cf 3)) (hp : post 0 k) : q_X0_addLast cf post q v k := by
  unfold q_X0_addLast
  rw [hc]
  exact ⟨fun hn => absurd hn Int32.lt_irrefl, fun _ => hp⟩
theorem m_append {post : ka_T → Prop} (h4 : q < 4) (hc : z 421 0 q = nI c) (h6 : c < 6) (hp : post (k3_up (k3_up z 422 q c v) 421 0 q (nI (c + 1)))) : q_X4_append cf post (nI q) v z := by
  have v4 : vp_in (nI q) 4 := vp_in_nI h4 (by decide)
  have f4 : (6 : Int32) * nI q + nI c = nI (6 * q + c) := by rw [show (6 : Int32) = nI 6 from rfl, pk_mul, nI_add]
  unfold q_X4_append
  rw [nI_clamp (show q < 2 ^ 31 by omega), hc, f4, nI_clamp (show 6 * q + c < 2 ^ 31 by omega), show (6 * q + c) / 6 = q by omega, show (6 * q + c) % 6 = c by omega]
  refine ⟨v4, vp_in_nI (by omega) (by decide), fun k1 e1 => ⟨v4, v4, fun k2 e2 => ?_⟩⟩
  have f1 : k1 421 0 q = nI c := by rw [e1, k3_ne (by omega)]; exact hc
  rw [e2, f1, nI_1, e1]
  exact hp
/-- a number goes to the end of a queue -/
theorem cp_add (hb : Cb_ cf) (h : Cp_ cf a e k z) (hc : k 2 q 0 = nI c) (hf : k 1 q 0 = nI f) (hz : z 421 0 q = nI c) (h1 : f < cf 3) (h2 : c < cf 3) (h5 : ∀ j, j < c → k 0 q (if f + j < cf 3 then f + j else f + j - cf 3) = z 422 q j) (v : Int32) : Cp_ cf a e (k3_up (k3_up k 0 q (wr_ cf (f + c)) v) 2 q 0 (nI (c + 1))) (k3_up (k3_up z 422 q c v) 421 0 q (nI (c + 1))) := by
  refine Cp_queue (q := q) h (fun f' n j hn => by rw [k3_ne (by omega), k3_ne (by omega)]) (fun f' n j hn => by rw [k3_ne (by omega), k3_ne (by omega)]) ⟨c + 1, f, by omega, h1, k3_same _ _ _ _ _, by rw [k3_ne (by omega), k3_ne (by omega)]; exact hf, k3_same _ _ _ _ _, fun j hj => ?_⟩
  rw [k3_ne (show ¬ (0 = 2 ∧ q = q ∧ (if f + j < cf 3 then f + j else f + j - cf 3) = 0) by omega), k3_ne (show ¬ (422 = 421 ∧ q = 0 ∧ j = q) by omega)]
  unfold wr_
  by_cases ej : j = c
  · subst ej; rw [k3_same, k3_same]
  · rw [k3_ne (x := k) (by split <;> split <;> omega), k3_ne (by omega)]
    exact h5 j (by omega)
theorem e_qu1 {post : Int32 → ka_T → Prop} (hb : Cb_ cf) (hj : j < cf 2) (h : post 1 k) : q_X3_isQueue cf post (nI j) k := by
  have h4 := hb.2.2.2.2.1
  exact ⟨fun hn => absurd hn (nI_pos (by omega)), fun _ => ⟨fun hn => absurd hn (nI_ge hj (by omega)), fun _ => h⟩⟩
theorem e_qu0 {post : Int32 → ka_T → Prop} (hv : v < 0 ∨ nI (cf 2) ≤ v) (h : post 0 k) : q_X3_isQueue cf post v k :=
  ⟨fun _ => h, fun h0 => ⟨fun _ => h, fun hn => by rcases hv with hv | hv; exact absurd hv h0; exact absurd hv hn⟩⟩
theorem m_qu1 {post : Int32 → ka_T → Prop} (hb : Cb_ cf) (hj : j < cf 2) (ht : z 426 0 0 = 0) (h : post 0 z) : q_X4_noQueue cf post (nI j) z := by
  have h4 := hb.2.2.2.2.1
  exact ⟨fun hn => absurd hn (nI_pos (by omega)), fun _ => ⟨fun _ => ⟨fun _ => h, fun hn => absurd (i0_le ht) hn⟩, fun hn => absurd (nI_lt hj (by omega)) hn⟩⟩
theorem m_qu0 {post : Int32 → ka_T → Prop} (hv : v < 0 ∨ ¬ v < nI (cf 2)) (ht : z 426 0 0 = 0) (h : post 1 (k3_up z 426 0 0 6)) : q_X4_noQueue cf post v z := by
  have g : q_X4_fall cf (fun k2 => ((k2 426 0 0) ≤ 0 → (post (0 : Int32) k2)) ∧ (¬ (k2 426 0 0) ≤ 0 → (post (1 : Int32) k2))) 6 z := m_fall0 ht ⟨fun hn => absurd hn (by rw [k3_same]; decide), fun _ => h⟩
  exact ⟨fun _ => g, fun h0 => ⟨fun hn => by rcases hv with hv | hv; exact absurd hv h0; exact absurd hn hv, fun _ => g⟩⟩
/-- no queue at all, or a number against the queues -/
theorem ix_q (v : Int32) (hb : Cb_ cf) : (∃ j, j < cf 2 ∧ v = nI j) ∨ ((v < 0 ∨ nI (cf 2) ≤ v) ∧ (v < 0 ∨ ¬ v < nI (cf 2))) := by
  have h4 := hb.2.2.2.2.1
  rcases pk_ix v (n := cf 2) (by omega) with h | h | h
  · exact Or.inr ⟨Or.inl h, Or.inl h⟩
  · refine Or.inr ⟨Or.inr h, Or.inr (fun hh => ?_)⟩
    rw [Int32.le_iff_toInt_le] at h
    rw [Int32.lt_iff_toInt_lt] at hh
    omega
  · exact Or.inl h
/-- the running task waits at a queue -/
theorem cp_wait (hb : Cb_ cf) (h : Cs_ cf a e k z s) (ha : a < 2 ^ 31) (i : Nat) (hi : 3 ≤ i ∧ i ≤ 4) (h4 : i = 4 → ∀ c, c ≤ cf 1 → z 412 0 s = nI c → c < cf 1) (x w : Int32)
    (ek : k' = k3_up (en_ k s (nI i)) 208 s 0 x ∨ k' = k3_up (k3_up (en_ k s (nI i)) 208 s 0 x) 209 s 0 w) (ez : z' = se_ (k3_up z 417 0 s x) s (nI i) ∨ z' = se_ (k3_up (k3_up z 418 0 s w) 417 0 s x) s (nI i)) (h3 : i = 3 → k' = k3_up (k3_up (en_ k s (nI i)) 208 s 0 x) 209 s 0 w ∧ z' = se_ (k3_up (k3_up z 418 0 s w) 417 0 s x) s (nI i)) : Cp_ cf (a + 1) e k' z' := by
  have g := h.1.1.2.2.2.2.2.1
  obtain ⟨t1, t2, t3, t4⟩ := h.1.2.2 s h.2.1
  have l := cs_l h
  have ko : ∀ f n j, ¬ ((f = 208 ∨ f = 209) ∧ n = s) → k' f n j = en_ k s (nI i) f n j := fun f n j hn => by
    rcases ek with ek | ek
    · rw [ek, k3_ne (by omega)]
    · rw [ek, k3_ne (by omega), k3_ne (by omega)]
  have k208 : k' 208 s 0 = x := by
    rcases ek with ek | ek
    · rw [ek, k3_same]
    · rw [ek, k3_ne (by omega), k3_same]
  obtain ⟨z1, ez1, zo, z417⟩ : ∃ z1, z' = se_ z1 s (nI i) ∧ (∀ f n j, ¬ ((f = 417 ∨ f = 418) ∧ n = 0 ∧ j = s) → z1 f n j = z f n j) ∧ z1 417 0 s = x := by
    rcases ez with ez | ez
    · exact ⟨_, ez, fun f n j hn => k3_ne (by omega), k3_same _ _ _ _ _⟩
    · exact ⟨_, ez, fun f n j hn => by rw [k3_ne (by omega), k3_ne (by omega)], k3_same _ _ _ _ _⟩
  have z408 : z1 408 0 0 = nI a := by rw [zo _ _ _ (by omega)]; exact g.2
  have k307 : k' 307 0 0 = nI (a + 1) := by rw [ko _ _ _ (by omega), en_307, g.1, nI_1]
  have sm : ∀ f n j, ¬ (409 ≤ f ∧ f < 421 ∧ n = 0 ∧ j = s ∧ ¬ (410 ≤ f ∧ f ≤ 416) ∧ ¬ f = 420) → ¬ f = 408 → z' f n j = z f n j := fun f n j h1 h2 => by rw [ez1, se_o (by omega) h2, zo _ _ _ (by omega)]
  refine Cp_ent (Cp_x h.1 h.2.1) ha i (by omega) (fun f n j hn => ?_) (fun f n j hn => ?_) k307 (by rw [ez1, se_408, z408, nI_1]) (by rw [ko _ _ _ (by omega)]; exact en_203) (by rw [ez1]; exact se_409) (by rw [ez1, se_419]; exact z408) (by rw [ko _ _ _ (by omega), en_o (by omega) (by omega), sm _ _ _ (by omega) (by omega)]; exact t2) ?_
  · rw [ko _ _ _ (fun hh => hn (by unfold KO_; omega))]
    exact en_o (fun hh => hn (by unfold KO_; omega)) (fun hh => hn (by unfold KO_; omega))
  · rw [ez1, se_o (fun hh => hn (by unfold ZO_; omega)) (fun hh => hn (by unfold ZO_; omega)), zo _ _ _ (fun hh => hn (by unfold ZO_; omega))]
  · refine Cl_ent l hb.2.2.2.1 i (by omega) (by rw [ez1]; exact se_409) (by rw [ko _ _ _ (by omega)]; exact en_o (by omega) (by omega)) (by rw [ko _ _ _ (by omega)]; exact en_o (by omega) (by omega)) (fun j => by rw [ko _ _ _ (by omega)]; exact en_o (by omega) (by omega)) (fun j => by rw [ko _ _ _ (by omega)]; exact en_o (by omega) (by omega)) (by rw [ko _ _ _ (by omega)]; exact en_o (by omega) (by omega)) (by rw [ko _ _ _ (by omega)]; exact en_o (by omega) (by omega)) (sm _ _ _ (by omega) (by omega)) (sm _ _ _ (by omega) (by omega)) (sm _ _ _ (by omega) (by omega)) (fun j => sm _ _ _ (by omega) (by omega)) (sm _ _ _ (by omega) (by omega)) (fun j => sm _ _ _ (by omega) (by omega)) (by rw [ko _ _ _ (by omega), en_206, ez1, se_419, g.1, z408]) h4 (fun h9 => absurd h9 (by omega)) (fun _ => by rw [ko _ _ _ (by omega)]; exact en_207) (fun _ => by rw [k208, ez1, se_o (by omega) (by omega)]; exact z417.symm) (fun h9 => absurd hi.1 h9) (fun h9 => ?_)
    obtain ⟨e1, e2⟩ := h3 h9
    rw [e1, e2, k3_same, se_o (by omega) (by omega), k3_ne (by omega), k3_same]
/-- a number is laid on the stack of a task that waits for it, and it is ready -/
theorem cp_give (hb : Cb_ cf) (h : Cp_ cf a e k z) (ht : t < cf 0) (hl : z 409 0 t = nI 4) (ha : a < 2 ^ 31) (hc : k 101 (2 * t) 0 = nI c) (hz : z 412 0 t = nI c) (hc2 : c < cf 1) (h5 : ∀ j, j < c → k 100 (2 * t) j = z 413 t j) (v : Int32) : Cp_ cf (a + 1) e (en_ (k3_up (k3_up k 100 (2 * t) c v) 101 (2 * t) 0 (nI (c + 1))) t 1) (se_ (k3_up (k3_up z 413 t c v) 412 0 t (nI (c + 1))) t 1) := by
  have g := h.1.2.2.2.2.2.1
  obtain ⟨t1, t2, t3, t4⟩ := h.2.2 t ht
  obtain ⟨⟨l1, l1b⟩, l2, l3, -, ⟨f, f1, f2, f3, f4⟩, -⟩ := (t4 (by rw [hl]; decide)).2
  obtain ⟨k1, ek⟩ : ∃ k1, k1 = k3_up (k3_up k 100 (2 * t) c v) 101 (2 * t) 0 (nI (c + 1)) := ⟨_, rfl⟩
  obtain ⟨z1, ez⟩ : ∃ z1, z1 = k3_up (k3_up z 413 t c v) 412 0 t (nI (c + 1)) := ⟨_, rfl⟩
  rw [← ek, ← ez]
  have ko : ∀ f n j, ¬ ((f = 100 ∨ f = 101) ∧ n = 2 * t) → k1 f n j = k f n j := fun f n j hn => by rw [ek, k3_ne (by omega), k3_ne (by omega)]
  have zo : ∀ f n j, ¬ ((f = 412 ∧ n = 0 ∧ j = t) ∨ (f = 413 ∧ n = t)) → z1 f n j = z f n j := fun f n j hn => by rw [ez, k3_ne (by omega), k3_ne (by omega)]
  have k307 : k1 307 0 0 = nI a := by rw [ko _ _ _ (by omega)]; exact g.1
  have z408 : z1 408 0 0 = nI a := by rw [zo _ _ _ (by omega)]; exact g.2
  refine Cp_ent (Cp_x h ht) ha 1 (by decide) (fun f n j hn => ?_) (fun f n j hn => ?_) (by rw [en_307, k307, nI_1]) (by rw [se_408, z408, nI_1]) en_203 se_409 (by rw [se_419]; exact z408) (by rw [en_o (by omega) (by omega), ko _ _ _ (by omega), se_o (by omega) (by omega), zo _ _ _ (by omega)]; exact t2) ?_
  · rw [en_o (fun hh => hn (by unfold KO_; omega)) (fun hh => hn (by unfold KO_; omega))]
    exact ko _ _ _ (fun hh => hn (by unfold KO_; omega))
  · rw [se_o (fun hh => hn (by unfold ZO_; omega)) (fun hh => hn (by unfold ZO_; omega))]
    exact zo _ _ _ (fun hh => hn (by unfold ZO_; omega))
  · refine Cl_mk 1 (by decide) se_409 ⟨?_, ?_⟩ ?_ ?_ ⟨c + 1, by omega, ?_, ?_, fun j hj => ?_, fun h9 => absurd h9 (by decide)⟩ ⟨f, f1, ?_, ?_, fun j hj => ?_⟩ (fun h9 => absurd h9 (by decide)) (fun _ => en_207) (fun h9 => absurd h9 (by decide)) (fun _ => en_208) (fun h9 => absurd h9 (by decide))
    · rw [en_o (by omega) (by omega), se_o (by omega) (by omega), ko _ _ _ (by omega), zo _ _ _ (by omega)]; exact l1
    · rw [se_o (by omega) (by omega), zo _ _ _ (by omega)]; exact l1b
    · rw [en_o (by omega) (by omega), se_o (by omega) (by omega), ko _ _ _ (by omega), zo _ _ _ (by omega)]; exact l2
    · rw [en_206, se_419, k307, z408]
    · rw [en_o (by omega) (by omega), ek, k3_same]
    · rw [se_o (by omega) (by omega), ez, k3_same]
    · rw [en_o (by omega) (by omega), se_o (by omega) (by omega), ek, ez, k3_ne (by omega), k3_ne (show ¬ (413 = 412 ∧ t = 0 ∧ j = t) by omega)]
      by_cases ej : j = c
      · subst ej; rw [k3_same, k3_same]
      · rw [k3_ne (by omega), k3_ne (by omega)]; exact h5 j (by omega)
    · rw [en_o (by omega) (by omega), ko _ _ _ (by omega)]; exact f2
    · rw [se_o (by omega) (by omega), zo _ _ _ (by omega)]; exact f3
    · rw [en_o (by omega) (by omega), se_o (by omega) (by omega), ko _ _ _ (by omega), zo _ _ _ (by omega)]; exact f4 j hj
end O8
