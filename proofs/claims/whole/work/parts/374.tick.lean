/-! tick, side by side -/
section OV
variable {cf : Nat → Nat} {a e : Nat} {k z : ka_T} {s t c d p j f n m : Nat} {v x y o q : Int32}
theorem e_due {post : Option Nat → ka_T → Prop} (hb : Cb_ cf) {Q : Nat → Bool} {g : Nat → Nat} (hQ : ∀ u, u < cf 0 → (Q u = true ↔ k 203 u 0 = 2 ∧ k 207 u 0 = k 306 0 0)) (hg : ∀ u, u < cf 0 → Q u = true → k 206 u 0 = nI (g u) ∧ g u < 2 ^ 31) (hp : post (fm_n Q g (cf 0)) k) : q_X3_firstDueSleeper cf post k := by
  have h8 := hb.2.1
  have key : ∀ d i, i + d = cf 0 → q_X3_firstDueSleeper_4 cf post (d + 1) (fm_n Q g i) (nI i) k := by
    intro d
    induction d with
    | zero =>
      intro i hi
      have : i = cf 0 := by omega
      subst this
      refine ⟨fun h0 => ⟨fun _ => by rw [← h0]; exact hp, fun hh => absurd (nI_le (Nat.le_refl _) (by omega)) hh⟩, fun n3 h0 _ => ⟨fun _ => by rw [← h0]; exact hp, fun hh => absurd (nI_le (Nat.le_refl _) (by omega)) hh⟩⟩
    | succ d ih =>
      intro i hi
      have ci : (nI i).toNatClampNeg = i := nI_clamp (by omega)
      have vi : vp_in (nI i) (cf 0) := vp_in_nI (by omega) (by omega)
      have nxt := ih (i + 1) (by omega)
      refine ⟨fun h0 => ⟨fun hh => absurd hh (nI_ge (by omega) (by omega)), fun _ => ⟨vi, fun t2 e2 _ => ?_⟩⟩, fun n3 h0 hn3 => ⟨fun hh => absurd hh (nI_ge (by omega) (by omega)), fun _ => ⟨vi, fun t6 e6 _ => ?_⟩⟩⟩
      · rw [ci] at e2
        subst e2
        have no : ¬ (k 203 t2 0 = 2 ∧ k 207 t2 0 = k 306 0 0) → q_X3_firstDueSleeper_4 cf post (d + 1) none (nI t2 + 1) k := fun hh => by
          have e1 : fm_n Q g (t2 + 1) = none := by
            show (match fm_n Q g t2 with | none => if Q t2 = true then some t2 else none | some b => if Q t2 = true ∧ g t2 < g b then some t2 else some b) = none
            rw [h0]
            exact if_neg (fun h9 => hh ((hQ t2 (by omega)).mp h9))
          rw [e1, ← nI_1] at nxt
          exact nxt
        have yes : (k 203 t2 0 = 2 ∧ k 207 t2 0 = k 306 0 0) → q_X3_firstDueSleeper_4 cf post (d + 1) (some t2) (nI t2 + 1) k := fun hh => by
          have e1 : fm_n Q g (t2 + 1) = some t2 := by
            show (match fm_n Q g t2 with | none => if Q t2 = true then some t2 else none | some b => if Q t2 = true ∧ g t2 < g b then some t2 else some b) = some t2
            rw [h0]
            exact if_pos ((hQ t2 (by omega)).mpr hh)
          rw [e1, ← nI_1] at nxt
          exact nxt
        exact ⟨fun h1 => no (fun hh => h1 hh.1), fun h1 => ⟨fun h2 => no (fun hh => h2 hh.2), fun h2 => yes ⟨h1, h2⟩⟩⟩
      · rw [ci] at e6
        subst e6
        obtain ⟨b1, b2, b3, b4⟩ := fm_some h0
        have no : ¬ ((k 203 t6 0 = 2 ∧ k 207 t6 0 = k 306 0 0) ∧ g t6 < g n3) → q_X3_firstDueSleeper_4 cf post (d + 1) (some n3) (nI t6 + 1) k := fun hh => by
          have e1 : fm_n Q g (t6 + 1) = some n3 := by
            show (match fm_n Q g t6 with | none => if Q t6 = true then some t6 else none | some b => if Q t6 = true ∧ g t6 < g b then some t6 else some b) = some n3
            rw [h0]
            exact if_neg (fun h9 => hh ⟨(hQ t6 (by omega)).mp h9.1, h9.2⟩)
          rw [e1, ← nI_1] at nxt
          exact nxt
        have yes : (k 203 t6 0 = 2 ∧ k 207 t6 0 = k 306 0 0) → g t6 < g n3 → q_X3_firstDueSleeper_4 cf post (d + 1) (some t6) (nI t6 + 1) k := fun hh h3 => by
          have e1 : fm_n Q g (t6 + 1) = some t6 := by
            show (match fm_n Q g t6 with | none => if Q t6 = true then some t6 else none | some b => if Q t6 = true ∧ g t6 < g b then some t6 else some b) = some t6
            rw [h0]
            exact if_pos ⟨(hQ t6 (by omega)).mpr hh, h3⟩
          rw [e1, ← nI_1] at nxt
          exact nxt
        refine ⟨fun h1 => no (fun hh => h1 hh.1.1), fun h1 => ⟨fun h2 => no (fun hh => h2 hh.1.2), fun h2 => ?_⟩⟩
        obtain ⟨g1, g2⟩ := hg n3 hn3 b2
        obtain ⟨g3, g4⟩ := hg t6 (by omega) ((hQ t6 (by omega)).mpr ⟨h1, h2⟩)
        rw [g1, g3]
        exact ⟨fun h3 => no (fun hh => by have := (nI_leI g2 g4).mp h3; omega), fun h3 => yes ⟨h1, h2⟩ (Nat.not_le.mp fun hh => h3 (nI_le hh g4))⟩
  exact ⟨cf 0 + 1, key (cf 0) 0 (by omega)⟩
/-- sleepers, their tickets, how many have a ticket below x -/
def sq_ (cf : Nat → Nat) (z : ka_T) (u : Nat) : Bool := decide (z 409 0 u = 2 ∧ u < cf 0)
def sg_ (z : ka_T) (u : Nat) : Nat := (z 419 0 u).toNatClampNeg
def sn_ (cf : Nat → Nat) (z : ka_T) (x : Nat) : Nat := ct_n (sq_ cf z) (sg_ z) x (cf 0)
theorem sq_i {u : Nat} : sq_ cf z u = true ↔ z 409 0 u = 2 ∧ u < cf 0 := decide_eq_true_iff
theorem sg_t (h : Cp_ cf a e k z) (ha : a < 2 ^ 31) {u : Nat} (hu : sq_ cf z u = true) : (z 419 0 u = nI (sg_ z u) ∧ sg_ z u < 2 ^ 31) ∧ k 203 u 0 = 2 ∧ k 206 u 0 = z 419 0 u ∧ k 207 u 0 = z 416 0 u := by
  obtain ⟨h1, h2⟩ := sq_i.mp hu
  obtain ⟨c1, -, -, c4⟩ := h.2.2 u h2
  obtain ⟨⟨b, b1, b2⟩, -, -, l3, -, -, l6, -⟩ := c4 (by rw [h1]; decide)
  have : sg_ z u = b := by unfold sg_; rw [b2]; exact nI_clamp (by omega)
  rw [this]
  exact ⟨⟨b2, by omega⟩, c1.trans h1, l3, l6 h1⟩
theorem sg_d (h : Cp_ cf a e k z) (ha : a < 2 ^ 31) {u w : Nat} (hu : sq_ cf z u = true) (hw : sq_ cf z w = true) (he : sg_ z u = sg_ z w) : u = w := by
  obtain ⟨u1, u2⟩ := sq_i.mp hu
  obtain ⟨w1, w2⟩ := sq_i.mp hw
  refine h.2.1 u w u2 w2 (by rw [u1]; decide) (by rw [w1]; decide) ?_
  rw [(sg_t h ha hu).1.1, (sg_t h ha hw).1.1, he]
theorem sq_w {u : Nat} (hu : u < cf 0) : sq_ cf z u = true ↔ iw_ z 2 (-1) u := by
  rw [sq_i]
  exact ⟨fun h => ⟨h.1, Or.inl (by decide)⟩, fun h => ⟨h.1, hu⟩⟩
theorem op_tick0 (hb : Cb_ cf) (h : Cp_ cf a e k z) (ha : a < 2 ^ 31) {μ w X S : Nat} (hw : w ≤ cf 0) (hi : ∀ u, sq_ cf z u = true → sg_ z u < X → ¬ z 416 0 u = z 407 0 0) (hno : ∀ t, sq_ cf z t = true → ¬ sn_ cf z (sg_ z t) = sn_ cf z X) : ∃ (r : Int32) (k' z' : ka_T), Af_ cf S a e k' z' ∧ (∀ post : Int32 → ka_T → Prop, post r k' → q_X3_tick_12 cf post (S + 1) (nI w) k) ∧ ∀ post : Int32 → ka_T → Prop, post r z' → q_X4_inState cf (fun r5 k5 => q_X4_tick_22 cf post (μ + 1) (nI w) (nI (sn_ cf z X)) r5 k5) 2 (-1) (nI (sn_ cf z X)) z := by
  have h8 := hb.2.1
  have all : ∀ u, sq_ cf z u = true → ¬ z 416 0 u = z 407 0 0 := fun u hu => by
    by_cases hx : sg_ z u < X
    · exact hi u hu hx
    · obtain ⟨v, v1, v2⟩ := ct_rank (P := sq_ cf z) (g := sg_ z) (n := cf 0) (fun i j _ _ h1 h2 h3 => sg_d h ha h1 h2 h3) (fun i hi => (sq_i.mp hi).2) (sn_ cf z X) u hu (ct_mono (by omega) _)
      exact absurd v2 (hno v v1)
  have clk : k 306 0 0 = z 407 0 0 := h.1.2.2.2.2.1
  refine ⟨nI w, k, z, Af_0 h S, fun post hq => ⟨fun hle => ?_, fun _ => ?_⟩, fun post hq => ?_⟩
  · have := (nI_leI (by omega) (by omega)).mp hle
    have : w = cf 0 := by omega
    rw [← this]
    exact hq
  · refine e_due hb (Q := fun u => decide ((k 203 u 0 = 2 ∧ k 207 u 0 = k 306 0 0) ∧ u < cf 0)) (g := sg_ z) (fun u hu => ?_) (fun u hu hQ => ?_) ?_
    · rw [decide_eq_true_iff]
      exact ⟨fun h => h.1, fun h => ⟨h, hu⟩⟩
    · rw [decide_eq_true_iff] at hQ
      have hs : sq_ cf z u = true := sq_i.mpr ⟨by rw [← (h.2.2 u hu).1]; exact hQ.1.1, hu⟩
      obtain ⟨g1, -, g3, -⟩ := sg_t h ha hs
      rw [g3]
      exact g1
    · cases hf : fm_n (fun u => decide ((k 203 u 0 = 2 ∧ k 207 u 0 = k 306 0 0) ∧ u < cf 0)) (sg_ z) (cf 0) with
      | none => exact ⟨fun _ => hq, fun t2 h2 => by cases h2⟩
      | some b =>
        obtain ⟨f1, f2, -⟩ := fm_some hf
        simp only [decide_eq_true_iff] at f2
        have hs : sq_ cf z b = true := sq_i.mpr ⟨by rw [← (h.2.2 b f1).1]; exact f2.1.1, f1⟩
        obtain ⟨-, -, -, g4⟩ := sg_t h ha hs
        exact absurd (by rw [← g4, ← clk]; exact f2.1.2) (all b hs)
  · have cle := ct_le (P := sq_ cf z) (g := sg_ z) (x := X) (cf 0)
    refine m_in hb (Q := sq_ cf z) (g := sg_ z) (fun u hu => sq_w hu) (fun u _ hQ => (sg_t h ha hQ).1) (fun _ => ⟨fun _ => hq, fun hh => absurd (by decide) hh⟩) (fun t ht hQ he _ => ?_)
    have tle := ct_le (P := sq_ cf z) (g := sg_ z) (x := sg_ z t) (cf 0)
    unfold sn_ at he hno
    exact absurd ((nI_eq (by omega) (by omega)).mp he) (hno t hQ)
theorem op_tick1 (hb : Cb_ cf) : ∀ μ w a e (k z : ka_T) (X S : Nat), Cp_ cf a e k z → S = sn_ cf z (2 ^ 32) → w + S ≤ cf 0 → S ≤ sn_ cf z X + μ → (∀ u, sq_ cf z u = true → sg_ z u < X → ¬ z 416 0 u = z 407 0 0) → a + S < 2 ^ 31 → ∃ (r : Int32) (k' z' : ka_T), Af_ cf S a e k' z' ∧ (∀ post : Int32 → ka_T → Prop, post r k' → q_X3_tick_12 cf post (S + 1) (nI w) k) ∧ ∀ post : Int32 → ka_T → Prop, post r z' → q_X4_inState cf (fun r5 k5 => q_X4_tick_22 cf post (μ + 1) (nI w) (nI (sn_ cf z X)) r5 k5) 2 (-1) (nI (sn_ cf z X)) z := by
  have h8 := hb.2.1
  intro μ
  induction μ with
  | zero =>
    intro w a e k z X S h hS hw hm hi ha
    refine op_tick0 hb h (by omega) (by omega) hi (fun t ht hr => ?_)
    have := ct_lt (x := sg_ z t) (y := 2 ^ 32) (sq_i.mp ht).2 ht (Nat.le_refl _) (by have := (sg_t h (by omega) ht).1.2; omega)
    unfold sn_ at hS hr hm
    omega
  | succ μ ih =>
    intro w a e k z X S h hS hw hm hi ha
    by_cases hex : ∃ t, sq_ cf z t = true ∧ sn_ cf z (sg_ z t) = sn_ cf z X
    · obtain ⟨t, ht, hr⟩ := hex
      obtain ⟨t1, t2⟩ := sq_i.mp ht
      obtain ⟨⟨tk1, tk2⟩, tk3, tk4, tk5⟩ := sg_t h (by omega) ht
      have clk : k 306 0 0 = z 407 0 0 := h.1.2.2.2.2.1
      have ct : (nI t).toNatClampNeg = t := nI_clamp (by omega)
      have vt : vp_in (nI t) 8 := vp_in_nI (by omega) (by omega)
      have lS : sn_ cf z X < S := by
        have := ct_lt (x := sg_ z t) (y := 2 ^ 32) t2 ht (Nat.le_refl _) (by omega)
        rw [← hr, hS]
        exact this
      have below : ∀ u, sq_ cf z u = true → sg_ z u < sg_ z t → ¬ z 416 0 u = z 407 0 0 := fun u hu hlt => by
        by_cases hx : sg_ z u < X
        · exact hi u hu hx
        · have := ct_lt (x := X) (y := sg_ z t) (sq_i.mp hu).2 hu (by omega) hlt
          unfold sn_ at hr
          omega
      have kle := ct_le (P := sq_ cf z) (g := sg_ z) (x := X) (cf 0)
      have uni : ∀ u, u < cf 0 → sq_ cf z u = true → nI (ct_n (sq_ cf z) (sg_ z) (sg_ z u) (cf 0)) = nI (sn_ cf z X) → u = t := fun u hu hq he => by
        have ule := ct_le (P := sq_ cf z) (g := sg_ z) (x := sg_ z u) (cf 0)
        have he2 := (nI_eq (by omega) (by unfold sn_; omega)).mp he
        unfold sn_ at hr he2
        refine sg_d h (by omega) hq ht ?_
        by_cases c1 : sg_ z u < sg_ z t
        · have := ct_lt (x := sg_ z u) (y := sg_ z t) hu hq (Nat.le_refl _) c1
          omega
        · by_cases c2 : sg_ z t < sg_ z u
          · have := ct_lt (x := sg_ z t) (y := sg_ z u) t2 ht (Nat.le_refl _) c2
            omega
          · omega
      by_cases due : z 416 0 t = z 407 0 0
      · have hd := cp_ready hb h t2 (by rw [t1]; decide) (show a < 2 ^ 31 by omega)
        obtain ⟨k1, ek1⟩ : ∃ k1, k1 = en_ k t 1 := ⟨_, rfl⟩
        obtain ⟨z1, ez1⟩ : ∃ z1, z1 = se_ z t 1 := ⟨_, rfl⟩
        rw [← ek1, ← ez1] at hd
        have o1 : ∀ u, ¬ u = t → sq_ cf z1 u = sq_ cf z u ∧ sg_ z1 u = sg_ z u := fun u hu => by
          unfold sq_ sg_
          rw [ez1, se_o (by omega) (by omega), se_o (by omega) (by omega)]
          exact ⟨rfl, rfl⟩
        have q1 : sq_ cf z1 t = false := by
          unfold sq_
          rw [ez1, se_409]
          exact decide_eq_false (fun hh => absurd hh.1 (by decide))
        have d1 := ct_drop (x := 2 ^ 32) ht (by omega) q1 o1 (cf 0)
        rw [if_pos t2] at d1
        have d2 := ct_same (x := sg_ z t) (Nat.lt_irrefl _) q1 o1 (cf 0)
        have d3 : sn_ cf z1 (sg_ z t) = sn_ cf z X := d2.symm.trans hr
        obtain ⟨S1, eS1⟩ : ∃ S1, S1 = sn_ cf z1 (2 ^ 32) := ⟨_, rfl⟩
        have eS : S = S1 + 1 := by rw [hS, eS1]; exact d1
        obtain ⟨r, k2, z2, ⟨a2, e2, s1, s2, s3, s4, s5⟩, w1, w2⟩ := ih (w + 1) (a + 1) e k1 z1 (sg_ z t) S1 hd eS1 (by omega) (by rw [d3]; omega) (fun u hu hlt => by
          have hne : ¬ u = t := fun hh => by rw [hh, q1] at hu; cases hu
          obtain ⟨o2, o3⟩ := o1 u hne
          rw [o2] at hu
          rw [o3] at hlt
          rw [ez1, se_o (by omega) (by omega), se_o (by omega) (by omega)]
          exact below u hu hlt) (by omega)
        rw [d3] at w2
        refine ⟨r, k2, z2, ⟨a2, e2, by omega, by omega, by omega, by omega, s5⟩, fun post hq => ?_, fun post hq => ?_⟩
        · rw [eS]
          refine ⟨fun hle => absurd hle (nI_ge (by omega) (by omega)), fun _ => ?_⟩
          refine e_due hb (Q := fun u => decide ((k 203 u 0 = 2 ∧ k 207 u 0 = k 306 0 0) ∧ u < cf 0)) (g := sg_ z) (fun u hu => ?_) (fun u hu hQ => ?_) ?_
          · rw [decide_eq_true_iff]
            exact ⟨fun h => h.1, fun h => ⟨h, hu⟩⟩
          · rw [decide_eq_true_iff] at hQ
            have hs : sq_ cf z u = true := sq_i.mpr ⟨by rw [← (h.2.2 u hu).1]; exact hQ.1.1, hu⟩
            obtain ⟨g1, -, g3, -⟩ := sg_t h (by omega) hs
            rw [g3]
            exact g1
          · have hf : fm_n (fun u => decide ((k 203 u 0 = 2 ∧ k 207 u 0 = k 306 0 0) ∧ u < cf 0)) (sg_ z) (cf 0) = some t := by
              cases hf : fm_n (fun u => decide ((k 203 u 0 = 2 ∧ k 207 u 0 = k 306 0 0) ∧ u < cf 0)) (sg_ z) (cf 0) with
              | none =>
                have := fm_none hf t t2
                simp only [decide_eq_false_iff_not] at this
                exact absurd ⟨⟨tk3, by rw [tk5, clk]; exact due⟩, t2⟩ this
              | some b =>
                obtain ⟨f1, f2, f3, -⟩ := fm_some hf
                simp only [decide_eq_true_iff] at f2 f3
                have hs : sq_ cf z b = true := sq_i.mpr ⟨by rw [← (h.2.2 b f1).1]; exact f2.1.1, f1⟩
                obtain ⟨-, -, -, g4⟩ := sg_t h (by omega) hs
                have bd : z 416 0 b = z 407 0 0 := by rw [← g4, ← clk]; exact f2.1.2
                have l1 := f3 t t2 ⟨⟨tk3, by rw [tk5, clk]; exact due⟩, t2⟩
                have l2 : ¬ sg_ z b < sg_ z t := fun hh => below b hs hh bd
                rw [sg_d h (by omega) hs ht (by omega)]
            rw [hf]
            refine ⟨fun h9 => (by cases h9), fun t2 h2 _ => ?_⟩
            cases h2
            refine e_enter ?_
            rw [nI_1, ← ek1]
            exact w1 post hq
        · refine m_in hb (Q := sq_ cf z) (g := sg_ z) (fun u hu => sq_w hu) (fun u _ hQ => (sg_t h (by omega) hQ).1) (fun hn => absurd (by unfold sn_ at hr ⊢; rw [hr]) (hn t t2 ht)) (fun u hu hQ he _ => ?_)
          have := uni u hu hQ he
          subst this
          refine ⟨fun hh => absurd hh (nI_pos (by omega)), fun _ => ⟨vt, ?_⟩⟩
          rw [ct]
          refine ⟨fun hh => absurd due hh, fun _ => m_set (by omega) ?_⟩
          rw [nI_1, ← ez1]
          exact w2 post hq
      · have k1 : sn_ cf z (sg_ z t + 1) = sn_ cf z X + 1 := by
          have := ct_one (P := sq_ cf z) (g := sg_ z) (x := sg_ z t) (y := sg_ z t + 1) (u := t) (fun w hw => by
            constructor
            · intro hh
              by_cases c1 : sg_ z w < sg_ z t
              · exact Or.inl c1
              · exact Or.inr (sg_d h (by omega) hw ht (by omega))
            · intro hh
              rcases hh with hh | hh
              · omega
              · subst hh; omega) (Nat.lt_irrefl _) ht (cf 0)
          rw [if_pos t2] at this
          unfold sn_ at hr ⊢
          omega
        obtain ⟨r, k2, z2, f1, w1, w2⟩ := ih w a e k z (sg_ z t + 1) S h hS hw (by omega) (fun u hu hlt => by
          by_cases c1 : sg_ z u < sg_ z t
          · exact below u hu c1
          · rw [sg_d h (by omega) hu ht (by omega)]
            exact due) ha
        rw [k1] at w2
        refine ⟨r, k2, z2, f1, w1, fun post hq => ?_⟩
        refine m_in hb (Q := sq_ cf z) (g := sg_ z) (fun u hu => sq_w hu) (fun u _ hQ => (sg_t h (by omega) hQ).1) (fun hn => absurd (by unfold sn_ at hr ⊢; rw [hr]) (hn t t2 ht)) (fun u hu hQ he _ => ?_)
        have := uni u hu hQ he
        subst this
        refine ⟨fun hh => absurd hh (nI_pos (by omega)), fun _ => ⟨vt, ?_⟩⟩
        rw [ct]
        refine ⟨fun _ => ?_, fun hh => absurd hh due⟩
        rw [nI_1]
        exact w2 post hq
    · exact op_tick0 hb h (by omega) (by omega) hi (fun t ht hr => hex ⟨t, ht, hr⟩)
theorem Cp_clk (h : Cp_ cf a e k z) (x : Int32) : Cp_ cf a e (k3_up k 306 0 0 x) (k3_up z 407 0 0 x) := by
  obtain ⟨g1, g2, g3, g4, g5, g6, g7, g8⟩ := h.1
  refine Cp_glob h (fun f n j hf => k3_ne (by omega)) (fun f n j h1 h2 => k3_ne (by omega)) ⟨fun i hi => ?_, fun i hi => ?_, fun i hi => ?_, ⟨?_, ?_⟩, ?_, ⟨?_, ?_⟩, ?_, fun q hq => Cq_keep (g8 q hq) (fun f j hf => k3_ne (by omega)) (k3_ne (by omega)) (fun i => k3_ne (by omega))⟩
  · rw [k3_ne (by omega), k3_ne (by omega)]; exact g1 i hi
  · rw [k3_ne (by omega), k3_ne (by omega)]; exact g2 i hi
  · rw [k3_ne (by omega), k3_ne (by omega)]; exact g3 i hi
  · rw [k3_ne (by omega)]; exact g4.1
  · rw [k3_ne (by omega)]; exact g4.2
  · rw [k3_same, k3_same]
  · rw [k3_ne (by omega)]; exact g6.1
  · rw [k3_ne (by omega)]; exact g6.2
  · rw [k3_ne (by omega), k3_ne (by omega)]; exact g7
theorem op_tick (hb : Cb_ cf) (h : Cp_ cf a e k z) (ha : a + 64 < 2 ^ 31) : Bo_ cf 64 a e (fun post => q_X3_tick cf post k) (fun post => q_X4_tick cf post z) := by
  have h8 := hb.2.1
  have clk : k 306 0 0 = z 407 0 0 := h.1.2.2.2.2.1
  have h1 := Cp_clk h (z 407 0 0 + 1)
  obtain ⟨z1, ez1⟩ : ∃ z1, z1 = k3_up z 407 0 0 (z 407 0 0 + 1) := ⟨_, rfl⟩
  rw [← ez1] at h1
  have sle := ct_le (P := sq_ cf z1) (g := sg_ z1) (x := 2 ^ 32) (cf 0)
  have z0 : sn_ cf z1 0 = 0 := ct_no (fun i _ _ => Nat.zero_le _)
  obtain ⟨r, k', z', f1, w1, w2⟩ := op_tick1 hb (sn_ cf z1 (2 ^ 32)) 0 a e _ z1 0 _ h1 rfl (by unfold sn_; omega) (by omega) (fun u _ hu => absurd hu (Nat.not_lt_zero _)) (by unfold sn_; omega)
  rw [z0] at w2
  refine ⟨r, k', z', Af_mo f1 (by unfold sn_; omega), fun post hq k4 e4 => ⟨sn_ cf z1 (2 ^ 32) + 1, ?_⟩, fun post hq k6 e6 => ?_⟩
  · rw [e4, clk]
    exact w1 post hq
  · rw [e6, ← ez1]
    obtain ⟨r7, k7, h7, h9⟩ := wt_X4_inState (w2 post hq)
    exact h9 _ ⟨_, h7⟩
end OV
