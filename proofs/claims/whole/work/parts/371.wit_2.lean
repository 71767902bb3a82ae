/-! printed by wip/whole/wit.py -/
set_option maxRecDepth 100000 in
set_option maxHeartbeats 4000000 in
theorem wb_X4_arithmetic_24 {cf : Nat → Nat} {A : ka_T → Prop} : ∀ (x1 : Int32) (x2 : Int32) (x3 : Int32) (k0 : ka_T), q_X4_arithmetic_24 cf A x1 x2 x3 k0 → ∃ k1 : ka_T, A k1 ∧ ∀ post : ka_T → Prop, post k1 → q_X4_arithmetic_24 cf post x1 x2 x3 k0 := by
  intro x1 x2 x3 k0 h
  unfold q_X4_arithmetic_24 at h ⊢
  by_cases h1 : (k0 426 0 0) = 0
  · refine w_n2v h1 ?_
    replace h := h.2 h1
    by_cases h2 : x1 = (2 : Int32)
    · refine w_n2v h2 ?_
      replace h := h.2 h2
      obtain ⟨k8, h, hc8⟩ := wt_X4_put h
      refine w_cvv (Qc := fun p => q_X4_put cf p (x3 + x2) k0) hc8 ?_
      exact ⟨_, h, fun post hq => hq⟩
    · refine w_n1v h2 ?_
      replace h := h.1 h2
      by_cases h3 : x1 = (3 : Int32)
      · refine w_n2v h3 ?_
        replace h := h.2 h3
        obtain ⟨k7, h, hc7⟩ := wt_X4_put h
        refine w_cvv (Qc := fun p => q_X4_put cf p (x3 - x2) k0) hc7 ?_
        exact ⟨_, h, fun post hq => hq⟩
      · refine w_n1v h3 ?_
        replace h := h.1 h3
        by_cases h4 : x1 = (4 : Int32)
        · refine w_n2v h4 ?_
          replace h := h.2 h4
          obtain ⟨k6, h, hc6⟩ := wt_X4_put h
          refine w_cvv (Qc := fun p => q_X4_put cf p (x3 * x2) k0) hc6 ?_
          exact ⟨_, h, fun post hq => hq⟩
        · refine w_n1v h4 ?_
          replace h := h.1 h4
          obtain ⟨hv, h⟩ := h
          refine w_anv hv ?_
          obtain ⟨k5, h, hc5⟩ := wt_X4_put h
          refine w_cvv (Qc := fun p => q_X4_put cf p (x3 / x2) k0) hc5 ?_
          exact ⟨_, h, fun post hq => hq⟩
  · refine w_n1v h1 ?_
    replace h := h.1 h1
    exact ⟨_, h, fun post hq => hq⟩
set_option maxRecDepth 100000 in
set_option maxHeartbeats 4000000 in
theorem wt_X4_arithmetic {cf : Nat → Nat} {A : ka_T → Prop} {x1 : Int32} {k0 : ka_T} (h : q_X4_arithmetic cf A x1 k0) : ∃ k1 : ka_T, A k1 ∧ ∀ post : ka_T → Prop, post k1 → q_X4_arithmetic cf post x1 k0 := by
  unfold q_X4_arithmetic at h ⊢
  obtain ⟨r9, k9, h, hc9⟩ := wt_X4_take h
  refine w_civ (Qc := fun p => q_X4_take cf p  k0) hc9 ?_
  obtain ⟨r10, k10, h, hc10⟩ := wt_X4_take h
  refine w_civ (Qc := fun p => q_X4_take cf p  k9) hc10 ?_
  by_cases h11 : x1 = (5 : Int32)
  · refine w_n2v h11 ?_
    replace h := h.2 h11
    by_cases h12 : r9 = 0
    · refine w_n2v h12 ?_
      replace h := h.2 h12
      obtain ⟨k13, h, hc13⟩ := wt_X4_fall h
      refine w_cvv (Qc := fun p => q_X4_fall cf p (3 : Int32) k10) hc13 ?_
      exact wb_X4_arithmetic_24 x1 r9 r10 k13 h
    · refine w_n1v h12 ?_
      replace h := h.1 h12
      exact wb_X4_arithmetic_24 x1 r9 r10 k10 h
  · refine w_n1v h11 ?_
    replace h := h.1 h11
    exact wb_X4_arithmetic_24 x1 r9 r10 k10 h
set_option maxRecDepth 100000 in
set_option maxHeartbeats 4000000 in
theorem wb_X4_freeTask_2 {cf : Nat → Nat} {A : Int32 → ka_T → Prop} : ∀ (nf : Nat) (x1 : Int32) (k0 : ka_T), q_X4_freeTask_2 cf A nf x1 k0 → ∃ (r : Int32) (k1 : ka_T), A r k1 ∧ ∀ post : Int32 → ka_T → Prop, post r k1 → q_X4_freeTask_2 cf post nf x1 k0 := by
  intro nf
  induction nf with
  | zero => intro x1 k0 h; exact False.elim h
  | succ nf ih =>
    intro x1 k0 h
    simp only [q_X4_freeTask_2] at h ⊢
    by_cases h1 : (nI (cf 0)) ≤ x1
    · refine w_p1i h1 ?_
      replace h := h.1 h1
      exact ⟨_, _, h, fun post hq => hq⟩
    · refine w_p2i h1 ?_
      replace h := h.2 h1
      obtain ⟨hv, h⟩ := h
      refine w_ani hv ?_
      by_cases h2 : (k0 409 0 x1.toNatClampNeg) = 0
      · refine w_n2i h2 ?_
        replace h := h.2 h2
        exact ⟨_, _, h, fun post hq => hq⟩
      · refine w_n1i h2 ?_
        replace h := h.1 h2
        exact ih (x1 + 1) k0 h
set_option maxRecDepth 100000 in
set_option maxHeartbeats 4000000 in
theorem wt_X4_freeTask {cf : Nat → Nat} {A : Int32 → ka_T → Prop} {k0 : ka_T} (h : q_X4_freeTask cf A k0) : ∃ (r : Int32) (k1 : ka_T), A r k1 ∧ ∀ post : Int32 → ka_T → Prop, post r k1 → q_X4_freeTask cf post k0 := by
  unfold q_X4_freeTask at h ⊢
  obtain ⟨nf9, h⟩ := h
  refine w_exi nf9 ?_
  exact wb_X4_freeTask_2 nf9 (0 : Int32) k0 h
set_option maxRecDepth 100000 in
set_option maxHeartbeats 4000000 in
theorem wt_X4_set {cf : Nat → Nat} {A : ka_T → Prop} {x1 : Int32} {x2 : Int32} {k0 : ka_T} (h : q_X4_set cf A x1 x2 k0) : ∃ k1 : ka_T, A k1 ∧ ∀ post : ka_T → Prop, post k1 → q_X4_set cf post x1 x2 k0 := by
  unfold q_X4_set at h ⊢
  obtain ⟨hv, h⟩ := h
  refine w_anv hv ?_
  refine w_alv ?_
  replace h := h _ rfl
  obtain ⟨hv, h⟩ := h
  refine w_anv hv ?_
  refine w_alv ?_
  replace h := h _ rfl
  refine w_alv ?_
  replace h := h _ rfl
  exact ⟨_, h, fun post hq => hq⟩
set_option maxRecDepth 100000 in
set_option maxHeartbeats 4000000 in
theorem wt_X4_begin {cf : Nat → Nat} {A : Int32 → ka_T → Prop} {x1 : Int32} {x2 : Int32} {k0 : ka_T} (h : q_X4_begin cf A x1 x2 k0) : ∃ (r : Int32) (k1 : ka_T), A r k1 ∧ ∀ post : Int32 → ka_T → Prop, post r k1 → q_X4_begin cf post x1 x2 k0 := by
  unfold q_X4_begin at h ⊢
  obtain ⟨r1, k1, h, hc1⟩ := wt_X4_freeTask h
  refine w_cii (Qc := fun p => q_X4_freeTask cf p  k0) hc1 ?_
  by_cases h2 : r1 < 0
  · refine w_p1i h2 ?_
    replace h := h.1 h2
    exact ⟨_, _, h, fun post hq => hq⟩
  · refine w_p2i h2 ?_
    replace h := h.2 h2
    obtain ⟨hv, h⟩ := h
    refine w_ani hv ?_
    refine w_ali ?_
    replace h := h _ rfl
    obtain ⟨hv, h⟩ := h
    refine w_ani hv ?_
    refine w_ali ?_
    replace h := h _ rfl
    obtain ⟨hv, h⟩ := h
    refine w_ani hv ?_
    refine w_ali ?_
    replace h := h _ rfl
    obtain ⟨hv, h⟩ := h
    refine w_ani hv ?_
    refine w_ali ?_
    replace h := h _ rfl
    obtain ⟨k3, h, hc3⟩ := wt_X4_set h
    refine w_cvi (Qc := fun p => q_X4_set cf p r1 (1 : Int32) (k3_up (k3_up (k3_up (k3_up k1 411 0 r1.toNatClampNeg x1) 410 0 r1.toNatClampNeg x2) 412 0 r1.toNatClampNeg (0 : Int32)) 414 0 r1.toNatClampNeg (0 : Int32))) hc3 ?_
    exact ⟨_, _, h, fun post hq => hq⟩
set_option maxRecDepth 100000 in
set_option maxHeartbeats 4000000 in
theorem wt_X4_clock {cf : Nat → Nat} {A : Int32 → ka_T → Prop} {k0 : ka_T} (h : q_X4_clock cf A k0) : ∃ (r : Int32) (k1 : ka_T), A r k1 ∧ ∀ post : Int32 → ka_T → Prop, post r k1 → q_X4_clock cf post k0 := by
  unfold q_X4_clock at h ⊢
  exact ⟨_, _, h, fun post hq => hq⟩
set_option maxRecDepth 100000 in
set_option maxHeartbeats 4000000 in
theorem wt_X4_emitted {cf : Nat → Nat} {A : Int32 → ka_T → Prop} {k0 : ka_T} (h : q_X4_emitted cf A k0) : ∃ (r : Int32) (k1 : ka_T), A r k1 ∧ ∀ post : Int32 → ka_T → Prop, post r k1 → q_X4_emitted cf post k0 := by
  unfold q_X4_emitted at h ⊢
  exact ⟨_, _, h, fun post hq => hq⟩
set_option maxRecDepth 100000 in
set_option maxHeartbeats 4000000 in
theorem wt_X4_end {cf : Nat → Nat} {A : ka_T → Prop} {x1 : Int32} {x2 : Int32} {k0 : ka_T} (h : q_X4_end cf A x1 x2 k0) : ∃ k1 : ka_T, A k1 ∧ ∀ post : ka_T → Prop, post k1 → q_X4_end cf post x1 x2 k0 := by
  unfold q_X4_end at h ⊢
  obtain ⟨hv, h⟩ := h
  refine w_anv hv ?_
  refine w_alv ?_
  replace h := h _ rfl
  obtain ⟨hv, h⟩ := h
  refine w_anv hv ?_
  refine w_alv ?_
  replace h := h _ rfl
  exact ⟨_, h, fun post hq => hq⟩
set_option maxRecDepth 100000 in
set_option maxHeartbeats 4000000 in
theorem wb_X4_inState_75 {cf : Nat → Nat} {A : Int32 → ka_T → Prop} {kh_18 : (Int32 → ka_T → Prop) → Int32 → Int32 → Int32 → Int32 → Int32 → Int32 → ka_T → Prop} (hkh_18 : ∀ (x1 : Int32) (x2 : Int32) (x3 : Int32) (x4 : Int32) (x5 : Int32) (x6 : Int32) (k0 : ka_T), kh_18 A x1 x2 x3 x4 x5 x6 k0 → ∃ (r : Int32) (k1 : ka_T), A r k1 ∧ ∀ post : Int32 → ka_T → Prop, post r k1 → kh_18 post x1 x2 x3 x4 x5 x6 k0) : ∀ (x1 : Int32) (x2 : Int32) (x3 : Int32) (x4 : Int32) (x5 : Int32) (x6 : Int32) (y0 : Int32) (k0 : ka_T), q_X4_inState_75 cf (kh_18 A) A x1 x2 x3 x4 x5 x6 y0 k0 → ∃ (r : Int32) (k1 : ka_T), A r k1 ∧ ∀ post : Int32 → ka_T → Prop, post r k1 → q_X4_inState_75 cf (kh_18 post) post x1 x2 x3 x4 x5 x6 y0 k0 := by
  intro x1 x2 x3 x4 x5 x6 y0 k0 h
  unfold q_X4_inState_75 at h ⊢
  by_cases h1 : y0 = 0
  · refine w_p1i h1 ?_
    replace h := h.1 h1
    exact hkh_18 x1 x2 x3 x4 x5 (x6 + 1) k0 h
  · refine w_p2i h1 ?_
    replace h := h.2 h1
    exact hkh_18 x1 x2 x3 x4 (x5 + (1 : Int32)) (x6 + 1) k0 h
set_option maxRecDepth 100000 in
set_option maxHeartbeats 4000000 in
theorem wb_X4_inState_53 {cf : Nat → Nat} {A : Int32 → ka_T → Prop} {kh_18 : (Int32 → ka_T → Prop) → Int32 → Int32 → Int32 → Int32 → Int32 → Int32 → ka_T → Prop} (hkh_18 : ∀ (x1 : Int32) (x2 : Int32) (x3 : Int32) (x4 : Int32) (x5 : Int32) (x6 : Int32) (k0 : ka_T), kh_18 A x1 x2 x3 x4 x5 x6 k0 → ∃ (r : Int32) (k1 : ka_T), A r k1 ∧ ∀ post : Int32 → ka_T → Prop, post r k1 → kh_18 post x1 x2 x3 x4 x5 x6 k0) : ∀ (x1 : Int32) (x2 : Int32) (x3 : Int32) (x4 : Int32) (x5 : Int32) (x6 : Int32) (k0 : ka_T), q_X4_inState_53 cf (kh_18 A) A x1 x2 x3 x4 x5 x6 k0 → ∃ (r : Int32) (k1 : ka_T), A r k1 ∧ ∀ post : Int32 → ka_T → Prop, post r k1 → q_X4_inState_53 cf (kh_18 post) post x1 x2 x3 x4 x5 x6 k0 := by
  intro x1 x2 x3 x4 x5 x6 k0 h
  unfold q_X4_inState_53 at h ⊢
  obtain ⟨hv, h⟩ := h
  refine w_ani hv ?_
  obtain ⟨hv, h⟩ := h
  refine w_ani hv ?_
  by_cases h2 : (k0 419 0 x4.toNatClampNeg) ≤ (k0 419 0 x6.toNatClampNeg)
  · refine w_p1i h2 ?_
    replace h := h.1 h2
    exact wb_X4_inState_75 hkh_18 x1 x2 x3 x4 x5 x6 (0 : Int32) k0 h
  · refine w_p2i h2 ?_
    replace h := h.2 h2
    exact wb_X4_inState_75 hkh_18 x1 x2 x3 x4 x5 x6 (1 : Int32) k0 h
set_option maxRecDepth 100000 in
set_option maxHeartbeats 4000000 in
theorem wb_X4_inState_18 {cf : Nat → Nat} {A : Int32 → ka_T → Prop} {kh_3 : (Int32 → ka_T → Prop) → Int32 → Int32 → Int32 → Int32 → ka_T → Prop} (hkh_3 : ∀ (x1 : Int32) (x2 : Int32) (x3 : Int32) (x4 : Int32) (k0 : ka_T), kh_3 A x1 x2 x3 x4 k0 → ∃ (r : Int32) (k1 : ka_T), A r k1 ∧ ∀ post : Int32 → ka_T → Prop, post r k1 → kh_3 post x1 x2 x3 x4 k0) : ∀ (nf : Nat) (x1 : Int32) (x2 : Int32) (x3 : Int32) (x4 : Int32) (x5 : Int32) (x6 : Int32) (k0 : ka_T), q_X4_inState_18 cf (kh_3 A) A nf x1 x2 x3 x4 x5 x6 k0 → ∃ (r : Int32) (k1 : ka_T), A r k1 ∧ ∀ post : Int32 → ka_T → Prop, post r k1 → q_X4_inState_18 cf (kh_3 post) post nf x1 x2 x3 x4 x5 x6 k0 := by
  intro nf
  induction nf with
  | zero => intro x1 x2 x3 x4 x5 x6 k0 h; exact False.elim h
  | succ nf ih =>
    intro x1 x2 x3 x4 x5 x6 k0 h
    simp only [q_X4_inState_18] at h ⊢
    by_cases h3 : (nI (cf 0)) ≤ x6
    · refine w_p1i h3 ?_
      replace h := h.1 h3
      obtain ⟨hv, h⟩ := h
      refine w_ani hv ?_
      by_cases h4 : (k0 409 0 x4.toNatClampNeg) = x1
      · refine w_n2i h4 ?_
        replace h := h.2 h4
        by_cases h5 : x2 < 0
        · refine w_p1i h5 ?_
          replace h := h.1 h5
          by_cases h6 : x5 = x3
          · refine w_n2i h6 ?_
            replace h := h.2 h6
            exact ⟨_, _, h, fun post hq => hq⟩
          · refine w_n1i h6 ?_
            replace h := h.1 h6
            exact hkh_3 x1 x2 x3 (x4 + 1) k0 h
        · refine w_p2i h5 ?_
          replace h := h.2 h5
          obtain ⟨hv, h⟩ := h
          refine w_ani hv ?_
          by_cases h7 : (k0 417 0 x4.toNatClampNeg) = x2
          · refine w_n2i h7 ?_
            replace h := h.2 h7
            by_cases h8 : x5 = x3
            · refine w_n2i h8 ?_
              replace h := h.2 h8
              exact ⟨_, _, h, fun post hq => hq⟩
            · refine w_n1i h8 ?_
              replace h := h.1 h8
              exact hkh_3 x1 x2 x3 (x4 + 1) k0 h
          · refine w_n1i h7 ?_
            replace h := h.1 h7
            exact hkh_3 x1 x2 x3 (x4 + 1) k0 h
      · refine w_n1i h4 ?_
        replace h := h.1 h4
        exact hkh_3 x1 x2 x3 (x4 + 1) k0 h
    · refine w_p2i h3 ?_
      replace h := h.2 h3
      obtain ⟨hv, h⟩ := h
      refine w_ani hv ?_
      by_cases h9 : (k0 409 0 x6.toNatClampNeg) = x1
      · refine w_n2i h9 ?_
        replace h := h.2 h9
        by_cases h10 : x2 < 0
        · refine w_p1i h10 ?_
          replace h := h.1 h10
          exact wb_X4_inState_53 ih x1 x2 x3 x4 x5 x6 k0 h
        · refine w_p2i h10 ?_
          replace h := h.2 h10
          obtain ⟨hv, h⟩ := h
          refine w_ani hv ?_
          by_cases h11 : (k0 417 0 x6.toNatClampNeg) = x2
          · refine w_n2i h11 ?_
            replace h := h.2 h11
            exact wb_X4_inState_53 ih x1 x2 x3 x4 x5 x6 k0 h
          · refine w_n1i h11 ?_
            replace h := h.1 h11
            exact wb_X4_inState_75 ih x1 x2 x3 x4 x5 x6 (0 : Int32) k0 h
      · refine w_n1i h9 ?_
        replace h := h.1 h9
        exact wb_X4_inState_75 ih x1 x2 x3 x4 x5 x6 (0 : Int32) k0 h
set_option maxRecDepth 100000 in
set_option maxHeartbeats 4000000 in
theorem wb_X4_inState_3 {cf : Nat → Nat} {A : Int32 → ka_T → Prop} : ∀ (nf : Nat) (x1 : Int32) (x2 : Int32) (x3 : Int32) (x4 : Int32) (k0 : ka_T), q_X4_inState_3 cf A nf x1 x2 x3 x4 k0 → ∃ (r : Int32) (k1 : ka_T), A r k1 ∧ ∀ post : Int32 → ka_T → Prop, post r k1 → q_X4_inState_3 cf post nf x1 x2 x3 x4 k0 := by
  intro nf
  induction nf with
  | zero => intro x1 x2 x3 x4 k0 h; exact False.elim h
  | succ nf ih =>
    intro x1 x2 x3 x4 k0 h
    simp only [q_X4_inState_3] at h ⊢
    by_cases h12 : (nI (cf 0)) ≤ x4
    · refine w_p1i h12 ?_
      replace h := h.1 h12
      exact ⟨_, _, h, fun post hq => hq⟩
    · refine w_p2i h12 ?_
      replace h := h.2 h12
      obtain ⟨nf9, h⟩ := h
      refine w_exi nf9 ?_
      exact wb_X4_inState_18 ih nf9 x1 x2 x3 x4 (0 : Int32) (0 : Int32) k0 h
set_option maxRecDepth 100000 in
set_option maxHeartbeats 4000000 in
theorem wt_X4_inState {cf : Nat → Nat} {A : Int32 → ka_T → Prop} {x1 : Int32} {x2 : Int32} {x3 : Int32} {k0 : ka_T} (h : q_X4_inState cf A x1 x2 x3 k0) : ∃ (r : Int32) (k1 : ka_T), A r k1 ∧ ∀ post : Int32 → ka_T → Prop, post r k1 → q_X4_inState cf post x1 x2 x3 k0 := by
  unfold q_X4_inState at h ⊢
  obtain ⟨nf9, h⟩ := h
  refine w_exi nf9 ?_
  exact wb_X4_inState_3 nf9 x1 x2 x3 (0 : Int32) k0 h
set_option maxRecDepth 100000 in
set_option maxHeartbeats 4000000 in
theorem wt_X4_isLive {cf : Nat → Nat} {A : Int32 → ka_T → Prop} {x1 : Int32} {k0 : ka_T} (h : q_X4_isLive cf A x1 k0) : ∃ (r : Int32) (k1 : ka_T), A r k1 ∧ ∀ post : Int32 → ka_T → Prop, post r k1 → q_X4_isLive cf post x1 k0 := by
  unfold q_X4_isLive at h ⊢
  by_cases h1 : x1 < 0
  · refine w_p1i h1 ?_
    replace h := h.1 h1
    exact ⟨_, _, h, fun post hq => hq⟩
  · refine w_p2i h1 ?_
    replace h := h.2 h1
    by_cases h2 : (nI (cf 0)) ≤ x1
    · refine w_p1i h2 ?_
      replace h := h.1 h2
      exact ⟨_, _, h, fun post hq => hq⟩
    · refine w_p2i h2 ?_
      replace h := h.2 h2
      obtain ⟨hv, h⟩ := h
      refine w_ani hv ?_
      by_cases h3 : (k0 409 0 x1.toNatClampNeg) ≤ 0
      · refine w_p1i h3 ?_
        replace h := h.1 h3
        exact ⟨_, _, h, fun post hq => hq⟩
      · refine w_p2i h3 ?_
        replace h := h.2 h3
        exact ⟨_, _, h, fun post hq => hq⟩
set_option maxRecDepth 100000 in
set_option maxHeartbeats 4000000 in
theorem wt_X4_isPlace {cf : Nat → Nat} {A : Int32 → ka_T → Prop} {x0 : Int32} {k0 : ka_T} (h : q_X4_isPlace cf A x0 k0) : ∃ (r : Int32) (k1 : ka_T), A r k1 ∧ ∀ post : Int32 → ka_T → Prop, post r k1 → q_X4_isPlace cf post x0 k0 := by
  unfold q_X4_isPlace at h ⊢
  by_cases h1 : x0 < 0
  · refine w_p1i h1 ?_
    replace h := h.1 h1
    exact ⟨_, _, h, fun post hq => hq⟩
  · refine w_p2i h1 ?_
    replace h := h.2 h1
    by_cases h2 : (63 : Int32) < x0
    · refine w_p1i h2 ?_
      replace h := h.1 h2
      exact ⟨_, _, h, fun post hq => hq⟩
    · refine w_p2i h2 ?_
      replace h := h.2 h2
      exact ⟨_, _, h, fun post hq => hq⟩
set_option maxRecDepth 100000 in
set_option maxHeartbeats 4000000 in
theorem wt_X4_jump {cf : Nat → Nat} {A : ka_T → Prop} {x1 : Int32} {k0 : ka_T} (h : q_X4_jump cf A x1 k0) : ∃ k1 : ka_T, A k1 ∧ ∀ post : ka_T → Prop, post k1 → q_X4_jump cf post x1 k0 := by
  unfold q_X4_jump at h ⊢
  obtain ⟨r1, k1, h, hc1⟩ := wt_X4_isPlace h
  refine w_civ (Qc := fun p => q_X4_isPlace cf p x1 k0) hc1 ?_
  by_cases h2 : r1 = 0
  · refine w_n2v h2 ?_
    replace h := h.2 h2
    obtain ⟨k3, h, hc3⟩ := wt_X4_fall h
    refine w_cvv (Qc := fun p => q_X4_fall cf p (2 : Int32) k1) hc3 ?_
    exact ⟨_, h, fun post hq => hq⟩
  · refine w_n1v h2 ?_
    replace h := h.1 h2
    obtain ⟨hv, h⟩ := h
    refine w_anv hv ?_
    refine w_alv ?_
    replace h := h _ rfl
    exact ⟨_, h, fun post hq => hq⟩
set_option maxRecDepth 100000 in
set_option maxHeartbeats 4000000 in
theorem wt_X4_jumpOp {cf : Nat → Nat} {A : ka_T → Prop} {x1 : Int32} {x2 : Int32} {k0 : ka_T} (h : q_X4_jumpOp cf A x1 x2 k0) : ∃ k1 : ka_T, A k1 ∧ ∀ post : ka_T → Prop, post k1 → q_X4_jumpOp cf post x1 x2 k0 := by
  unfold q_X4_jumpOp at h ⊢
  by_cases h1 : x1 = (11 : Int32)
  · refine w_n2v h1 ?_
    replace h := h.2 h1
    obtain ⟨k15, h, hc15⟩ := wt_X4_jump h
    refine w_cvv (Qc := fun p => q_X4_jump cf p x2 k0) hc15 ?_
    exact ⟨_, h, fun post hq => hq⟩
  · refine w_n1v h1 ?_
    replace h := h.1 h1
    by_cases h2 : x1 = (12 : Int32)
    · refine w_n2v h2 ?_
      replace h := h.2 h2
      obtain ⟨r11, k11, h, hc11⟩ := wt_X4_take h
      refine w_civ (Qc := fun p => q_X4_take cf p  k0) hc11 ?_
      by_cases h12 : (k11 426 0 0) = 0
      · refine w_n2v h12 ?_
        replace h := h.2 h12
        by_cases h13 : r11 = 0
        · refine w_n2v h13 ?_
          replace h := h.2 h13
          obtain ⟨k14, h, hc14⟩ := wt_X4_jump h
          refine w_cvv (Qc := fun p => q_X4_jump cf p x2 k11) hc14 ?_
          exact ⟨_, h, fun post hq => hq⟩
        · refine w_n1v h13 ?_
          replace h := h.1 h13
          exact ⟨_, h, fun post hq => hq⟩
      · refine w_n1v h12 ?_
        replace h := h.1 h12
        exact ⟨_, h, fun post hq => hq⟩
    · refine w_n1v h2 ?_
      replace h := h.1 h2
      by_cases h3 : x1 = (13 : Int32)
      · refine w_n2v h3 ?_
        replace h := h.2 h3
        obtain ⟨hv, h⟩ := h
        refine w_anv hv ?_
        obtain ⟨r6, k6, h, hc6⟩ := wt_X4_isPlace h
        refine w_civ (Qc := fun p => q_X4_isPlace cf p x2 k0) hc6 ?_
        by_cases h7 : r6 = 0
        · refine w_n2v h7 ?_
          replace h := h.2 h7
          obtain ⟨k10, h, hc10⟩ := wt_X4_fall h
          refine w_cvv (Qc := fun p => q_X4_fall cf p (2 : Int32) k6) hc10 ?_
          exact ⟨_, h, fun post hq => hq⟩
        · refine w_n1v h7 ?_
          replace h := h.1 h7
          obtain ⟨hv, h⟩ := h
          refine w_anv hv ?_
          by_cases h8 : (k6 414 0 (k6 425 0 0).toNatClampNeg) = (4 : Int32)
          · refine w_n2v h8 ?_
            replace h := h.2 h8
            obtain ⟨k9, h, hc9⟩ := wt_X4_fall h
            refine w_cvv (Qc := fun p => q_X4_fall cf p (5 : Int32) k6) hc9 ?_
            exact ⟨_, h, fun post hq => hq⟩
          · refine w_n1v h8 ?_
            replace h := h.1 h8
            obtain ⟨hv, h⟩ := h
            refine w_anv hv ?_
            obtain ⟨hv, h⟩ := h
            refine w_anv hv ?_
            refine w_alv ?_
            replace h := h _ rfl
            obtain ⟨hv, h⟩ := h
            refine w_anv hv ?_
            obtain ⟨hv, h⟩ := h
            refine w_anv hv ?_
            refine w_alv ?_
            replace h := h _ rfl
            obtain ⟨hv, h⟩ := h
            refine w_anv hv ?_
            refine w_alv ?_
            replace h := h _ rfl
            exact ⟨_, h, fun post hq => hq⟩
      · refine w_n1v h3 ?_
        replace h := h.1 h3
        obtain ⟨hv, h⟩ := h
        refine w_anv hv ?_
        by_cases h4 : (k0 414 0 (k0 425 0 0).toNatClampNeg) = 0
        · refine w_n2v h4 ?_
          replace h := h.2 h4
          obtain ⟨k5, h, hc5⟩ := wt_X4_fall h
          refine w_cvv (Qc := fun p => q_X4_fall cf p (5 : Int32) k0) hc5 ?_
          exact ⟨_, h, fun post hq => hq⟩
        · refine w_n1v h4 ?_
          replace h := h.1 h4
          obtain ⟨hv, h⟩ := h
          refine w_anv hv ?_
          obtain ⟨hv, h⟩ := h
          refine w_anv hv ?_
          refine w_alv ?_
          replace h := h _ rfl
          obtain ⟨hv, h⟩ := h
          refine w_anv hv ?_
          obtain ⟨hv, h⟩ := h
          refine w_anv hv ?_
          obtain ⟨hv, h⟩ := h
          refine w_anv hv ?_
          refine w_alv ?_
          replace h := h _ rfl
          exact ⟨_, h, fun post hq => hq⟩
set_option maxRecDepth 100000 in
set_option maxHeartbeats 4000000 in
theorem wt_X4_kill {cf : Nat → Nat} {A : Int32 → ka_T → Prop} {x1 : Int32} {k0 : ka_T} (h : q_X4_kill cf A x1 k0) : ∃ (r : Int32) (k1 : ka_T), A r k1 ∧ ∀ post : Int32 → ka_T → Prop, post r k1 → q_X4_kill cf post x1 k0 := by
  unfold q_X4_kill at h ⊢
  obtain ⟨r1, k1, h, hc1⟩ := wt_X4_isLive h
  refine w_cii (Qc := fun p => q_X4_isLive cf p x1 k0) hc1 ?_
  by_cases h2 : r1 = 0
  · refine w_n2i h2 ?_
    replace h := h.2 h2
    exact ⟨_, _, h, fun post hq => hq⟩
  · refine w_n1i h2 ?_
    replace h := h.1 h2
    obtain ⟨k3, h, hc3⟩ := wt_X4_end h
    refine w_cvi (Qc := fun p => q_X4_end cf p x1 (2 : Int32) k1) hc3 ?_
    exact ⟨_, _, h, fun post hq => hq⟩
set_option maxRecDepth 100000 in
set_option maxHeartbeats 4000000 in
theorem wt_X4_memory {cf : Nat → Nat} {A : Int32 → ka_T → Prop} {x1 : Int32} {k0 : ka_T} (h : q_X4_memory cf A x1 k0) : ∃ (r : Int32) (k1 : ka_T), A r k1 ∧ ∀ post : Int32 → ka_T → Prop, post r k1 → q_X4_memory cf post x1 k0 := by
  unfold q_X4_memory at h ⊢
  by_cases h1 : x1 < 0
  · refine w_p1i h1 ?_
    replace h := h.1 h1
    exact ⟨_, _, h, fun post hq => hq⟩
  · refine w_p2i h1 ?_
    replace h := h.2 h1
    by_cases h2 : x1 ≤ (15 : Int32)
    · refine w_p1i h2 ?_
      replace h := h.1 h2
      obtain ⟨hv, h⟩ := h
      refine w_ani hv ?_
      exact ⟨_, _, h, fun post hq => hq⟩
    · refine w_p2i h2 ?_
      replace h := h.2 h2
      exact ⟨_, _, h, fun post hq => hq⟩
set_option maxRecDepth 100000 in
set_option maxHeartbeats 4000000 in
theorem wb_X4_memoryOp_46 {cf : Nat → Nat} {A : ka_T → Prop} : ∀ (x2 : Int32) (k0 : ka_T), q_X4_memoryOp_46 cf A x2 k0 → ∃ k1 : ka_T, A k1 ∧ ∀ post : ka_T → Prop, post k1 → q_X4_memoryOp_46 cf post x2 k0 := by
  intro x2 k0 h
  unfold q_X4_memoryOp_46 at h ⊢
  by_cases h1 : (k0 426 0 0) = 0
  · refine w_n2v h1 ?_
    replace h := h.2 h1
    obtain ⟨r2, k2, h, hc2⟩ := wt_X4_take h
    refine w_civ (Qc := fun p => q_X4_take cf p  k0) hc2 ?_
    by_cases h3 : (k2 426 0 0) = 0
    · refine w_n2v h3 ?_
      replace h := h.2 h3
      obtain ⟨hv, h⟩ := h
      refine w_anv hv ?_
      refine w_alv ?_
      replace h := h _ rfl
      exact ⟨_, h, fun post hq => hq⟩
    · refine w_n1v h3 ?_
      replace h := h.1 h3
      obtain ⟨hv, h⟩ := h
      refine w_anv hv ?_
      obtain ⟨hv, h⟩ := h
      refine w_anv hv ?_
      refine w_alv ?_
      replace h := h _ rfl
      exact ⟨_, h, fun post hq => hq⟩
  · refine w_n1v h1 ?_
    replace h := h.1 h1
    exact ⟨_, h, fun post hq => hq⟩
set_option maxRecDepth 100000 in
set_option maxHeartbeats 4000000 in
theorem wb_X4_memoryOp_20 {cf : Nat → Nat} {A : ka_T → Prop} : ∀ (x1 : Int32) (x2 : Int32) (k0 : ka_T), q_X4_memoryOp_20 cf A x1 x2 k0 → ∃ k1 : ka_T, A k1 ∧ ∀ post : ka_T → Prop, post k1 → q_X4_memoryOp_20 cf post x1 x2 k0 := by
  intro x1 x2 k0 h
  unfold q_X4_memoryOp_20 at h ⊢
  by_cases h4 : (k0 426 0 0) = 0
  · refine w_n2v h4 ?_
    replace h := h.2 h4
    by_cases h5 : x1 = (9 : Int32)
    · refine w_n2v h5 ?_
      replace h := h.2 h5
      obtain ⟨hv, h⟩ := h
      refine w_anv hv ?_
      obtain ⟨k6, h, hc6⟩ := wt_X4_put h
      refine w_cvv (Qc := fun p => q_X4_put cf p (k0 405 0 x2.toNatClampNeg) k0) hc6 ?_
      exact ⟨_, h, fun post hq => hq⟩
    · refine w_n1v h5 ?_
      replace h := h.1 h5
      exact wb_X4_memoryOp_46 x2 k0 h
  · refine w_n1v h4 ?_
    replace h := h.1 h4
    exact wb_X4_memoryOp_46 x2 k0 h
set_option maxRecDepth 100000 in
set_option maxHeartbeats 4000000 in
theorem wt_X4_memoryOp {cf : Nat → Nat} {A : ka_T → Prop} {x1 : Int32} {k0 : ka_T} (h : q_X4_memoryOp cf A x1 k0) : ∃ k1 : ka_T, A k1 ∧ ∀ post : ka_T → Prop, post k1 → q_X4_memoryOp cf post x1 k0 := by
  unfold q_X4_memoryOp at h ⊢
  obtain ⟨r7, k7, h, hc7⟩ := wt_X4_take h
  refine w_civ (Qc := fun p => q_X4_take cf p  k0) hc7 ?_
  by_cases h8 : r7 < 0
  · refine w_p1v h8 ?_
    replace h := h.1 h8
    obtain ⟨k9, h, hc9⟩ := wt_X4_fall h
    refine w_cvv (Qc := fun p => q_X4_fall cf p (2 : Int32) k7) hc9 ?_
    exact wb_X4_memoryOp_20 x1 r7 k9 h
  · refine w_p2v h8 ?_
    replace h := h.2 h8
    by_cases h10 : r7 ≤ (15 : Int32)
    · refine w_p1v h10 ?_
      replace h := h.1 h10
      exact wb_X4_memoryOp_20 x1 r7 k7 h
    · refine w_p2v h10 ?_
      replace h := h.2 h10
      obtain ⟨k11, h, hc11⟩ := wt_X4_fall h
      refine w_cvv (Qc := fun p => q_X4_fall cf p (2 : Int32) k7) hc11 ?_
      exact wb_X4_memoryOp_20 x1 r7 k11 h
set_option maxRecDepth 100000 in
set_option maxHeartbeats 4000000 in
theorem wb_X4_next_76 {cf : Nat → Nat} {A : Int32 → ka_T → Prop} {kh_4 : (Int32 → ka_T → Prop) → Int32 → Int32 → ka_T → Prop} (hkh_4 : ∀ (x1 : Int32) (x2 : Int32) (k0 : ka_T), kh_4 A x1 x2 k0 → ∃ (r : Int32) (k1 : ka_T), A r k1 ∧ ∀ post : Int32 → ka_T → Prop, post r k1 → kh_4 post x1 x2 k0) : ∀ (x1 : Int32) (x2 : Int32) (y0 : Int32) (k0 : ka_T), q_X4_next_76 cf (kh_4 A) A x1 x2 y0 k0 → ∃ (r : Int32) (k1 : ka_T), A r k1 ∧ ∀ post : Int32 → ka_T → Prop, post r k1 → q_X4_next_76 cf (kh_4 post) post x1 x2 y0 k0 := by
  intro x1 x2 y0 k0 h
  unfold q_X4_next_76 at h ⊢
  by_cases h1 : y0 = 0
  · refine w_p1i h1 ?_
    replace h := h.1 h1
    exact hkh_4 x1 (x2 + 1) k0 h
  · refine w_p2i h1 ?_
    replace h := h.2 h1
    exact hkh_4 x2 (x2 + 1) k0 h
set_option maxRecDepth 100000 in
set_option maxHeartbeats 4000000 in
theorem wb_X4_next_4 {cf : Nat → Nat} {A : Int32 → ka_T → Prop} : ∀ (nf : Nat) (x1 : Int32) (x2 : Int32) (k0 : ka_T), q_X4_next_4 cf A nf x1 x2 k0 → ∃ (r : Int32) (k1 : ka_T), A r k1 ∧ ∀ post : Int32 → ka_T → Prop, post r k1 → q_X4_next_4 cf post nf x1 x2 k0 := by
  intro nf
  induction nf with
  | zero => intro x1 x2 k0 h; exact False.elim h
  | succ nf ih =>
    intro x1 x2 k0 h
    simp only [q_X4_next_4] at h ⊢
    by_cases h2 : (nI (cf 0)) ≤ x2
    · refine w_p1i h2 ?_
      replace h := h.1 h2
      exact ⟨_, _, h, fun post hq => hq⟩
    · refine w_p2i h2 ?_
      replace h := h.2 h2
      obtain ⟨hv, h⟩ := h
      refine w_ani hv ?_
      by_cases h3 : (k0 409 0 x2.toNatClampNeg) = (1 : Int32)
      · refine w_n2i h3 ?_
        replace h := h.2 h3
        by_cases h4 : x1 < 0
        · refine w_p1i h4 ?_
          replace h := h.1 h4
          exact wb_X4_next_76 ih x1 x2 (1 : Int32) k0 h
        · refine w_p2i h4 ?_
          replace h := h.2 h4
          obtain ⟨hv, h⟩ := h
          refine w_ani hv ?_
          obtain ⟨hv, h⟩ := h
          refine w_ani hv ?_
          by_cases h5 : (k0 410 0 x1.toNatClampNeg) < (k0 410 0 x2.toNatClampNeg)
          · refine w_p1i h5 ?_
            replace h := h.1 h5
            exact wb_X4_next_76 ih x1 x2 (1 : Int32) k0 h
          · refine w_p2i h5 ?_
            replace h := h.2 h5
            obtain ⟨hv, h⟩ := h
            refine w_ani hv ?_
            obtain ⟨hv, h⟩ := h
            refine w_ani hv ?_
            by_cases h6 : (k0 410 0 x2.toNatClampNeg) = (k0 410 0 x1.toNatClampNeg)
            · refine w_n2i h6 ?_
              replace h := h.2 h6
              obtain ⟨hv, h⟩ := h
              refine w_ani hv ?_
              obtain ⟨hv, h⟩ := h
              refine w_ani hv ?_
              by_cases h7 : (k0 419 0 x1.toNatClampNeg) ≤ (k0 419 0 x2.toNatClampNeg)
              · refine w_p1i h7 ?_
                replace h := h.1 h7
                exact wb_X4_next_76 ih x1 x2 (0 : Int32) k0 h
              · refine w_p2i h7 ?_
                replace h := h.2 h7
                exact wb_X4_next_76 ih x1 x2 (1 : Int32) k0 h
            · refine w_n1i h6 ?_
              replace h := h.1 h6
              exact wb_X4_next_76 ih x1 x2 (0 : Int32) k0 h
      · refine w_n1i h3 ?_
        replace h := h.1 h3
        exact wb_X4_next_76 ih x1 x2 (0 : Int32) k0 h
set_option maxRecDepth 100000 in
set_option maxHeartbeats 4000000 in
theorem wt_X4_next {cf : Nat → Nat} {A : Int32 → ka_T → Prop} {k0 : ka_T} (h : q_X4_next cf A k0) : ∃ (r : Int32) (k1 : ka_T), A r k1 ∧ ∀ post : Int32 → ka_T → Prop, post r k1 → q_X4_next cf post k0 := by
  unfold q_X4_next at h ⊢
  obtain ⟨nf9, h⟩ := h
  refine w_exi nf9 ?_
  exact wb_X4_next_4 nf9 (-1 : Int32) (0 : Int32) k0 h
set_option maxRecDepth 100000 in
set_option maxHeartbeats 4000000 in
theorem wt_X4_noQueue {cf : Nat → Nat} {A : Int32 → ka_T → Prop} {x1 : Int32} {k0 : ka_T} (h : q_X4_noQueue cf A x1 k0) : ∃ (r : Int32) (k1 : ka_T), A r k1 ∧ ∀ post : Int32 → ka_T → Prop, post r k1 → q_X4_noQueue cf post x1 k0 := by
  unfold q_X4_noQueue at h ⊢
  by_cases h1 : x1 < 0
  · refine w_p1i h1 ?_
    replace h := h.1 h1
    obtain ⟨k2, h, hc2⟩ := wt_X4_fall h
    refine w_cvi (Qc := fun p => q_X4_fall cf p (6 : Int32) k0) hc2 ?_
    by_cases h3 : (k2 426 0 0) ≤ 0
    · refine w_p1i h3 ?_
      replace h := h.1 h3
      exact ⟨_, _, h, fun post hq => hq⟩
    · refine w_p2i h3 ?_
      replace h := h.2 h3
      exact ⟨_, _, h, fun post hq => hq⟩
  · refine w_p2i h1 ?_
    replace h := h.2 h1
    by_cases h4 : x1 < (nI (cf 2))
    · refine w_p1i h4 ?_
      replace h := h.1 h4
      by_cases h5 : (k0 426 0 0) ≤ 0
      · refine w_p1i h5 ?_
        replace h := h.1 h5
        exact ⟨_, _, h, fun post hq => hq⟩
      · refine w_p2i h5 ?_
        replace h := h.2 h5
        exact ⟨_, _, h, fun post hq => hq⟩
    · refine w_p2i h4 ?_
      replace h := h.2 h4
      obtain ⟨k6, h, hc6⟩ := wt_X4_fall h
      refine w_cvi (Qc := fun p => q_X4_fall cf p (6 : Int32) k0) hc6 ?_
      by_cases h7 : (k6 426 0 0) ≤ 0
      · refine w_p1i h7 ?_
        replace h := h.1 h7
        exact ⟨_, _, h, fun post hq => hq⟩
      · refine w_p2i h7 ?_
        replace h := h.2 h7
        exact ⟨_, _, h, fun post hq => hq⟩
set_option maxRecDepth 100000 in
set_option maxHeartbeats 4000000 in
theorem wt_X4_out {cf : Nat → Nat} {A : Int32 → ka_T → Prop} {x1 : Int32} {k0 : ka_T} (h : q_X4_out cf A x1 k0) : ∃ (r : Int32) (k1 : ka_T), A r k1 ∧ ∀ post : Int32 → ka_T → Prop, post r k1 → q_X4_out cf post x1 k0 := by
  unfold q_X4_out at h ⊢
  by_cases h1 : x1 < 0
  · refine w_p1i h1 ?_
    replace h := h.1 h1
    exact ⟨_, _, h, fun post hq => hq⟩
  · refine w_p2i h1 ?_
    replace h := h.2 h1
    by_cases h2 : (31 : Int32) < x1
    · refine w_p1i h2 ?_
      replace h := h.1 h2
      exact ⟨_, _, h, fun post hq => hq⟩
    · refine w_p2i h2 ?_
      replace h := h.2 h2
      by_cases h3 : x1 < (k0 423 0 0)
      · refine w_p1i h3 ?_
        replace h := h.1 h3
        obtain ⟨hv, h⟩ := h
        refine w_ani hv ?_
        exact ⟨_, _, h, fun post hq => hq⟩
      · refine w_p2i h3 ?_
        replace h := h.2 h3
        exact ⟨_, _, h, fun post hq => hq⟩
set_option maxRecDepth 100000 in
set_option maxHeartbeats 4000000 in
theorem wt_X4_send {cf : Nat → Nat} {A : ka_T → Prop} {x1 : Int32} {k0 : ka_T} (h : q_X4_send cf A x1 k0) : ∃ k1 : ka_T, A k1 ∧ ∀ post : ka_T → Prop, post k1 → q_X4_send cf post x1 k0 := by
  unfold q_X4_send at h ⊢
  obtain ⟨r1, k1, h, hc1⟩ := wt_X4_noQueue h
  refine w_civ (Qc := fun p => q_X4_noQueue cf p x1 k0) hc1 ?_
  by_cases h2 : r1 = 0
  · refine w_p1v h2 ?_
    replace h := h.1 h2
    obtain ⟨r3, k3, h, hc3⟩ := wt_X4_take h
    refine w_civ (Qc := fun p => q_X4_take cf p  k1) hc3 ?_
    by_cases h4 : (k3 426 0 0) ≤ 0
    · refine w_p1v h4 ?_
      replace h := h.1 h4
      obtain ⟨r5, k5, h, hc5⟩ := wt_X4_inState h
      refine w_civ (Qc := fun p => q_X4_inState cf p (4 : Int32) x1 (0 : Int32) k3) hc5 ?_
      by_cases h6 : r5 < 0
      · refine w_p1v h6 ?_
        replace h := h.1 h6
        obtain ⟨hv, h⟩ := h
        refine w_anv hv ?_
        by_cases h7 : (nI (cf 3)) ≤ (k5 421 0 x1.toNatClampNeg)
        · refine w_p1v h7 ?_
          replace h := h.1 h7
          obtain ⟨hv, h⟩ := h
          refine w_anv hv ?_
          refine w_alv ?_
          replace h := h _ rfl
          obtain ⟨hv, h⟩ := h
          refine w_anv hv ?_
          refine w_alv ?_
          replace h := h _ rfl
          obtain ⟨k8, h, hc8⟩ := wt_X4_set h
          refine w_cvv (Qc := fun p => q_X4_set cf p ((k3_up (k3_up k5 418 0 (k5 425 0 0).toNatClampNeg r3) 417 0 ((k3_up k5 418 0 (k5 425 0 0).toNatClampNeg r3) 425 0 0).toNatClampNeg x1) 425 0 0) (3 : Int32) (k3_up (k3_up k5 418 0 (k5 425 0 0).toNatClampNeg r3) 417 0 ((k3_up k5 418 0 (k5 425 0 0).toNatClampNeg r3) 425 0 0).toNatClampNeg x1)) hc8 ?_
          exact ⟨_, h, fun post hq => hq⟩
        · refine w_p2v h7 ?_
          replace h := h.2 h7
          obtain ⟨k9, h, hc9⟩ := wt_X4_append h
          refine w_cvv (Qc := fun p => q_X4_append cf p x1 r3 k5) hc9 ?_
          exact ⟨_, h, fun post hq => hq⟩
      · refine w_p2v h6 ?_
        replace h := h.2 h6
        obtain ⟨k10, h, hc10⟩ := wt_X4_give h
        refine w_cvv (Qc := fun p => q_X4_give cf p r5 r3 k5) hc10 ?_
        obtain ⟨k11, h, hc11⟩ := wt_X4_set h
        refine w_cvv (Qc := fun p => q_X4_set cf p r5 (1 : Int32) k10) hc11 ?_
        exact ⟨_, h, fun post hq => hq⟩
    · refine w_p2v h4 ?_
      replace h := h.2 h4
      exact ⟨_, h, fun post hq => hq⟩
  · refine w_p2v h2 ?_
    replace h := h.2 h2
    exact ⟨_, h, fun post hq => hq⟩
set_option maxRecDepth 100000 in
set_option maxHeartbeats 4000000 in
theorem wb_X4_receive_67 {cf : Nat → Nat} {A : ka_T → Prop} : ∀ (nf : Nat) (x1 : Int32) (x2 : Int32) (k0 : ka_T), q_X4_receive_67 cf A nf x1 x2 k0 → ∃ k1 : ka_T, A k1 ∧ ∀ post : ka_T → Prop, post k1 → q_X4_receive_67 cf post nf x1 x2 k0 := by
  intro nf
  induction nf with
  | zero => intro x1 x2 k0 h; exact False.elim h
  | succ nf ih =>
    intro x1 x2 k0 h
    simp only [q_X4_receive_67] at h ⊢
    obtain ⟨hv, h⟩ := h
    refine w_anv hv ?_
    by_cases h1 : (k0 421 0 x1.toNatClampNeg) ≤ x2
    · refine w_p1v h1 ?_
      replace h := h.1 h1
      obtain ⟨r2, k2, h, hc2⟩ := wt_X4_inState h
      refine w_civ (Qc := fun p => q_X4_inState cf p (3 : Int32) x1 (0 : Int32) k0) hc2 ?_
      by_cases h3 : r2 < 0
      · refine w_p1v h3 ?_
        replace h := h.1 h3
        exact ⟨_, h, fun post hq => hq⟩
      · refine w_p2v h3 ?_
        replace h := h.2 h3
        obtain ⟨hv, h⟩ := h
        refine w_anv hv ?_
        obtain ⟨k4, h, hc4⟩ := wt_X4_append h
        refine w_cvv (Qc := fun p => q_X4_append cf p x1 (k2 418 0 r2.toNatClampNeg) k2) hc4 ?_
        obtain ⟨k5, h, hc5⟩ := wt_X4_set h
        refine w_cvv (Qc := fun p => q_X4_set cf p r2 (1 : Int32) k4) hc5 ?_
        exact ⟨_, h, fun post hq => hq⟩
    · refine w_p2v h1 ?_
      replace h := h.2 h1
      obtain ⟨hv, h⟩ := h
      refine w_anv hv ?_
      obtain ⟨hv, h⟩ := h
      refine w_anv hv ?_
      refine w_alv ?_
      replace h := h _ rfl
      exact ih x1 (x2 + 1) (k3_up k0 422 ((((6 : Int32) * x1) + x2).toNatClampNeg / 6) ((((6 : Int32) * x1) + x2).toNatClampNeg % 6) (k0 422 (((((6 : Int32) * x1) + x2) + (1 : Int32)).toNatClampNeg / 6) (((((6 : Int32) * x1) + x2) + (1 : Int32)).toNatClampNeg % 6))) h
set_option maxRecDepth 100000 in
set_option maxHeartbeats 4000000 in
theorem wt_X4_receive {cf : Nat → Nat} {A : ka_T → Prop} {x1 : Int32} {k0 : ka_T} (h : q_X4_receive cf A x1 k0) : ∃ k1 : ka_T, A k1 ∧ ∀ post : ka_T → Prop, post k1 → q_X4_receive cf post x1 k0 := by
  unfold q_X4_receive at h ⊢
  obtain ⟨r6, k6, h, hc6⟩ := wt_X4_noQueue h
  refine w_civ (Qc := fun p => q_X4_noQueue cf p x1 k0) hc6 ?_
  by_cases h7 : r6 = 0
  · refine w_p1v h7 ?_
    replace h := h.1 h7
    obtain ⟨hv, h⟩ := h
    refine w_anv hv ?_
    by_cases h8 : (k6 412 0 (k6 425 0 0).toNatClampNeg) = (nI (cf 1))
    · refine w_n2v h8 ?_
      replace h := h.2 h8
      obtain ⟨k12, h, hc12⟩ := wt_X4_fall h
      refine w_cvv (Qc := fun p => q_X4_fall cf p (1 : Int32) k6) hc12 ?_
      exact ⟨_, h, fun post hq => hq⟩
    · refine w_n1v h8 ?_
      replace h := h.1 h8
      obtain ⟨hv, h⟩ := h
      refine w_anv hv ?_
      by_cases h9 : (k6 421 0 x1.toNatClampNeg) ≤ 0
      · refine w_p1v h9 ?_
        replace h := h.1 h9
        obtain ⟨hv, h⟩ := h
        refine w_anv hv ?_
        refine w_alv ?_
        replace h := h _ rfl
        obtain ⟨k10, h, hc10⟩ := wt_X4_set h
        refine w_cvv (Qc := fun p => q_X4_set cf p ((k3_up k6 417 0 (k6 425 0 0).toNatClampNeg x1) 425 0 0) (4 : Int32) (k3_up k6 417 0 (k6 425 0 0).toNatClampNeg x1)) hc10 ?_
        exact ⟨_, h, fun post hq => hq⟩
      · refine w_p2v h9 ?_
        replace h := h.2 h9
        obtain ⟨hv, h⟩ := h
        refine w_anv hv ?_
        obtain ⟨k11, h, hc11⟩ := wt_X4_put h
        refine w_cvv (Qc := fun p => q_X4_put cf p (k6 422 (((6 : Int32) * x1).toNatClampNeg / 6) (((6 : Int32) * x1).toNatClampNeg % 6)) k6) hc11 ?_
        obtain ⟨hv, h⟩ := h
        refine w_anv hv ?_
        obtain ⟨hv, h⟩ := h
        refine w_anv hv ?_
        refine w_alv ?_
        replace h := h _ rfl
        obtain ⟨nf9, h⟩ := h
        refine w_exv nf9 ?_
        exact wb_X4_receive_67 nf9 x1 (0 : Int32) (k3_up k11 421 0 x1.toNatClampNeg ((k11 421 0 x1.toNatClampNeg) - (1 : Int32))) h
  · refine w_p2v h7 ?_
    replace h := h.2 h7
    exact ⟨_, h, fun post hq => hq⟩
set_option maxRecDepth 100000 in
set_option maxHeartbeats 4000000 in
theorem wb_X4_stackOp_46 {cf : Nat → Nat} {A : ka_T → Prop} : ∀ (x1 : Int32) (x2 : Int32) (x3 : Int32) (y0 : Int32) (k0 : ka_T), q_X4_stackOp_46 cf A x1 x2 x3 y0 k0 → ∃ k1 : ka_T, A k1 ∧ ∀ post : ka_T → Prop, post k1 → q_X4_stackOp_46 cf post x1 x2 x3 y0 k0 := by
  intro x1 x2 x3 y0 k0 h
  unfold q_X4_stackOp_46 at h ⊢
  by_cases h1_0 : x1 = (1 : Int32)
  · replace h := h.1 h1_0
    refine w_ddv ?_ (fun post hq => ⟨fun _ => hq, fun h9 => absurd (h1_0.symm.trans h9) (by decide), fun h9 => absurd (h1_0.symm.trans h9) (by decide), fun h9 => absurd (h1_0.symm.trans h9) (by decide), fun h9 => absurd (h1_0.symm.trans h9) (by decide), fun h9 => absurd (h1_0.symm.trans h9) (by decide), fun n0 n1 n2 n3 n4 n5 => absurd h1_0 n0⟩)
    obtain ⟨k11, h, hc11⟩ := wt_X4_put h
    refine w_cvv (Qc := fun p => q_X4_put cf p x2 k0) hc11 ?_
    exact ⟨_, h, fun post hq => hq⟩
  · by_cases h1_1 : x1 = (6 : Int32)
    · replace h := h.2.1 h1_1
      refine w_ddv ?_ (fun post hq => ⟨fun h9 => absurd (h1_1.symm.trans h9) (by decide), fun _ => hq, fun h9 => absurd (h1_1.symm.trans h9) (by decide), fun h9 => absurd (h1_1.symm.trans h9) (by decide), fun h9 => absurd (h1_1.symm.trans h9) (by decide), fun h9 => absurd (h1_1.symm.trans h9) (by decide), fun n0 n1 n2 n3 n4 n5 => absurd h1_1 n1⟩)
      obtain ⟨k9, h, hc9⟩ := wt_X4_put h
      refine w_cvv (Qc := fun p => q_X4_put cf p x3 k0) hc9 ?_
      obtain ⟨k10, h, hc10⟩ := wt_X4_put h
      refine w_cvv (Qc := fun p => q_X4_put cf p x3 k9) hc10 ?_
      exact ⟨_, h, fun post hq => hq⟩
    · by_cases h1_2 : x1 = (8 : Int32)
      · replace h := h.2.2.1 h1_2
        refine w_ddv ?_ (fun post hq => ⟨fun h9 => absurd (h1_2.symm.trans h9) (by decide), fun h9 => absurd (h1_2.symm.trans h9) (by decide), fun _ => hq, fun h9 => absurd (h1_2.symm.trans h9) (by decide), fun h9 => absurd (h1_2.symm.trans h9) (by decide), fun h9 => absurd (h1_2.symm.trans h9) (by decide), fun n0 n1 n2 n3 n4 n5 => absurd h1_2 n2⟩)
        obtain ⟨k7, h, hc7⟩ := wt_X4_put h
        refine w_cvv (Qc := fun p => q_X4_put cf p x3 k0) hc7 ?_
        obtain ⟨k8, h, hc8⟩ := wt_X4_put h
        refine w_cvv (Qc := fun p => q_X4_put cf p y0 k7) hc8 ?_
        exact ⟨_, h, fun post hq => hq⟩
      · by_cases h1_3 : x1 = (19 : Int32)
        · replace h := h.2.2.2.1 h1_3
          refine w_ddv ?_ (fun post hq => ⟨fun h9 => absurd (h1_3.symm.trans h9) (by decide), fun h9 => absurd (h1_3.symm.trans h9) (by decide), fun h9 => absurd (h1_3.symm.trans h9) (by decide), fun _ => hq, fun h9 => absurd (h1_3.symm.trans h9) (by decide), fun h9 => absurd (h1_3.symm.trans h9) (by decide), fun n0 n1 n2 n3 n4 n5 => absurd h1_3 n3⟩)
          by_cases h4 : x3 ≤ y0
          · refine w_p1v h4 ?_
            replace h := h.1 h4
            obtain ⟨k5, h, hc5⟩ := wt_X4_put h
            refine w_cvv (Qc := fun p => q_X4_put cf p (0 : Int32) k0) hc5 ?_
            exact ⟨_, h, fun post hq => hq⟩
          · refine w_p2v h4 ?_
            replace h := h.2 h4
            obtain ⟨k6, h, hc6⟩ := wt_X4_put h
            refine w_cvv (Qc := fun p => q_X4_put cf p (1 : Int32) k0) hc6 ?_
            exact ⟨_, h, fun post hq => hq⟩
        · by_cases h1_4 : x1 = (23 : Int32)
          · replace h := h.2.2.2.2.1 h1_4
            refine w_ddv ?_ (fun post hq => ⟨fun h9 => absurd (h1_4.symm.trans h9) (by decide), fun h9 => absurd (h1_4.symm.trans h9) (by decide), fun h9 => absurd (h1_4.symm.trans h9) (by decide), fun h9 => absurd (h1_4.symm.trans h9) (by decide), fun _ => hq, fun h9 => absurd (h1_4.symm.trans h9) (by decide), fun n0 n1 n2 n3 n4 n5 => absurd h1_4 n4⟩)
            obtain ⟨k3, h, hc3⟩ := wt_X4_put h
            refine w_cvv (Qc := fun p => q_X4_put cf p (k0 425 0 0) k0) hc3 ?_
            exact ⟨_, h, fun post hq => hq⟩
          · by_cases h1_5 : x1 = (24 : Int32)
            · replace h := h.2.2.2.2.2.1 h1_5
              refine w_ddv ?_ (fun post hq => ⟨fun h9 => absurd (h1_5.symm.trans h9) (by decide), fun h9 => absurd (h1_5.symm.trans h9) (by decide), fun h9 => absurd (h1_5.symm.trans h9) (by decide), fun h9 => absurd (h1_5.symm.trans h9) (by decide), fun h9 => absurd (h1_5.symm.trans h9) (by decide), fun _ => hq, fun n0 n1 n2 n3 n4 n5 => absurd h1_5 n5⟩)
              obtain ⟨k2, h, hc2⟩ := wt_X4_put h
              refine w_cvv (Qc := fun p => q_X4_put cf p (k0 407 0 0) k0) hc2 ?_
              exact ⟨_, h, fun post hq => hq⟩
            · replace h := h.2.2.2.2.2.2 h1_0 h1_1 h1_2 h1_3 h1_4 h1_5
              refine w_ddv ?_ (fun post hq => ⟨fun h9 => absurd h9 h1_0, fun h9 => absurd h9 h1_1, fun h9 => absurd h9 h1_2, fun h9 => absurd h9 h1_3, fun h9 => absurd h9 h1_4, fun h9 => absurd h9 h1_5, fun _ _ _ _ _ _ => hq⟩)
              exact ⟨_, h, fun post hq => hq⟩
set_option maxRecDepth 100000 in
set_option maxHeartbeats 4000000 in
theorem wb_X4_stackOp_25 {cf : Nat → Nat} {A : ka_T → Prop} : ∀ (x1 : Int32) (x2 : Int32) (y0 : Int32) (k0 : ka_T), q_X4_stackOp_25 cf A x1 x2 y0 k0 → ∃ k1 : ka_T, A k1 ∧ ∀ post : ka_T → Prop, post k1 → q_X4_stackOp_25 cf post x1 x2 y0 k0 := by
  intro x1 x2 y0 k0 h
  unfold q_X4_stackOp_25 at h ⊢
  by_cases h12 : x1 = (8 : Int32)
  · refine w_p1v h12 ?_
    replace h := h.1 h12
    obtain ⟨r13, k13, h, hc13⟩ := wt_X4_take h
    refine w_civ (Qc := fun p => q_X4_take cf p  k0) hc13 ?_
    exact wb_X4_stackOp_46 x1 x2 y0 r13 k13 h
  · refine w_p2v h12 ?_
    replace h := h.2 h12
    by_cases h14 : x1 = (19 : Int32)
    · refine w_n2v h14 ?_
      replace h := h.2 h14
      obtain ⟨r15, k15, h, hc15⟩ := wt_X4_take h
      refine w_civ (Qc := fun p => q_X4_take cf p  k0) hc15 ?_
      exact wb_X4_stackOp_46 x1 x2 y0 r15 k15 h
    · refine w_n1v h14 ?_
      replace h := h.1 h14
      exact wb_X4_stackOp_46 x1 x2 y0 (0 : Int32) k0 h
set_option maxRecDepth 100000 in
set_option maxHeartbeats 4000000 in
theorem wt_X4_stackOp {cf : Nat → Nat} {A : ka_T → Prop} {x1 : Int32} {x2 : Int32} {k0 : ka_T} (h : q_X4_stackOp cf A x1 x2 k0) : ∃ k1 : ka_T, A k1 ∧ ∀ post : ka_T → Prop, post k1 → q_X4_stackOp cf post x1 x2 k0 := by
  unfold q_X4_stackOp at h ⊢
  by_cases h16 : x1 = (1 : Int32)
  · refine w_p1v h16 ?_
    replace h := h.1 h16
    exact wb_X4_stackOp_25 x1 x2 (0 : Int32) k0 h
  · refine w_p2v h16 ?_
    replace h := h.2 h16
    by_cases h17 : x1 = (23 : Int32)
    · refine w_p1v h17 ?_
      replace h := h.1 h17
      exact wb_X4_stackOp_25 x1 x2 (0 : Int32) k0 h
    · refine w_p2v h17 ?_
      replace h := h.2 h17
      by_cases h18 : x1 = (24 : Int32)
      · refine w_n2v h18 ?_
        replace h := h.2 h18
        exact wb_X4_stackOp_25 x1 x2 (0 : Int32) k0 h
      · refine w_n1v h18 ?_
        replace h := h.1 h18
        obtain ⟨r19, k19, h, hc19⟩ := wt_X4_take h
        refine w_civ (Qc := fun p => q_X4_take cf p  k0) hc19 ?_
        exact wb_X4_stackOp_25 x1 x2 r19 k19 h
