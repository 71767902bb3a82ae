/-! printed by wip/whole/wit.py -/
set_option maxRecDepth 100000 in
set_option maxHeartbeats 4000000 in
theorem wt_X0_slot {cf : Nat → Nat} {A : Int32 → ka_T → Prop} {n0 : Nat} {x1 : Int32} {k0 : ka_T} (h : q_X0_slot cf A n0 x1 k0) : ∃ (r : Int32) (k1 : ka_T), A r k1 ∧ ∀ post : Int32 → ka_T → Prop, post r k1 → q_X0_slot cf post n0 x1 k0 := by
  unfold q_X0_slot at h ⊢
  by_cases h1 : (nI (cf 3)) ≤ ((k0 1 n0 0) + x1)
  · refine w_p1i h1 ?_
    replace h := h.1 h1
    exact ⟨_, _, h, fun post hq => hq⟩
  · refine w_p2i h1 ?_
    replace h := h.2 h1
    exact ⟨_, _, h, fun post hq => hq⟩
set_option maxRecDepth 100000 in
set_option maxHeartbeats 4000000 in
theorem wt_X0_addLast {cf : Nat → Nat} {A : Int32 → ka_T → Prop} {n0 : Nat} {x1 : Int32} {k0 : ka_T} (h : q_X0_addLast cf A n0 x1 k0) : ∃ (r : Int32) (k1 : ka_T), A r k1 ∧ ∀ post : Int32 → ka_T → Prop, post r k1 → q_X0_addLast cf post n0 x1 k0 := by
  unfold q_X0_addLast at h ⊢
  by_cases h1 : (k0 2 n0 0) < (nI (cf 3))
  · refine w_p1i h1 ?_
    replace h := h.1 h1
    obtain ⟨r2, k2, h, hc2⟩ := wt_X0_slot h
    refine w_cii (Qc := fun p => q_X0_slot cf p n0 (k0 2 n0 0) k0) hc2 ?_
    obtain ⟨hv, h⟩ := h
    refine w_ani hv ?_
    refine w_ali ?_
    replace h := h _ rfl
    refine w_ali ?_
    replace h := h _ rfl
    exact ⟨_, _, h, fun post hq => hq⟩
  · refine w_p2i h1 ?_
    replace h := h.2 h1
    exact ⟨_, _, h, fun post hq => hq⟩
set_option maxRecDepth 100000 in
set_option maxHeartbeats 4000000 in
theorem wt_X0_fromFirst {cf : Nat → Nat} {A : Int32 → ka_T → Prop} {n0 : Nat} {x1 : Int32} {k0 : ka_T} (h : q_X0_fromFirst cf A n0 x1 k0) : ∃ (r : Int32) (k1 : ka_T), A r k1 ∧ ∀ post : Int32 → ka_T → Prop, post r k1 → q_X0_fromFirst cf post n0 x1 k0 := by
  unfold q_X0_fromFirst at h ⊢
  by_cases h1 : x1 < 0
  · refine w_p1i h1 ?_
    replace h := h.1 h1
    exact ⟨_, _, h, fun post hq => hq⟩
  · refine w_p2i h1 ?_
    replace h := h.2 h1
    by_cases h2 : (k0 2 n0 0) ≤ x1
    · refine w_p1i h2 ?_
      replace h := h.1 h2
      exact ⟨_, _, h, fun post hq => hq⟩
    · refine w_p2i h2 ?_
      replace h := h.2 h2
      obtain ⟨r3, k3, h, hc3⟩ := wt_X0_slot h
      refine w_cii (Qc := fun p => q_X0_slot cf p n0 x1 k0) hc3 ?_
      obtain ⟨hv, h⟩ := h
      refine w_ani hv ?_
      exact ⟨_, _, h, fun post hq => hq⟩
set_option maxRecDepth 100000 in
set_option maxHeartbeats 4000000 in
theorem wt_X0_removeFirst {cf : Nat → Nat} {A : Int32 → ka_T → Prop} {n0 : Nat} {k0 : ka_T} (h : q_X0_removeFirst cf A n0 k0) : ∃ (r : Int32) (k1 : ka_T), A r k1 ∧ ∀ post : Int32 → ka_T → Prop, post r k1 → q_X0_removeFirst cf post n0 k0 := by
  unfold q_X0_removeFirst at h ⊢
  obtain ⟨hv, h⟩ := h
  refine w_ani hv ?_
  obtain ⟨r1, k1, h, hc1⟩ := wt_X0_slot h
  refine w_cii (Qc := fun p => q_X0_slot cf p n0 (1 : Int32) k0) hc1 ?_
  refine w_ali ?_
  replace h := h _ rfl
  refine w_ali ?_
  replace h := h _ rfl
  exact ⟨_, _, h, fun post hq => hq⟩
set_option maxRecDepth 100000 in
set_option maxHeartbeats 4000000 in
theorem wt_X1_fromTop {cf : Nat → Nat} {A : Int32 → ka_T → Prop} {n0 : Nat} {x1 : Int32} {k0 : ka_T} (h : q_X1_fromTop cf A n0 x1 k0) : ∃ (r : Int32) (k1 : ka_T), A r k1 ∧ ∀ post : Int32 → ka_T → Prop, post r k1 → q_X1_fromTop cf post n0 x1 k0 := by
  unfold q_X1_fromTop at h ⊢
  by_cases h1 : x1 < 0
  · refine w_p1i h1 ?_
    replace h := h.1 h1
    exact ⟨_, _, h, fun post hq => hq⟩
  · refine w_p2i h1 ?_
    replace h := h.2 h1
    by_cases h2 : (k0 101 n0 0) ≤ x1
    · refine w_p1i h2 ?_
      replace h := h.1 h2
      exact ⟨_, _, h, fun post hq => hq⟩
    · refine w_p2i h2 ?_
      replace h := h.2 h2
      obtain ⟨hv, h⟩ := h
      refine w_ani hv ?_
      exact ⟨_, _, h, fun post hq => hq⟩
set_option maxRecDepth 100000 in
set_option maxHeartbeats 4000000 in
theorem wt_X1_isFull {cf : Nat → Nat} {A : Int32 → ka_T → Prop} {n0 : Nat} {k0 : ka_T} (h : q_X1_isFull cf A n0 k0) : ∃ (r : Int32) (k1 : ka_T), A r k1 ∧ ∀ post : Int32 → ka_T → Prop, post r k1 → q_X1_isFull cf post n0 k0 := by
  unfold q_X1_isFull at h ⊢
  by_cases h1 : (k0 101 n0 0) < (nI (pl_n cf n0))
  · refine w_p1i h1 ?_
    replace h := h.1 h1
    exact ⟨_, _, h, fun post hq => hq⟩
  · refine w_p2i h1 ?_
    replace h := h.2 h1
    exact ⟨_, _, h, fun post hq => hq⟩
set_option maxRecDepth 100000 in
set_option maxHeartbeats 4000000 in
theorem wt_X1_pop {cf : Nat → Nat} {A : Int32 → ka_T → Prop} {n0 : Nat} {k0 : ka_T} (h : q_X1_pop cf A n0 k0) : ∃ (r : Int32) (k1 : ka_T), A r k1 ∧ ∀ post : Int32 → ka_T → Prop, post r k1 → q_X1_pop cf post n0 k0 := by
  unfold q_X1_pop at h ⊢
  refine w_ali ?_
  replace h := h _ rfl
  obtain ⟨hv, h⟩ := h
  refine w_ani hv ?_
  exact ⟨_, _, h, fun post hq => hq⟩
set_option maxRecDepth 100000 in
set_option maxHeartbeats 4000000 in
theorem wt_X1_push {cf : Nat → Nat} {A : Int32 → ka_T → Prop} {n0 : Nat} {x1 : Int32} {k0 : ka_T} (h : q_X1_push cf A n0 x1 k0) : ∃ (r : Int32) (k1 : ka_T), A r k1 ∧ ∀ post : Int32 → ka_T → Prop, post r k1 → q_X1_push cf post n0 x1 k0 := by
  unfold q_X1_push at h ⊢
  by_cases h1 : (k0 101 n0 0) < (nI (pl_n cf n0))
  · refine w_p1i h1 ?_
    replace h := h.1 h1
    obtain ⟨hv, h⟩ := h
    refine w_ani hv ?_
    refine w_ali ?_
    replace h := h _ rfl
    refine w_ali ?_
    replace h := h _ rfl
    exact ⟨_, _, h, fun post hq => hq⟩
  · refine w_p2i h1 ?_
    replace h := h.2 h1
    exact ⟨_, _, h, fun post hq => hq⟩
set_option maxRecDepth 100000 in
set_option maxHeartbeats 4000000 in
theorem wt_X2_goesBefore {cf : Nat → Nat} {A : Int32 → ka_T → Prop} {n0 : Nat} {n1 : Nat} {k0 : ka_T} (h : q_X2_goesBefore cf A n0 n1 k0) : ∃ (r : Int32) (k1 : ka_T), A r k1 ∧ ∀ post : Int32 → ka_T → Prop, post r k1 → q_X2_goesBefore cf post n0 n1 k0 := by
  unfold q_X2_goesBefore at h ⊢
  by_cases h1 : (k0 205 n1 0) < (k0 205 n0 0)
  · refine w_p1i h1 ?_
    replace h := h.1 h1
    exact ⟨_, _, h, fun post hq => hq⟩
  · refine w_p2i h1 ?_
    replace h := h.2 h1
    by_cases h2 : (k0 205 n0 0) = (k0 205 n1 0)
    · refine w_n2i h2 ?_
      replace h := h.2 h2
      by_cases h3 : (k0 206 n1 0) ≤ (k0 206 n0 0)
      · refine w_p1i h3 ?_
        replace h := h.1 h3
        exact ⟨_, _, h, fun post hq => hq⟩
      · refine w_p2i h3 ?_
        replace h := h.2 h3
        exact ⟨_, _, h, fun post hq => hq⟩
    · refine w_n1i h2 ?_
      replace h := h.1 h2
      exact ⟨_, _, h, fun post hq => hq⟩
set_option maxRecDepth 100000 in
set_option maxHeartbeats 4000000 in
theorem wt_X2_isWaiting {cf : Nat → Nat} {A : Int32 → ka_T → Prop} {n0 : Nat} {x1 : Int32} {x2 : Int32} {k0 : ka_T} (h : q_X2_isWaiting cf A n0 x1 x2 k0) : ∃ (r : Int32) (k1 : ka_T), A r k1 ∧ ∀ post : Int32 → ka_T → Prop, post r k1 → q_X2_isWaiting cf post n0 x1 x2 k0 := by
  unfold q_X2_isWaiting at h ⊢
  by_cases h1 : (k0 203 n0 0) = x1
  · refine w_n2i h1 ?_
    replace h := h.2 h1
    by_cases h2 : (k0 208 n0 0) = x2
    · refine w_n2i h2 ?_
      replace h := h.2 h2
      exact ⟨_, _, h, fun post hq => hq⟩
    · refine w_n1i h2 ?_
      replace h := h.1 h2
      exact ⟨_, _, h, fun post hq => hq⟩
  · refine w_n1i h1 ?_
    replace h := h.1 h1
    exact ⟨_, _, h, fun post hq => hq⟩
set_option maxRecDepth 100000 in
set_option maxHeartbeats 4000000 in
theorem wt_X2_put {cf : Nat → Nat} {A : Int32 → ka_T → Prop} {n0 : Nat} {x1 : Int32} {k0 : ka_T} (h : q_X2_put cf A n0 x1 k0) : ∃ (r : Int32) (k1 : ka_T), A r k1 ∧ ∀ post : Int32 → ka_T → Prop, post r k1 → q_X2_put cf post n0 x1 k0 := by
  unfold q_X2_put at h ⊢
  obtain ⟨r1, k1, h, hc1⟩ := wt_X1_push h
  refine w_cii (Qc := fun p => q_X1_push cf p (2 * n0) x1 k0) hc1 ?_
  by_cases h2 : r1 = 0
  · refine w_p1i h2 ?_
    replace h := h.1 h2
    exact ⟨_, _, h, fun post hq => hq⟩
  · refine w_p2i h2 ?_
    replace h := h.2 h2
    exact ⟨_, _, h, fun post hq => hq⟩
set_option maxRecDepth 100000 in
set_option maxHeartbeats 4000000 in
theorem wt_X2_reset {cf : Nat → Nat} {A : ka_T → Prop} {n0 : Nat} {x1 : Int32} {x2 : Int32} {k0 : ka_T} (h : q_X2_reset cf A n0 x1 x2 k0) : ∃ k1 : ka_T, A k1 ∧ ∀ post : ka_T → Prop, post k1 → q_X2_reset cf post n0 x1 x2 k0 := by
  unfold q_X2_reset at h ⊢
  refine w_alv ?_
  replace h := h _ rfl
  refine w_alv ?_
  replace h := h _ rfl
  refine w_alv ?_
  replace h := h _ rfl
  refine w_alv ?_
  replace h := h _ rfl
  exact ⟨_, h, fun post hq => hq⟩
set_option maxRecDepth 100000 in
set_option maxHeartbeats 4000000 in
theorem wt_X3_enter {cf : Nat → Nat} {A : ka_T → Prop} {n1 : Nat} {x2 : Int32} {k0 : ka_T} (h : q_X3_enter cf A n1 x2 k0) : ∃ k1 : ka_T, A k1 ∧ ∀ post : ka_T → Prop, post k1 → q_X3_enter cf post n1 x2 k0 := by
  unfold q_X3_enter at h ⊢
  refine w_alv ?_
  replace h := h _ rfl
  refine w_alv ?_
  replace h := h _ rfl
  refine w_alv ?_
  replace h := h _ rfl
  refine w_alv ?_
  replace h := h _ rfl
  refine w_alv ?_
  replace h := h _ rfl
  exact ⟨_, h, fun post hq => hq⟩
set_option maxRecDepth 100000 in
set_option maxHeartbeats 4000000 in
theorem wb_X3_beginLeastFree_2 {cf : Nat → Nat} {A : Int32 → ka_T → Prop} : ∀ (nf : Nat) (x1 : Int32) (x2 : Int32) (x3 : Int32) (k0 : ka_T), q_X3_beginLeastFree_2 cf A nf x1 x2 x3 k0 → ∃ (r : Int32) (k1 : ka_T), A r k1 ∧ ∀ post : Int32 → ka_T → Prop, post r k1 → q_X3_beginLeastFree_2 cf post nf x1 x2 x3 k0 := by
  intro nf
  induction nf with
  | zero => intro x1 x2 x3 k0 h; exact False.elim h
  | succ nf ih =>
    intro x1 x2 x3 k0 h
    simp only [q_X3_beginLeastFree_2] at h ⊢
    by_cases h1 : (nI (cf 0)) ≤ x3
    · refine w_p1i h1 ?_
      replace h := h.1 h1
      exact ⟨_, _, h, fun post hq => hq⟩
    · refine w_p2i h1 ?_
      replace h := h.2 h1
      obtain ⟨hv, h⟩ := h
      refine w_ari hv ?_
      have hlt := vp_lt hv
      replace h := h _ rfl hlt
      by_cases h2 : (k0 203 x3.toNatClampNeg 0) = 0
      · refine w_n2i h2 ?_
        replace h := h.2 h2
        obtain ⟨hv, h⟩ := h
        refine w_ari hv ?_
        have hlt := vp_lt hv
        replace h := h _ rfl hlt
        obtain ⟨k3, h, hc3⟩ := wt_X2_reset h
        refine w_cvi (Qc := fun p => q_X2_reset cf p x3.toNatClampNeg x1 x2 k0) hc3 ?_
        obtain ⟨hv, h⟩ := h
        refine w_ari hv ?_
        have hlt := vp_lt hv
        replace h := h _ rfl hlt
        obtain ⟨k4, h, hc4⟩ := wt_X3_enter h
        refine w_cvi (Qc := fun p => q_X3_enter cf p x3.toNatClampNeg (1 : Int32) k3) hc4 ?_
        exact ⟨_, _, h, fun post hq => hq⟩
      · refine w_n1i h2 ?_
        replace h := h.1 h2
        exact ih x1 x2 (x3 + 1) k0 h
set_option maxRecDepth 100000 in
set_option maxHeartbeats 4000000 in
theorem wt_X3_beginLeastFree {cf : Nat → Nat} {A : Int32 → ka_T → Prop} {x1 : Int32} {x2 : Int32} {k0 : ka_T} (h : q_X3_beginLeastFree cf A x1 x2 k0) : ∃ (r : Int32) (k1 : ka_T), A r k1 ∧ ∀ post : Int32 → ka_T → Prop, post r k1 → q_X3_beginLeastFree cf post x1 x2 k0 := by
  unfold q_X3_beginLeastFree at h ⊢
  obtain ⟨nf9, h⟩ := h
  refine w_exi nf9 ?_
  exact wb_X3_beginLeastFree_2 nf9 x1 x2 (0 : Int32) k0 h
set_option maxRecDepth 100000 in
set_option maxHeartbeats 4000000 in
theorem wt_X3_isCodePlace {cf : Nat → Nat} {A : Int32 → ka_T → Prop} {x0 : Int32} {k0 : ka_T} (h : q_X3_isCodePlace cf A x0 k0) : ∃ (r : Int32) (k1 : ka_T), A r k1 ∧ ∀ post : Int32 → ka_T → Prop, post r k1 → q_X3_isCodePlace cf post x0 k0 := by
  unfold q_X3_isCodePlace at h ⊢
  by_cases h1 : x0 < 0
  · refine w_p1i h1 ?_
    replace h := h.1 h1
    exact ⟨_, _, h, fun post hq => hq⟩
  · refine w_p2i h1 ?_
    replace h := h.2 h1
    by_cases h2 : (64 : Int32) ≤ x0
    · refine w_p1i h2 ?_
      replace h := h.1 h2
      exact ⟨_, _, h, fun post hq => hq⟩
    · refine w_p2i h2 ?_
      replace h := h.2 h2
      exact ⟨_, _, h, fun post hq => hq⟩
set_option maxRecDepth 100000 in
set_option maxHeartbeats 4000000 in
theorem wt_X3_beginOther {cf : Nat → Nat} {A : Int32 → ka_T → Prop} {n1 : Nat} {x2 : Int32} {k0 : ka_T} (h : q_X3_beginOther cf A n1 x2 k0) : ∃ (r : Int32) (k1 : ka_T), A r k1 ∧ ∀ post : Int32 → ka_T → Prop, post r k1 → q_X3_beginOther cf post n1 x2 k0 := by
  unfold q_X3_beginOther at h ⊢
  obtain ⟨r1, k1, h, hc1⟩ := wt_X3_isCodePlace h
  refine w_cii (Qc := fun p => q_X3_isCodePlace cf p x2 k0) hc1 ?_
  by_cases h2 : r1 = 0
  · refine w_n2i h2 ?_
    replace h := h.2 h2
    exact ⟨_, _, h, fun post hq => hq⟩
  · refine w_n1i h2 ?_
    replace h := h.1 h2
    by_cases h3 : (1 : Int32) ≤ (k1 101 (2 * n1) 0)
    · refine w_p1i h3 ?_
      replace h := h.1 h3
      obtain ⟨r4, k4, h, hc4⟩ := wt_X1_pop h
      refine w_cii (Qc := fun p => q_X1_pop cf p (2 * n1) k1) hc4 ?_
      obtain ⟨r5, k5, h, hc5⟩ := wt_X3_beginLeastFree h
      refine w_cii (Qc := fun p => q_X3_beginLeastFree cf p x2 (r4 &&& (7 : Int32)) k4) hc5 ?_
      obtain ⟨r6, k6, h, hc6⟩ := wt_X2_put h
      refine w_cii (Qc := fun p => q_X2_put cf p n1 r5 k5) hc6 ?_
      exact ⟨_, _, h, fun post hq => hq⟩
    · refine w_p2i h3 ?_
      replace h := h.2 h3
      exact ⟨_, _, h, fun post hq => hq⟩
set_option maxRecDepth 100000 in
set_option maxHeartbeats 4000000 in
theorem wt_X3_callPlace {cf : Nat → Nat} {A : Int32 → ka_T → Prop} {n1 : Nat} {x2 : Int32} {k0 : ka_T} (h : q_X3_callPlace cf A n1 x2 k0) : ∃ (r : Int32) (k1 : ka_T), A r k1 ∧ ∀ post : Int32 → ka_T → Prop, post r k1 → q_X3_callPlace cf post n1 x2 k0 := by
  unfold q_X3_callPlace at h ⊢
  obtain ⟨r1, k1, h, hc1⟩ := wt_X3_isCodePlace h
  refine w_cii (Qc := fun p => q_X3_isCodePlace cf p x2 k0) hc1 ?_
  by_cases h2 : r1 = 0
  · refine w_n2i h2 ?_
    replace h := h.2 h2
    exact ⟨_, _, h, fun post hq => hq⟩
  · refine w_n1i h2 ?_
    replace h := h.1 h2
    obtain ⟨r3, k3, h, hc3⟩ := wt_X1_push h
    refine w_cii (Qc := fun p => q_X1_push cf p (2 * n1 + 1) (k1 204 n1 0) k1) hc3 ?_
    by_cases h4 : r3 = 0
    · refine w_n2i h4 ?_
      replace h := h.2 h4
      exact ⟨_, _, h, fun post hq => hq⟩
    · refine w_n1i h4 ?_
      replace h := h.1 h4
      refine w_ali ?_
      replace h := h _ rfl
      exact ⟨_, _, h, fun post hq => hq⟩
set_option maxRecDepth 100000 in
set_option maxHeartbeats 4000000 in
theorem wt_X3_clock {cf : Nat → Nat} {A : Int32 → ka_T → Prop} {k0 : ka_T} (h : q_X3_clock cf A k0) : ∃ (r : Int32) (k1 : ka_T), A r k1 ∧ ∀ post : Int32 → ka_T → Prop, post r k1 → q_X3_clock cf post k0 := by
  unfold q_X3_clock at h ⊢
  exact ⟨_, _, h, fun post hq => hq⟩
set_option maxRecDepth 100000 in
set_option maxHeartbeats 4000000 in
theorem wt_X3_compute {cf : Nat → Nat} {A : Int32 → ka_T → Prop} {n1 : Nat} {x2 : Int32} {k0 : ka_T} (h : q_X3_compute cf A n1 x2 k0) : ∃ (r : Int32) (k1 : ka_T), A r k1 ∧ ∀ post : Int32 → ka_T → Prop, post r k1 → q_X3_compute cf post n1 x2 k0 := by
  unfold q_X3_compute at h ⊢
  by_cases h1 : (2 : Int32) ≤ (k0 101 (2 * n1) 0)
  · refine w_p1i h1 ?_
    replace h := h.1 h1
    obtain ⟨r2, k2, h, hc2⟩ := wt_X1_pop h
    refine w_cii (Qc := fun p => q_X1_pop cf p (2 * n1) k0) hc2 ?_
    obtain ⟨r3, k3, h, hc3⟩ := wt_X1_pop h
    refine w_cii (Qc := fun p => q_X1_pop cf p (2 * n1) k2) hc3 ?_
    by_cases h4_0 : x2 = (2 : Int32)
    · replace h := h.1 h4_0
      refine w_ddi ?_ (fun post hq => ⟨fun _ => hq, fun h9 => absurd (h4_0.symm.trans h9) (by decide), fun h9 => absurd (h4_0.symm.trans h9) (by decide), fun h9 => absurd (h4_0.symm.trans h9) (by decide), fun n0 n1 n2 n3 => absurd h4_0 n0⟩)
      obtain ⟨r12, k12, h, hc12⟩ := wt_X2_put h
      refine w_cii (Qc := fun p => q_X2_put cf p n1 (r3 + r2) k3) hc12 ?_
      exact ⟨_, _, h, fun post hq => hq⟩
    · by_cases h4_1 : x2 = (3 : Int32)
      · replace h := h.2.1 h4_1
        refine w_ddi ?_ (fun post hq => ⟨fun h9 => absurd (h4_1.symm.trans h9) (by decide), fun _ => hq, fun h9 => absurd (h4_1.symm.trans h9) (by decide), fun h9 => absurd (h4_1.symm.trans h9) (by decide), fun n0 n1 n2 n3 => absurd h4_1 n1⟩)
        obtain ⟨r11, k11, h, hc11⟩ := wt_X2_put h
        refine w_cii (Qc := fun p => q_X2_put cf p n1 (r3 - r2) k3) hc11 ?_
        exact ⟨_, _, h, fun post hq => hq⟩
      · by_cases h4_2 : x2 = (4 : Int32)
        · replace h := h.2.2.1 h4_2
          refine w_ddi ?_ (fun post hq => ⟨fun h9 => absurd (h4_2.symm.trans h9) (by decide), fun h9 => absurd (h4_2.symm.trans h9) (by decide), fun _ => hq, fun h9 => absurd (h4_2.symm.trans h9) (by decide), fun n0 n1 n2 n3 => absurd h4_2 n2⟩)
          obtain ⟨r10, k10, h, hc10⟩ := wt_X2_put h
          refine w_cii (Qc := fun p => q_X2_put cf p n1 (r3 * r2) k3) hc10 ?_
          exact ⟨_, _, h, fun post hq => hq⟩
        · by_cases h4_3 : x2 = (5 : Int32)
          · replace h := h.2.2.2.1 h4_3
            refine w_ddi ?_ (fun post hq => ⟨fun h9 => absurd (h4_3.symm.trans h9) (by decide), fun h9 => absurd (h4_3.symm.trans h9) (by decide), fun h9 => absurd (h4_3.symm.trans h9) (by decide), fun _ => hq, fun n0 n1 n2 n3 => absurd h4_3 n3⟩)
            by_cases h8 : r2 = 0
            · refine w_n2i h8 ?_
              replace h := h.2 h8
              exact ⟨_, _, h, fun post hq => hq⟩
            · refine w_n1i h8 ?_
              replace h := h.1 h8
              obtain ⟨hv, h⟩ := h
              refine w_ani hv ?_
              obtain ⟨r9, k9, h, hc9⟩ := wt_X2_put h
              refine w_cii (Qc := fun p => q_X2_put cf p n1 (r3 / r2) k3) hc9 ?_
              exact ⟨_, _, h, fun post hq => hq⟩
          · replace h := h.2.2.2.2 h4_0 h4_1 h4_2 h4_3
            refine w_ddi ?_ (fun post hq => ⟨fun h9 => absurd h9 h4_0, fun h9 => absurd h9 h4_1, fun h9 => absurd h9 h4_2, fun h9 => absurd h9 h4_3, fun _ _ _ _ => hq⟩)
            by_cases h5 : r2 ≤ r3
            · refine w_p1i h5 ?_
              replace h := h.1 h5
              obtain ⟨r6, k6, h, hc6⟩ := wt_X2_put h
              refine w_cii (Qc := fun p => q_X2_put cf p n1 (0 : Int32) k3) hc6 ?_
              exact ⟨_, _, h, fun post hq => hq⟩
            · refine w_p2i h5 ?_
              replace h := h.2 h5
              obtain ⟨r7, k7, h, hc7⟩ := wt_X2_put h
              refine w_cii (Qc := fun p => q_X2_put cf p n1 (1 : Int32) k3) hc7 ?_
              exact ⟨_, _, h, fun post hq => hq⟩
  · refine w_p2i h1 ?_
    replace h := h.2 h1
    exact ⟨_, _, h, fun post hq => hq⟩
set_option maxRecDepth 100000 in
set_option maxHeartbeats 4000000 in
theorem wt_X3_copyTop {cf : Nat → Nat} {A : Int32 → ka_T → Prop} {n1 : Nat} {k0 : ka_T} (h : q_X3_copyTop cf A n1 k0) : ∃ (r : Int32) (k1 : ka_T), A r k1 ∧ ∀ post : Int32 → ka_T → Prop, post r k1 → q_X3_copyTop cf post n1 k0 := by
  unfold q_X3_copyTop at h ⊢
  by_cases h1 : (1 : Int32) ≤ (k0 101 (2 * n1) 0)
  · refine w_p1i h1 ?_
    replace h := h.1 h1
    obtain ⟨r2, k2, h, hc2⟩ := wt_X1_fromTop h
    refine w_cii (Qc := fun p => q_X1_fromTop cf p (2 * n1) (0 : Int32) k0) hc2 ?_
    obtain ⟨r3, k3, h, hc3⟩ := wt_X2_put h
    refine w_cii (Qc := fun p => q_X2_put cf p n1 r2 k2) hc3 ?_
    exact ⟨_, _, h, fun post hq => hq⟩
  · refine w_p2i h1 ?_
    replace h := h.2 h1
    exact ⟨_, _, h, fun post hq => hq⟩
set_option maxRecDepth 100000 in
set_option maxHeartbeats 4000000 in
theorem wb_X3_countBefore_4 {cf : Nat → Nat} {A : Int32 → ka_T → Prop} : ∀ (nf : Nat) (n1 : Nat) (x2 : Int32) (x3 : Int32) (k0 : ka_T), q_X3_countBefore_4 cf A nf n1 x2 x3 k0 → ∃ (r : Int32) (k1 : ka_T), A r k1 ∧ ∀ post : Int32 → ka_T → Prop, post r k1 → q_X3_countBefore_4 cf post nf n1 x2 x3 k0 := by
  intro nf
  induction nf with
  | zero => intro n1 x2 x3 k0 h; exact False.elim h
  | succ nf ih =>
    intro n1 x2 x3 k0 h
    simp only [q_X3_countBefore_4] at h ⊢
    by_cases h1 : (nI (cf 0)) ≤ x3
    · refine w_p1i h1 ?_
      replace h := h.1 h1
      exact ⟨_, _, h, fun post hq => hq⟩
    · refine w_p2i h1 ?_
      replace h := h.2 h1
      obtain ⟨hv, h⟩ := h
      refine w_ari hv ?_
      have hlt := vp_lt hv
      replace h := h _ rfl hlt
      obtain ⟨r2, k2, h, hc2⟩ := wt_X2_isWaiting h
      refine w_cii (Qc := fun p => q_X2_isWaiting cf p x3.toNatClampNeg (k0 203 n1 0) (k0 208 n1 0) k0) hc2 ?_
      by_cases h3 : r2 = 0
      · refine w_p1i h3 ?_
        replace h := h.1 h3
        exact ih n1 x2 (x3 + 1) k2 h
      · refine w_p2i h3 ?_
        replace h := h.2 h3
        obtain ⟨hv, h⟩ := h
        refine w_ari hv ?_
        have hlt := vp_lt hv
        replace h := h _ rfl hlt
        by_cases h4 : (k2 206 n1 0) ≤ (k2 206 x3.toNatClampNeg 0)
        · refine w_p1i h4 ?_
          replace h := h.1 h4
          exact ih n1 x2 (x3 + 1) k2 h
        · refine w_p2i h4 ?_
          replace h := h.2 h4
          exact ih n1 (x2 + 1) (x3 + 1) k2 h
set_option maxRecDepth 100000 in
set_option maxHeartbeats 4000000 in
theorem wt_X3_countBefore {cf : Nat → Nat} {A : Int32 → ka_T → Prop} {n1 : Nat} {k0 : ka_T} (h : q_X3_countBefore cf A n1 k0) : ∃ (r : Int32) (k1 : ka_T), A r k1 ∧ ∀ post : Int32 → ka_T → Prop, post r k1 → q_X3_countBefore cf post n1 k0 := by
  unfold q_X3_countBefore at h ⊢
  obtain ⟨nf9, h⟩ := h
  refine w_exi nf9 ?_
  exact wb_X3_countBefore_4 nf9 n1 (0 : Int32) (0 : Int32) k0 h
set_option maxRecDepth 100000 in
set_option maxHeartbeats 4000000 in
theorem wt_X3_drop {cf : Nat → Nat} {A : Int32 → ka_T → Prop} {n1 : Nat} {k0 : ka_T} (h : q_X3_drop cf A n1 k0) : ∃ (r : Int32) (k1 : ka_T), A r k1 ∧ ∀ post : Int32 → ka_T → Prop, post r k1 → q_X3_drop cf post n1 k0 := by
  unfold q_X3_drop at h ⊢
  by_cases h1 : (1 : Int32) ≤ (k0 101 (2 * n1) 0)
  · refine w_p1i h1 ?_
    replace h := h.1 h1
    obtain ⟨r2, k2, h, hc2⟩ := wt_X1_pop h
    refine w_cii (Qc := fun p => q_X1_pop cf p (2 * n1) k0) hc2 ?_
    exact ⟨_, _, h, fun post hq => hq⟩
  · refine w_p2i h1 ?_
    replace h := h.2 h1
    exact ⟨_, _, h, fun post hq => hq⟩
set_option maxRecDepth 100000 in
set_option maxHeartbeats 4000000 in
theorem wt_X3_outSlot {cf : Nat → Nat} {A : Int32 → ka_T → Prop} {x0 : Int32} {k0 : ka_T} (h : q_X3_outSlot cf A x0 k0) : ∃ (r : Int32) (k1 : ka_T), A r k1 ∧ ∀ post : Int32 → ka_T → Prop, post r k1 → q_X3_outSlot cf post x0 k0 := by
  unfold q_X3_outSlot at h ⊢
  exact ⟨_, _, h, fun post hq => hq⟩
set_option maxRecDepth 100000 in
set_option maxHeartbeats 4000000 in
theorem wt_X3_emit {cf : Nat → Nat} {A : Int32 → ka_T → Prop} {n1 : Nat} {k0 : ka_T} (h : q_X3_emit cf A n1 k0) : ∃ (r : Int32) (k1 : ka_T), A r k1 ∧ ∀ post : Int32 → ka_T → Prop, post r k1 → q_X3_emit cf post n1 k0 := by
  unfold q_X3_emit at h ⊢
  by_cases h1 : (1 : Int32) ≤ (k0 101 (2 * n1) 0)
  · refine w_p1i h1 ?_
    replace h := h.1 h1
    obtain ⟨r2, k2, h, hc2⟩ := wt_X3_outSlot h
    refine w_cii (Qc := fun p => q_X3_outSlot cf p (k0 305 0 0) k0) hc2 ?_
    obtain ⟨r3, k3, h, hc3⟩ := wt_X1_pop h
    refine w_cii (Qc := fun p => q_X1_pop cf p (2 * n1) k2) hc3 ?_
    obtain ⟨hv, h⟩ := h
    refine w_ani hv ?_
    refine w_ali ?_
    replace h := h _ rfl
    refine w_ali ?_
    replace h := h _ rfl
    exact ⟨_, _, h, fun post hq => hq⟩
  · refine w_p2i h1 ?_
    replace h := h.2 h1
    exact ⟨_, _, h, fun post hq => hq⟩
set_option maxRecDepth 100000 in
set_option maxHeartbeats 4000000 in
theorem wt_X3_emitted {cf : Nat → Nat} {A : Int32 → ka_T → Prop} {k0 : ka_T} (h : q_X3_emitted cf A k0) : ∃ (r : Int32) (k1 : ka_T), A r k1 ∧ ∀ post : Int32 → ka_T → Prop, post r k1 → q_X3_emitted cf post k0 := by
  unfold q_X3_emitted at h ⊢
  exact ⟨_, _, h, fun post hq => hq⟩
set_option maxRecDepth 100000 in
set_option maxHeartbeats 4000000 in
theorem wt_X3_end {cf : Nat → Nat} {A : ka_T → Prop} {n0 : Nat} {x1 : Int32} {k0 : ka_T} (h : q_X3_end cf A n0 x1 k0) : ∃ k1 : ka_T, A k1 ∧ ∀ post : ka_T → Prop, post k1 → q_X3_end cf post n0 x1 k0 := by
  unfold q_X3_end at h ⊢
  refine w_alv ?_
  replace h := h _ rfl
  refine w_alv ?_
  replace h := h _ rfl
  exact ⟨_, h, fun post hq => hq⟩
set_option maxRecDepth 100000 in
set_option maxHeartbeats 4000000 in
theorem wb_X3_firstDueSleeper_4 {cf : Nat → Nat} {A : Option Nat → ka_T → Prop} : ∀ (nf : Nat) (o1 : Option Nat) (ho1 : ∀ n : Nat, o1 = some n → n < cf 0) (x2 : Int32) (k0 : ka_T), q_X3_firstDueSleeper_4 cf A nf o1 x2 k0 → ∃ (r : Option Nat) (k1 : ka_T), (∀ n, r = some n → n < cf 0) ∧ A r k1 ∧ ∀ post : Option Nat → ka_T → Prop, post r k1 → q_X3_firstDueSleeper_4 cf post nf o1 x2 k0 := by
  intro nf
  induction nf with
  | zero => intro o1 ho1 x2 k0 h; exact False.elim h
  | succ nf ih =>
    intro o1 ho1 x2 k0 h
    simp only [q_X3_firstDueSleeper_4] at h ⊢
    cases o1 with
    | none =>
      refine w_o0o ?_
      replace h := h.1 rfl
      by_cases h1 : (nI (cf 0)) ≤ x2
      · refine w_p1o h1 ?_
        replace h := h.1 h1
        exact ⟨none, _, fun _ h9 => (by cases h9), h, fun post hq => hq⟩
      · refine w_p2o h1 ?_
        replace h := h.2 h1
        obtain ⟨hv, h⟩ := h
        refine w_aro hv ?_
        have hlt := vp_lt hv
        replace h := h _ rfl hlt
        by_cases h2 : (k0 203 x2.toNatClampNeg 0) = (2 : Int32)
        · refine w_n2o h2 ?_
          replace h := h.2 h2
          by_cases h3 : (k0 207 x2.toNatClampNeg 0) = (k0 306 0 0)
          · refine w_n2o h3 ?_
            replace h := h.2 h3
            exact ih (some x2.toNatClampNeg) (fun _ h9 => (by cases h9; assumption)) (x2 + 1) k0 h
          · refine w_n1o h3 ?_
            replace h := h.1 h3
            exact ih none (fun _ h9 => (by cases h9)) (x2 + 1) k0 h
        · refine w_n1o h2 ?_
          replace h := h.1 h2
          exact ih none (fun _ h9 => (by cases h9)) (x2 + 1) k0 h
    | some n1 =>
      have hlt1 := ho1 _ rfl
      refine w_o1o ?_
      replace h := h.2 _ rfl hlt1
      by_cases h4 : (nI (cf 0)) ≤ x2
      · refine w_p1o h4 ?_
        replace h := h.1 h4
        exact ⟨some n1, _, fun _ h9 => (by cases h9; assumption), h, fun post hq => hq⟩
      · refine w_p2o h4 ?_
        replace h := h.2 h4
        obtain ⟨hv, h⟩ := h
        refine w_aro hv ?_
        have hlt := vp_lt hv
        replace h := h _ rfl hlt
        by_cases h5 : (k0 203 x2.toNatClampNeg 0) = (2 : Int32)
        · refine w_n2o h5 ?_
          replace h := h.2 h5
          by_cases h6 : (k0 207 x2.toNatClampNeg 0) = (k0 306 0 0)
          · refine w_n2o h6 ?_
            replace h := h.2 h6
            by_cases h7 : (k0 206 n1 0) ≤ (k0 206 x2.toNatClampNeg 0)
            · refine w_p1o h7 ?_
              replace h := h.1 h7
              exact ih (some n1) (fun _ h9 => (by cases h9; assumption)) (x2 + 1) k0 h
            · refine w_p2o h7 ?_
              replace h := h.2 h7
              exact ih (some x2.toNatClampNeg) (fun _ h9 => (by cases h9; assumption)) (x2 + 1) k0 h
          · refine w_n1o h6 ?_
            replace h := h.1 h6
            exact ih (some n1) (fun _ h9 => (by cases h9; assumption)) (x2 + 1) k0 h
        · refine w_n1o h5 ?_
          replace h := h.1 h5
          exact ih (some n1) (fun _ h9 => (by cases h9; assumption)) (x2 + 1) k0 h
set_option maxRecDepth 100000 in
set_option maxHeartbeats 4000000 in
theorem wt_X3_firstDueSleeper {cf : Nat → Nat} {A : Option Nat → ka_T → Prop} {k0 : ka_T} (h : q_X3_firstDueSleeper cf A k0) : ∃ (r : Option Nat) (k1 : ka_T), (∀ n, r = some n → n < cf 0) ∧ A r k1 ∧ ∀ post : Option Nat → ka_T → Prop, post r k1 → q_X3_firstDueSleeper cf post k0 := by
  unfold q_X3_firstDueSleeper at h ⊢
  obtain ⟨nf9, h⟩ := h
  refine w_exo nf9 ?_
  exact wb_X3_firstDueSleeper_4 nf9 none (fun _ h9 => (by cases h9)) (0 : Int32) k0 h
set_option maxRecDepth 100000 in
set_option maxHeartbeats 4000000 in
theorem wb_X3_firstWaiting_5 {cf : Nat → Nat} {A : Option Nat → ka_T → Prop} : ∀ (nf : Nat) (x1 : Int32) (x2 : Int32) (o3 : Option Nat) (ho3 : ∀ n : Nat, o3 = some n → n < cf 0) (x4 : Int32) (k0 : ka_T), q_X3_firstWaiting_5 cf A nf x1 x2 o3 x4 k0 → ∃ (r : Option Nat) (k1 : ka_T), (∀ n, r = some n → n < cf 0) ∧ A r k1 ∧ ∀ post : Option Nat → ka_T → Prop, post r k1 → q_X3_firstWaiting_5 cf post nf x1 x2 o3 x4 k0 := by
  intro nf
  induction nf with
  | zero => intro x1 x2 o3 ho3 x4 k0 h; exact False.elim h
  | succ nf ih =>
    intro x1 x2 o3 ho3 x4 k0 h
    simp only [q_X3_firstWaiting_5] at h ⊢
    cases o3 with
    | none =>
      refine w_o0o ?_
      replace h := h.1 rfl
      by_cases h1 : (nI (cf 0)) ≤ x4
      · refine w_p1o h1 ?_
        replace h := h.1 h1
        exact ⟨none, _, fun _ h9 => (by cases h9), h, fun post hq => hq⟩
      · refine w_p2o h1 ?_
        replace h := h.2 h1
        obtain ⟨hv, h⟩ := h
        refine w_aro hv ?_
        have hlt := vp_lt hv
        replace h := h _ rfl hlt
        obtain ⟨r2, k2, h, hc2⟩ := wt_X2_isWaiting h
        refine w_cio (Qc := fun p => q_X2_isWaiting cf p x4.toNatClampNeg x1 x2 k0) hc2 ?_
        by_cases h3 : r2 = 0
        · refine w_p1o h3 ?_
          replace h := h.1 h3
          exact ih x1 x2 none (fun _ h9 => (by cases h9)) (x4 + 1) k2 h
        · refine w_p2o h3 ?_
          replace h := h.2 h3
          exact ih x1 x2 (some x4.toNatClampNeg) (fun _ h9 => (by cases h9; assumption)) (x4 + 1) k2 h
    | some n3 =>
      have hlt3 := ho3 _ rfl
      refine w_o1o ?_
      replace h := h.2 _ rfl hlt3
      by_cases h4 : (nI (cf 0)) ≤ x4
      · refine w_p1o h4 ?_
        replace h := h.1 h4
        exact ⟨some n3, _, fun _ h9 => (by cases h9; assumption), h, fun post hq => hq⟩
      · refine w_p2o h4 ?_
        replace h := h.2 h4
        obtain ⟨hv, h⟩ := h
        refine w_aro hv ?_
        have hlt := vp_lt hv
        replace h := h _ rfl hlt
        obtain ⟨r5, k5, h, hc5⟩ := wt_X2_isWaiting h
        refine w_cio (Qc := fun p => q_X2_isWaiting cf p x4.toNatClampNeg x1 x2 k0) hc5 ?_
        by_cases h6 : r5 = 0
        · refine w_p1o h6 ?_
          replace h := h.1 h6
          exact ih x1 x2 (some n3) (fun _ h9 => (by cases h9; assumption)) (x4 + 1) k5 h
        · refine w_p2o h6 ?_
          replace h := h.2 h6
          by_cases h7 : (k5 206 n3 0) ≤ (k5 206 x4.toNatClampNeg 0)
          · refine w_p1o h7 ?_
            replace h := h.1 h7
            exact ih x1 x2 (some n3) (fun _ h9 => (by cases h9; assumption)) (x4 + 1) k5 h
          · refine w_p2o h7 ?_
            replace h := h.2 h7
            exact ih x1 x2 (some x4.toNatClampNeg) (fun _ h9 => (by cases h9; assumption)) (x4 + 1) k5 h
set_option maxRecDepth 100000 in
set_option maxHeartbeats 4000000 in
theorem wt_X3_firstWaiting {cf : Nat → Nat} {A : Option Nat → ka_T → Prop} {x1 : Int32} {x2 : Int32} {k0 : ka_T} (h : q_X3_firstWaiting cf A x1 x2 k0) : ∃ (r : Option Nat) (k1 : ka_T), (∀ n, r = some n → n < cf 0) ∧ A r k1 ∧ ∀ post : Option Nat → ka_T → Prop, post r k1 → q_X3_firstWaiting cf post x1 x2 k0 := by
  unfold q_X3_firstWaiting at h ⊢
  obtain ⟨nf9, h⟩ := h
  refine w_exo nf9 ?_
  exact wb_X3_firstWaiting_5 nf9 x1 x2 none (fun _ h9 => (by cases h9)) (0 : Int32) k0 h
set_option maxRecDepth 100000 in
set_option maxHeartbeats 4000000 in
theorem wt_X3_goBack {cf : Nat → Nat} {A : Int32 → ka_T → Prop} {n1 : Nat} {k0 : ka_T} (h : q_X3_goBack cf A n1 k0) : ∃ (r : Int32) (k1 : ka_T), A r k1 ∧ ∀ post : Int32 → ka_T → Prop, post r k1 → q_X3_goBack cf post n1 k0 := by
  unfold q_X3_goBack at h ⊢
  by_cases h1 : (1 : Int32) ≤ (k0 101 (2 * n1 + 1) 0)
  · refine w_p1i h1 ?_
    replace h := h.1 h1
    obtain ⟨r2, k2, h, hc2⟩ := wt_X1_pop h
    refine w_cii (Qc := fun p => q_X1_pop cf p (2 * n1 + 1) k0) hc2 ?_
    refine w_ali ?_
    replace h := h _ rfl
    exact ⟨_, _, h, fun post hq => hq⟩
  · refine w_p2i h1 ?_
    replace h := h.2 h1
    exact ⟨_, _, h, fun post hq => hq⟩
set_option maxRecDepth 100000 in
set_option maxHeartbeats 4000000 in
theorem wt_X3_isCell {cf : Nat → Nat} {A : Int32 → ka_T → Prop} {x0 : Int32} {k0 : ka_T} (h : q_X3_isCell cf A x0 k0) : ∃ (r : Int32) (k1 : ka_T), A r k1 ∧ ∀ post : Int32 → ka_T → Prop, post r k1 → q_X3_isCell cf post x0 k0 := by
  unfold q_X3_isCell at h ⊢
  by_cases h1 : x0 < 0
  · refine w_p1i h1 ?_
    replace h := h.1 h1
    exact ⟨_, _, h, fun post hq => hq⟩
  · refine w_p2i h1 ?_
    replace h := h.2 h1
    by_cases h2 : (16 : Int32) ≤ x0
    · refine w_p1i h2 ?_
      replace h := h.1 h2
      exact ⟨_, _, h, fun post hq => hq⟩
    · refine w_p2i h2 ?_
      replace h := h.2 h2
      exact ⟨_, _, h, fun post hq => hq⟩
set_option maxRecDepth 100000 in
set_option maxHeartbeats 4000000 in
theorem wt_X3_isTask {cf : Nat → Nat} {A : Int32 → ka_T → Prop} {x1 : Int32} {k0 : ka_T} (h : q_X3_isTask cf A x1 k0) : ∃ (r : Int32) (k1 : ka_T), A r k1 ∧ ∀ post : Int32 → ka_T → Prop, post r k1 → q_X3_isTask cf post x1 k0 := by
  unfold q_X3_isTask at h ⊢
  by_cases h1 : x1 < 0
  · refine w_p1i h1 ?_
    replace h := h.1 h1
    exact ⟨_, _, h, fun post hq => hq⟩
  · refine w_p2i h1 ?_
    replace h := h.2 h1
    by_cases h2 : (nI (cf 0)) ≤ x1
    · refine w_p1i h2 ?_
      replace h := h.1 h2
      exact ⟨_, _, h, fun post hq => hq⟩
    · refine w_p2i h2 ?_
      replace h := h.2 h2
      exact ⟨_, _, h, fun post hq => hq⟩
set_option maxRecDepth 100000 in
set_option maxHeartbeats 4000000 in
theorem wt_X3_isLive {cf : Nat → Nat} {A : Int32 → ka_T → Prop} {x1 : Int32} {k0 : ka_T} (h : q_X3_isLive cf A x1 k0) : ∃ (r : Int32) (k1 : ka_T), A r k1 ∧ ∀ post : Int32 → ka_T → Prop, post r k1 → q_X3_isLive cf post x1 k0 := by
  unfold q_X3_isLive at h ⊢
  obtain ⟨r1, k1, h, hc1⟩ := wt_X3_isTask h
  refine w_cii (Qc := fun p => q_X3_isTask cf p x1 k0) hc1 ?_
  by_cases h2 : r1 = 0
  · refine w_p1i h2 ?_
    replace h := h.1 h2
    exact ⟨_, _, h, fun post hq => hq⟩
  · refine w_p2i h2 ?_
    replace h := h.2 h2
    obtain ⟨hv, h⟩ := h
    refine w_ari hv ?_
    have hlt := vp_lt hv
    replace h := h _ rfl hlt
    by_cases h3 : (k1 203 x1.toNatClampNeg 0) = 0
    · refine w_p1i h3 ?_
      replace h := h.1 h3
      exact ⟨_, _, h, fun post hq => hq⟩
    · refine w_p2i h3 ?_
      replace h := h.2 h3
      exact ⟨_, _, h, fun post hq => hq⟩
set_option maxRecDepth 100000 in
set_option maxHeartbeats 4000000 in
theorem wt_X3_isQueue {cf : Nat → Nat} {A : Int32 → ka_T → Prop} {x1 : Int32} {k0 : ka_T} (h : q_X3_isQueue cf A x1 k0) : ∃ (r : Int32) (k1 : ka_T), A r k1 ∧ ∀ post : Int32 → ka_T → Prop, post r k1 → q_X3_isQueue cf post x1 k0 := by
  unfold q_X3_isQueue at h ⊢
  by_cases h1 : x1 < 0
  · refine w_p1i h1 ?_
    replace h := h.1 h1
    exact ⟨_, _, h, fun post hq => hq⟩
  · refine w_p2i h1 ?_
    replace h := h.2 h1
    by_cases h2 : (nI (cf 2)) ≤ x1
    · refine w_p1i h2 ?_
      replace h := h.1 h2
      exact ⟨_, _, h, fun post hq => hq⟩
    · refine w_p2i h2 ?_
      replace h := h.2 h2
      exact ⟨_, _, h, fun post hq => hq⟩
set_option maxRecDepth 100000 in
set_option maxHeartbeats 4000000 in
theorem wt_X3_jump {cf : Nat → Nat} {A : Int32 → ka_T → Prop} {n1 : Nat} {x2 : Int32} {k0 : ka_T} (h : q_X3_jump cf A n1 x2 k0) : ∃ (r : Int32) (k1 : ka_T), A r k1 ∧ ∀ post : Int32 → ka_T → Prop, post r k1 → q_X3_jump cf post n1 x2 k0 := by
  unfold q_X3_jump at h ⊢
  obtain ⟨r1, k1, h, hc1⟩ := wt_X3_isCodePlace h
  refine w_cii (Qc := fun p => q_X3_isCodePlace cf p x2 k0) hc1 ?_
  by_cases h2 : r1 = 0
  · refine w_n2i h2 ?_
    replace h := h.2 h2
    exact ⟨_, _, h, fun post hq => hq⟩
  · refine w_n1i h2 ?_
    replace h := h.1 h2
    refine w_ali ?_
    replace h := h _ rfl
    exact ⟨_, _, h, fun post hq => hq⟩
set_option maxRecDepth 100000 in
set_option maxHeartbeats 4000000 in
theorem wt_X3_jumpIfZero {cf : Nat → Nat} {A : Int32 → ka_T → Prop} {n1 : Nat} {x2 : Int32} {k0 : ka_T} (h : q_X3_jumpIfZero cf A n1 x2 k0) : ∃ (r : Int32) (k1 : ka_T), A r k1 ∧ ∀ post : Int32 → ka_T → Prop, post r k1 → q_X3_jumpIfZero cf post n1 x2 k0 := by
  unfold q_X3_jumpIfZero at h ⊢
  by_cases h1 : (1 : Int32) ≤ (k0 101 (2 * n1) 0)
  · refine w_p1i h1 ?_
    replace h := h.1 h1
    obtain ⟨r2, k2, h, hc2⟩ := wt_X1_pop h
    refine w_cii (Qc := fun p => q_X1_pop cf p (2 * n1) k0) hc2 ?_
    by_cases h3 : r2 = 0
    · refine w_n2i h3 ?_
      replace h := h.2 h3
      obtain ⟨r4, k4, h, hc4⟩ := wt_X3_jump h
      refine w_cii (Qc := fun p => q_X3_jump cf p n1 x2 k2) hc4 ?_
      exact ⟨_, _, h, fun post hq => hq⟩
    · refine w_n1i h3 ?_
      replace h := h.1 h3
      exact ⟨_, _, h, fun post hq => hq⟩
  · refine w_p2i h1 ?_
    replace h := h.2 h1
    exact ⟨_, _, h, fun post hq => hq⟩
set_option maxRecDepth 100000 in
set_option maxHeartbeats 4000000 in
theorem wt_X3_kill {cf : Nat → Nat} {A : Int32 → ka_T → Prop} {x1 : Int32} {k0 : ka_T} (h : q_X3_kill cf A x1 k0) : ∃ (r : Int32) (k1 : ka_T), A r k1 ∧ ∀ post : Int32 → ka_T → Prop, post r k1 → q_X3_kill cf post x1 k0 := by
  unfold q_X3_kill at h ⊢
  obtain ⟨r1, k1, h, hc1⟩ := wt_X3_isLive h
  refine w_cii (Qc := fun p => q_X3_isLive cf p x1 k0) hc1 ?_
  by_cases h2 : r1 = 0
  · refine w_n2i h2 ?_
    replace h := h.2 h2
    exact ⟨_, _, h, fun post hq => hq⟩
  · refine w_n1i h2 ?_
    replace h := h.1 h2
    obtain ⟨hv, h⟩ := h
    refine w_ari hv ?_
    have hlt := vp_lt hv
    replace h := h _ rfl hlt
    obtain ⟨k3, h, hc3⟩ := wt_X3_end h
    refine w_cvi (Qc := fun p => q_X3_end cf p x1.toNatClampNeg (2 : Int32) k1) hc3 ?_
    exact ⟨_, _, h, fun post hq => hq⟩
set_option maxRecDepth 100000 in
set_option maxHeartbeats 4000000 in
theorem wt_X3_killOther {cf : Nat → Nat} {A : Int32 → ka_T → Prop} {n1 : Nat} {k0 : ka_T} (h : q_X3_killOther cf A n1 k0) : ∃ (r : Int32) (k1 : ka_T), A r k1 ∧ ∀ post : Int32 → ka_T → Prop, post r k1 → q_X3_killOther cf post n1 k0 := by
  unfold q_X3_killOther at h ⊢
  by_cases h1 : (1 : Int32) ≤ (k0 101 (2 * n1) 0)
  · refine w_p1i h1 ?_
    replace h := h.1 h1
    obtain ⟨r2, k2, h, hc2⟩ := wt_X1_pop h
    refine w_cii (Qc := fun p => q_X1_pop cf p (2 * n1) k0) hc2 ?_
    obtain ⟨r3, k3, h, hc3⟩ := wt_X3_isLive h
    refine w_cii (Qc := fun p => q_X3_isLive cf p r2 k2) hc3 ?_
    by_cases h4 : r3 = 0
    · refine w_n2i h4 ?_
      replace h := h.2 h4
      obtain ⟨r8, k8, h, hc8⟩ := wt_X2_put h
      refine w_cii (Qc := fun p => q_X2_put cf p n1 (0 : Int32) k3) hc8 ?_
      exact ⟨_, _, h, fun post hq => hq⟩
    · refine w_n1i h4 ?_
      replace h := h.1 h4
      obtain ⟨hv, h⟩ := h
      refine w_ari hv ?_
      have hlt := vp_lt hv
      replace h := h _ rfl hlt
      obtain ⟨k5, h, hc5⟩ := wt_X3_end h
      refine w_cvi (Qc := fun p => q_X3_end cf p r2.toNatClampNeg (2 : Int32) k3) hc5 ?_
      by_cases h6 : r2 = (nI n1)
      · refine w_n2i h6 ?_
        replace h := h.2 h6
        exact ⟨_, _, h, fun post hq => hq⟩
      · refine w_n1i h6 ?_
        replace h := h.1 h6
        obtain ⟨r7, k7, h, hc7⟩ := wt_X2_put h
        refine w_cii (Qc := fun p => q_X2_put cf p n1 (1 : Int32) k5) hc7 ?_
        exact ⟨_, _, h, fun post hq => hq⟩
  · refine w_p2i h1 ?_
    replace h := h.2 h1
    exact ⟨_, _, h, fun post hq => hq⟩
set_option maxRecDepth 100000 in
set_option maxHeartbeats 4000000 in
theorem wt_X3_load {cf : Nat → Nat} {A : Int32 → ka_T → Prop} {n1 : Nat} {k0 : ka_T} (h : q_X3_load cf A n1 k0) : ∃ (r : Int32) (k1 : ka_T), A r k1 ∧ ∀ post : Int32 → ka_T → Prop, post r k1 → q_X3_load cf post n1 k0 := by
  unfold q_X3_load at h ⊢
  by_cases h1 : (1 : Int32) ≤ (k0 101 (2 * n1) 0)
  · refine w_p1i h1 ?_
    replace h := h.1 h1
    obtain ⟨r2, k2, h, hc2⟩ := wt_X1_pop h
    refine w_cii (Qc := fun p => q_X1_pop cf p (2 * n1) k0) hc2 ?_
    obtain ⟨r3, k3, h, hc3⟩ := wt_X3_isCell h
    refine w_cii (Qc := fun p => q_X3_isCell cf p r2 k2) hc3 ?_
    by_cases h4 : r3 = 0
    · refine w_p1i h4 ?_
      replace h := h.1 h4
      exact ⟨_, _, h, fun post hq => hq⟩
    · refine w_p2i h4 ?_
      replace h := h.2 h4
      obtain ⟨hv, h⟩ := h
      refine w_ani hv ?_
      obtain ⟨r5, k5, h, hc5⟩ := wt_X2_put h
      refine w_cii (Qc := fun p => q_X2_put cf p n1 (k3 303 0 r2.toNatClampNeg) k3) hc5 ?_
      exact ⟨_, _, h, fun post hq => hq⟩
  · refine w_p2i h1 ?_
    replace h := h.2 h1
    exact ⟨_, _, h, fun post hq => hq⟩
set_option maxRecDepth 100000 in
set_option maxHeartbeats 4000000 in
theorem wt_X3_markOf {cf : Nat → Nat} {A : Int32 → ka_T → Prop} {x0 : Int32} {k0 : ka_T} (h : q_X3_markOf cf A x0 k0) : ∃ (r : Int32) (k1 : ka_T), A r k1 ∧ ∀ post : Int32 → ka_T → Prop, post r k1 → q_X3_markOf cf post x0 k0 := by
  unfold q_X3_markOf at h ⊢
  by_cases h1 : x0 = (1 : Int32)
  · refine w_n2i h1 ?_
    replace h := h.2 h1
    exact ⟨_, _, h, fun post hq => hq⟩
  · refine w_n1i h1 ?_
    replace h := h.1 h1
    by_cases h2 : x0 = 0
    · refine w_n2i h2 ?_
      replace h := h.2 h2
      exact ⟨_, _, h, fun post hq => hq⟩
    · refine w_n1i h2 ?_
      replace h := h.1 h2
      exact ⟨_, _, h, fun post hq => hq⟩
set_option maxRecDepth 100000 in
set_option maxHeartbeats 4000000 in
theorem wt_X3_memory {cf : Nat → Nat} {A : Int32 → ka_T → Prop} {x1 : Int32} {k0 : ka_T} (h : q_X3_memory cf A x1 k0) : ∃ (r : Int32) (k1 : ka_T), A r k1 ∧ ∀ post : Int32 → ka_T → Prop, post r k1 → q_X3_memory cf post x1 k0 := by
  unfold q_X3_memory at h ⊢
  obtain ⟨r1, k1, h, hc1⟩ := wt_X3_isCell h
  refine w_cii (Qc := fun p => q_X3_isCell cf p x1 k0) hc1 ?_
  by_cases h2 : r1 = 0
  · refine w_p1i h2 ?_
    replace h := h.1 h2
    exact ⟨_, _, h, fun post hq => hq⟩
  · refine w_p2i h2 ?_
    replace h := h.2 h2
    obtain ⟨hv, h⟩ := h
    refine w_ani hv ?_
    exact ⟨_, _, h, fun post hq => hq⟩
set_option maxRecDepth 100000 in
set_option maxHeartbeats 4000000 in
theorem wb_X3_next_4 {cf : Nat → Nat} {A : Int32 → ka_T → Prop} : ∀ (nf : Nat) (x1 : Int32) (x2 : Int32) (k0 : ka_T), q_X3_next_4 cf A nf x1 x2 k0 → ∃ (r : Int32) (k1 : ka_T), A r k1 ∧ ∀ post : Int32 → ka_T → Prop, post r k1 → q_X3_next_4 cf post nf x1 x2 k0 := by
  intro nf
  induction nf with
  | zero => intro x1 x2 k0 h; exact False.elim h
  | succ nf ih =>
    intro x1 x2 k0 h
    simp only [q_X3_next_4] at h ⊢
    by_cases h1 : (nI (cf 0)) ≤ x2
    · refine w_p1i h1 ?_
      replace h := h.1 h1
      exact ⟨_, _, h, fun post hq => hq⟩
    · refine w_p2i h1 ?_
      replace h := h.2 h1
      obtain ⟨hv, h⟩ := h
      refine w_ari hv ?_
      have hlt := vp_lt hv
      replace h := h _ rfl hlt
      by_cases h2 : (k0 203 x2.toNatClampNeg 0) = (1 : Int32)
      · refine w_n2i h2 ?_
        replace h := h.2 h2
        by_cases h3 : x1 < 0
        · refine w_p1i h3 ?_
          replace h := h.1 h3
          exact ih x2 (x2 + 1) k0 h
        · refine w_p2i h3 ?_
          replace h := h.2 h3
          obtain ⟨hv, h⟩ := h
          refine w_ari hv ?_
          have hlt := vp_lt hv
          replace h := h _ rfl hlt
          obtain ⟨hv, h⟩ := h
          refine w_ari hv ?_
          have hlt := vp_lt hv
          replace h := h _ rfl hlt
          obtain ⟨r4, k4, h, hc4⟩ := wt_X2_goesBefore h
          refine w_cii (Qc := fun p => q_X2_goesBefore cf p x2.toNatClampNeg x1.toNatClampNeg k0) hc4 ?_
          by_cases h5 : r4 = 0
          · refine w_p1i h5 ?_
            replace h := h.1 h5
            exact ih x1 (x2 + 1) k4 h
          · refine w_p2i h5 ?_
            replace h := h.2 h5
            exact ih x2 (x2 + 1) k4 h
      · refine w_n1i h2 ?_
        replace h := h.1 h2
        exact ih x1 (x2 + 1) k0 h
set_option maxRecDepth 100000 in
set_option maxHeartbeats 4000000 in
theorem wt_X3_next {cf : Nat → Nat} {A : Int32 → ka_T → Prop} {k0 : ka_T} (h : q_X3_next cf A k0) : ∃ (r : Int32) (k1 : ka_T), A r k1 ∧ ∀ post : Int32 → ka_T → Prop, post r k1 → q_X3_next cf post k0 := by
  unfold q_X3_next at h ⊢
  obtain ⟨nf9, h⟩ := h
  refine w_exi nf9 ?_
  exact wb_X3_next_4 nf9 (-1 : Int32) (0 : Int32) k0 h
