/-! printed by wip/whole/wit.py -/
set_option maxRecDepth 100000 in
set_option maxHeartbeats 4000000 in
theorem wt_X3_out {cf : Nat → Nat} {A : Int32 → ka_T → Prop} {x1 : Int32} {k0 : ka_T} (h : q_X3_out cf A x1 k0) : ∃ (r : Int32) (k1 : ka_T), A r k1 ∧ ∀ post : Int32 → ka_T → Prop, post r k1 → q_X3_out cf post x1 k0 := by
  unfold q_X3_out at h ⊢
  by_cases h1 : x1 < 0
  · refine w_p1i h1 ?_
    replace h := h.1 h1
    exact ⟨_, _, h, fun post hq => hq⟩
  · refine w_p2i h1 ?_
    replace h := h.2 h1
    by_cases h2 : (32 : Int32) ≤ x1
    · refine w_p1i h2 ?_
      replace h := h.1 h2
      exact ⟨_, _, h, fun post hq => hq⟩
    · refine w_p2i h2 ?_
      replace h := h.2 h2
      by_cases h3 : x1 < (k0 305 0 0)
      · refine w_p1i h3 ?_
        replace h := h.1 h3
        obtain ⟨r4, k4, h, hc4⟩ := wt_X3_outSlot h
        refine w_cii (Qc := fun p => q_X3_outSlot cf p (((k0 305 0 0) - (1 : Int32)) - x1) k0) hc4 ?_
        obtain ⟨hv, h⟩ := h
        refine w_ani hv ?_
        exact ⟨_, _, h, fun post hq => hq⟩
      · refine w_p2i h3 ?_
        replace h := h.2 h3
        exact ⟨_, _, h, fun post hq => hq⟩
set_option maxRecDepth 100000 in
set_option maxHeartbeats 4000000 in
theorem wt_X3_poke {cf : Nat → Nat} {A : Int32 → ka_T → Prop} {x1 : Int32} {x2 : Int32} {k0 : ka_T} (h : q_X3_poke cf A x1 x2 k0) : ∃ (r : Int32) (k1 : ka_T), A r k1 ∧ ∀ post : Int32 → ka_T → Prop, post r k1 → q_X3_poke cf post x1 x2 k0 := by
  unfold q_X3_poke at h ⊢
  obtain ⟨r1, k1, h, hc1⟩ := wt_X3_isCodePlace h
  refine w_cii (Qc := fun p => q_X3_isCodePlace cf p x1 k0) hc1 ?_
  by_cases h2 : r1 = 0
  · refine w_p1i h2 ?_
    replace h := h.1 h2
    exact ⟨_, _, h, fun post hq => hq⟩
  · refine w_p2i h2 ?_
    replace h := h.2 h2
    by_cases h3 : (k1 308 0 0) = 0
    · refine w_p1i h3 ?_
      replace h := h.1 h3
      obtain ⟨hv, h⟩ := h
      refine w_ani hv ?_
      refine w_ali ?_
      replace h := h _ rfl
      exact ⟨_, _, h, fun post hq => hq⟩
    · refine w_p2i h3 ?_
      replace h := h.2 h3
      exact ⟨_, _, h, fun post hq => hq⟩
set_option maxRecDepth 100000 in
set_option maxHeartbeats 4000000 in
theorem wt_X3_queue {cf : Nat → Nat} {A : Int32 → ka_T → Prop} {x1 : Int32} {k0 : ka_T} (h : q_X3_queue cf A x1 k0) : ∃ (r : Int32) (k1 : ka_T), A r k1 ∧ ∀ post : Int32 → ka_T → Prop, post r k1 → q_X3_queue cf post x1 k0 := by
  unfold q_X3_queue at h ⊢
  obtain ⟨r1, k1, h, hc1⟩ := wt_X3_isQueue h
  refine w_cii (Qc := fun p => q_X3_isQueue cf p x1 k0) hc1 ?_
  by_cases h2 : r1 = 0
  · refine w_p1i h2 ?_
    replace h := h.1 h2
    exact ⟨_, _, h, fun post hq => hq⟩
  · refine w_p2i h2 ?_
    replace h := h.2 h2
    obtain ⟨hv, h⟩ := h
    refine w_ari hv ?_
    have hlt := vp_lt hv
    replace h := h _ rfl hlt
    exact ⟨_, _, h, fun post hq => hq⟩
set_option maxRecDepth 100000 in
set_option maxHeartbeats 4000000 in
theorem wt_X3_queued {cf : Nat → Nat} {A : Int32 → ka_T → Prop} {x1 : Int32} {x2 : Int32} {k0 : ka_T} (h : q_X3_queued cf A x1 x2 k0) : ∃ (r : Int32) (k1 : ka_T), A r k1 ∧ ∀ post : Int32 → ka_T → Prop, post r k1 → q_X3_queued cf post x1 x2 k0 := by
  unfold q_X3_queued at h ⊢
  obtain ⟨r1, k1, h, hc1⟩ := wt_X3_isQueue h
  refine w_cii (Qc := fun p => q_X3_isQueue cf p x1 k0) hc1 ?_
  by_cases h2 : r1 = 0
  · refine w_p1i h2 ?_
    replace h := h.1 h2
    exact ⟨_, _, h, fun post hq => hq⟩
  · refine w_p2i h2 ?_
    replace h := h.2 h2
    obtain ⟨hv, h⟩ := h
    refine w_ari hv ?_
    have hlt := vp_lt hv
    replace h := h _ rfl hlt
    obtain ⟨r3, k3, h, hc3⟩ := wt_X0_fromFirst h
    refine w_cii (Qc := fun p => q_X0_fromFirst cf p x1.toNatClampNeg x2 k1) hc3 ?_
    exact ⟨_, _, h, fun post hq => hq⟩
set_option maxRecDepth 100000 in
set_option maxHeartbeats 4000000 in
theorem wt_X3_waitAt {cf : Nat → Nat} {A : ka_T → Prop} {n1 : Nat} {x2 : Int32} {x3 : Int32} {k0 : ka_T} (h : q_X3_waitAt cf A n1 x2 x3 k0) : ∃ k1 : ka_T, A k1 ∧ ∀ post : ka_T → Prop, post k1 → q_X3_waitAt cf post n1 x2 x3 k0 := by
  unfold q_X3_waitAt at h ⊢
  obtain ⟨k1, h, hc1⟩ := wt_X3_enter h
  refine w_cvv (Qc := fun p => q_X3_enter cf p n1 x2 k0) hc1 ?_
  refine w_alv ?_
  replace h := h _ rfl
  exact ⟨_, h, fun post hq => hq⟩
set_option maxRecDepth 100000 in
set_option maxHeartbeats 4000000 in
theorem wt_X3_receive {cf : Nat → Nat} {A : Int32 → ka_T → Prop} {n1 : Nat} {x2 : Int32} {k0 : ka_T} (h : q_X3_receive cf A n1 x2 k0) : ∃ (r : Int32) (k1 : ka_T), A r k1 ∧ ∀ post : Int32 → ka_T → Prop, post r k1 → q_X3_receive cf post n1 x2 k0 := by
  unfold q_X3_receive at h ⊢
  obtain ⟨r1, k1, h, hc1⟩ := wt_X3_isQueue h
  refine w_cii (Qc := fun p => q_X3_isQueue cf p x2 k0) hc1 ?_
  by_cases h2 : r1 = 0
  · refine w_n2i h2 ?_
    replace h := h.2 h2
    exact ⟨_, _, h, fun post hq => hq⟩
  · refine w_n1i h2 ?_
    replace h := h.1 h2
    obtain ⟨r3, k3, h, hc3⟩ := wt_X1_isFull h
    refine w_cii (Qc := fun p => q_X1_isFull cf p (2 * n1) k1) hc3 ?_
    by_cases h4 : r3 = 0
    · refine w_p1i h4 ?_
      replace h := h.1 h4
      obtain ⟨hv, h⟩ := h
      refine w_ari hv ?_
      have hlt := vp_lt hv
      replace h := h _ rfl hlt
      by_cases h5 : (1 : Int32) ≤ (k3 2 x2.toNatClampNeg 0)
      · refine w_p1i h5 ?_
        replace h := h.1 h5
        obtain ⟨r6, k6, h, hc6⟩ := wt_X0_removeFirst h
        refine w_cii (Qc := fun p => q_X0_removeFirst cf p x2.toNatClampNeg k3) hc6 ?_
        obtain ⟨r7, k7, h, hc7⟩ := wt_X1_push h
        refine w_cii (Qc := fun p => q_X1_push cf p (2 * n1) r6 k6) hc7 ?_
        obtain ⟨r8, k8, hn8, h, hc8⟩ := wt_X3_firstWaiting h
        refine w_coi (Qc := fun p => q_X3_firstWaiting cf p (3 : Int32) x2 k7) hc8 ?_
        cases r8 with
        | none =>
          refine w_o0i ?_
          replace h := h.1 rfl
          exact ⟨_, _, h, fun post hq => hq⟩
        | some t8 =>
          have hlt := hn8 _ rfl
          refine w_o1i ?_
          replace h := h.2 _ rfl hlt
          obtain ⟨r9, k9, h, hc9⟩ := wt_X0_addLast h
          refine w_cii (Qc := fun p => q_X0_addLast cf p x2.toNatClampNeg (k8 209 t8 0) k8) hc9 ?_
          obtain ⟨k10, h, hc10⟩ := wt_X3_enter h
          refine w_cvi (Qc := fun p => q_X3_enter cf p t8 (1 : Int32) k9) hc10 ?_
          exact ⟨_, _, h, fun post hq => hq⟩
      · refine w_p2i h5 ?_
        replace h := h.2 h5
        obtain ⟨k11, h, hc11⟩ := wt_X3_waitAt h
        refine w_cvi (Qc := fun p => q_X3_waitAt cf p n1 (4 : Int32) x2 k3) hc11 ?_
        exact ⟨_, _, h, fun post hq => hq⟩
    · refine w_p2i h4 ?_
      replace h := h.2 h4
      exact ⟨_, _, h, fun post hq => hq⟩
set_option maxRecDepth 100000 in
set_option maxHeartbeats 4000000 in
theorem wt_X3_swap {cf : Nat → Nat} {A : Int32 → ka_T → Prop} {n1 : Nat} {k0 : ka_T} (h : q_X3_swap cf A n1 k0) : ∃ (r : Int32) (k1 : ka_T), A r k1 ∧ ∀ post : Int32 → ka_T → Prop, post r k1 → q_X3_swap cf post n1 k0 := by
  unfold q_X3_swap at h ⊢
  by_cases h1 : (2 : Int32) ≤ (k0 101 (2 * n1) 0)
  · refine w_p1i h1 ?_
    replace h := h.1 h1
    obtain ⟨r2, k2, h, hc2⟩ := wt_X1_pop h
    refine w_cii (Qc := fun p => q_X1_pop cf p (2 * n1) k0) hc2 ?_
    obtain ⟨r3, k3, h, hc3⟩ := wt_X1_pop h
    refine w_cii (Qc := fun p => q_X1_pop cf p (2 * n1) k2) hc3 ?_
    obtain ⟨r4, k4, h, hc4⟩ := wt_X1_push h
    refine w_cii (Qc := fun p => q_X1_push cf p (2 * n1) r2 k3) hc4 ?_
    obtain ⟨r5, k5, h, hc5⟩ := wt_X1_push h
    refine w_cii (Qc := fun p => q_X1_push cf p (2 * n1) r3 k4) hc5 ?_
    exact ⟨_, _, h, fun post hq => hq⟩
  · refine w_p2i h1 ?_
    replace h := h.2 h1
    exact ⟨_, _, h, fun post hq => hq⟩
set_option maxRecDepth 100000 in
set_option maxHeartbeats 4000000 in
theorem wt_X3_store {cf : Nat → Nat} {A : Int32 → ka_T → Prop} {n1 : Nat} {k0 : ka_T} (h : q_X3_store cf A n1 k0) : ∃ (r : Int32) (k1 : ka_T), A r k1 ∧ ∀ post : Int32 → ka_T → Prop, post r k1 → q_X3_store cf post n1 k0 := by
  unfold q_X3_store at h ⊢
  by_cases h1 : (1 : Int32) ≤ (k0 101 (2 * n1) 0)
  · refine w_p1i h1 ?_
    replace h := h.1 h1
    obtain ⟨r2, k2, h, hc2⟩ := wt_X1_pop h
    refine w_cii (Qc := fun p => q_X1_pop cf p (2 * n1) k0) hc2 ?_
    obtain ⟨r3, k3, h, hc3⟩ := wt_X3_isCell h
    refine w_cii (Qc := fun p => q_X3_isCell cf p r2 k2) hc3 ?_
    by_cases h4 : r3 = 0
    · refine w_n2i h4 ?_
      replace h := h.2 h4
      exact ⟨_, _, h, fun post hq => hq⟩
    · refine w_n1i h4 ?_
      replace h := h.1 h4
      by_cases h5 : (1 : Int32) ≤ (k3 101 (2 * n1) 0)
      · refine w_p1i h5 ?_
        replace h := h.1 h5
        obtain ⟨r6, k6, h, hc6⟩ := wt_X1_pop h
        refine w_cii (Qc := fun p => q_X1_pop cf p (2 * n1) k3) hc6 ?_
        obtain ⟨hv, h⟩ := h
        refine w_ani hv ?_
        refine w_ali ?_
        replace h := h _ rfl
        exact ⟨_, _, h, fun post hq => hq⟩
      · refine w_p2i h5 ?_
        replace h := h.2 h5
        exact ⟨_, _, h, fun post hq => hq⟩
  · refine w_p2i h1 ?_
    replace h := h.2 h1
    exact ⟨_, _, h, fun post hq => hq⟩
set_option maxRecDepth 100000 in
set_option maxHeartbeats 4000000 in
theorem wt_X3_runOnNumbers {cf : Nat → Nat} {A : Int32 → ka_T → Prop} {n1 : Nat} {x2 : Int32} {x3 : Int32} {k0 : ka_T} (h : q_X3_runOnNumbers cf A n1 x2 x3 k0) : ∃ (r : Int32) (k1 : ka_T), A r k1 ∧ ∀ post : Int32 → ka_T → Prop, post r k1 → q_X3_runOnNumbers cf post n1 x2 x3 k0 := by
  unfold q_X3_runOnNumbers at h ⊢
  by_cases h1_0 : x2 = (0 : Int32)
  · replace h := h.1 h1_0
    refine w_ddi ?_ (fun post hq => ⟨fun _ => hq, fun h9 => absurd (h1_0.symm.trans h9) (by decide), fun h9 => absurd (h1_0.symm.trans h9) (by decide), fun h9 => absurd (h1_0.symm.trans h9) (by decide), fun h9 => absurd (h1_0.symm.trans h9) (by decide), fun h9 => absurd (h1_0.symm.trans h9) (by decide), fun h9 => absurd (h1_0.symm.trans h9) (by decide), fun n0 n1 n2 n3 n4 n5 n6 => absurd h1_0 n0⟩)
    obtain ⟨k9, h, hc9⟩ := wt_X3_end h
    refine w_cvi (Qc := fun p => q_X3_end cf p n1 (1 : Int32) k0) hc9 ?_
    exact ⟨_, _, h, fun post hq => hq⟩
  · by_cases h1_1 : x2 = (1 : Int32)
    · replace h := h.2.1 h1_1
      refine w_ddi ?_ (fun post hq => ⟨fun h9 => absurd (h1_1.symm.trans h9) (by decide), fun _ => hq, fun h9 => absurd (h1_1.symm.trans h9) (by decide), fun h9 => absurd (h1_1.symm.trans h9) (by decide), fun h9 => absurd (h1_1.symm.trans h9) (by decide), fun h9 => absurd (h1_1.symm.trans h9) (by decide), fun h9 => absurd (h1_1.symm.trans h9) (by decide), fun n0 n1 n2 n3 n4 n5 n6 => absurd h1_1 n1⟩)
      obtain ⟨r8, k8, h, hc8⟩ := wt_X2_put h
      refine w_cii (Qc := fun p => q_X2_put cf p n1 x3 k0) hc8 ?_
      exact ⟨_, _, h, fun post hq => hq⟩
    · by_cases h1_2 : x2 = (6 : Int32)
      · replace h := h.2.2.1 h1_2
        refine w_ddi ?_ (fun post hq => ⟨fun h9 => absurd (h1_2.symm.trans h9) (by decide), fun h9 => absurd (h1_2.symm.trans h9) (by decide), fun _ => hq, fun h9 => absurd (h1_2.symm.trans h9) (by decide), fun h9 => absurd (h1_2.symm.trans h9) (by decide), fun h9 => absurd (h1_2.symm.trans h9) (by decide), fun h9 => absurd (h1_2.symm.trans h9) (by decide), fun n0 n1 n2 n3 n4 n5 n6 => absurd h1_2 n2⟩)
        obtain ⟨r7, k7, h, hc7⟩ := wt_X3_copyTop h
        refine w_cii (Qc := fun p => q_X3_copyTop cf p n1 k0) hc7 ?_
        exact ⟨_, _, h, fun post hq => hq⟩
      · by_cases h1_3 : x2 = (7 : Int32)
        · replace h := h.2.2.2.1 h1_3
          refine w_ddi ?_ (fun post hq => ⟨fun h9 => absurd (h1_3.symm.trans h9) (by decide), fun h9 => absurd (h1_3.symm.trans h9) (by decide), fun h9 => absurd (h1_3.symm.trans h9) (by decide), fun _ => hq, fun h9 => absurd (h1_3.symm.trans h9) (by decide), fun h9 => absurd (h1_3.symm.trans h9) (by decide), fun h9 => absurd (h1_3.symm.trans h9) (by decide), fun n0 n1 n2 n3 n4 n5 n6 => absurd h1_3 n3⟩)
          obtain ⟨r6, k6, h, hc6⟩ := wt_X3_drop h
          refine w_cii (Qc := fun p => q_X3_drop cf p n1 k0) hc6 ?_
          exact ⟨_, _, h, fun post hq => hq⟩
        · by_cases h1_4 : x2 = (8 : Int32)
          · replace h := h.2.2.2.2.1 h1_4
            refine w_ddi ?_ (fun post hq => ⟨fun h9 => absurd (h1_4.symm.trans h9) (by decide), fun h9 => absurd (h1_4.symm.trans h9) (by decide), fun h9 => absurd (h1_4.symm.trans h9) (by decide), fun h9 => absurd (h1_4.symm.trans h9) (by decide), fun _ => hq, fun h9 => absurd (h1_4.symm.trans h9) (by decide), fun h9 => absurd (h1_4.symm.trans h9) (by decide), fun n0 n1 n2 n3 n4 n5 n6 => absurd h1_4 n4⟩)
            obtain ⟨r5, k5, h, hc5⟩ := wt_X3_swap h
            refine w_cii (Qc := fun p => q_X3_swap cf p n1 k0) hc5 ?_
            exact ⟨_, _, h, fun post hq => hq⟩
          · by_cases h1_5 : x2 = (9 : Int32)
            · replace h := h.2.2.2.2.2.1 h1_5
              refine w_ddi ?_ (fun post hq => ⟨fun h9 => absurd (h1_5.symm.trans h9) (by decide), fun h9 => absurd (h1_5.symm.trans h9) (by decide), fun h9 => absurd (h1_5.symm.trans h9) (by decide), fun h9 => absurd (h1_5.symm.trans h9) (by decide), fun h9 => absurd (h1_5.symm.trans h9) (by decide), fun _ => hq, fun h9 => absurd (h1_5.symm.trans h9) (by decide), fun n0 n1 n2 n3 n4 n5 n6 => absurd h1_5 n5⟩)
              obtain ⟨r4, k4, h, hc4⟩ := wt_X3_load h
              refine w_cii (Qc := fun p => q_X3_load cf p n1 k0) hc4 ?_
              exact ⟨_, _, h, fun post hq => hq⟩
            · by_cases h1_6 : x2 = (10 : Int32)
              · replace h := h.2.2.2.2.2.2.1 h1_6
                refine w_ddi ?_ (fun post hq => ⟨fun h9 => absurd (h1_6.symm.trans h9) (by decide), fun h9 => absurd (h1_6.symm.trans h9) (by decide), fun h9 => absurd (h1_6.symm.trans h9) (by decide), fun h9 => absurd (h1_6.symm.trans h9) (by decide), fun h9 => absurd (h1_6.symm.trans h9) (by decide), fun h9 => absurd (h1_6.symm.trans h9) (by decide), fun _ => hq, fun n0 n1 n2 n3 n4 n5 n6 => absurd h1_6 n6⟩)
                obtain ⟨r3, k3, h, hc3⟩ := wt_X3_store h
                refine w_cii (Qc := fun p => q_X3_store cf p n1 k0) hc3 ?_
                exact ⟨_, _, h, fun post hq => hq⟩
              · replace h := h.2.2.2.2.2.2.2 h1_0 h1_1 h1_2 h1_3 h1_4 h1_5 h1_6
                refine w_ddi ?_ (fun post hq => ⟨fun h9 => absurd h9 h1_0, fun h9 => absurd h9 h1_1, fun h9 => absurd h9 h1_2, fun h9 => absurd h9 h1_3, fun h9 => absurd h9 h1_4, fun h9 => absurd h9 h1_5, fun h9 => absurd h9 h1_6, fun _ _ _ _ _ _ _ => hq⟩)
                obtain ⟨r2, k2, h, hc2⟩ := wt_X3_compute h
                refine w_cii (Qc := fun p => q_X3_compute cf p n1 x2 k0) hc2 ?_
                exact ⟨_, _, h, fun post hq => hq⟩
set_option maxRecDepth 100000 in
set_option maxHeartbeats 4000000 in
theorem wt_X3_runOnItself {cf : Nat → Nat} {A : Int32 → ka_T → Prop} {n1 : Nat} {x2 : Int32} {x3 : Int32} {k0 : ka_T} (h : q_X3_runOnItself cf A n1 x2 x3 k0) : ∃ (r : Int32) (k1 : ka_T), A r k1 ∧ ∀ post : Int32 → ka_T → Prop, post r k1 → q_X3_runOnItself cf post n1 x2 x3 k0 := by
  unfold q_X3_runOnItself at h ⊢
  by_cases h1_0 : x2 = (11 : Int32)
  · replace h := h.1 h1_0
    refine w_ddi ?_ (fun post hq => ⟨fun _ => hq, fun h9 => absurd (h1_0.symm.trans h9) (by decide), fun h9 => absurd (h1_0.symm.trans h9) (by decide), fun h9 => absurd (h1_0.symm.trans h9) (by decide), fun h9 => absurd (h1_0.symm.trans h9) (by decide), fun h9 => absurd (h1_0.symm.trans h9) (by decide), fun n0 n1 n2 n3 n4 n5 => absurd h1_0 n0⟩)
    obtain ⟨r7, k7, h, hc7⟩ := wt_X3_jump h
    refine w_cii (Qc := fun p => q_X3_jump cf p n1 x3 k0) hc7 ?_
    exact ⟨_, _, h, fun post hq => hq⟩
  · by_cases h1_1 : x2 = (12 : Int32)
    · replace h := h.2.1 h1_1
      refine w_ddi ?_ (fun post hq => ⟨fun h9 => absurd (h1_1.symm.trans h9) (by decide), fun _ => hq, fun h9 => absurd (h1_1.symm.trans h9) (by decide), fun h9 => absurd (h1_1.symm.trans h9) (by decide), fun h9 => absurd (h1_1.symm.trans h9) (by decide), fun h9 => absurd (h1_1.symm.trans h9) (by decide), fun n0 n1 n2 n3 n4 n5 => absurd h1_1 n1⟩)
      obtain ⟨r6, k6, h, hc6⟩ := wt_X3_jumpIfZero h
      refine w_cii (Qc := fun p => q_X3_jumpIfZero cf p n1 x3 k0) hc6 ?_
      exact ⟨_, _, h, fun post hq => hq⟩
    · by_cases h1_2 : x2 = (13 : Int32)
      · replace h := h.2.2.1 h1_2
        refine w_ddi ?_ (fun post hq => ⟨fun h9 => absurd (h1_2.symm.trans h9) (by decide), fun h9 => absurd (h1_2.symm.trans h9) (by decide), fun _ => hq, fun h9 => absurd (h1_2.symm.trans h9) (by decide), fun h9 => absurd (h1_2.symm.trans h9) (by decide), fun h9 => absurd (h1_2.symm.trans h9) (by decide), fun n0 n1 n2 n3 n4 n5 => absurd h1_2 n2⟩)
        obtain ⟨r5, k5, h, hc5⟩ := wt_X3_callPlace h
        refine w_cii (Qc := fun p => q_X3_callPlace cf p n1 x3 k0) hc5 ?_
        exact ⟨_, _, h, fun post hq => hq⟩
      · by_cases h1_3 : x2 = (14 : Int32)
        · replace h := h.2.2.2.1 h1_3
          refine w_ddi ?_ (fun post hq => ⟨fun h9 => absurd (h1_3.symm.trans h9) (by decide), fun h9 => absurd (h1_3.symm.trans h9) (by decide), fun h9 => absurd (h1_3.symm.trans h9) (by decide), fun _ => hq, fun h9 => absurd (h1_3.symm.trans h9) (by decide), fun h9 => absurd (h1_3.symm.trans h9) (by decide), fun n0 n1 n2 n3 n4 n5 => absurd h1_3 n3⟩)
          obtain ⟨r4, k4, h, hc4⟩ := wt_X3_goBack h
          refine w_cii (Qc := fun p => q_X3_goBack cf p n1 k0) hc4 ?_
          exact ⟨_, _, h, fun post hq => hq⟩
        · by_cases h1_4 : x2 = (15 : Int32)
          · replace h := h.2.2.2.2.1 h1_4
            refine w_ddi ?_ (fun post hq => ⟨fun h9 => absurd (h1_4.symm.trans h9) (by decide), fun h9 => absurd (h1_4.symm.trans h9) (by decide), fun h9 => absurd (h1_4.symm.trans h9) (by decide), fun h9 => absurd (h1_4.symm.trans h9) (by decide), fun _ => hq, fun h9 => absurd (h1_4.symm.trans h9) (by decide), fun n0 n1 n2 n3 n4 n5 => absurd h1_4 n4⟩)
            obtain ⟨r3, k3, h, hc3⟩ := wt_X3_emit h
            refine w_cii (Qc := fun p => q_X3_emit cf p n1 k0) hc3 ?_
            exact ⟨_, _, h, fun post hq => hq⟩
          · by_cases h1_5 : x2 = (16 : Int32)
            · replace h := h.2.2.2.2.2.1 h1_5
              refine w_ddi ?_ (fun post hq => ⟨fun h9 => absurd (h1_5.symm.trans h9) (by decide), fun h9 => absurd (h1_5.symm.trans h9) (by decide), fun h9 => absurd (h1_5.symm.trans h9) (by decide), fun h9 => absurd (h1_5.symm.trans h9) (by decide), fun h9 => absurd (h1_5.symm.trans h9) (by decide), fun _ => hq, fun n0 n1 n2 n3 n4 n5 => absurd h1_5 n5⟩)
              obtain ⟨k2, h, hc2⟩ := wt_X3_enter h
              refine w_cvi (Qc := fun p => q_X3_enter cf p n1 (1 : Int32) k0) hc2 ?_
              exact ⟨_, _, h, fun post hq => hq⟩
            · replace h := h.2.2.2.2.2.2 h1_0 h1_1 h1_2 h1_3 h1_4 h1_5
              refine w_ddi ?_ (fun post hq => ⟨fun h9 => absurd h9 h1_0, fun h9 => absurd h9 h1_1, fun h9 => absurd h9 h1_2, fun h9 => absurd h9 h1_3, fun h9 => absurd h9 h1_4, fun h9 => absurd h9 h1_5, fun _ _ _ _ _ _ => hq⟩)
              refine w_ali ?_
              replace h := h _ rfl
              exact ⟨_, _, h, fun post hq => hq⟩
set_option maxRecDepth 100000 in
set_option maxHeartbeats 4000000 in
theorem wt_X3_sleep {cf : Nat → Nat} {A : Int32 → ka_T → Prop} {n1 : Nat} {k0 : ka_T} (h : q_X3_sleep cf A n1 k0) : ∃ (r : Int32) (k1 : ka_T), A r k1 ∧ ∀ post : Int32 → ka_T → Prop, post r k1 → q_X3_sleep cf post n1 k0 := by
  unfold q_X3_sleep at h ⊢
  by_cases h1 : (1 : Int32) ≤ (k0 101 (2 * n1) 0)
  · refine w_p1i h1 ?_
    replace h := h.1 h1
    obtain ⟨r2, k2, h, hc2⟩ := wt_X1_pop h
    refine w_cii (Qc := fun p => q_X1_pop cf p (2 * n1) k0) hc2 ?_
    by_cases h3 : r2 ≤ 0
    · refine w_p1i h3 ?_
      replace h := h.1 h3
      exact ⟨_, _, h, fun post hq => hq⟩
    · refine w_p2i h3 ?_
      replace h := h.2 h3
      obtain ⟨k4, h, hc4⟩ := wt_X3_enter h
      refine w_cvi (Qc := fun p => q_X3_enter cf p n1 (2 : Int32) k2) hc4 ?_
      refine w_ali ?_
      replace h := h _ rfl
      exact ⟨_, _, h, fun post hq => hq⟩
  · refine w_p2i h1 ?_
    replace h := h.2 h1
    exact ⟨_, _, h, fun post hq => hq⟩
set_option maxRecDepth 100000 in
set_option maxHeartbeats 4000000 in
theorem wt_X3_send {cf : Nat → Nat} {A : Int32 → ka_T → Prop} {n1 : Nat} {x2 : Int32} {k0 : ka_T} (h : q_X3_send cf A n1 x2 k0) : ∃ (r : Int32) (k1 : ka_T), A r k1 ∧ ∀ post : Int32 → ka_T → Prop, post r k1 → q_X3_send cf post n1 x2 k0 := by
  unfold q_X3_send at h ⊢
  obtain ⟨r1, k1, h, hc1⟩ := wt_X3_isQueue h
  refine w_cii (Qc := fun p => q_X3_isQueue cf p x2 k0) hc1 ?_
  by_cases h2 : r1 = 0
  · refine w_n2i h2 ?_
    replace h := h.2 h2
    exact ⟨_, _, h, fun post hq => hq⟩
  · refine w_n1i h2 ?_
    replace h := h.1 h2
    by_cases h3 : (1 : Int32) ≤ (k1 101 (2 * n1) 0)
    · refine w_p1i h3 ?_
      replace h := h.1 h3
      obtain ⟨r4, k4, h, hc4⟩ := wt_X1_pop h
      refine w_cii (Qc := fun p => q_X1_pop cf p (2 * n1) k1) hc4 ?_
      obtain ⟨r5, k5, hn5, h, hc5⟩ := wt_X3_firstWaiting h
      refine w_coi (Qc := fun p => q_X3_firstWaiting cf p (4 : Int32) x2 k4) hc5 ?_
      cases r5 with
      | none =>
        refine w_o0i ?_
        replace h := h.1 rfl
        obtain ⟨hv, h⟩ := h
        refine w_ari hv ?_
        have hlt := vp_lt hv
        replace h := h _ rfl hlt
        obtain ⟨r6, k6, h, hc6⟩ := wt_X0_addLast h
        refine w_cii (Qc := fun p => q_X0_addLast cf p x2.toNatClampNeg r4 k5) hc6 ?_
        by_cases h7 : r6 = 0
        · refine w_n2i h7 ?_
          replace h := h.2 h7
          obtain ⟨k8, h, hc8⟩ := wt_X3_waitAt h
          refine w_cvi (Qc := fun p => q_X3_waitAt cf p n1 (3 : Int32) x2 k6) hc8 ?_
          refine w_ali ?_
          replace h := h _ rfl
          exact ⟨_, _, h, fun post hq => hq⟩
        · refine w_n1i h7 ?_
          replace h := h.1 h7
          exact ⟨_, _, h, fun post hq => hq⟩
      | some t5 =>
        have hlt := hn5 _ rfl
        refine w_o1i ?_
        replace h := h.2 _ rfl hlt
        obtain ⟨r9, k9, h, hc9⟩ := wt_X1_push h
        refine w_cii (Qc := fun p => q_X1_push cf p (2 * t5) r4 k5) hc9 ?_
        obtain ⟨k10, h, hc10⟩ := wt_X3_enter h
        refine w_cvi (Qc := fun p => q_X3_enter cf p t5 (1 : Int32) k9) hc10 ?_
        exact ⟨_, _, h, fun post hq => hq⟩
    · refine w_p2i h3 ?_
      replace h := h.2 h3
      exact ⟨_, _, h, fun post hq => hq⟩
set_option maxRecDepth 100000 in
set_option maxHeartbeats 4000000 in
theorem wt_X3_runWithOthers {cf : Nat → Nat} {A : Int32 → ka_T → Prop} {n1 : Nat} {x2 : Int32} {x3 : Int32} {k0 : ka_T} (h : q_X3_runWithOthers cf A n1 x2 x3 k0) : ∃ (r : Int32) (k1 : ka_T), A r k1 ∧ ∀ post : Int32 → ka_T → Prop, post r k1 → q_X3_runWithOthers cf post n1 x2 x3 k0 := by
  unfold q_X3_runWithOthers at h ⊢
  by_cases h1_0 : x2 = (18 : Int32)
  · replace h := h.1 h1_0
    refine w_ddi ?_ (fun post hq => ⟨fun _ => hq, fun h9 => absurd (h1_0.symm.trans h9) (by decide), fun h9 => absurd (h1_0.symm.trans h9) (by decide), fun h9 => absurd (h1_0.symm.trans h9) (by decide), fun h9 => absurd (h1_0.symm.trans h9) (by decide), fun h9 => absurd (h1_0.symm.trans h9) (by decide), fun h9 => absurd (h1_0.symm.trans h9) (by decide), fun h9 => absurd (h1_0.symm.trans h9) (by decide), fun n0 n1 n2 n3 n4 n5 n6 n7 => absurd h1_0 n0⟩)
    obtain ⟨r9, k9, h, hc9⟩ := wt_X3_beginOther h
    refine w_cii (Qc := fun p => q_X3_beginOther cf p n1 x3 k0) hc9 ?_
    exact ⟨_, _, h, fun post hq => hq⟩
  · by_cases h1_1 : x2 = (19 : Int32)
    · replace h := h.2.1 h1_1
      refine w_ddi ?_ (fun post hq => ⟨fun h9 => absurd (h1_1.symm.trans h9) (by decide), fun _ => hq, fun h9 => absurd (h1_1.symm.trans h9) (by decide), fun h9 => absurd (h1_1.symm.trans h9) (by decide), fun h9 => absurd (h1_1.symm.trans h9) (by decide), fun h9 => absurd (h1_1.symm.trans h9) (by decide), fun h9 => absurd (h1_1.symm.trans h9) (by decide), fun h9 => absurd (h1_1.symm.trans h9) (by decide), fun n0 n1 n2 n3 n4 n5 n6 n7 => absurd h1_1 n1⟩)
      obtain ⟨r8, k8, h, hc8⟩ := wt_X3_compute h
      refine w_cii (Qc := fun p => q_X3_compute cf p n1 x2 k0) hc8 ?_
      exact ⟨_, _, h, fun post hq => hq⟩
    · by_cases h1_2 : x2 = (20 : Int32)
      · replace h := h.2.2.1 h1_2
        refine w_ddi ?_ (fun post hq => ⟨fun h9 => absurd (h1_2.symm.trans h9) (by decide), fun h9 => absurd (h1_2.symm.trans h9) (by decide), fun _ => hq, fun h9 => absurd (h1_2.symm.trans h9) (by decide), fun h9 => absurd (h1_2.symm.trans h9) (by decide), fun h9 => absurd (h1_2.symm.trans h9) (by decide), fun h9 => absurd (h1_2.symm.trans h9) (by decide), fun h9 => absurd (h1_2.symm.trans h9) (by decide), fun n0 n1 n2 n3 n4 n5 n6 n7 => absurd h1_2 n2⟩)
        obtain ⟨r7, k7, h, hc7⟩ := wt_X3_sleep h
        refine w_cii (Qc := fun p => q_X3_sleep cf p n1 k0) hc7 ?_
        exact ⟨_, _, h, fun post hq => hq⟩
      · by_cases h1_3 : x2 = (21 : Int32)
        · replace h := h.2.2.2.1 h1_3
          refine w_ddi ?_ (fun post hq => ⟨fun h9 => absurd (h1_3.symm.trans h9) (by decide), fun h9 => absurd (h1_3.symm.trans h9) (by decide), fun h9 => absurd (h1_3.symm.trans h9) (by decide), fun _ => hq, fun h9 => absurd (h1_3.symm.trans h9) (by decide), fun h9 => absurd (h1_3.symm.trans h9) (by decide), fun h9 => absurd (h1_3.symm.trans h9) (by decide), fun h9 => absurd (h1_3.symm.trans h9) (by decide), fun n0 n1 n2 n3 n4 n5 n6 n7 => absurd h1_3 n3⟩)
          obtain ⟨r6, k6, h, hc6⟩ := wt_X3_send h
          refine w_cii (Qc := fun p => q_X3_send cf p n1 x3 k0) hc6 ?_
          exact ⟨_, _, h, fun post hq => hq⟩
        · by_cases h1_4 : x2 = (22 : Int32)
          · replace h := h.2.2.2.2.1 h1_4
            refine w_ddi ?_ (fun post hq => ⟨fun h9 => absurd (h1_4.symm.trans h9) (by decide), fun h9 => absurd (h1_4.symm.trans h9) (by decide), fun h9 => absurd (h1_4.symm.trans h9) (by decide), fun h9 => absurd (h1_4.symm.trans h9) (by decide), fun _ => hq, fun h9 => absurd (h1_4.symm.trans h9) (by decide), fun h9 => absurd (h1_4.symm.trans h9) (by decide), fun h9 => absurd (h1_4.symm.trans h9) (by decide), fun n0 n1 n2 n3 n4 n5 n6 n7 => absurd h1_4 n4⟩)
            obtain ⟨r5, k5, h, hc5⟩ := wt_X3_receive h
            refine w_cii (Qc := fun p => q_X3_receive cf p n1 x3 k0) hc5 ?_
            exact ⟨_, _, h, fun post hq => hq⟩
          · by_cases h1_5 : x2 = (23 : Int32)
            · replace h := h.2.2.2.2.2.1 h1_5
              refine w_ddi ?_ (fun post hq => ⟨fun h9 => absurd (h1_5.symm.trans h9) (by decide), fun h9 => absurd (h1_5.symm.trans h9) (by decide), fun h9 => absurd (h1_5.symm.trans h9) (by decide), fun h9 => absurd (h1_5.symm.trans h9) (by decide), fun h9 => absurd (h1_5.symm.trans h9) (by decide), fun _ => hq, fun h9 => absurd (h1_5.symm.trans h9) (by decide), fun h9 => absurd (h1_5.symm.trans h9) (by decide), fun n0 n1 n2 n3 n4 n5 n6 n7 => absurd h1_5 n5⟩)
              obtain ⟨r4, k4, h, hc4⟩ := wt_X2_put h
              refine w_cii (Qc := fun p => q_X2_put cf p n1 (nI n1) k0) hc4 ?_
              exact ⟨_, _, h, fun post hq => hq⟩
            · by_cases h1_6 : x2 = (24 : Int32)
              · replace h := h.2.2.2.2.2.2.1 h1_6
                refine w_ddi ?_ (fun post hq => ⟨fun h9 => absurd (h1_6.symm.trans h9) (by decide), fun h9 => absurd (h1_6.symm.trans h9) (by decide), fun h9 => absurd (h1_6.symm.trans h9) (by decide), fun h9 => absurd (h1_6.symm.trans h9) (by decide), fun h9 => absurd (h1_6.symm.trans h9) (by decide), fun h9 => absurd (h1_6.symm.trans h9) (by decide), fun _ => hq, fun h9 => absurd (h1_6.symm.trans h9) (by decide), fun n0 n1 n2 n3 n4 n5 n6 n7 => absurd h1_6 n6⟩)
                obtain ⟨r3, k3, h, hc3⟩ := wt_X2_put h
                refine w_cii (Qc := fun p => q_X2_put cf p n1 (k0 306 0 0) k0) hc3 ?_
                exact ⟨_, _, h, fun post hq => hq⟩
              · by_cases h1_7 : x2 = (25 : Int32)
                · replace h := h.2.2.2.2.2.2.2.1 h1_7
                  refine w_ddi ?_ (fun post hq => ⟨fun h9 => absurd (h1_7.symm.trans h9) (by decide), fun h9 => absurd (h1_7.symm.trans h9) (by decide), fun h9 => absurd (h1_7.symm.trans h9) (by decide), fun h9 => absurd (h1_7.symm.trans h9) (by decide), fun h9 => absurd (h1_7.symm.trans h9) (by decide), fun h9 => absurd (h1_7.symm.trans h9) (by decide), fun h9 => absurd (h1_7.symm.trans h9) (by decide), fun _ => hq, fun n0 n1 n2 n3 n4 n5 n6 n7 => absurd h1_7 n7⟩)
                  obtain ⟨r2, k2, h, hc2⟩ := wt_X3_killOther h
                  refine w_cii (Qc := fun p => q_X3_killOther cf p n1 k0) hc2 ?_
                  exact ⟨_, _, h, fun post hq => hq⟩
                · replace h := h.2.2.2.2.2.2.2.2 h1_0 h1_1 h1_2 h1_3 h1_4 h1_5 h1_6 h1_7
                  refine w_ddi ?_ (fun post hq => ⟨fun h9 => absurd h9 h1_0, fun h9 => absurd h9 h1_1, fun h9 => absurd h9 h1_2, fun h9 => absurd h9 h1_3, fun h9 => absurd h9 h1_4, fun h9 => absurd h9 h1_5, fun h9 => absurd h9 h1_6, fun h9 => absurd h9 h1_7, fun _ _ _ _ _ _ _ _ => hq⟩)
                  exact ⟨_, _, h, fun post hq => hq⟩
set_option maxRecDepth 100000 in
set_option maxHeartbeats 4000000 in
theorem wt_X3_runWord {cf : Nat → Nat} {A : Int32 → ka_T → Prop} {n1 : Nat} {k0 : ka_T} (h : q_X3_runWord cf A n1 k0) : ∃ (r : Int32) (k1 : ka_T), A r k1 ∧ ∀ post : Int32 → ka_T → Prop, post r k1 → q_X3_runWord cf post n1 k0 := by
  unfold q_X3_runWord at h ⊢
  obtain ⟨r1, k1, h, hc1⟩ := wt_X3_isCodePlace h
  refine w_cii (Qc := fun p => q_X3_isCodePlace cf p (k0 204 n1 0) k0) hc1 ?_
  by_cases h2 : r1 = 0
  · refine w_n2i h2 ?_
    replace h := h.2 h2
    exact ⟨_, _, h, fun post hq => hq⟩
  · refine w_n1i h2 ?_
    replace h := h.1 h2
    refine w_ali ?_
    replace h := h _ rfl
    obtain ⟨hv, h⟩ := h
    refine w_ani hv ?_
    obtain ⟨hv, h⟩ := h
    refine w_ani hv ?_
    by_cases h3 : (10 : Int32) < (((k3_up k1 204 n1 0 ((k0 204 n1 0) + (1 : Int32))) 302 0 (k0 204 n1 0).toNatClampNeg) &&& (31 : Int32))
    · refine w_p1i h3 ?_
      replace h := h.1 h3
      by_cases h4 : (17 : Int32) < (((k3_up k1 204 n1 0 ((k0 204 n1 0) + (1 : Int32))) 302 0 (k0 204 n1 0).toNatClampNeg) &&& (31 : Int32))
      · refine w_p1i h4 ?_
        replace h := h.1 h4
        obtain ⟨r5, k5, h, hc5⟩ := wt_X3_runWithOthers h
        refine w_cii (Qc := fun p => q_X3_runWithOthers cf p n1 (((k3_up k1 204 n1 0 ((k0 204 n1 0) + (1 : Int32))) 302 0 (k0 204 n1 0).toNatClampNeg) &&& (31 : Int32)) (((k3_up k1 204 n1 0 ((k0 204 n1 0) + (1 : Int32))) 302 0 (k0 204 n1 0).toNatClampNeg) >>> ((5 : Int32) &&& 31)) (k3_up k1 204 n1 0 ((k0 204 n1 0) + (1 : Int32)))) hc5 ?_
        exact ⟨_, _, h, fun post hq => hq⟩
      · refine w_p2i h4 ?_
        replace h := h.2 h4
        obtain ⟨r6, k6, h, hc6⟩ := wt_X3_runOnItself h
        refine w_cii (Qc := fun p => q_X3_runOnItself cf p n1 (((k3_up k1 204 n1 0 ((k0 204 n1 0) + (1 : Int32))) 302 0 (k0 204 n1 0).toNatClampNeg) &&& (31 : Int32)) (((k3_up k1 204 n1 0 ((k0 204 n1 0) + (1 : Int32))) 302 0 (k0 204 n1 0).toNatClampNeg) >>> ((5 : Int32) &&& 31)) (k3_up k1 204 n1 0 ((k0 204 n1 0) + (1 : Int32)))) hc6 ?_
        exact ⟨_, _, h, fun post hq => hq⟩
    · refine w_p2i h3 ?_
      replace h := h.2 h3
      obtain ⟨r7, k7, h, hc7⟩ := wt_X3_runOnNumbers h
      refine w_cii (Qc := fun p => q_X3_runOnNumbers cf p n1 (((k3_up k1 204 n1 0 ((k0 204 n1 0) + (1 : Int32))) 302 0 (k0 204 n1 0).toNatClampNeg) &&& (31 : Int32)) (((k3_up k1 204 n1 0 ((k0 204 n1 0) + (1 : Int32))) 302 0 (k0 204 n1 0).toNatClampNeg) >>> ((5 : Int32) &&& 31)) (k3_up k1 204 n1 0 ((k0 204 n1 0) + (1 : Int32)))) hc7 ?_
      exact ⟨_, _, h, fun post hq => hq⟩
set_option maxRecDepth 100000 in
set_option maxHeartbeats 4000000 in
theorem wt_X3_step {cf : Nat → Nat} {A : Int32 → ka_T → Prop} {k0 : ka_T} (h : q_X3_step cf A k0) : ∃ (r : Int32) (k1 : ka_T), A r k1 ∧ ∀ post : Int32 → ka_T → Prop, post r k1 → q_X3_step cf post k0 := by
  unfold q_X3_step at h ⊢
  obtain ⟨r1, k1, h, hc1⟩ := wt_X3_next h
  refine w_cii (Qc := fun p => q_X3_next cf p  k0) hc1 ?_
  by_cases h2 : 0 ≤ r1
  · refine w_p1i h2 ?_
    replace h := h.1 h2
    obtain ⟨hv, h⟩ := h
    refine w_ari hv ?_
    have hlt := vp_lt hv
    replace h := h _ rfl hlt
    obtain ⟨r3, k3, h, hc3⟩ := wt_X3_runWord h
    refine w_cii (Qc := fun p => q_X3_runWord cf p r1.toNatClampNeg k1) hc3 ?_
    by_cases h4 : r3 = 0
    · refine w_n2i h4 ?_
      replace h := h.2 h4
      obtain ⟨r6, k6, h, hc6⟩ := wt_X3_markOf h
      refine w_cii (Qc := fun p => q_X3_markOf cf p (k3 203 r1.toNatClampNeg 0) k3) hc6 ?_
      exact ⟨_, _, h, fun post hq => hq⟩
    · refine w_n1i h4 ?_
      replace h := h.1 h4
      obtain ⟨k5, h, hc5⟩ := wt_X3_end h
      refine w_cvi (Qc := fun p => q_X3_end cf p r1.toNatClampNeg ((2 : Int32) + r3) k3) hc5 ?_
      exact ⟨_, _, h, fun post hq => hq⟩
  · refine w_p2i h2 ?_
    replace h := h.2 h2
    exact ⟨_, _, h, fun post hq => hq⟩
set_option maxRecDepth 100000 in
set_option maxHeartbeats 4000000 in
theorem wt_X3_tellsAnEnd {cf : Nat → Nat} {A : Int32 → ka_T → Prop} {x0 : Int32} {k0 : ka_T} (h : q_X3_tellsAnEnd cf A x0 k0) : ∃ (r : Int32) (k1 : ka_T), A r k1 ∧ ∀ post : Int32 → ka_T → Prop, post r k1 → q_X3_tellsAnEnd cf post x0 k0 := by
  unfold q_X3_tellsAnEnd at h ⊢
  by_cases h1 : x0 = (1 : Int32)
  · refine w_p1i h1 ?_
    replace h := h.1 h1
    exact ⟨_, _, h, fun post hq => hq⟩
  · refine w_p2i h1 ?_
    replace h := h.2 h1
    by_cases h2 : x0 < (8 : Int32)
    · refine w_p1i h2 ?_
      replace h := h.1 h2
      exact ⟨_, _, h, fun post hq => hq⟩
    · refine w_p2i h2 ?_
      replace h := h.2 h2
      exact ⟨_, _, h, fun post hq => hq⟩
set_option maxRecDepth 100000 in
set_option maxHeartbeats 4000000 in
theorem wb_X3_run_15 {cf : Nat → Nat} {A : Int32 → ka_T → Prop} : ∀ (nf : Nat) (x1 : Int32) (x2 : Int32) (k0 : ka_T), q_X3_run_15 cf A nf x1 x2 k0 → ∃ (r : Int32) (k1 : ka_T), A r k1 ∧ ∀ post : Int32 → ka_T → Prop, post r k1 → q_X3_run_15 cf post nf x1 x2 k0 := by
  intro nf
  induction nf with
  | zero => intro x1 x2 k0 h; exact False.elim h
  | succ nf ih =>
    intro x1 x2 k0 h
    simp only [q_X3_run_15] at h ⊢
    by_cases h1 : x1 ≤ x2
    · refine w_p1i h1 ?_
      replace h := h.1 h1
      exact ⟨_, _, h, fun post hq => hq⟩
    · refine w_p2i h1 ?_
      replace h := h.2 h1
      obtain ⟨r2, k2, h, hc2⟩ := wt_X3_step h
      refine w_cii (Qc := fun p => q_X3_step cf p  k0) hc2 ?_
      by_cases h3 : 0 ≤ r2
      · refine w_p1i h3 ?_
        replace h := h.1 h3
        obtain ⟨r4, k4, h, hc4⟩ := wt_X3_tellsAnEnd h
        refine w_cii (Qc := fun p => q_X3_tellsAnEnd cf p (r2 - r2 / (16 : Int32) * (16 : Int32)) k2) hc4 ?_
        by_cases h5 : r4 = 0
        · refine w_p1i h5 ?_
          replace h := h.1 h5
          exact ih x1 (x2 + 1) k4 h
        · refine w_p2i h5 ?_
          replace h := h.2 h5
          exact ⟨_, _, h, fun post hq => hq⟩
      · refine w_p2i h3 ?_
        replace h := h.2 h3
        exact ⟨_, _, h, fun post hq => hq⟩
set_option maxRecDepth 100000 in
set_option maxHeartbeats 4000000 in
theorem wt_X3_run {cf : Nat → Nat} {A : Int32 → ka_T → Prop} {x1 : Int32} {k0 : ka_T} (h : q_X3_run cf A x1 k0) : ∃ (r : Int32) (k1 : ka_T), A r k1 ∧ ∀ post : Int32 → ka_T → Prop, post r k1 → q_X3_run cf post x1 k0 := by
  unfold q_X3_run at h ⊢
  by_cases h6 : x1 < (1 : Int32)
  · refine w_p1i h6 ?_
    replace h := h.1 h6
    exact ⟨_, _, h, fun post hq => hq⟩
  · refine w_p2i h6 ?_
    replace h := h.2 h6
    by_cases h7 : x1 ≤ (64 : Int32)
    · refine w_p1i h7 ?_
      replace h := h.1 h7
      obtain ⟨nf9, h⟩ := h
      refine w_exi nf9 ?_
      exact wb_X3_run_15 nf9 x1 (0 : Int32) k0 h
    · refine w_p2i h7 ?_
      replace h := h.2 h7
      exact ⟨_, _, h, fun post hq => hq⟩
set_option maxRecDepth 100000 in
set_option maxHeartbeats 4000000 in
theorem wt_X3_spawn {cf : Nat → Nat} {A : Int32 → ka_T → Prop} {x1 : Int32} {x2 : Int32} {k0 : ka_T} (h : q_X3_spawn cf A x1 x2 k0) : ∃ (r : Int32) (k1 : ka_T), A r k1 ∧ ∀ post : Int32 → ka_T → Prop, post r k1 → q_X3_spawn cf post x1 x2 k0 := by
  unfold q_X3_spawn at h ⊢
  obtain ⟨r1, k1, h, hc1⟩ := wt_X3_isCodePlace h
  refine w_cii (Qc := fun p => q_X3_isCodePlace cf p x1 k0) hc1 ?_
  by_cases h2 : r1 = 0
  · refine w_p1i h2 ?_
    replace h := h.1 h2
    exact ⟨_, _, h, fun post hq => hq⟩
  · refine w_p2i h2 ?_
    replace h := h.2 h2
    by_cases h3 : x2 < 0
    · refine w_p1i h3 ?_
      replace h := h.1 h3
      exact ⟨_, _, h, fun post hq => hq⟩
    · refine w_p2i h3 ?_
      replace h := h.2 h3
      by_cases h4 : x2 ≤ (7 : Int32)
      · refine w_p1i h4 ?_
        replace h := h.1 h4
        obtain ⟨r5, k5, h, hc5⟩ := wt_X3_beginLeastFree h
        refine w_cii (Qc := fun p => q_X3_beginLeastFree cf p x1 x2 k1) hc5 ?_
        by_cases h6 : r5 < 0
        · refine w_p1i h6 ?_
          replace h := h.1 h6
          exact ⟨_, _, h, fun post hq => hq⟩
        · refine w_p2i h6 ?_
          replace h := h.2 h6
          refine w_ali ?_
          replace h := h _ rfl
          exact ⟨_, _, h, fun post hq => hq⟩
      · refine w_p2i h4 ?_
        replace h := h.2 h4
        exact ⟨_, _, h, fun post hq => hq⟩
set_option maxRecDepth 100000 in
set_option maxHeartbeats 4000000 in
theorem wt_X3_stack {cf : Nat → Nat} {A : Int32 → ka_T → Prop} {x1 : Int32} {x2 : Int32} {k0 : ka_T} (h : q_X3_stack cf A x1 x2 k0) : ∃ (r : Int32) (k1 : ka_T), A r k1 ∧ ∀ post : Int32 → ka_T → Prop, post r k1 → q_X3_stack cf post x1 x2 k0 := by
  unfold q_X3_stack at h ⊢
  obtain ⟨r1, k1, h, hc1⟩ := wt_X3_isLive h
  refine w_cii (Qc := fun p => q_X3_isLive cf p x1 k0) hc1 ?_
  by_cases h2 : r1 = 0
  · refine w_p1i h2 ?_
    replace h := h.1 h2
    exact ⟨_, _, h, fun post hq => hq⟩
  · refine w_p2i h2 ?_
    replace h := h.2 h2
    obtain ⟨hv, h⟩ := h
    refine w_ari hv ?_
    have hlt := vp_lt hv
    replace h := h _ rfl hlt
    obtain ⟨r3, k3, h, hc3⟩ := wt_X1_fromTop h
    refine w_cii (Qc := fun p => q_X1_fromTop cf p (2 * x1.toNatClampNeg) x2 k1) hc3 ?_
    exact ⟨_, _, h, fun post hq => hq⟩
set_option maxRecDepth 100000 in
set_option maxHeartbeats 4000000 in
theorem wt_X3_state {cf : Nat → Nat} {A : Int32 → ka_T → Prop} {x1 : Int32} {k0 : ka_T} (h : q_X3_state cf A x1 k0) : ∃ (r : Int32) (k1 : ka_T), A r k1 ∧ ∀ post : Int32 → ka_T → Prop, post r k1 → q_X3_state cf post x1 k0 := by
  unfold q_X3_state at h ⊢
  obtain ⟨r1, k1, h, hc1⟩ := wt_X3_isTask h
  refine w_cii (Qc := fun p => q_X3_isTask cf p x1 k0) hc1 ?_
  by_cases h2 : r1 = 0
  · refine w_p1i h2 ?_
    replace h := h.1 h2
    exact ⟨_, _, h, fun post hq => hq⟩
  · refine w_p2i h2 ?_
    replace h := h.2 h2
    obtain ⟨hv, h⟩ := h
    refine w_ari hv ?_
    have hlt := vp_lt hv
    replace h := h _ rfl hlt
    exact ⟨_, _, h, fun post hq => hq⟩
set_option maxRecDepth 100000 in
set_option maxHeartbeats 4000000 in
theorem wt_X3_task {cf : Nat → Nat} {A : Int32 → ka_T → Prop} {x1 : Int32} {x2 : Int32} {k0 : ka_T} (h : q_X3_task cf A x1 x2 k0) : ∃ (r : Int32) (k1 : ka_T), A r k1 ∧ ∀ post : Int32 → ka_T → Prop, post r k1 → q_X3_task cf post x1 x2 k0 := by
  unfold q_X3_task at h ⊢
  obtain ⟨r1, k1, h, hc1⟩ := wt_X3_isLive h
  refine w_cii (Qc := fun p => q_X3_isLive cf p x1 k0) hc1 ?_
  by_cases h2 : r1 = 0
  · refine w_n2i h2 ?_
    replace h := h.2 h2
    exact ⟨_, _, h, fun post hq => hq⟩
  · refine w_n1i h2 ?_
    replace h := h.1 h2
    obtain ⟨hv, h⟩ := h
    refine w_ari hv ?_
    have hlt := vp_lt hv
    replace h := h _ rfl hlt
    by_cases h3_0 : x2 = (0 : Int32)
    · replace h := h.1 h3_0
      refine w_ddi ?_ (fun post hq => ⟨fun _ => hq, fun h9 => absurd (h3_0.symm.trans h9) (by decide), fun h9 => absurd (h3_0.symm.trans h9) (by decide), fun h9 => absurd (h3_0.symm.trans h9) (by decide), fun h9 => absurd (h3_0.symm.trans h9) (by decide), fun h9 => absurd (h3_0.symm.trans h9) (by decide), fun n0 n1 n2 n3 n4 n5 => absurd h3_0 n0⟩)
      exact ⟨_, _, h, fun post hq => hq⟩
    · by_cases h3_1 : x2 = (1 : Int32)
      · replace h := h.2.1 h3_1
        refine w_ddi ?_ (fun post hq => ⟨fun h9 => absurd (h3_1.symm.trans h9) (by decide), fun _ => hq, fun h9 => absurd (h3_1.symm.trans h9) (by decide), fun h9 => absurd (h3_1.symm.trans h9) (by decide), fun h9 => absurd (h3_1.symm.trans h9) (by decide), fun h9 => absurd (h3_1.symm.trans h9) (by decide), fun n0 n1 n2 n3 n4 n5 => absurd h3_1 n1⟩)
        exact ⟨_, _, h, fun post hq => hq⟩
      · by_cases h3_2 : x2 = (2 : Int32)
        · replace h := h.2.2.1 h3_2
          refine w_ddi ?_ (fun post hq => ⟨fun h9 => absurd (h3_2.symm.trans h9) (by decide), fun h9 => absurd (h3_2.symm.trans h9) (by decide), fun _ => hq, fun h9 => absurd (h3_2.symm.trans h9) (by decide), fun h9 => absurd (h3_2.symm.trans h9) (by decide), fun h9 => absurd (h3_2.symm.trans h9) (by decide), fun n0 n1 n2 n3 n4 n5 => absurd h3_2 n2⟩)
          exact ⟨_, _, h, fun post hq => hq⟩
        · by_cases h3_3 : x2 = (3 : Int32)
          · replace h := h.2.2.2.1 h3_3
            refine w_ddi ?_ (fun post hq => ⟨fun h9 => absurd (h3_3.symm.trans h9) (by decide), fun h9 => absurd (h3_3.symm.trans h9) (by decide), fun h9 => absurd (h3_3.symm.trans h9) (by decide), fun _ => hq, fun h9 => absurd (h3_3.symm.trans h9) (by decide), fun h9 => absurd (h3_3.symm.trans h9) (by decide), fun n0 n1 n2 n3 n4 n5 => absurd h3_3 n3⟩)
            exact ⟨_, _, h, fun post hq => hq⟩
          · by_cases h3_4 : x2 = (4 : Int32)
            · replace h := h.2.2.2.2.1 h3_4
              refine w_ddi ?_ (fun post hq => ⟨fun h9 => absurd (h3_4.symm.trans h9) (by decide), fun h9 => absurd (h3_4.symm.trans h9) (by decide), fun h9 => absurd (h3_4.symm.trans h9) (by decide), fun h9 => absurd (h3_4.symm.trans h9) (by decide), fun _ => hq, fun h9 => absurd (h3_4.symm.trans h9) (by decide), fun n0 n1 n2 n3 n4 n5 => absurd h3_4 n4⟩)
              exact ⟨_, _, h, fun post hq => hq⟩
            · by_cases h3_5 : x2 = (5 : Int32)
              · replace h := h.2.2.2.2.2.1 h3_5
                refine w_ddi ?_ (fun post hq => ⟨fun h9 => absurd (h3_5.symm.trans h9) (by decide), fun h9 => absurd (h3_5.symm.trans h9) (by decide), fun h9 => absurd (h3_5.symm.trans h9) (by decide), fun h9 => absurd (h3_5.symm.trans h9) (by decide), fun h9 => absurd (h3_5.symm.trans h9) (by decide), fun _ => hq, fun n0 n1 n2 n3 n4 n5 => absurd h3_5 n5⟩)
                exact ⟨_, _, h, fun post hq => hq⟩
              · replace h := h.2.2.2.2.2.2 h3_0 h3_1 h3_2 h3_3 h3_4 h3_5
                refine w_ddi ?_ (fun post hq => ⟨fun h9 => absurd h9 h3_0, fun h9 => absurd h9 h3_1, fun h9 => absurd h9 h3_2, fun h9 => absurd h9 h3_3, fun h9 => absurd h9 h3_4, fun h9 => absurd h9 h3_5, fun _ _ _ _ _ _ => hq⟩)
                exact ⟨_, _, h, fun post hq => hq⟩
set_option maxRecDepth 100000 in
set_option maxHeartbeats 4000000 in
theorem wb_X3_tick_12 {cf : Nat → Nat} {A : Int32 → ka_T → Prop} : ∀ (nf : Nat) (x1 : Int32) (k0 : ka_T), q_X3_tick_12 cf A nf x1 k0 → ∃ (r : Int32) (k1 : ka_T), A r k1 ∧ ∀ post : Int32 → ka_T → Prop, post r k1 → q_X3_tick_12 cf post nf x1 k0 := by
  intro nf
  induction nf with
  | zero => intro x1 k0 h; exact False.elim h
  | succ nf ih =>
    intro x1 k0 h
    simp only [q_X3_tick_12] at h ⊢
    by_cases h1 : (nI (cf 0)) ≤ x1
    · refine w_p1i h1 ?_
      replace h := h.1 h1
      exact ⟨_, _, h, fun post hq => hq⟩
    · refine w_p2i h1 ?_
      replace h := h.2 h1
      obtain ⟨r2, k2, hn2, h, hc2⟩ := wt_X3_firstDueSleeper h
      refine w_coi (Qc := fun p => q_X3_firstDueSleeper cf p  k0) hc2 ?_
      cases r2 with
      | none =>
        refine w_o0i ?_
        replace h := h.1 rfl
        exact ⟨_, _, h, fun post hq => hq⟩
      | some t2 =>
        have hlt := hn2 _ rfl
        refine w_o1i ?_
        replace h := h.2 _ rfl hlt
        obtain ⟨k3, h, hc3⟩ := wt_X3_enter h
        refine w_cvi (Qc := fun p => q_X3_enter cf p t2 (1 : Int32) k2) hc3 ?_
        exact ih (x1 + 1) k3 h
set_option maxRecDepth 100000 in
set_option maxHeartbeats 4000000 in
theorem wt_X3_tick {cf : Nat → Nat} {A : Int32 → ka_T → Prop} {k0 : ka_T} (h : q_X3_tick cf A k0) : ∃ (r : Int32) (k1 : ka_T), A r k1 ∧ ∀ post : Int32 → ka_T → Prop, post r k1 → q_X3_tick cf post k0 := by
  unfold q_X3_tick at h ⊢
  refine w_ali ?_
  replace h := h _ rfl
  obtain ⟨nf9, h⟩ := h
  refine w_exi nf9 ?_
  exact wb_X3_tick_12 nf9 (0 : Int32) (k3_up k0 306 0 0 ((k0 306 0 0) + (1 : Int32))) h
set_option maxRecDepth 100000 in
set_option maxHeartbeats 4000000 in
theorem wb_X3_waiter_24 {cf : Nat → Nat} {A : Int32 → ka_T → Prop} : ∀ (nf : Nat) (x1 : Int32) (x3 : Int32) (x4 : Int32) (x5 : Int32) (k0 : ka_T), q_X3_waiter_24 cf A nf x1 x3 x4 x5 k0 → ∃ (r : Int32) (k1 : ka_T), A r k1 ∧ ∀ post : Int32 → ka_T → Prop, post r k1 → q_X3_waiter_24 cf post nf x1 x3 x4 x5 k0 := by
  intro nf
  induction nf with
  | zero => intro x1 x3 x4 x5 k0 h; exact False.elim h
  | succ nf ih =>
    intro x1 x3 x4 x5 k0 h
    simp only [q_X3_waiter_24] at h ⊢
    by_cases h1 : (nI (cf 0)) ≤ x5
    · refine w_p1i h1 ?_
      replace h := h.1 h1
      exact ⟨_, _, h, fun post hq => hq⟩
    · refine w_p2i h1 ?_
      replace h := h.2 h1
      obtain ⟨hv, h⟩ := h
      refine w_ari hv ?_
      have hlt := vp_lt hv
      replace h := h _ rfl hlt
      obtain ⟨r2, k2, h, hc2⟩ := wt_X2_isWaiting h
      refine w_cii (Qc := fun p => q_X2_isWaiting cf p x5.toNatClampNeg x4 x1 k0) hc2 ?_
      by_cases h3 : r2 = 0
      · refine w_p1i h3 ?_
        replace h := h.1 h3
        exact ih x1 x3 x4 (x5 + 1) k2 h
      · refine w_p2i h3 ?_
        replace h := h.2 h3
        obtain ⟨hv, h⟩ := h
        refine w_ari hv ?_
        have hlt := vp_lt hv
        replace h := h _ rfl hlt
        obtain ⟨r4, k4, h, hc4⟩ := wt_X3_countBefore h
        refine w_cii (Qc := fun p => q_X3_countBefore cf p x5.toNatClampNeg k2) hc4 ?_
        by_cases h5 : r4 = x3
        · refine w_n2i h5 ?_
          replace h := h.2 h5
          exact ⟨_, _, h, fun post hq => hq⟩
        · refine w_n1i h5 ?_
          replace h := h.1 h5
          exact ih x1 x3 x4 (x5 + 1) k4 h
set_option maxRecDepth 100000 in
set_option maxHeartbeats 4000000 in
theorem wt_X3_waiter {cf : Nat → Nat} {A : Int32 → ka_T → Prop} {x1 : Int32} {x2 : Int32} {x3 : Int32} {k0 : ka_T} (h : q_X3_waiter cf A x1 x2 x3 k0) : ∃ (r : Int32) (k1 : ka_T), A r k1 ∧ ∀ post : Int32 → ka_T → Prop, post r k1 → q_X3_waiter cf post x1 x2 x3 k0 := by
  unfold q_X3_waiter at h ⊢
  obtain ⟨r6, k6, h, hc6⟩ := wt_X3_isQueue h
  refine w_cii (Qc := fun p => q_X3_isQueue cf p x1 k0) hc6 ?_
  by_cases h7 : r6 = 0
  · refine w_n2i h7 ?_
    replace h := h.2 h7
    exact ⟨_, _, h, fun post hq => hq⟩
  · refine w_n1i h7 ?_
    replace h := h.1 h7
    by_cases h8 : x2 = 0
    · refine w_p1i h8 ?_
      replace h := h.1 h8
      obtain ⟨nf9, h⟩ := h
      refine w_exi nf9 ?_
      exact wb_X3_waiter_24 nf9 x1 x3 (4 : Int32) (0 : Int32) k6 h
    · refine w_p2i h8 ?_
      replace h := h.2 h8
      obtain ⟨nf9, h⟩ := h
      refine w_exi nf9 ?_
      exact wb_X3_waiter_24 nf9 x1 x3 (3 : Int32) (0 : Int32) k6 h
set_option maxRecDepth 100000 in
set_option maxHeartbeats 4000000 in
theorem wt_X3_why {cf : Nat → Nat} {A : Int32 → ka_T → Prop} {x1 : Int32} {k0 : ka_T} (h : q_X3_why cf A x1 k0) : ∃ (r : Int32) (k1 : ka_T), A r k1 ∧ ∀ post : Int32 → ka_T → Prop, post r k1 → q_X3_why cf post x1 k0 := by
  unfold q_X3_why at h ⊢
  obtain ⟨r1, k1, h, hc1⟩ := wt_X3_isTask h
  refine w_cii (Qc := fun p => q_X3_isTask cf p x1 k0) hc1 ?_
  by_cases h2 : r1 = 0
  · refine w_p1i h2 ?_
    replace h := h.1 h2
    exact ⟨_, _, h, fun post hq => hq⟩
  · refine w_p2i h2 ?_
    replace h := h.2 h2
    obtain ⟨hv, h⟩ := h
    refine w_ari hv ?_
    have hlt := vp_lt hv
    replace h := h _ rfl hlt
    exact ⟨_, _, h, fun post hq => hq⟩
set_option maxRecDepth 100000 in
set_option maxHeartbeats 4000000 in
theorem wt_X4_append {cf : Nat → Nat} {A : ka_T → Prop} {x1 : Int32} {x2 : Int32} {k0 : ka_T} (h : q_X4_append cf A x1 x2 k0) : ∃ k1 : ka_T, A k1 ∧ ∀ post : ka_T → Prop, post k1 → q_X4_append cf post x1 x2 k0 := by
  unfold q_X4_append at h ⊢
  obtain ⟨hv, h⟩ := h
  refine w_anv hv ?_
  obtain ⟨hv, h⟩ := h
  refine w_anv hv ?_
  refine w_alv ?_
  replace h := h _ rfl
  obtain ⟨hv, h⟩ := h
  refine w_anv hv ?_
  obtain ⟨hv, h⟩ := h
  refine w_anv hv ?_
  refine w_alv ?_
  replace h := h _ rfl
  exact ⟨_, h, fun post hq => hq⟩
set_option maxRecDepth 100000 in
set_option maxHeartbeats 4000000 in
theorem wt_X4_fall {cf : Nat → Nat} {A : ka_T → Prop} {x1 : Int32} {k0 : ka_T} (h : q_X4_fall cf A x1 k0) : ∃ k1 : ka_T, A k1 ∧ ∀ post : ka_T → Prop, post k1 → q_X4_fall cf post x1 k0 := by
  unfold q_X4_fall at h ⊢
  by_cases h1 : (k0 426 0 0) = 0
  · refine w_n2v h1 ?_
    replace h := h.2 h1
    refine w_alv ?_
    replace h := h _ rfl
    exact ⟨_, h, fun post hq => hq⟩
  · refine w_n1v h1 ?_
    replace h := h.1 h1
    refine w_alv ?_
    replace h := h _ rfl
    exact ⟨_, h, fun post hq => hq⟩
set_option maxRecDepth 100000 in
set_option maxHeartbeats 4000000 in
theorem wb_X4_take_17 {cf : Nat → Nat} {A : Int32 → ka_T → Prop} : ∀ (k0 : ka_T), q_X4_take_17 cf A k0 → ∃ (r : Int32) (k1 : ka_T), A r k1 ∧ ∀ post : Int32 → ka_T → Prop, post r k1 → q_X4_take_17 cf post k0 := by
  intro k0 h
  unfold q_X4_take_17 at h ⊢
  by_cases h1 : (k0 426 0 0) ≤ 0
  · refine w_p1i h1 ?_
    replace h := h.1 h1
    obtain ⟨hv, h⟩ := h
    refine w_ani hv ?_
    obtain ⟨hv, h⟩ := h
    refine w_ani hv ?_
    refine w_ali ?_
    replace h := h _ rfl
    obtain ⟨hv, h⟩ := h
    refine w_ani hv ?_
    obtain ⟨hv, h⟩ := h
    refine w_ani hv ?_
    exact ⟨_, _, h, fun post hq => hq⟩
  · refine w_p2i h1 ?_
    replace h := h.2 h1
    exact ⟨_, _, h, fun post hq => hq⟩
set_option maxRecDepth 100000 in
set_option maxHeartbeats 4000000 in
theorem wt_X4_take {cf : Nat → Nat} {A : Int32 → ka_T → Prop} {k0 : ka_T} (h : q_X4_take cf A k0) : ∃ (r : Int32) (k1 : ka_T), A r k1 ∧ ∀ post : Int32 → ka_T → Prop, post r k1 → q_X4_take cf post k0 := by
  unfold q_X4_take at h ⊢
  obtain ⟨hv, h⟩ := h
  refine w_ani hv ?_
  by_cases h2 : (k0 412 0 (k0 425 0 0).toNatClampNeg) = 0
  · refine w_n2i h2 ?_
    replace h := h.2 h2
    obtain ⟨k3, h, hc3⟩ := wt_X4_fall h
    refine w_cvi (Qc := fun p => q_X4_fall cf p (1 : Int32) k0) hc3 ?_
    exact wb_X4_take_17  k3 h
  · refine w_n1i h2 ?_
    replace h := h.1 h2
    exact wb_X4_take_17  k0 h
set_option maxRecDepth 100000 in
set_option maxHeartbeats 4000000 in
theorem wt_X4_give {cf : Nat → Nat} {A : ka_T → Prop} {x1 : Int32} {x2 : Int32} {k0 : ka_T} (h : q_X4_give cf A x1 x2 k0) : ∃ k1 : ka_T, A k1 ∧ ∀ post : ka_T → Prop, post k1 → q_X4_give cf post x1 x2 k0 := by
  unfold q_X4_give at h ⊢
  obtain ⟨hv, h⟩ := h
  refine w_anv hv ?_
  obtain ⟨hv, h⟩ := h
  refine w_anv hv ?_
  refine w_alv ?_
  replace h := h _ rfl
  obtain ⟨hv, h⟩ := h
  refine w_anv hv ?_
  obtain ⟨hv, h⟩ := h
  refine w_anv hv ?_
  refine w_alv ?_
  replace h := h _ rfl
  exact ⟨_, h, fun post hq => hq⟩
set_option maxRecDepth 100000 in
set_option maxHeartbeats 4000000 in
theorem wt_X4_put {cf : Nat → Nat} {A : ka_T → Prop} {x1 : Int32} {k0 : ka_T} (h : q_X4_put cf A x1 k0) : ∃ k1 : ka_T, A k1 ∧ ∀ post : ka_T → Prop, post k1 → q_X4_put cf post x1 k0 := by
  unfold q_X4_put at h ⊢
  obtain ⟨hv, h⟩ := h
  refine w_anv hv ?_
  by_cases h1 : (k0 412 0 (k0 425 0 0).toNatClampNeg) = (nI (cf 1))
  · refine w_n2v h1 ?_
    replace h := h.2 h1
    obtain ⟨k4, h, hc4⟩ := wt_X4_fall h
    refine w_cvv (Qc := fun p => q_X4_fall cf p (1 : Int32) k0) hc4 ?_
    by_cases h5 : (k4 426 0 0) = 0
    · refine w_n2v h5 ?_
      replace h := h.2 h5
      obtain ⟨k6, h, hc6⟩ := wt_X4_give h
      refine w_cvv (Qc := fun p => q_X4_give cf p (k4 425 0 0) x1 k4) hc6 ?_
      exact ⟨_, h, fun post hq => hq⟩
    · refine w_n1v h5 ?_
      replace h := h.1 h5
      exact ⟨_, h, fun post hq => hq⟩
  · refine w_n1v h1 ?_
    replace h := h.1 h1
    by_cases h2 : (k0 426 0 0) = 0
    · refine w_n2v h2 ?_
      replace h := h.2 h2
      obtain ⟨k3, h, hc3⟩ := wt_X4_give h
      refine w_cvv (Qc := fun p => q_X4_give cf p (k0 425 0 0) x1 k0) hc3 ?_
      exact ⟨_, h, fun post hq => hq⟩
    · refine w_n1v h2 ?_
      replace h := h.1 h2
      exact ⟨_, h, fun post hq => hq⟩
