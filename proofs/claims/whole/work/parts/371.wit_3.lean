/-! printed by wip/whole/wit.py -/
set_option maxRecDepth 100000 in
set_option maxHeartbeats 4000000 in
theorem wb_X4_taskOp_220 {cf : Nat → Nat} {A : ka_T → Prop} : ∀ (x4 : Int32) (k0 : ka_T), q_X4_taskOp_220 cf A x4 k0 → ∃ k1 : ka_T, A k1 ∧ ∀ post : ka_T → Prop, post k1 → q_X4_taskOp_220 cf post x4 k0 := by
  intro x4 k0 h
  unfold q_X4_taskOp_220 at h ⊢
  obtain ⟨hv, h⟩ := h
  refine w_anv hv ?_
  by_cases h1 : (k0 409 0 (k0 425 0 0).toNatClampNeg) ≤ 0
  · refine w_p1v h1 ?_
    replace h := h.1 h1
    exact ⟨_, h, fun post hq => hq⟩
  · refine w_p2v h1 ?_
    replace h := h.2 h1
    by_cases h2 : x4 = 0
    · refine w_p1v h2 ?_
      replace h := h.1 h2
      obtain ⟨k3, h, hc3⟩ := wt_X4_put h
      refine w_cvv (Qc := fun p => q_X4_put cf p (0 : Int32) k0) hc3 ?_
      exact ⟨_, h, fun post hq => hq⟩
    · refine w_p2v h2 ?_
      replace h := h.2 h2
      obtain ⟨k4, h, hc4⟩ := wt_X4_put h
      refine w_cvv (Qc := fun p => q_X4_put cf p (1 : Int32) k0) hc4 ?_
      exact ⟨_, h, fun post hq => hq⟩
set_option maxRecDepth 100000 in
set_option maxHeartbeats 4000000 in
theorem wb_X4_taskOp_38 {cf : Nat → Nat} {A : ka_T → Prop} : ∀ (x1 : Int32) (x2 : Int32) (y0 : Int32) (k0 : ka_T), q_X4_taskOp_38 cf A x1 x2 y0 k0 → ∃ k1 : ka_T, A k1 ∧ ∀ post : ka_T → Prop, post k1 → q_X4_taskOp_38 cf post x1 x2 y0 k0 := by
  intro x1 x2 y0 k0 h
  unfold q_X4_taskOp_38 at h ⊢
  by_cases h5 : (k0 426 0 0) ≤ 0
  · refine w_p1v h5 ?_
    replace h := h.1 h5
    by_cases h6_0 : x1 = (15 : Int32)
    · replace h := h.1 h6_0
      refine w_ddv ?_ (fun post hq => ⟨fun _ => hq, fun h9 => absurd (h6_0.symm.trans h9) (by decide), fun h9 => absurd (h6_0.symm.trans h9) (by decide), fun h9 => absurd (h6_0.symm.trans h9) (by decide), fun h9 => absurd (h6_0.symm.trans h9) (by decide), fun n0 n1 n2 n3 n4 => absurd h6_0 n0⟩)
      obtain ⟨hv, h⟩ := h
      refine w_anv hv ?_
      refine w_alv ?_
      replace h := h _ rfl
      refine w_alv ?_
      replace h := h _ rfl
      exact ⟨_, h, fun post hq => hq⟩
    · by_cases h6_1 : x1 = (16 : Int32)
      · replace h := h.2.1 h6_1
        refine w_ddv ?_ (fun post hq => ⟨fun h9 => absurd (h6_1.symm.trans h9) (by decide), fun _ => hq, fun h9 => absurd (h6_1.symm.trans h9) (by decide), fun h9 => absurd (h6_1.symm.trans h9) (by decide), fun h9 => absurd (h6_1.symm.trans h9) (by decide), fun n0 n1 n2 n3 n4 => absurd h6_1 n1⟩)
        obtain ⟨k16, h, hc16⟩ := wt_X4_set h
        refine w_cvv (Qc := fun p => q_X4_set cf p (k0 425 0 0) (1 : Int32) k0) hc16 ?_
        exact ⟨_, h, fun post hq => hq⟩
      · by_cases h6_2 : x1 = (17 : Int32)
        · replace h := h.2.2.1 h6_2
          refine w_ddv ?_ (fun post hq => ⟨fun h9 => absurd (h6_2.symm.trans h9) (by decide), fun h9 => absurd (h6_2.symm.trans h9) (by decide), fun _ => hq, fun h9 => absurd (h6_2.symm.trans h9) (by decide), fun h9 => absurd (h6_2.symm.trans h9) (by decide), fun n0 n1 n2 n3 n4 => absurd h6_2 n2⟩)
          obtain ⟨hv, h⟩ := h
          refine w_anv hv ?_
          refine w_alv ?_
          replace h := h _ rfl
          exact ⟨_, h, fun post hq => hq⟩
        · by_cases h6_3 : x1 = (18 : Int32)
          · replace h := h.2.2.2.1 h6_3
            refine w_ddv ?_ (fun post hq => ⟨fun h9 => absurd (h6_3.symm.trans h9) (by decide), fun h9 => absurd (h6_3.symm.trans h9) (by decide), fun h9 => absurd (h6_3.symm.trans h9) (by decide), fun _ => hq, fun h9 => absurd (h6_3.symm.trans h9) (by decide), fun n0 n1 n2 n3 n4 => absurd h6_3 n3⟩)
            obtain ⟨r14, k14, h, hc14⟩ := wt_X4_begin h
            refine w_civ (Qc := fun p => q_X4_begin cf p x2 (y0 &&& (7 : Int32)) k0) hc14 ?_
            obtain ⟨k15, h, hc15⟩ := wt_X4_put h
            refine w_cvv (Qc := fun p => q_X4_put cf p r14 k14) hc15 ?_
            exact ⟨_, h, fun post hq => hq⟩
          · by_cases h6_4 : x1 = (20 : Int32)
            · replace h := h.2.2.2.2.1 h6_4
              refine w_ddv ?_ (fun post hq => ⟨fun h9 => absurd (h6_4.symm.trans h9) (by decide), fun h9 => absurd (h6_4.symm.trans h9) (by decide), fun h9 => absurd (h6_4.symm.trans h9) (by decide), fun h9 => absurd (h6_4.symm.trans h9) (by decide), fun _ => hq, fun n0 n1 n2 n3 n4 => absurd h6_4 n4⟩)
              by_cases h10 : y0 ≤ 0
              · refine w_p1v h10 ?_
                replace h := h.1 h10
                exact ⟨_, h, fun post hq => hq⟩
              · refine w_p2v h10 ?_
                replace h := h.2 h10
                by_cases h11 : (1000 : Int32) ≤ y0
                · refine w_p1v h11 ?_
                  replace h := h.1 h11
                  obtain ⟨hv, h⟩ := h
                  refine w_anv hv ?_
                  refine w_alv ?_
                  replace h := h _ rfl
                  obtain ⟨k12, h, hc12⟩ := wt_X4_set h
                  refine w_cvv (Qc := fun p => q_X4_set cf p ((k3_up k0 416 0 (k0 425 0 0).toNatClampNeg ((k0 407 0 0) + (1000 : Int32))) 425 0 0) (2 : Int32) (k3_up k0 416 0 (k0 425 0 0).toNatClampNeg ((k0 407 0 0) + (1000 : Int32)))) hc12 ?_
                  exact ⟨_, h, fun post hq => hq⟩
                · refine w_p2v h11 ?_
                  replace h := h.2 h11
                  obtain ⟨hv, h⟩ := h
                  refine w_anv hv ?_
                  refine w_alv ?_
                  replace h := h _ rfl
                  obtain ⟨k13, h, hc13⟩ := wt_X4_set h
                  refine w_cvv (Qc := fun p => q_X4_set cf p ((k3_up k0 416 0 (k0 425 0 0).toNatClampNeg ((k0 407 0 0) + y0)) 425 0 0) (2 : Int32) (k3_up k0 416 0 (k0 425 0 0).toNatClampNeg ((k0 407 0 0) + y0))) hc13 ?_
                  exact ⟨_, h, fun post hq => hq⟩
            · replace h := h.2.2.2.2.2 h6_0 h6_1 h6_2 h6_3 h6_4
              refine w_ddv ?_ (fun post hq => ⟨fun h9 => absurd h9 h6_0, fun h9 => absurd h9 h6_1, fun h9 => absurd h9 h6_2, fun h9 => absurd h9 h6_3, fun h9 => absurd h9 h6_4, fun _ _ _ _ _ => hq⟩)
              obtain ⟨r7, k7, h, hc7⟩ := wt_X4_isLive h
              refine w_civ (Qc := fun p => q_X4_isLive cf p y0 k0) hc7 ?_
              by_cases h8 : r7 = 0
              · refine w_p1v h8 ?_
                replace h := h.1 h8
                exact wb_X4_taskOp_220 r7 k7 h
              · refine w_p2v h8 ?_
                replace h := h.2 h8
                obtain ⟨k9, h, hc9⟩ := wt_X4_end h
                refine w_cvv (Qc := fun p => q_X4_end cf p y0 (2 : Int32) k7) hc9 ?_
                exact wb_X4_taskOp_220 r7 k9 h
  · refine w_p2v h5 ?_
    replace h := h.2 h5
    exact ⟨_, h, fun post hq => hq⟩
set_option maxRecDepth 100000 in
set_option maxHeartbeats 4000000 in
theorem wb_X4_taskOp_18 {cf : Nat → Nat} {A : ka_T → Prop} : ∀ (x1 : Int32) (x2 : Int32) (k0 : ka_T), q_X4_taskOp_18 cf A x1 x2 k0 → ∃ k1 : ka_T, A k1 ∧ ∀ post : ka_T → Prop, post k1 → q_X4_taskOp_18 cf post x1 x2 k0 := by
  intro x1 x2 k0 h
  unfold q_X4_taskOp_18 at h ⊢
  by_cases h17 : x1 = (16 : Int32)
  · refine w_p1v h17 ?_
    replace h := h.1 h17
    exact wb_X4_taskOp_38 x1 x2 (0 : Int32) k0 h
  · refine w_p2v h17 ?_
    replace h := h.2 h17
    by_cases h18 : x1 = (17 : Int32)
    · refine w_n2v h18 ?_
      replace h := h.2 h18
      exact wb_X4_taskOp_38 x1 x2 (0 : Int32) k0 h
    · refine w_n1v h18 ?_
      replace h := h.1 h18
      obtain ⟨r19, k19, h, hc19⟩ := wt_X4_take h
      refine w_civ (Qc := fun p => q_X4_take cf p  k0) hc19 ?_
      exact wb_X4_taskOp_38 x1 x2 r19 k19 h
set_option maxRecDepth 100000 in
set_option maxHeartbeats 4000000 in
theorem wt_X4_taskOp {cf : Nat → Nat} {A : ka_T → Prop} {x1 : Int32} {x2 : Int32} {k0 : ka_T} (h : q_X4_taskOp cf A x1 x2 k0) : ∃ k1 : ka_T, A k1 ∧ ∀ post : ka_T → Prop, post k1 → q_X4_taskOp cf post x1 x2 k0 := by
  unfold q_X4_taskOp at h ⊢
  by_cases h20 : x1 = (18 : Int32)
  · refine w_n2v h20 ?_
    replace h := h.2 h20
    obtain ⟨r21, k21, h, hc21⟩ := wt_X4_isPlace h
    refine w_civ (Qc := fun p => q_X4_isPlace cf p x2 k0) hc21 ?_
    by_cases h22 : r21 = 0
    · refine w_n2v h22 ?_
      replace h := h.2 h22
      obtain ⟨k23, h, hc23⟩ := wt_X4_fall h
      refine w_cvv (Qc := fun p => q_X4_fall cf p (2 : Int32) k21) hc23 ?_
      exact wb_X4_taskOp_18 x1 x2 k23 h
    · refine w_n1v h22 ?_
      replace h := h.1 h22
      exact wb_X4_taskOp_18 x1 x2 k21 h
  · refine w_n1v h20 ?_
    replace h := h.1 h20
    exact wb_X4_taskOp_18 x1 x2 k0 h
set_option maxRecDepth 100000 in
set_option maxHeartbeats 4000000 in
theorem wb_X4_perform_59 {cf : Nat → Nat} {A : ka_T → Prop} : ∀ (x1 : Int32) (x2 : Int32) (k0 : ka_T), q_X4_perform_59 cf A x1 x2 k0 → ∃ k1 : ka_T, A k1 ∧ ∀ post : ka_T → Prop, post k1 → q_X4_perform_59 cf post x1 x2 k0 := by
  intro x1 x2 k0 h
  unfold q_X4_perform_59 at h ⊢
  by_cases h1 : x1 = (21 : Int32)
  · refine w_n2v h1 ?_
    replace h := h.2 h1
    obtain ⟨k23, h, hc23⟩ := wt_X4_send h
    refine w_cvv (Qc := fun p => q_X4_send cf p x2 k0) hc23 ?_
    exact ⟨_, h, fun post hq => hq⟩
  · refine w_n1v h1 ?_
    replace h := h.1 h1
    by_cases h2 : x1 = (22 : Int32)
    · refine w_n2v h2 ?_
      replace h := h.2 h2
      obtain ⟨k22, h, hc22⟩ := wt_X4_receive h
      refine w_cvv (Qc := fun p => q_X4_receive cf p x2 k0) hc22 ?_
      exact ⟨_, h, fun post hq => hq⟩
    · refine w_n1v h2 ?_
      replace h := h.1 h2
      by_cases h3 : x1 = 0
      · refine w_n2v h3 ?_
        replace h := h.2 h3
        obtain ⟨k21, h, hc21⟩ := wt_X4_end h
        refine w_cvv (Qc := fun p => q_X4_end cf p (k0 425 0 0) (1 : Int32) k0) hc21 ?_
        exact ⟨_, h, fun post hq => hq⟩
      · refine w_n1v h3 ?_
        replace h := h.1 h3
        by_cases h4 : x1 ≤ (25 : Int32)
        · refine w_p1v h4 ?_
          replace h := h.1 h4
          by_cases h5 : x1 = (1 : Int32)
          · refine w_p1v h5 ?_
            replace h := h.1 h5
            obtain ⟨k6, h, hc6⟩ := wt_X4_stackOp h
            refine w_cvv (Qc := fun p => q_X4_stackOp cf p x1 x2 k0) hc6 ?_
            exact ⟨_, h, fun post hq => hq⟩
          · refine w_p2v h5 ?_
            replace h := h.2 h5
            by_cases h7 : x1 = (6 : Int32)
            · refine w_p1v h7 ?_
              replace h := h.1 h7
              obtain ⟨k8, h, hc8⟩ := wt_X4_stackOp h
              refine w_cvv (Qc := fun p => q_X4_stackOp cf p x1 x2 k0) hc8 ?_
              exact ⟨_, h, fun post hq => hq⟩
            · refine w_p2v h7 ?_
              replace h := h.2 h7
              by_cases h9 : x1 = (7 : Int32)
              · refine w_p1v h9 ?_
                replace h := h.1 h9
                obtain ⟨k10, h, hc10⟩ := wt_X4_stackOp h
                refine w_cvv (Qc := fun p => q_X4_stackOp cf p x1 x2 k0) hc10 ?_
                exact ⟨_, h, fun post hq => hq⟩
              · refine w_p2v h9 ?_
                replace h := h.2 h9
                by_cases h11 : x1 = (8 : Int32)
                · refine w_p1v h11 ?_
                  replace h := h.1 h11
                  obtain ⟨k12, h, hc12⟩ := wt_X4_stackOp h
                  refine w_cvv (Qc := fun p => q_X4_stackOp cf p x1 x2 k0) hc12 ?_
                  exact ⟨_, h, fun post hq => hq⟩
                · refine w_p2v h11 ?_
                  replace h := h.2 h11
                  by_cases h13 : x1 = (19 : Int32)
                  · refine w_p1v h13 ?_
                    replace h := h.1 h13
                    obtain ⟨k14, h, hc14⟩ := wt_X4_stackOp h
                    refine w_cvv (Qc := fun p => q_X4_stackOp cf p x1 x2 k0) hc14 ?_
                    exact ⟨_, h, fun post hq => hq⟩
                  · refine w_p2v h13 ?_
                    replace h := h.2 h13
                    by_cases h15 : x1 = (23 : Int32)
                    · refine w_p1v h15 ?_
                      replace h := h.1 h15
                      obtain ⟨k16, h, hc16⟩ := wt_X4_stackOp h
                      refine w_cvv (Qc := fun p => q_X4_stackOp cf p x1 x2 k0) hc16 ?_
                      exact ⟨_, h, fun post hq => hq⟩
                    · refine w_p2v h15 ?_
                      replace h := h.2 h15
                      by_cases h17 : x1 = (24 : Int32)
                      · refine w_n2v h17 ?_
                        replace h := h.2 h17
                        obtain ⟨k19, h, hc19⟩ := wt_X4_stackOp h
                        refine w_cvv (Qc := fun p => q_X4_stackOp cf p x1 x2 k0) hc19 ?_
                        exact ⟨_, h, fun post hq => hq⟩
                      · refine w_n1v h17 ?_
                        replace h := h.1 h17
                        obtain ⟨k18, h, hc18⟩ := wt_X4_taskOp h
                        refine w_cvv (Qc := fun p => q_X4_taskOp cf p x1 x2 k0) hc18 ?_
                        exact ⟨_, h, fun post hq => hq⟩
        · refine w_p2v h4 ?_
          replace h := h.2 h4
          obtain ⟨k20, h, hc20⟩ := wt_X4_fall h
          refine w_cvv (Qc := fun p => q_X4_fall cf p (4 : Int32) k0) hc20 ?_
          exact ⟨_, h, fun post hq => hq⟩
set_option maxRecDepth 100000 in
set_option maxHeartbeats 4000000 in
theorem wb_X4_perform_18 {cf : Nat → Nat} {A : ka_T → Prop} : ∀ (x1 : Int32) (x2 : Int32) (k0 : ka_T), q_X4_perform_18 cf A x1 x2 k0 → ∃ k1 : ka_T, A k1 ∧ ∀ post : ka_T → Prop, post k1 → q_X4_perform_18 cf post x1 x2 k0 := by
  intro x1 x2 k0 h
  unfold q_X4_perform_18 at h ⊢
  by_cases h24 : x1 = (9 : Int32)
  · refine w_p1v h24 ?_
    replace h := h.1 h24
    obtain ⟨k25, h, hc25⟩ := wt_X4_memoryOp h
    refine w_cvv (Qc := fun p => q_X4_memoryOp cf p x1 k0) hc25 ?_
    exact ⟨_, h, fun post hq => hq⟩
  · refine w_p2v h24 ?_
    replace h := h.2 h24
    by_cases h26 : x1 = (10 : Int32)
    · refine w_n2v h26 ?_
      replace h := h.2 h26
      obtain ⟨k30, h, hc30⟩ := wt_X4_memoryOp h
      refine w_cvv (Qc := fun p => q_X4_memoryOp cf p x1 k0) hc30 ?_
      exact ⟨_, h, fun post hq => hq⟩
    · refine w_n1v h26 ?_
      replace h := h.1 h26
      by_cases h27 : x1 < (11 : Int32)
      · refine w_p1v h27 ?_
        replace h := h.1 h27
        exact wb_X4_perform_59 x1 x2 k0 h
      · refine w_p2v h27 ?_
        replace h := h.2 h27
        by_cases h28 : (14 : Int32) < x1
        · refine w_p1v h28 ?_
          replace h := h.1 h28
          exact wb_X4_perform_59 x1 x2 k0 h
        · refine w_p2v h28 ?_
          replace h := h.2 h28
          obtain ⟨k29, h, hc29⟩ := wt_X4_jumpOp h
          refine w_cvv (Qc := fun p => q_X4_jumpOp cf p x1 x2 k0) hc29 ?_
          exact ⟨_, h, fun post hq => hq⟩
set_option maxRecDepth 100000 in
set_option maxHeartbeats 4000000 in
theorem wt_X4_perform {cf : Nat → Nat} {A : ka_T → Prop} {x1 : Int32} {x2 : Int32} {k0 : ka_T} (h : q_X4_perform cf A x1 x2 k0) : ∃ k1 : ka_T, A k1 ∧ ∀ post : ka_T → Prop, post k1 → q_X4_perform cf post x1 x2 k0 := by
  unfold q_X4_perform at h ⊢
  by_cases h31 : x1 < (2 : Int32)
  · refine w_p1v h31 ?_
    replace h := h.1 h31
    exact wb_X4_perform_18 x1 x2 k0 h
  · refine w_p2v h31 ?_
    replace h := h.2 h31
    by_cases h32 : (5 : Int32) < x1
    · refine w_p1v h32 ?_
      replace h := h.1 h32
      exact wb_X4_perform_18 x1 x2 k0 h
    · refine w_p2v h32 ?_
      replace h := h.2 h32
      obtain ⟨k33, h, hc33⟩ := wt_X4_arithmetic h
      refine w_cvv (Qc := fun p => q_X4_arithmetic cf p x1 k0) hc33 ?_
      exact ⟨_, h, fun post hq => hq⟩
set_option maxRecDepth 100000 in
set_option maxHeartbeats 4000000 in
theorem wt_X4_poke {cf : Nat → Nat} {A : Int32 → ka_T → Prop} {x1 : Int32} {x2 : Int32} {k0 : ka_T} (h : q_X4_poke cf A x1 x2 k0) : ∃ (r : Int32) (k1 : ka_T), A r k1 ∧ ∀ post : Int32 → ka_T → Prop, post r k1 → q_X4_poke cf post x1 x2 k0 := by
  unfold q_X4_poke at h ⊢
  obtain ⟨r1, k1, h, hc1⟩ := wt_X4_isPlace h
  refine w_cii (Qc := fun p => q_X4_isPlace cf p x1 k0) hc1 ?_
  by_cases h2 : r1 = 0
  · refine w_p1i h2 ?_
    replace h := h.1 h2
    exact ⟨_, _, h, fun post hq => hq⟩
  · refine w_p2i h2 ?_
    replace h := h.2 h2
    by_cases h3 : (k1 406 0 0) = 0
    · refine w_p1i h3 ?_
      replace h := h.1 h3
      obtain ⟨hv, h⟩ := h
      refine w_ani hv ?_
      refine w_ali ?_
      replace h := h _ rfl
      exact ⟨_, _, h, fun post hq => hq⟩
    · refine w_p2i h3 ?_
      replace h := h.2 h3
      exact ⟨_, _, h, fun post hq => hq⟩
set_option maxRecDepth 100000 in
set_option maxHeartbeats 4000000 in
theorem wt_X4_queue {cf : Nat → Nat} {A : Int32 → ka_T → Prop} {x1 : Int32} {k0 : ka_T} (h : q_X4_queue cf A x1 k0) : ∃ (r : Int32) (k1 : ka_T), A r k1 ∧ ∀ post : Int32 → ka_T → Prop, post r k1 → q_X4_queue cf post x1 k0 := by
  unfold q_X4_queue at h ⊢
  by_cases h1 : x1 < 0
  · refine w_p1i h1 ?_
    replace h := h.1 h1
    exact ⟨_, _, h, fun post hq => hq⟩
  · refine w_p2i h1 ?_
    replace h := h.2 h1
    by_cases h2 : x1 < (nI (cf 2))
    · refine w_p1i h2 ?_
      replace h := h.1 h2
      obtain ⟨hv, h⟩ := h
      refine w_ani hv ?_
      exact ⟨_, _, h, fun post hq => hq⟩
    · refine w_p2i h2 ?_
      replace h := h.2 h2
      exact ⟨_, _, h, fun post hq => hq⟩
set_option maxRecDepth 100000 in
set_option maxHeartbeats 4000000 in
theorem wt_X4_queued {cf : Nat → Nat} {A : Int32 → ka_T → Prop} {x1 : Int32} {x2 : Int32} {k0 : ka_T} (h : q_X4_queued cf A x1 x2 k0) : ∃ (r : Int32) (k1 : ka_T), A r k1 ∧ ∀ post : Int32 → ka_T → Prop, post r k1 → q_X4_queued cf post x1 x2 k0 := by
  unfold q_X4_queued at h ⊢
  by_cases h1 : x1 < 0
  · refine w_p1i h1 ?_
    replace h := h.1 h1
    exact ⟨_, _, h, fun post hq => hq⟩
  · refine w_p2i h1 ?_
    replace h := h.2 h1
    by_cases h2 : (nI (cf 2)) ≤ x1
    · refine w_p1i h2 ?_
      replace h := h.1 h2
      exact ⟨_, _, h, fun post hq => hq⟩
    · refine w_p2i h2 ?_
      replace h := h.2 h2
      by_cases h3 : x2 < 0
      · refine w_p1i h3 ?_
        replace h := h.1 h3
        exact ⟨_, _, h, fun post hq => hq⟩
      · refine w_p2i h3 ?_
        replace h := h.2 h3
        obtain ⟨hv, h⟩ := h
        refine w_ani hv ?_
        by_cases h4 : x2 < (k0 421 0 x1.toNatClampNeg)
        · refine w_p1i h4 ?_
          replace h := h.1 h4
          obtain ⟨hv, h⟩ := h
          refine w_ani hv ?_
          exact ⟨_, _, h, fun post hq => hq⟩
        · refine w_p2i h4 ?_
          replace h := h.2 h4
          exact ⟨_, _, h, fun post hq => hq⟩
set_option maxRecDepth 100000 in
set_option maxHeartbeats 4000000 in
theorem wb_X4_step_79 {cf : Nat → Nat} {A : Int32 → ka_T → Prop} : ∀ (k0 : ka_T), q_X4_step_79 cf A k0 → ∃ (r : Int32) (k1 : ka_T), A r k1 ∧ ∀ post : Int32 → ka_T → Prop, post r k1 → q_X4_step_79 cf post k0 := by
  intro k0 h
  unfold q_X4_step_79 at h ⊢
  by_cases h1 : (k0 426 0 0) ≤ 0
  · refine w_p1i h1 ?_
    replace h := h.1 h1
    obtain ⟨hv, h⟩ := h
    refine w_ani hv ?_
    by_cases h2 : (k0 409 0 (k0 425 0 0).toNatClampNeg) = (1 : Int32)
    · refine w_n2i h2 ?_
      replace h := h.2 h2
      exact ⟨_, _, h, fun post hq => hq⟩
    · refine w_n1i h2 ?_
      replace h := h.1 h2
      obtain ⟨hv, h⟩ := h
      refine w_ani hv ?_
      by_cases h3 : (k0 409 0 (k0 425 0 0).toNatClampNeg) = 0
      · refine w_n2i h3 ?_
        replace h := h.2 h3
        exact ⟨_, _, h, fun post hq => hq⟩
      · refine w_n1i h3 ?_
        replace h := h.1 h3
        obtain ⟨hv, h⟩ := h
        refine w_ani hv ?_
        exact ⟨_, _, h, fun post hq => hq⟩
  · refine w_p2i h1 ?_
    replace h := h.2 h1
    obtain ⟨k4, h, hc4⟩ := wt_X4_end h
    refine w_cvi (Qc := fun p => q_X4_end cf p (k0 425 0 0) ((2 : Int32) + (k0 426 0 0)) k0) hc4 ?_
    exact ⟨_, _, h, fun post hq => hq⟩
set_option maxRecDepth 100000 in
set_option maxHeartbeats 4000000 in
theorem wt_X4_step {cf : Nat → Nat} {A : Int32 → ka_T → Prop} {k0 : ka_T} (h : q_X4_step cf A k0) : ∃ (r : Int32) (k1 : ka_T), A r k1 ∧ ∀ post : Int32 → ka_T → Prop, post r k1 → q_X4_step cf post k0 := by
  unfold q_X4_step at h ⊢
  obtain ⟨r5, k5, h, hc5⟩ := wt_X4_next h
  refine w_cii (Qc := fun p => q_X4_next cf p  k0) hc5 ?_
  refine w_ali ?_
  replace h := h _ rfl
  by_cases h6 : 0 ≤ ((k3_up k5 425 0 0 r5) 425 0 0)
  · refine w_p1i h6 ?_
    replace h := h.1 h6
    refine w_ali ?_
    replace h := h _ rfl
    obtain ⟨hv, h⟩ := h
    refine w_ani hv ?_
    by_cases h7 : ((k3_up (k3_up k5 425 0 0 r5) 426 0 0 (0 : Int32)) 411 0 ((k3_up (k3_up k5 425 0 0 r5) 426 0 0 (0 : Int32)) 425 0 0).toNatClampNeg) = (64 : Int32)
    · refine w_n2i h7 ?_
      replace h := h.2 h7
      obtain ⟨k9, h, hc9⟩ := wt_X4_fall h
      refine w_cvi (Qc := fun p => q_X4_fall cf p (2 : Int32) (k3_up (k3_up k5 425 0 0 r5) 426 0 0 (0 : Int32))) hc9 ?_
      exact wb_X4_step_79  k9 h
    · refine w_n1i h7 ?_
      replace h := h.1 h7
      obtain ⟨hv, h⟩ := h
      refine w_ani hv ?_
      refine w_ali ?_
      replace h := h _ rfl
      obtain ⟨hv, h⟩ := h
      refine w_ani hv ?_
      obtain ⟨hv, h⟩ := h
      refine w_ani hv ?_
      obtain ⟨k8, h, hc8⟩ := wt_X4_perform h
      refine w_cvi (Qc := fun p => q_X4_perform cf p (((k3_up (k3_up (k3_up k5 425 0 0 r5) 426 0 0 (0 : Int32)) 411 0 ((k3_up (k3_up k5 425 0 0 r5) 426 0 0 (0 : Int32)) 425 0 0).toNatClampNeg (((k3_up (k3_up k5 425 0 0 r5) 426 0 0 (0 : Int32)) 411 0 ((k3_up (k3_up k5 425 0 0 r5) 426 0 0 (0 : Int32)) 425 0 0).toNatClampNeg) + (1 : Int32))) 404 0 ((k3_up (k3_up k5 425 0 0 r5) 426 0 0 (0 : Int32)) 411 0 ((k3_up (k3_up k5 425 0 0 r5) 426 0 0 (0 : Int32)) 425 0 0).toNatClampNeg).toNatClampNeg) &&& (31 : Int32)) (((k3_up (k3_up (k3_up k5 425 0 0 r5) 426 0 0 (0 : Int32)) 411 0 ((k3_up (k3_up k5 425 0 0 r5) 426 0 0 (0 : Int32)) 425 0 0).toNatClampNeg (((k3_up (k3_up k5 425 0 0 r5) 426 0 0 (0 : Int32)) 411 0 ((k3_up (k3_up k5 425 0 0 r5) 426 0 0 (0 : Int32)) 425 0 0).toNatClampNeg) + (1 : Int32))) 404 0 ((k3_up (k3_up k5 425 0 0 r5) 426 0 0 (0 : Int32)) 411 0 ((k3_up (k3_up k5 425 0 0 r5) 426 0 0 (0 : Int32)) 425 0 0).toNatClampNeg).toNatClampNeg) >>> ((5 : Int32) &&& 31)) (k3_up (k3_up (k3_up k5 425 0 0 r5) 426 0 0 (0 : Int32)) 411 0 ((k3_up (k3_up k5 425 0 0 r5) 426 0 0 (0 : Int32)) 425 0 0).toNatClampNeg (((k3_up (k3_up k5 425 0 0 r5) 426 0 0 (0 : Int32)) 411 0 ((k3_up (k3_up k5 425 0 0 r5) 426 0 0 (0 : Int32)) 425 0 0).toNatClampNeg) + (1 : Int32)))) hc8 ?_
      exact wb_X4_step_79  k8 h
  · refine w_p2i h6 ?_
    replace h := h.2 h6
    exact ⟨_, _, h, fun post hq => hq⟩
set_option maxRecDepth 100000 in
set_option maxHeartbeats 4000000 in
theorem wb_X4_run_44 {cf : Nat → Nat} {A : Int32 → ka_T → Prop} {kh_17 : (Int32 → ka_T → Prop) → Int32 → Int32 → Int32 → ka_T → Prop} (hkh_17 : ∀ (x1 : Int32) (x2 : Int32) (x3 : Int32) (k0 : ka_T), kh_17 A x1 x2 x3 k0 → ∃ (r : Int32) (k1 : ka_T), A r k1 ∧ ∀ post : Int32 → ka_T → Prop, post r k1 → kh_17 post x1 x2 x3 k0) : ∀ (x1 : Int32) (x4 : Int32) (y0 : Int32) (k0 : ka_T), q_X4_run_44 cf (kh_17 A) A x1 x4 y0 k0 → ∃ (r : Int32) (k1 : ka_T), A r k1 ∧ ∀ post : Int32 → ka_T → Prop, post r k1 → q_X4_run_44 cf (kh_17 post) post x1 x4 y0 k0 := by
  intro x1 x4 y0 k0 h
  unfold q_X4_run_44 at h ⊢
  by_cases h1 : x4 < 0
  · refine w_p1i h1 ?_
    replace h := h.1 h1
    exact hkh_17 x1 y0 (0 : Int32) k0 h
  · refine w_p2i h1 ?_
    replace h := h.2 h1
    by_cases h2 : (x4 &&& (15 : Int32)) = (1 : Int32)
    · refine w_p1i h2 ?_
      replace h := h.1 h2
      exact hkh_17 x1 y0 (0 : Int32) k0 h
    · refine w_p2i h2 ?_
      replace h := h.2 h2
      by_cases h3 : (8 : Int32) ≤ (x4 &&& (15 : Int32))
      · refine w_p1i h3 ?_
        replace h := h.1 h3
        exact hkh_17 x1 y0 (0 : Int32) k0 h
      · refine w_p2i h3 ?_
        replace h := h.2 h3
        exact hkh_17 x1 y0 (1 : Int32) k0 h
set_option maxRecDepth 100000 in
set_option maxHeartbeats 4000000 in
theorem wb_X4_run_17 {cf : Nat → Nat} {A : Int32 → ka_T → Prop} : ∀ (nf : Nat) (x1 : Int32) (x2 : Int32) (x3 : Int32) (k0 : ka_T), q_X4_run_17 cf A nf x1 x2 x3 k0 → ∃ (r : Int32) (k1 : ka_T), A r k1 ∧ ∀ post : Int32 → ka_T → Prop, post r k1 → q_X4_run_17 cf post nf x1 x2 x3 k0 := by
  intro nf
  induction nf with
  | zero => intro x1 x2 x3 k0 h; exact False.elim h
  | succ nf ih =>
    intro x1 x2 x3 k0 h
    simp only [q_X4_run_17] at h ⊢
    by_cases h4 : x1 ≤ x2
    · refine w_p1i h4 ?_
      replace h := h.1 h4
      exact ⟨_, _, h, fun post hq => hq⟩
    · refine w_p2i h4 ?_
      replace h := h.2 h4
      by_cases h5 : x3 = 0
      · refine w_p1i h5 ?_
        replace h := h.1 h5
        exact ⟨_, _, h, fun post hq => hq⟩
      · refine w_p2i h5 ?_
        replace h := h.2 h5
        obtain ⟨r6, k6, h, hc6⟩ := wt_X4_step h
        refine w_cii (Qc := fun p => q_X4_step cf p  k0) hc6 ?_
        by_cases h7 : 0 ≤ r6
        · refine w_p1i h7 ?_
          replace h := h.1 h7
          exact wb_X4_run_44 ih x1 r6 (x2 + (1 : Int32)) k6 h
        · refine w_p2i h7 ?_
          replace h := h.2 h7
          exact wb_X4_run_44 ih x1 r6 x2 k6 h
set_option maxRecDepth 100000 in
set_option maxHeartbeats 4000000 in
theorem wt_X4_run {cf : Nat → Nat} {A : Int32 → ka_T → Prop} {x1 : Int32} {k0 : ka_T} (h : q_X4_run cf A x1 k0) : ∃ (r : Int32) (k1 : ka_T), A r k1 ∧ ∀ post : Int32 → ka_T → Prop, post r k1 → q_X4_run cf post x1 k0 := by
  unfold q_X4_run at h ⊢
  by_cases h8 : x1 < (1 : Int32)
  · refine w_p1i h8 ?_
    replace h := h.1 h8
    exact ⟨_, _, h, fun post hq => hq⟩
  · refine w_p2i h8 ?_
    replace h := h.2 h8
    by_cases h9 : x1 ≤ (64 : Int32)
    · refine w_p1i h9 ?_
      replace h := h.1 h9
      obtain ⟨nf9, h⟩ := h
      refine w_exi nf9 ?_
      exact wb_X4_run_17 nf9 x1 (0 : Int32) (1 : Int32) k0 h
    · refine w_p2i h9 ?_
      replace h := h.2 h9
      exact ⟨_, _, h, fun post hq => hq⟩
set_option maxRecDepth 100000 in
set_option maxHeartbeats 4000000 in
theorem wt_X4_spawn {cf : Nat → Nat} {A : Int32 → ka_T → Prop} {x1 : Int32} {x2 : Int32} {k0 : ka_T} (h : q_X4_spawn cf A x1 x2 k0) : ∃ (r : Int32) (k1 : ka_T), A r k1 ∧ ∀ post : Int32 → ka_T → Prop, post r k1 → q_X4_spawn cf post x1 x2 k0 := by
  unfold q_X4_spawn at h ⊢
  obtain ⟨r1, k1, h, hc1⟩ := wt_X4_isPlace h
  refine w_cii (Qc := fun p => q_X4_isPlace cf p x1 k0) hc1 ?_
  by_cases h2 : r1 = 0
  · refine w_p1i h2 ?_
    replace h := h.1 h2
    exact ⟨_, _, h, fun post hq => hq⟩
  · refine w_p2i h2 ?_
    replace h := h.2 h2
    by_cases h3 : x2 < 0
    · refine w_p1i h3 ?_
      replace h := h.1 h3
      exact ⟨_, _, h, fun post hq => hq⟩
    · refine w_p2i h3 ?_
      replace h := h.2 h3
      by_cases h4 : x2 ≤ (7 : Int32)
      · refine w_p1i h4 ?_
        replace h := h.1 h4
        obtain ⟨r5, k5, h, hc5⟩ := wt_X4_begin h
        refine w_cii (Qc := fun p => q_X4_begin cf p x1 x2 k1) hc5 ?_
        by_cases h6 : (k5 406 0 0) = 0
        · refine w_n2i h6 ?_
          replace h := h.2 h6
          by_cases h7 : r5 < 0
          · refine w_p1i h7 ?_
            replace h := h.1 h7
            refine w_ali ?_
            replace h := h _ rfl
            exact ⟨_, _, h, fun post hq => hq⟩
          · refine w_p2i h7 ?_
            replace h := h.2 h7
            refine w_ali ?_
            replace h := h _ rfl
            exact ⟨_, _, h, fun post hq => hq⟩
        · refine w_n1i h6 ?_
          replace h := h.1 h6
          refine w_ali ?_
          replace h := h _ rfl
          exact ⟨_, _, h, fun post hq => hq⟩
      · refine w_p2i h4 ?_
        replace h := h.2 h4
        exact ⟨_, _, h, fun post hq => hq⟩
set_option maxRecDepth 100000 in
set_option maxHeartbeats 4000000 in
theorem wt_X4_stack {cf : Nat → Nat} {A : Int32 → ka_T → Prop} {x1 : Int32} {x2 : Int32} {k0 : ka_T} (h : q_X4_stack cf A x1 x2 k0) : ∃ (r : Int32) (k1 : ka_T), A r k1 ∧ ∀ post : Int32 → ka_T → Prop, post r k1 → q_X4_stack cf post x1 x2 k0 := by
  unfold q_X4_stack at h ⊢
  obtain ⟨r1, k1, h, hc1⟩ := wt_X4_isLive h
  refine w_cii (Qc := fun p => q_X4_isLive cf p x1 k0) hc1 ?_
  by_cases h2 : r1 = 0
  · refine w_p1i h2 ?_
    replace h := h.1 h2
    exact ⟨_, _, h, fun post hq => hq⟩
  · refine w_p2i h2 ?_
    replace h := h.2 h2
    by_cases h3 : x2 < 0
    · refine w_p1i h3 ?_
      replace h := h.1 h3
      exact ⟨_, _, h, fun post hq => hq⟩
    · refine w_p2i h3 ?_
      replace h := h.2 h3
      obtain ⟨hv, h⟩ := h
      refine w_ani hv ?_
      by_cases h4 : x2 < (k1 412 0 x1.toNatClampNeg)
      · refine w_p1i h4 ?_
        replace h := h.1 h4
        obtain ⟨hv, h⟩ := h
        refine w_ani hv ?_
        obtain ⟨hv, h⟩ := h
        refine w_ani hv ?_
        exact ⟨_, _, h, fun post hq => hq⟩
      · refine w_p2i h4 ?_
        replace h := h.2 h4
        exact ⟨_, _, h, fun post hq => hq⟩
set_option maxRecDepth 100000 in
set_option maxHeartbeats 4000000 in
theorem wt_X4_state {cf : Nat → Nat} {A : Int32 → ka_T → Prop} {x1 : Int32} {k0 : ka_T} (h : q_X4_state cf A x1 k0) : ∃ (r : Int32) (k1 : ka_T), A r k1 ∧ ∀ post : Int32 → ka_T → Prop, post r k1 → q_X4_state cf post x1 k0 := by
  unfold q_X4_state at h ⊢
  by_cases h1 : x1 < 0
  · refine w_p1i h1 ?_
    replace h := h.1 h1
    exact ⟨_, _, h, fun post hq => hq⟩
  · refine w_p2i h1 ?_
    replace h := h.2 h1
    by_cases h2 : x1 < (nI (cf 0))
    · refine w_p1i h2 ?_
      replace h := h.1 h2
      obtain ⟨hv, h⟩ := h
      refine w_ani hv ?_
      exact ⟨_, _, h, fun post hq => hq⟩
    · refine w_p2i h2 ?_
      replace h := h.2 h2
      exact ⟨_, _, h, fun post hq => hq⟩
set_option maxRecDepth 100000 in
set_option maxHeartbeats 4000000 in
theorem wt_X4_task {cf : Nat → Nat} {A : Int32 → ka_T → Prop} {x1 : Int32} {x2 : Int32} {k0 : ka_T} (h : q_X4_task cf A x1 x2 k0) : ∃ (r : Int32) (k1 : ka_T), A r k1 ∧ ∀ post : Int32 → ka_T → Prop, post r k1 → q_X4_task cf post x1 x2 k0 := by
  unfold q_X4_task at h ⊢
  obtain ⟨r1, k1, h, hc1⟩ := wt_X4_isLive h
  refine w_cii (Qc := fun p => q_X4_isLive cf p x1 k0) hc1 ?_
  by_cases h2 : r1 = 0
  · refine w_n2i h2 ?_
    replace h := h.2 h2
    exact ⟨_, _, h, fun post hq => hq⟩
  · refine w_n1i h2 ?_
    replace h := h.1 h2
    by_cases h3_0 : x2 = (0 : Int32)
    · replace h := h.1 h3_0
      refine w_ddi ?_ (fun post hq => ⟨fun _ => hq, fun h9 => absurd (h3_0.symm.trans h9) (by decide), fun h9 => absurd (h3_0.symm.trans h9) (by decide), fun h9 => absurd (h3_0.symm.trans h9) (by decide), fun h9 => absurd (h3_0.symm.trans h9) (by decide), fun h9 => absurd (h3_0.symm.trans h9) (by decide), fun n0 n1 n2 n3 n4 n5 => absurd h3_0 n0⟩)
      obtain ⟨hv, h⟩ := h
      refine w_ani hv ?_
      exact ⟨_, _, h, fun post hq => hq⟩
    · by_cases h3_1 : x2 = (1 : Int32)
      · replace h := h.2.1 h3_1
        refine w_ddi ?_ (fun post hq => ⟨fun h9 => absurd (h3_1.symm.trans h9) (by decide), fun _ => hq, fun h9 => absurd (h3_1.symm.trans h9) (by decide), fun h9 => absurd (h3_1.symm.trans h9) (by decide), fun h9 => absurd (h3_1.symm.trans h9) (by decide), fun h9 => absurd (h3_1.symm.trans h9) (by decide), fun n0 n1 n2 n3 n4 n5 => absurd h3_1 n1⟩)
        obtain ⟨hv, h⟩ := h
        refine w_ani hv ?_
        exact ⟨_, _, h, fun post hq => hq⟩
      · by_cases h3_2 : x2 = (2 : Int32)
        · replace h := h.2.2.1 h3_2
          refine w_ddi ?_ (fun post hq => ⟨fun h9 => absurd (h3_2.symm.trans h9) (by decide), fun h9 => absurd (h3_2.symm.trans h9) (by decide), fun _ => hq, fun h9 => absurd (h3_2.symm.trans h9) (by decide), fun h9 => absurd (h3_2.symm.trans h9) (by decide), fun h9 => absurd (h3_2.symm.trans h9) (by decide), fun n0 n1 n2 n3 n4 n5 => absurd h3_2 n2⟩)
          obtain ⟨hv, h⟩ := h
          refine w_ani hv ?_
          exact ⟨_, _, h, fun post hq => hq⟩
        · by_cases h3_3 : x2 = (3 : Int32)
          · replace h := h.2.2.2.1 h3_3
            refine w_ddi ?_ (fun post hq => ⟨fun h9 => absurd (h3_3.symm.trans h9) (by decide), fun h9 => absurd (h3_3.symm.trans h9) (by decide), fun h9 => absurd (h3_3.symm.trans h9) (by decide), fun _ => hq, fun h9 => absurd (h3_3.symm.trans h9) (by decide), fun h9 => absurd (h3_3.symm.trans h9) (by decide), fun n0 n1 n2 n3 n4 n5 => absurd h3_3 n3⟩)
            obtain ⟨hv, h⟩ := h
            refine w_ani hv ?_
            exact ⟨_, _, h, fun post hq => hq⟩
          · by_cases h3_4 : x2 = (4 : Int32)
            · replace h := h.2.2.2.2.1 h3_4
              refine w_ddi ?_ (fun post hq => ⟨fun h9 => absurd (h3_4.symm.trans h9) (by decide), fun h9 => absurd (h3_4.symm.trans h9) (by decide), fun h9 => absurd (h3_4.symm.trans h9) (by decide), fun h9 => absurd (h3_4.symm.trans h9) (by decide), fun _ => hq, fun h9 => absurd (h3_4.symm.trans h9) (by decide), fun n0 n1 n2 n3 n4 n5 => absurd h3_4 n4⟩)
              obtain ⟨hv, h⟩ := h
              refine w_ani hv ?_
              by_cases h5 : (k1 409 0 x1.toNatClampNeg) = (2 : Int32)
              · refine w_n2i h5 ?_
                replace h := h.2 h5
                obtain ⟨hv, h⟩ := h
                refine w_ani hv ?_
                exact ⟨_, _, h, fun post hq => hq⟩
              · refine w_n1i h5 ?_
                replace h := h.1 h5
                exact ⟨_, _, h, fun post hq => hq⟩
            · by_cases h3_5 : x2 = (5 : Int32)
              · replace h := h.2.2.2.2.2.1 h3_5
                refine w_ddi ?_ (fun post hq => ⟨fun h9 => absurd (h3_5.symm.trans h9) (by decide), fun h9 => absurd (h3_5.symm.trans h9) (by decide), fun h9 => absurd (h3_5.symm.trans h9) (by decide), fun h9 => absurd (h3_5.symm.trans h9) (by decide), fun h9 => absurd (h3_5.symm.trans h9) (by decide), fun _ => hq, fun n0 n1 n2 n3 n4 n5 => absurd h3_5 n5⟩)
                obtain ⟨hv, h⟩ := h
                refine w_ani hv ?_
                by_cases h4 : (k1 409 0 x1.toNatClampNeg) < (3 : Int32)
                · refine w_p1i h4 ?_
                  replace h := h.1 h4
                  exact ⟨_, _, h, fun post hq => hq⟩
                · refine w_p2i h4 ?_
                  replace h := h.2 h4
                  obtain ⟨hv, h⟩ := h
                  refine w_ani hv ?_
                  exact ⟨_, _, h, fun post hq => hq⟩
              · replace h := h.2.2.2.2.2.2 h3_0 h3_1 h3_2 h3_3 h3_4 h3_5
                refine w_ddi ?_ (fun post hq => ⟨fun h9 => absurd h9 h3_0, fun h9 => absurd h9 h3_1, fun h9 => absurd h9 h3_2, fun h9 => absurd h9 h3_3, fun h9 => absurd h9 h3_4, fun h9 => absurd h9 h3_5, fun _ _ _ _ _ _ => hq⟩)
                exact ⟨_, _, h, fun post hq => hq⟩
set_option maxRecDepth 100000 in
set_option maxHeartbeats 4000000 in
theorem wb_X4_tick_22 {cf : Nat → Nat} {A : Int32 → ka_T → Prop} : ∀ (nf : Nat) (x1 : Int32) (x2 : Int32) (x3 : Int32) (k0 : ka_T), q_X4_tick_22 cf A nf x1 x2 x3 k0 → ∃ (r : Int32) (k1 : ka_T), A r k1 ∧ ∀ post : Int32 → ka_T → Prop, post r k1 → q_X4_tick_22 cf post nf x1 x2 x3 k0 := by
  intro nf
  induction nf with
  | zero => intro x1 x2 x3 k0 h; exact False.elim h
  | succ nf ih =>
    intro x1 x2 x3 k0 h
    simp only [q_X4_tick_22] at h ⊢
    by_cases h1 : x3 < 0
    · refine w_p1i h1 ?_
      replace h := h.1 h1
      exact ⟨_, _, h, fun post hq => hq⟩
    · refine w_p2i h1 ?_
      replace h := h.2 h1
      obtain ⟨hv, h⟩ := h
      refine w_ani hv ?_
      by_cases h2 : (k0 416 0 x3.toNatClampNeg) = (k0 407 0 0)
      · refine w_n2i h2 ?_
        replace h := h.2 h2
        obtain ⟨k4, h, hc4⟩ := wt_X4_set h
        refine w_cvi (Qc := fun p => q_X4_set cf p x3 (1 : Int32) k0) hc4 ?_
        obtain ⟨r5, k5, h, hc5⟩ := wt_X4_inState h
        refine w_cii (Qc := fun p => q_X4_inState cf p (2 : Int32) (-1 : Int32) x2 k4) hc5 ?_
        exact ih (x1 + 1) x2 r5 k5 h
      · refine w_n1i h2 ?_
        replace h := h.1 h2
        obtain ⟨r3, k3, h, hc3⟩ := wt_X4_inState h
        refine w_cii (Qc := fun p => q_X4_inState cf p (2 : Int32) (-1 : Int32) (x2 + 1) k0) hc3 ?_
        exact ih x1 (x2 + 1) r3 k3 h
set_option maxRecDepth 100000 in
set_option maxHeartbeats 4000000 in
theorem wt_X4_tick {cf : Nat → Nat} {A : Int32 → ka_T → Prop} {k0 : ka_T} (h : q_X4_tick cf A k0) : ∃ (r : Int32) (k1 : ka_T), A r k1 ∧ ∀ post : Int32 → ka_T → Prop, post r k1 → q_X4_tick cf post k0 := by
  unfold q_X4_tick at h ⊢
  refine w_ali ?_
  replace h := h _ rfl
  obtain ⟨r6, k6, h, hc6⟩ := wt_X4_inState h
  refine w_cii (Qc := fun p => q_X4_inState cf p (2 : Int32) (-1 : Int32) (0 : Int32) (k3_up k0 407 0 0 ((k0 407 0 0) + (1 : Int32)))) hc6 ?_
  obtain ⟨nf9, h⟩ := h
  refine w_exi nf9 ?_
  exact wb_X4_tick_22 nf9 (0 : Int32) (0 : Int32) r6 k6 h
set_option maxRecDepth 100000 in
set_option maxHeartbeats 4000000 in
theorem wt_X4_waiter {cf : Nat → Nat} {A : Int32 → ka_T → Prop} {x1 : Int32} {x2 : Int32} {x3 : Int32} {k0 : ka_T} (h : q_X4_waiter cf A x1 x2 x3 k0) : ∃ (r : Int32) (k1 : ka_T), A r k1 ∧ ∀ post : Int32 → ka_T → Prop, post r k1 → q_X4_waiter cf post x1 x2 x3 k0 := by
  unfold q_X4_waiter at h ⊢
  by_cases h1 : x1 < 0
  · refine w_p1i h1 ?_
    replace h := h.1 h1
    exact ⟨_, _, h, fun post hq => hq⟩
  · refine w_p2i h1 ?_
    replace h := h.2 h1
    by_cases h2 : (nI (cf 2)) ≤ x1
    · refine w_p1i h2 ?_
      replace h := h.1 h2
      exact ⟨_, _, h, fun post hq => hq⟩
    · refine w_p2i h2 ?_
      replace h := h.2 h2
      by_cases h3 : 0 ≤ x3
      · refine w_p1i h3 ?_
        replace h := h.1 h3
        by_cases h4 : x2 = 0
        · refine w_p1i h4 ?_
          replace h := h.1 h4
          obtain ⟨r5, k5, h, hc5⟩ := wt_X4_inState h
          refine w_cii (Qc := fun p => q_X4_inState cf p (4 : Int32) x1 x3 k0) hc5 ?_
          exact ⟨_, _, h, fun post hq => hq⟩
        · refine w_p2i h4 ?_
          replace h := h.2 h4
          obtain ⟨r6, k6, h, hc6⟩ := wt_X4_inState h
          refine w_cii (Qc := fun p => q_X4_inState cf p (3 : Int32) x1 x3 k0) hc6 ?_
          exact ⟨_, _, h, fun post hq => hq⟩
      · refine w_p2i h3 ?_
        replace h := h.2 h3
        exact ⟨_, _, h, fun post hq => hq⟩
set_option maxRecDepth 100000 in
set_option maxHeartbeats 4000000 in
theorem wt_X4_why {cf : Nat → Nat} {A : Int32 → ka_T → Prop} {x1 : Int32} {k0 : ka_T} (h : q_X4_why cf A x1 k0) : ∃ (r : Int32) (k1 : ka_T), A r k1 ∧ ∀ post : Int32 → ka_T → Prop, post r k1 → q_X4_why cf post x1 k0 := by
  unfold q_X4_why at h ⊢
  by_cases h1 : x1 < 0
  · refine w_p1i h1 ?_
    replace h := h.1 h1
    exact ⟨_, _, h, fun post hq => hq⟩
  · refine w_p2i h1 ?_
    replace h := h.2 h1
    by_cases h2 : x1 < (nI (cf 0))
    · refine w_p1i h2 ?_
      replace h := h.1 h2
      obtain ⟨hv, h⟩ := h
      refine w_ani hv ?_
      exact ⟨_, _, h, fun post hq => hq⟩
    · refine w_p2i h2 ?_
      replace h := h.2 h2
      exact ⟨_, _, h, fun post hq => hq⟩
