/-! printed by wip/whole/disp.py: which op is which, on both sides -/
section OD
variable {cf : Nat → Nat} {a e : Nat} {k z : ka_T} {s : Nat} {x : Int32} {P : Int32 → ka_T → ka_T → Prop} {G : ka_T → Prop} {post : Int32 → ka_T → Prop}
def kd_ (cf : Nat → Nat) (post : Int32 → ka_T → Prop) (s : Nat) (o x : Int32) (k : ka_T) : Prop := ((10 : Int32) < o → (((17 : Int32) < o → q_X3_runWithOthers cf post s o x k) ∧ (¬ (17 : Int32) < o → q_X3_runOnItself cf post s o x k))) ∧ (¬ (10 : Int32) < o → q_X3_runOnNumbers cf post s o x k)
theorem pm_0 : q_X4_perform cf G 0 x z = (q_X4_end cf G (z 425 0 0) 1 z) := by simp [q_X4_perform, q_X4_perform_18, q_X4_perform_59]
theorem kd_0 : kd_ cf post s 0 x k = (q_X3_end cf (fun k2 => post 0 k2) s 1 k) := by simp [kd_, q_X3_runWithOthers, q_X3_runOnItself, q_X3_runOnNumbers]
theorem pm_1 : q_X4_perform cf G 1 x z = (q_X4_stackOp cf G 1 x z) := by simp [q_X4_perform, q_X4_perform_18, q_X4_perform_59]
theorem kd_1 : kd_ cf post s 1 x k = (q_X2_put cf post s x k) := by simp [kd_, q_X3_runWithOthers, q_X3_runOnItself, q_X3_runOnNumbers]
theorem pm_2 : q_X4_perform cf G 2 x z = (q_X4_arithmetic cf G 2 z) := by simp [q_X4_perform, q_X4_perform_18, q_X4_perform_59]
theorem kd_2 : kd_ cf post s 2 x k = (q_X3_compute cf post s 2 k) := by simp [kd_, q_X3_runWithOthers, q_X3_runOnItself, q_X3_runOnNumbers]
theorem pm_3 : q_X4_perform cf G 3 x z = (q_X4_arithmetic cf G 3 z) := by simp [q_X4_perform, q_X4_perform_18, q_X4_perform_59]
theorem kd_3 : kd_ cf post s 3 x k = (q_X3_compute cf post s 3 k) := by simp [kd_, q_X3_runWithOthers, q_X3_runOnItself, q_X3_runOnNumbers]
theorem pm_4 : q_X4_perform cf G 4 x z = (q_X4_arithmetic cf G 4 z) := by simp [q_X4_perform, q_X4_perform_18, q_X4_perform_59]
theorem kd_4 : kd_ cf post s 4 x k = (q_X3_compute cf post s 4 k) := by simp [kd_, q_X3_runWithOthers, q_X3_runOnItself, q_X3_runOnNumbers]
theorem pm_5 : q_X4_perform cf G 5 x z = (q_X4_arithmetic cf G 5 z) := by simp [q_X4_perform, q_X4_perform_18, q_X4_perform_59]
theorem kd_5 : kd_ cf post s 5 x k = (q_X3_compute cf post s 5 k) := by simp [kd_, q_X3_runWithOthers, q_X3_runOnItself, q_X3_runOnNumbers]
theorem pm_6 : q_X4_perform cf G 6 x z = (q_X4_stackOp cf G 6 x z) := by simp [q_X4_perform, q_X4_perform_18, q_X4_perform_59]
theorem kd_6 : kd_ cf post s 6 x k = (q_X3_copyTop cf post s k) := by simp [kd_, q_X3_runWithOthers, q_X3_runOnItself, q_X3_runOnNumbers]
theorem pm_7 : q_X4_perform cf G 7 x z = (q_X4_stackOp cf G 7 x z) := by simp [q_X4_perform, q_X4_perform_18, q_X4_perform_59]
theorem kd_7 : kd_ cf post s 7 x k = (q_X3_drop cf post s k) := by simp [kd_, q_X3_runWithOthers, q_X3_runOnItself, q_X3_runOnNumbers]
theorem pm_8 : q_X4_perform cf G 8 x z = (q_X4_stackOp cf G 8 x z) := by simp [q_X4_perform, q_X4_perform_18, q_X4_perform_59]
theorem kd_8 : kd_ cf post s 8 x k = (q_X3_swap cf post s k) := by simp [kd_, q_X3_runWithOthers, q_X3_runOnItself, q_X3_runOnNumbers]
theorem pm_9 : q_X4_perform cf G 9 x z = (q_X4_memoryOp cf G 9 z) := by simp [q_X4_perform, q_X4_perform_18, q_X4_perform_59]
theorem kd_9 : kd_ cf post s 9 x k = (q_X3_load cf post s k) := by simp [kd_, q_X3_runWithOthers, q_X3_runOnItself, q_X3_runOnNumbers]
theorem pm_10 : q_X4_perform cf G 10 x z = (q_X4_memoryOp cf G 10 z) := by simp [q_X4_perform, q_X4_perform_18, q_X4_perform_59]
theorem kd_10 : kd_ cf post s 10 x k = (q_X3_store cf post s k) := by simp [kd_, q_X3_runWithOthers, q_X3_runOnItself, q_X3_runOnNumbers]
theorem pm_11 : q_X4_perform cf G 11 x z = (q_X4_jumpOp cf G 11 x z) := by simp [q_X4_perform, q_X4_perform_18, q_X4_perform_59]
theorem kd_11 : kd_ cf post s 11 x k = (q_X3_jump cf post s x k) := by simp [kd_, q_X3_runWithOthers, q_X3_runOnItself, q_X3_runOnNumbers]
theorem pm_12 : q_X4_perform cf G 12 x z = (q_X4_jumpOp cf G 12 x z) := by simp [q_X4_perform, q_X4_perform_18, q_X4_perform_59]
theorem kd_12 : kd_ cf post s 12 x k = (q_X3_jumpIfZero cf post s x k) := by simp [kd_, q_X3_runWithOthers, q_X3_runOnItself, q_X3_runOnNumbers]
theorem pm_13 : q_X4_perform cf G 13 x z = (q_X4_jumpOp cf G 13 x z) := by simp [q_X4_perform, q_X4_perform_18, q_X4_perform_59]
theorem kd_13 : kd_ cf post s 13 x k = (q_X3_callPlace cf post s x k) := by simp [kd_, q_X3_runWithOthers, q_X3_runOnItself, q_X3_runOnNumbers]
theorem pm_14 : q_X4_perform cf G 14 x z = (q_X4_jumpOp cf G 14 x z) := by simp [q_X4_perform, q_X4_perform_18, q_X4_perform_59]
theorem kd_14 : kd_ cf post s 14 x k = (q_X3_goBack cf post s k) := by simp [kd_, q_X3_runWithOthers, q_X3_runOnItself, q_X3_runOnNumbers]
theorem pm_15 : q_X4_perform cf G 15 x z = (q_X4_taskOp cf G 15 x z) := by simp [q_X4_perform, q_X4_perform_18, q_X4_perform_59]
theorem kd_15 : kd_ cf post s 15 x k = (q_X3_emit cf post s k) := by simp [kd_, q_X3_runWithOthers, q_X3_runOnItself, q_X3_runOnNumbers]
theorem pm_16 : q_X4_perform cf G 16 x z = (q_X4_taskOp cf G 16 x z) := by simp [q_X4_perform, q_X4_perform_18, q_X4_perform_59]
theorem kd_16 : kd_ cf post s 16 x k = (q_X3_enter cf (fun k7 => post 0 k7) s 1 k) := by simp [kd_, q_X3_runWithOthers, q_X3_runOnItself, q_X3_runOnNumbers]
theorem pm_17 : q_X4_perform cf G 17 x z = (q_X4_taskOp cf G 17 x z) := by simp [q_X4_perform, q_X4_perform_18, q_X4_perform_59]
theorem kd_17 : kd_ cf post s 17 x k = (post 0 (k3_up k 205 s 0 (x &&& 7))) := by simp [kd_, q_X3_runWithOthers, q_X3_runOnItself, q_X3_runOnNumbers]
theorem pm_18 : q_X4_perform cf G 18 x z = (q_X4_taskOp cf G 18 x z) := by simp [q_X4_perform, q_X4_perform_18, q_X4_perform_59]
theorem kd_18 : kd_ cf post s 18 x k = (q_X3_beginOther cf post s x k) := by simp [kd_, q_X3_runWithOthers, q_X3_runOnItself, q_X3_runOnNumbers]
theorem pm_19 : q_X4_perform cf G 19 x z = (q_X4_stackOp cf G 19 x z) := by simp [q_X4_perform, q_X4_perform_18, q_X4_perform_59]
theorem kd_19 : kd_ cf post s 19 x k = (q_X3_compute cf post s 19 k) := by simp [kd_, q_X3_runWithOthers, q_X3_runOnItself, q_X3_runOnNumbers]
theorem pm_20 : q_X4_perform cf G 20 x z = (q_X4_taskOp cf G 20 x z) := by simp [q_X4_perform, q_X4_perform_18, q_X4_perform_59]
theorem kd_20 : kd_ cf post s 20 x k = (q_X3_sleep cf post s k) := by simp [kd_, q_X3_runWithOthers, q_X3_runOnItself, q_X3_runOnNumbers]
theorem pm_21 : q_X4_perform cf G 21 x z = (q_X4_send cf G x z) := by simp [q_X4_perform, q_X4_perform_18, q_X4_perform_59]
theorem kd_21 : kd_ cf post s 21 x k = (q_X3_send cf post s x k) := by simp [kd_, q_X3_runWithOthers, q_X3_runOnItself, q_X3_runOnNumbers]
theorem pm_22 : q_X4_perform cf G 22 x z = (q_X4_receive cf G x z) := by simp [q_X4_perform, q_X4_perform_18, q_X4_perform_59]
theorem kd_22 : kd_ cf post s 22 x k = (q_X3_receive cf post s x k) := by simp [kd_, q_X3_runWithOthers, q_X3_runOnItself, q_X3_runOnNumbers]
theorem pm_23 : q_X4_perform cf G 23 x z = (q_X4_stackOp cf G 23 x z) := by simp [q_X4_perform, q_X4_perform_18, q_X4_perform_59]
theorem kd_23 : kd_ cf post s 23 x k = (q_X2_put cf post s (nI s) k) := by simp [kd_, q_X3_runWithOthers, q_X3_runOnItself, q_X3_runOnNumbers]
theorem pm_24 : q_X4_perform cf G 24 x z = (q_X4_stackOp cf G 24 x z) := by simp [q_X4_perform, q_X4_perform_18, q_X4_perform_59]
theorem kd_24 : kd_ cf post s 24 x k = (q_X2_put cf post s (k 306 0 0) k) := by simp [kd_, q_X3_runWithOthers, q_X3_runOnItself, q_X3_runOnNumbers]
theorem pm_25 : q_X4_perform cf G 25 x z = (q_X4_taskOp cf G 25 x z) := by simp [q_X4_perform, q_X4_perform_18, q_X4_perform_59]
theorem kd_25 : kd_ cf post s 25 x k = (q_X3_killOther cf post s k) := by simp [kd_, q_X3_runWithOthers, q_X3_runOnItself, q_X3_runOnNumbers]
theorem pm_26 : q_X4_perform cf G 26 x z = (q_X4_fall cf G 4 z) := by simp [q_X4_perform, q_X4_perform_18, q_X4_perform_59]
theorem kd_26 : kd_ cf post s 26 x k = (post 4 k) := by simp [kd_, q_X3_runWithOthers, q_X3_runOnItself, q_X3_runOnNumbers]
theorem pm_27 : q_X4_perform cf G 27 x z = (q_X4_fall cf G 4 z) := by simp [q_X4_perform, q_X4_perform_18, q_X4_perform_59]
theorem kd_27 : kd_ cf post s 27 x k = (post 4 k) := by simp [kd_, q_X3_runWithOthers, q_X3_runOnItself, q_X3_runOnNumbers]
theorem pm_28 : q_X4_perform cf G 28 x z = (q_X4_fall cf G 4 z) := by simp [q_X4_perform, q_X4_perform_18, q_X4_perform_59]
theorem kd_28 : kd_ cf post s 28 x k = (post 4 k) := by simp [kd_, q_X3_runWithOthers, q_X3_runOnItself, q_X3_runOnNumbers]
theorem pm_29 : q_X4_perform cf G 29 x z = (q_X4_fall cf G 4 z) := by simp [q_X4_perform, q_X4_perform_18, q_X4_perform_59]
theorem kd_29 : kd_ cf post s 29 x k = (post 4 k) := by simp [kd_, q_X3_runWithOthers, q_X3_runOnItself, q_X3_runOnNumbers]
theorem pm_30 : q_X4_perform cf G 30 x z = (q_X4_fall cf G 4 z) := by simp [q_X4_perform, q_X4_perform_18, q_X4_perform_59]
theorem kd_30 : kd_ cf post s 30 x k = (post 4 k) := by simp [kd_, q_X3_runWithOthers, q_X3_runOnItself, q_X3_runOnNumbers]
theorem pm_31 : q_X4_perform cf G 31 x z = (q_X4_fall cf G 4 z) := by simp [q_X4_perform, q_X4_perform_18, q_X4_perform_59]
theorem kd_31 : kd_ cf post s 31 x k = (post 4 k) := by simp [kd_, q_X3_runWithOthers, q_X3_runOnItself, q_X3_runOnNumbers]
theorem do_op (hb : Cb_ cf) (h : Cs_ cf a e k z s) (ha : a < 2 ^ 31) (he : e < 2 ^ 31) (x : Int32) (hp : ∀ r k' z', Ro_ cf a e s r k' z' → P r k' z') : ∀ i, i < 32 → kd_ cf (fun r k' => q_X4_perform cf (fun z' => P r k' z') (nI i) x z) s (nI i) x k := by
  intro i hi
  match i, hi with
  | 0, _ =>
    show kd_ cf (fun r k' => q_X4_perform cf (fun z' => P r k' z') (0 : Int32) x z) s (0 : Int32) x k
    rw [kd_0]
    simp only [pm_0]
    exact op_0 hb h hp
  | 1, _ =>
    show kd_ cf (fun r k' => q_X4_perform cf (fun z' => P r k' z') (1 : Int32) x z) s (1 : Int32) x k
    rw [kd_1]
    simp only [pm_1]
    exact op_1 hb h x hp
  | 2, _ =>
    show kd_ cf (fun r k' => q_X4_perform cf (fun z' => P r k' z') (2 : Int32) x z) s (2 : Int32) x k
    rw [kd_2]
    simp only [pm_2]
    exact op_arith hb h 2 (by decide) hp
  | 3, _ =>
    show kd_ cf (fun r k' => q_X4_perform cf (fun z' => P r k' z') (3 : Int32) x z) s (3 : Int32) x k
    rw [kd_3]
    simp only [pm_3]
    exact op_arith hb h 3 (by decide) hp
  | 4, _ =>
    show kd_ cf (fun r k' => q_X4_perform cf (fun z' => P r k' z') (4 : Int32) x z) s (4 : Int32) x k
    rw [kd_4]
    simp only [pm_4]
    exact op_arith hb h 4 (by decide) hp
  | 5, _ =>
    show kd_ cf (fun r k' => q_X4_perform cf (fun z' => P r k' z') (5 : Int32) x z) s (5 : Int32) x k
    rw [kd_5]
    simp only [pm_5]
    exact op_arith hb h 5 (by decide) hp
  | 6, _ =>
    show kd_ cf (fun r k' => q_X4_perform cf (fun z' => P r k' z') (6 : Int32) x z) s (6 : Int32) x k
    rw [kd_6]
    simp only [pm_6]
    exact op_6 hb h x hp
  | 7, _ =>
    show kd_ cf (fun r k' => q_X4_perform cf (fun z' => P r k' z') (7 : Int32) x z) s (7 : Int32) x k
    rw [kd_7]
    simp only [pm_7]
    exact op_7 hb h x hp
  | 8, _ =>
    show kd_ cf (fun r k' => q_X4_perform cf (fun z' => P r k' z') (8 : Int32) x z) s (8 : Int32) x k
    rw [kd_8]
    simp only [pm_8]
    exact op_8 hb h x hp
  | 9, _ =>
    show kd_ cf (fun r k' => q_X4_perform cf (fun z' => P r k' z') (9 : Int32) x z) s (9 : Int32) x k
    rw [kd_9]
    simp only [pm_9]
    exact op_9 hb h hp
  | 10, _ =>
    show kd_ cf (fun r k' => q_X4_perform cf (fun z' => P r k' z') (10 : Int32) x z) s (10 : Int32) x k
    rw [kd_10]
    simp only [pm_10]
    exact op_10 hb h hp
  | 11, _ =>
    show kd_ cf (fun r k' => q_X4_perform cf (fun z' => P r k' z') (11 : Int32) x z) s (11 : Int32) x k
    rw [kd_11]
    simp only [pm_11]
    exact op_11 hb h x hp
  | 12, _ =>
    show kd_ cf (fun r k' => q_X4_perform cf (fun z' => P r k' z') (12 : Int32) x z) s (12 : Int32) x k
    rw [kd_12]
    simp only [pm_12]
    exact op_12 hb h x hp
  | 13, _ =>
    show kd_ cf (fun r k' => q_X4_perform cf (fun z' => P r k' z') (13 : Int32) x z) s (13 : Int32) x k
    rw [kd_13]
    simp only [pm_13]
    exact op_13 hb h x hp
  | 14, _ =>
    show kd_ cf (fun r k' => q_X4_perform cf (fun z' => P r k' z') (14 : Int32) x z) s (14 : Int32) x k
    rw [kd_14]
    simp only [pm_14]
    exact op_14 hb h x hp
  | 15, _ =>
    show kd_ cf (fun r k' => q_X4_perform cf (fun z' => P r k' z') (15 : Int32) x z) s (15 : Int32) x k
    rw [kd_15]
    simp only [pm_15]
    exact op_15 hb h he x hp
  | 16, _ =>
    show kd_ cf (fun r k' => q_X4_perform cf (fun z' => P r k' z') (16 : Int32) x z) s (16 : Int32) x k
    rw [kd_16]
    simp only [pm_16]
    exact op_16 hb h ha x hp
  | 17, _ =>
    show kd_ cf (fun r k' => q_X4_perform cf (fun z' => P r k' z') (17 : Int32) x z) s (17 : Int32) x k
    rw [kd_17]
    simp only [pm_17]
    exact op_17 hb h x hp
  | 18, _ =>
    show kd_ cf (fun r k' => q_X4_perform cf (fun z' => P r k' z') (18 : Int32) x z) s (18 : Int32) x k
    rw [kd_18]
    simp only [pm_18]
    exact op_18 hb h ha x hp
  | 19, _ =>
    show kd_ cf (fun r k' => q_X4_perform cf (fun z' => P r k' z') (19 : Int32) x z) s (19 : Int32) x k
    rw [kd_19]
    simp only [pm_19]
    exact op_19 hb h x hp
  | 20, _ =>
    show kd_ cf (fun r k' => q_X4_perform cf (fun z' => P r k' z') (20 : Int32) x z) s (20 : Int32) x k
    rw [kd_20]
    simp only [pm_20]
    exact op_20 hb h ha x hp
  | 21, _ =>
    show kd_ cf (fun r k' => q_X4_perform cf (fun z' => P r k' z') (21 : Int32) x z) s (21 : Int32) x k
    rw [kd_21]
    simp only [pm_21]
    exact op_21 hb h ha x hp
  | 22, _ =>
    show kd_ cf (fun r k' => q_X4_perform cf (fun z' => P r k' z') (22 : Int32) x z) s (22 : Int32) x k
    rw [kd_22]
    simp only [pm_22]
    exact op_22 hb h ha x hp
  | 23, _ =>
    show kd_ cf (fun r k' => q_X4_perform cf (fun z' => P r k' z') (23 : Int32) x z) s (23 : Int32) x k
    rw [kd_23]
    simp only [pm_23]
    exact op_23 hb h x hp
  | 24, _ =>
    show kd_ cf (fun r k' => q_X4_perform cf (fun z' => P r k' z') (24 : Int32) x z) s (24 : Int32) x k
    rw [kd_24]
    simp only [pm_24]
    exact op_24 hb h x hp
  | 25, _ =>
    show kd_ cf (fun r k' => q_X4_perform cf (fun z' => P r k' z') (25 : Int32) x z) s (25 : Int32) x k
    rw [kd_25]
    simp only [pm_25]
    exact op_25 hb h x hp
  | 26, _ =>
    show kd_ cf (fun r k' => q_X4_perform cf (fun z' => P r k' z') (26 : Int32) x z) s (26 : Int32) x k
    rw [kd_26]
    simp only [pm_26]
    exact m_fall0 h.2.2.2.2 (hp _ _ _ (ro_t h 4 (by decide) (Or.inl rfl) (Or.inl rfl)))
  | 27, _ =>
    show kd_ cf (fun r k' => q_X4_perform cf (fun z' => P r k' z') (27 : Int32) x z) s (27 : Int32) x k
    rw [kd_27]
    simp only [pm_27]
    exact m_fall0 h.2.2.2.2 (hp _ _ _ (ro_t h 4 (by decide) (Or.inl rfl) (Or.inl rfl)))
  | 28, _ =>
    show kd_ cf (fun r k' => q_X4_perform cf (fun z' => P r k' z') (28 : Int32) x z) s (28 : Int32) x k
    rw [kd_28]
    simp only [pm_28]
    exact m_fall0 h.2.2.2.2 (hp _ _ _ (ro_t h 4 (by decide) (Or.inl rfl) (Or.inl rfl)))
  | 29, _ =>
    show kd_ cf (fun r k' => q_X4_perform cf (fun z' => P r k' z') (29 : Int32) x z) s (29 : Int32) x k
    rw [kd_29]
    simp only [pm_29]
    exact m_fall0 h.2.2.2.2 (hp _ _ _ (ro_t h 4 (by decide) (Or.inl rfl) (Or.inl rfl)))
  | 30, _ =>
    show kd_ cf (fun r k' => q_X4_perform cf (fun z' => P r k' z') (30 : Int32) x z) s (30 : Int32) x k
    rw [kd_30]
    simp only [pm_30]
    exact m_fall0 h.2.2.2.2 (hp _ _ _ (ro_t h 4 (by decide) (Or.inl rfl) (Or.inl rfl)))
  | 31, _ =>
    show kd_ cf (fun r k' => q_X4_perform cf (fun z' => P r k' z') (31 : Int32) x z) s (31 : Int32) x k
    rw [kd_31]
    simp only [pm_31]
    exact m_fall0 h.2.2.2.2 (hp _ _ _ (ro_t h 4 (by decide) (Or.inl rfl) (Or.inl rfl)))
  | i + 32, hi => exact absurd hi (by omega)
end OD
