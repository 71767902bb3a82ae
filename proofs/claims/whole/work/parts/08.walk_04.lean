/-! printed by wip/whole/gen.py: the walks, contracts and calls of the methods -/
section KW
variable {p : Program} {l : Launch} {e : Env} {R : Room} {s : State} {m : MethodId} {args : Array Value} {below : List Frame} {meth : Method} {c : Code} {H : Heap} {locs : List Loc} {cells slots : Nat} {Q : State → Prop}
variable {cc : ByteArray} {nL pc : Nat} {ls : Array Slot} {rest : List Value} {own : String} {D : va_G} {A : Nat → Prop} {cA : Nat → ClassId} {cf : Nat → Nat} {ad : Nat × Nat → Nat} {z0 : ka_T}
abbrev rmX4_freeTask : Room := { frames := 0, cells := 0, slots := 0, locals := 0 }
set_option maxRecDepth 100000 in
set_option maxHeartbeats 4000000 in
theorem b_X4_freeTask_2 {post : Int32 → ka_T → Prop} (S : CallFix p m c cX4_freeTask 2 s args lw_gd RX4) (hr : meth.sig.returnType = some .int) (hk : meth.locks = false) : ∀ nf : Nat, ∀ (x1 : Int32) (k0 : ka_T) (H : Heap) (locs : List Loc) (ls : Array Slot), lv_has ls 2 [(0, .ref (ad (11, 0))), (1, .int x1)] → Wo_ D cA cf ad A z0 k0 s H locs → q_X4_freeTask_2 cf post nf x1 k0 → W p l e rmX4_freeTask s m args below meth c H locs 0 0 (MQ below (va_Qi post (fun u t => Wx_ D cA cf ad A z0 u t) A) args s 0 0 A) (F0 m 2 ls []) := by
  intro nf
  induction nf with
  | zero =>
    intro x1 k0 H locs ls hl hw hq
    exact False.elim hq
  | succ nf ih =>
    intro x1 k0 H locs ls hl hw hq
    refine lv_iload_n S.1 S.2.1 dX4_freeTask_2 rfl (lv_at hl 1 rfl) ?_
    refine lv_aload_n S.1 S.2.1 dX4_freeTask_3 rfl (lv_at hl 0 rfl) ?_
    refine gf_400 S hw wf_X4_65 dX4_freeTask_4 ?_
    refine lv_icmp_ge (tgt := 27) S.1 S.2.1 dX4_freeTask_7 rfl (fun h1 => ?_) (fun h1 => ?_)
    · replace hq := hq.1 h1
      refine lv_iconst (v := (-1 : Int32)) S.1 S.2.1 dX4_freeTask_27 (by decide) ?_
      exact kr_i (cu := fun u => ce_l cA cf ad z0 u) S hr rfl hk hw hq dX4_freeTask_28
    · replace hq := hq.2 h1
      refine lv_aload_n S.1 S.2.1 dX4_freeTask_10 rfl (lv_at hl 0 rfl) ?_
      refine gf_409 S hw wf_X4_16 dX4_freeTask_11 ?_
      refine lv_iload_n S.1 S.2.1 dX4_freeTask_14 rfl (lv_at hl 1 rfl) ?_
      obtain ⟨hi, hq⟩ := hq
      refine al_14 S hw hi dX4_freeTask_15 ?_
      refine lv_if_ne (tgt := 21) S.1 S.2.1 dX4_freeTask_16 rfl (fun h2 => ?_) (fun h2 => ?_)
      · replace hq := hq.1 h2
        refine lv_iinc (k := 1) (v := (x1 + 1)) (lv' := [(1, .int (x1 + 1)), (0, .ref (ad (11, 0)))]) S.1 S.2.1 dX4_freeTask_21 hl rfl (ii_1 _) (by decide) rfl (fun ls hl => ?_)
        refine lv_goto (tgt := 2) S.1 S.2.1 dX4_freeTask_24 rfl ?_
        exact ih (x1 + 1) k0 _ _ _ (lv_sub hl [1, 0] rfl) hw hq
      · replace hq := hq.2 h2
        refine lv_iload_n S.1 S.2.1 dX4_freeTask_19 rfl (lv_at hl 1 rfl) ?_
        exact kr_i (cu := fun u => ce_l cA cf ad z0 u) S hr rfl hk hw hq dX4_freeTask_20
set_option maxRecDepth 100000 in
set_option maxHeartbeats 4000000 in
theorem b_X4_freeTask_0 {post : Int32 → ka_T → Prop} (S : CallFix p m c cX4_freeTask 2 s args lw_gd RX4) (hr : meth.sig.returnType = some .int) (hk : meth.locks = false) : ∀ (k0 : ka_T) (H : Heap) (locs : List Loc) (ls : Array Slot), lv_has ls 2 [(0, .ref (ad (11, 0)))] → Wo_ D cA cf ad A z0 k0 s H locs → q_X4_freeTask cf post k0 → W p l e rmX4_freeTask s m args below meth c H locs 0 0 (MQ below (va_Qi post (fun u t => Wx_ D cA cf ad A z0 u t) A) args s 0 0 A) (F0 m 0 ls []) := by
  intro k0 H locs ls hl hw hq
  refine lv_iconst (v := (0 : Int32)) S.1 S.2.1 dX4_freeTask_0 (by decide) ?_
  refine lv_istore_n (lv' := [(1, .int (0 : Int32)), (0, .ref (ad (11, 0)))]) S.1 S.2.1 dX4_freeTask_1 rfl hl (by decide) rfl (fun ls hl => ?_)
  obtain ⟨nf9, hq⟩ := hq
  exact b_X4_freeTask_2 S hr hk nf9 (0 : Int32) k0 _ _ _ (lv_sub hl [1, 0] rfl) hw hq
theorem c_X4_freeTask (z0 k0 : ka_T) {post : Int32 → ka_T → Prop} (hq : q_X4_freeTask cf post  k0) : Met l yX4_freeTask wsX4_freeTask rmX4_freeTask (va_Pc [.ref (ad (11, 0))] (Wx_ D cA cf ad A z0 k0)) (va_Qi post (fun u t => Wx_ D cA cf ad A z0 u t) A) 0 0 A :=
  kp_met (by decide +kernel) [.ref (ad (11, 0))] (Nat.le_of_ble_eq_true rfl) (fun p e s m args below meth c ls S hr hk hw hl => b_X4_freeTask_0 S hr hk  k0 _ _ _ hl hw hq)
theorem call_X4_freeTask {z0 k0 : ka_T} {post : Int32 → ka_T → Prop} (S : CallFix p m c cc nL s args lw_gd own) (hw : Wo_ D cA cf ad A z0 k0 s H locs) {index : Nat} (hl : Cond.methodLink own index yX4_freeTask ∈ lw_gd) (hq : q_X4_freeTask cf post  k0) (hR : rmX4_freeTask.frames + 1 ≤ R.frames ∧ 8 + (2 + 11) + rmX4_freeTask.locals ≤ R.locals) (hls : ls.size = nL) (hro : (rest.map fun v => v.category).sum ≤ 8) (hcs : cells ≤ R.cells ∧ slots ≤ R.slots) (hd : decode cc pc = .ok (.invokevirtual index, 3)) (kk : ∀ (r : Int32) (u : ka_T) (H1 : Heap) (locs1 : List Loc), post r u → Wo_ D cA cf ad A z0 u s H1 locs1 → W p l e R s m args below meth c H1 locs1 cells slots Q (F0 m (pc + 3) ls (.int r :: rest))) : W p l e R s m args below meth c H locs cells slots Q (F0 m pc ls (.ref (ad (11, 0)) :: rest)) :=
  kg_vi (cu := fun u => ce_l cA cf ad z0 u) (As := []) S hw (q := (11, 0)) (c_X4_freeTask z0 k0  hq) wc_X4_freeTask wn_X4 hl wi_X4_freeTask (C := RX4) (T := TX4) (N := 27) (ci := 4) (fs := fx_11 cf ad k0 0) wse_X4_freeTask (km_11) rfl rfl (na := 0) (by decide +kernel) rfl rfl rfl hR hls rfl hro hcs hd kk
abbrev rmX4_set : Room := { frames := 0, cells := 0, slots := 0, locals := 0 }
set_option maxRecDepth 100000 in
set_option maxHeartbeats 4000000 in
theorem b_X4_set_0 {post : ka_T → Prop} (S : CallFix p m c cX4_set 3 s args lw_gd RX4) (hr : meth.sig.returnType = none) (hk : meth.locks = false) : ∀ (x1 : Int32) (x2 : Int32) (k0 : ka_T) (H : Heap) (locs : List Loc) (ls : Array Slot), lv_has ls 3 [(0, .ref (ad (11, 0))), (1, .int x1), (2, .int x2)] → Wo_ D cA cf ad A z0 k0 s H locs → q_X4_set cf post x1 x2 k0 → W p l e rmX4_set s m args below meth c H locs 0 0 (MQ below (va_Qv post (fun u t => Wx_ D cA cf ad A z0 u t) A) args s 0 0 A) (F0 m 0 ls []) := by
  intro x1 x2 k0 H locs ls hl hw hq
  refine lv_aload_n S.1 S.2.1 dX4_set_0 rfl (lv_at hl 0 rfl) ?_
  refine gf_409 S hw wf_X4_16 dX4_set_1 ?_
  refine lv_iload_n S.1 S.2.1 dX4_set_4 rfl (lv_at hl 1 rfl) ?_
  refine lv_iload_n S.1 S.2.1 dX4_set_5 rfl (lv_at hl 2 rfl) ?_
  obtain ⟨hi, hq⟩ := hq
  refine as_14 S hw hi dX4_set_6 (fun k1 H locs e1 hw => ?_)
  replace hq := hq _ e1
  refine lv_aload_n S.1 S.2.1 dX4_set_7 rfl (lv_at hl 0 rfl) ?_
  refine gf_419 S hw wf_X4_46 dX4_set_8 ?_
  refine lv_iload_n S.1 S.2.1 dX4_set_11 rfl (lv_at hl 1 rfl) ?_
  refine lv_aload_n S.1 S.2.1 dX4_set_12 rfl (lv_at hl 0 rfl) ?_
  refine gf_408 S hw wf_X4_78 dX4_set_13 ?_
  obtain ⟨hi, hq⟩ := hq
  refine as_24 S hw hi dX4_set_16 (fun k2 H locs e2 hw => ?_)
  replace hq := hq _ e2
  refine lv_aload_n S.1 S.2.1 dX4_set_17 rfl (lv_at hl 0 rfl) ?_
  refine lv_dup S.1 S.2.1 dX4_set_18 rfl ?_
  refine gf_408 S hw wf_X4_78 dX4_set_19 ?_
  refine lv_iconst (v := (1 : Int32)) S.1 S.2.1 dX4_set_22 (by decide) ?_
  refine lv_iadd S.1 S.2.1 dX4_set_23 ?_
  refine pf_408 S hw wf_X4_78 dX4_set_24 (fun k3 H locs e3 hw => ?_)
  replace hq := hq _ e3
  exact kr_v (cu := fun u => ce_l cA cf ad z0 u) S hr hk hw hq dX4_set_27
theorem c_X4_set (z0 k0 : ka_T) (x1 : Int32) (x2 : Int32) {post : ka_T → Prop} (hq : q_X4_set cf post x1 x2 k0) : Met l yX4_set wsX4_set rmX4_set (va_Pc [.ref (ad (11, 0)), .int x1, .int x2] (Wx_ D cA cf ad A z0 k0)) (va_Qv post (fun u t => Wx_ D cA cf ad A z0 u t) A) 0 0 A :=
  kp_met (by decide +kernel) [.ref (ad (11, 0)), .int x1, .int x2] (Nat.le_of_ble_eq_true rfl) (fun p e s m args below meth c ls S hr hk hw hl => b_X4_set_0 S hr hk x1 x2 k0 _ _ _ hl hw hq)
theorem call_X4_set {z0 k0 : ka_T} {x1 : Int32} {x2 : Int32} {post : ka_T → Prop} (S : CallFix p m c cc nL s args lw_gd own) (hw : Wo_ D cA cf ad A z0 k0 s H locs) {index : Nat} (hl : Cond.methodLink own index yX4_set ∈ lw_gd) (hq : q_X4_set cf post x1 x2 k0) (hR : rmX4_set.frames + 1 ≤ R.frames ∧ 8 + (3 + 11) + rmX4_set.locals ≤ R.locals) (hls : ls.size = nL) (hro : (rest.map fun v => v.category).sum ≤ 8) (hcs : cells ≤ R.cells ∧ slots ≤ R.slots) (hd : decode cc pc = .ok (.invokevirtual index, 3)) (kk : ∀ (u : ka_T) (H1 : Heap) (locs1 : List Loc), post u → Wo_ D cA cf ad A z0 u s H1 locs1 → W p l e R s m args below meth c H1 locs1 cells slots Q (F0 m (pc + 3) ls rest)) : W p l e R s m args below meth c H locs cells slots Q (F0 m pc ls (.int x2 :: .int x1 :: .ref (ad (11, 0)) :: rest)) :=
  kg_vv (cu := fun u => ce_l cA cf ad z0 u) (As := [.int x1, .int x2]) S hw (q := (11, 0)) (c_X4_set z0 k0 x1 x2 hq) wc_X4_set wn_X4 hl wi_X4_set (C := RX4) (T := TX4) (N := 27) (ci := 4) (fs := fx_11 cf ad k0 0) wse_X4_set (km_11) rfl rfl (na := 2) (by decide +kernel) rfl rfl rfl hR hls rfl hro hcs hd kk
abbrev rmX4_begin : Room := { frames := 1, cells := 0, slots := 0, locals := 22 }
set_option maxRecDepth 100000 in
set_option maxHeartbeats 4000000 in
theorem b_X4_begin_0 {post : Int32 → ka_T → Prop} (S : CallFix p m c cX4_begin 4 s args lw_gd RX4) (hr : meth.sig.returnType = some .int) (hk : meth.locks = false) : ∀ (x1 : Int32) (x2 : Int32) (k0 : ka_T) (H : Heap) (locs : List Loc) (ls : Array Slot), lv_has ls 4 [(0, .ref (ad (11, 0))), (1, .int x1), (2, .int x2)] → Wo_ D cA cf ad A z0 k0 s H locs → q_X4_begin cf post x1 x2 k0 → W p l e rmX4_begin s m args below meth c H locs 0 0 (MQ below (va_Qi post (fun u t => Wx_ D cA cf ad A z0 u t) A) args s 0 0 A) (F0 m 0 ls []) := by
  intro x1 x2 k0 H locs ls hl hw hq
  refine lv_aload_n S.1 S.2.1 dX4_begin_0 rfl (lv_at hl 0 rfl) ?_
  refine call_X4_freeTask S hw wl_X4_81 hq ⟨Nat.le_of_ble_eq_true rfl, Nat.le_of_ble_eq_true rfl⟩ hl.1 (Nat.le_of_ble_eq_true rfl) ⟨Nat.zero_le _, Nat.zero_le _⟩ dX4_begin_1 (fun r1 k1 H locs hq hw => ?_)
  refine lv_istore_n (lv' := [(3, .int r1), (0, .ref (ad (11, 0))), (1, .int x1), (2, .int x2)]) S.1 S.2.1 dX4_begin_4 rfl hl (by decide) rfl (fun ls hl => ?_)
  refine lv_iload_n S.1 S.2.1 dX4_begin_5 rfl (lv_at hl 0 rfl) ?_
  refine lv_if_lt (tgt := 43) S.1 S.2.1 dX4_begin_6 rfl (fun h2 => ?_) (fun h2 => ?_)
  · replace hq := hq.1 h2
    refine lv_iload_n S.1 S.2.1 dX4_begin_43 rfl (lv_at hl 0 rfl) ?_
    exact kr_i (cu := fun u => ce_l cA cf ad z0 u) S hr rfl hk hw hq dX4_begin_44
  · replace hq := hq.2 h2
    refine lv_aload_n S.1 S.2.1 dX4_begin_9 rfl (lv_at hl 1 rfl) ?_
    refine gf_411 S hw wf_X4_22 dX4_begin_10 ?_
    refine lv_iload_n S.1 S.2.1 dX4_begin_13 rfl (lv_at hl 0 rfl) ?_
    refine lv_iload_n S.1 S.2.1 dX4_begin_14 rfl (lv_at hl 2 rfl) ?_
    obtain ⟨hi, hq⟩ := hq
    refine as_16 S hw hi dX4_begin_15 (fun k3 H locs e3 hw => ?_)
    replace hq := hq _ e3
    refine lv_aload_n S.1 S.2.1 dX4_begin_16 rfl (lv_at hl 1 rfl) ?_
    refine gf_410 S hw wf_X4_19 dX4_begin_17 ?_
    refine lv_iload_n S.1 S.2.1 dX4_begin_20 rfl (lv_at hl 0 rfl) ?_
    refine lv_iload_n S.1 S.2.1 dX4_begin_21 rfl (lv_at hl 3 rfl) ?_
    obtain ⟨hi, hq⟩ := hq
    refine as_15 S hw hi dX4_begin_22 (fun k4 H locs e4 hw => ?_)
    replace hq := hq _ e4
    refine lv_aload_n S.1 S.2.1 dX4_begin_23 rfl (lv_at hl 1 rfl) ?_
    refine gf_412 S hw wf_X4_25 dX4_begin_24 ?_
    refine lv_iload_n S.1 S.2.1 dX4_begin_27 rfl (lv_at hl 0 rfl) ?_
    refine lv_iconst (v := (0 : Int32)) S.1 S.2.1 dX4_begin_28 (by decide) ?_
    obtain ⟨hi, hq⟩ := hq
    refine as_17 S hw hi dX4_begin_29 (fun k5 H locs e5 hw => ?_)
    replace hq := hq _ e5
    refine lv_aload_n S.1 S.2.1 dX4_begin_30 rfl (lv_at hl 1 rfl) ?_
    refine gf_414 S hw wf_X4_31 dX4_begin_31 ?_
    refine lv_iload_n S.1 S.2.1 dX4_begin_34 rfl (lv_at hl 0 rfl) ?_
    refine lv_iconst (v := (0 : Int32)) S.1 S.2.1 dX4_begin_35 (by decide) ?_
    obtain ⟨hi, hq⟩ := hq
    refine as_19 S hw hi dX4_begin_36 (fun k6 H locs e6 hw => ?_)
    replace hq := hq _ e6
    refine lv_aload_n S.1 S.2.1 dX4_begin_37 rfl (lv_at hl 1 rfl) ?_
    refine lv_iload_n S.1 S.2.1 dX4_begin_38 rfl (lv_at hl 0 rfl) ?_
    refine lv_iconst (v := (1 : Int32)) S.1 S.2.1 dX4_begin_39 (by decide) ?_
    refine call_X4_set S hw wl_X4_85 hq ⟨Nat.le_of_ble_eq_true rfl, Nat.le_of_ble_eq_true rfl⟩ hl.1 (Nat.le_of_ble_eq_true rfl) ⟨Nat.zero_le _, Nat.zero_le _⟩ dX4_begin_40 (fun k7 H locs hq hw => ?_)
    refine lv_iload_n S.1 S.2.1 dX4_begin_43 rfl (lv_at hl 0 rfl) ?_
    exact kr_i (cu := fun u => ce_l cA cf ad z0 u) S hr rfl hk hw hq dX4_begin_44
theorem c_X4_begin (z0 k0 : ka_T) (x1 : Int32) (x2 : Int32) {post : Int32 → ka_T → Prop} (hq : q_X4_begin cf post x1 x2 k0) : Met l yX4_begin wsX4_begin rmX4_begin (va_Pc [.ref (ad (11, 0)), .int x1, .int x2] (Wx_ D cA cf ad A z0 k0)) (va_Qi post (fun u t => Wx_ D cA cf ad A z0 u t) A) 0 0 A :=
  kp_met (by decide +kernel) [.ref (ad (11, 0)), .int x1, .int x2] (Nat.le_of_ble_eq_true rfl) (fun p e s m args below meth c ls S hr hk hw hl => b_X4_begin_0 S hr hk x1 x2 k0 _ _ _ hl hw hq)
theorem call_X4_begin {z0 k0 : ka_T} {x1 : Int32} {x2 : Int32} {post : Int32 → ka_T → Prop} (S : CallFix p m c cc nL s args lw_gd own) (hw : Wo_ D cA cf ad A z0 k0 s H locs) {index : Nat} (hl : Cond.methodLink own index yX4_begin ∈ lw_gd) (hq : q_X4_begin cf post x1 x2 k0) (hR : rmX4_begin.frames + 1 ≤ R.frames ∧ 8 + (4 + 11) + rmX4_begin.locals ≤ R.locals) (hls : ls.size = nL) (hro : (rest.map fun v => v.category).sum ≤ 8) (hcs : cells ≤ R.cells ∧ slots ≤ R.slots) (hd : decode cc pc = .ok (.invokevirtual index, 3)) (kk : ∀ (r : Int32) (u : ka_T) (H1 : Heap) (locs1 : List Loc), post r u → Wo_ D cA cf ad A z0 u s H1 locs1 → W p l e R s m args below meth c H1 locs1 cells slots Q (F0 m (pc + 3) ls (.int r :: rest))) : W p l e R s m args below meth c H locs cells slots Q (F0 m pc ls (.int x2 :: .int x1 :: .ref (ad (11, 0)) :: rest)) :=
  kg_vi (cu := fun u => ce_l cA cf ad z0 u) (As := [.int x1, .int x2]) S hw (q := (11, 0)) (c_X4_begin z0 k0 x1 x2 hq) wc_X4_begin wn_X4 hl wi_X4_begin (C := RX4) (T := TX4) (N := 27) (ci := 4) (fs := fx_11 cf ad k0 0) wse_X4_begin (km_11) rfl rfl (na := 2) (by decide +kernel) rfl rfl rfl hR hls rfl hro hcs hd kk
abbrev rmX4_clock : Room := { frames := 0, cells := 0, slots := 0, locals := 0 }
set_option maxRecDepth 100000 in
set_option maxHeartbeats 4000000 in
theorem b_X4_clock_0 {post : Int32 → ka_T → Prop} (S : CallFix p m c cX4_clock 1 s args lw_gd RX4) (hr : meth.sig.returnType = some .int) (hk : meth.locks = false) : ∀ (k0 : ka_T) (H : Heap) (locs : List Loc) (ls : Array Slot), lv_has ls 1 [(0, .ref (ad (11, 0)))] → Wo_ D cA cf ad A z0 k0 s H locs → q_X4_clock cf post k0 → W p l e rmX4_clock s m args below meth c H locs 0 0 (MQ below (va_Qi post (fun u t => Wx_ D cA cf ad A z0 u t) A) args s 0 0 A) (F0 m 0 ls []) := by
  intro k0 H locs ls hl hw hq
  refine lv_aload_n S.1 S.2.1 dX4_clock_0 rfl (lv_at hl 0 rfl) ?_
  refine gf_407 S hw wf_X4_121 dX4_clock_1 ?_
  exact kr_i (cu := fun u => ce_l cA cf ad z0 u) S hr rfl hk hw hq dX4_clock_4
theorem c_X4_clock (z0 k0 : ka_T) {post : Int32 → ka_T → Prop} (hq : q_X4_clock cf post  k0) : Met l yX4_clock wsX4_clock rmX4_clock (va_Pc [.ref (ad (11, 0))] (Wx_ D cA cf ad A z0 k0)) (va_Qi post (fun u t => Wx_ D cA cf ad A z0 u t) A) 0 0 A :=
  kp_met (by decide +kernel) [.ref (ad (11, 0))] (Nat.le_of_ble_eq_true rfl) (fun p e s m args below meth c ls S hr hk hw hl => b_X4_clock_0 S hr hk  k0 _ _ _ hl hw hq)
theorem call_X4_clock {z0 k0 : ka_T} {post : Int32 → ka_T → Prop} (S : CallFix p m c cc nL s args lw_gd own) (hw : Wo_ D cA cf ad A z0 k0 s H locs) {index : Nat} (hl : Cond.methodLink own index yX4_clock ∈ lw_gd) (hq : q_X4_clock cf post  k0) (hR : rmX4_clock.frames + 1 ≤ R.frames ∧ 8 + (1 + 11) + rmX4_clock.locals ≤ R.locals) (hls : ls.size = nL) (hro : (rest.map fun v => v.category).sum ≤ 8) (hcs : cells ≤ R.cells ∧ slots ≤ R.slots) (hd : decode cc pc = .ok (.invokevirtual index, 3)) (kk : ∀ (r : Int32) (u : ka_T) (H1 : Heap) (locs1 : List Loc), post r u → Wo_ D cA cf ad A z0 u s H1 locs1 → W p l e R s m args below meth c H1 locs1 cells slots Q (F0 m (pc + 3) ls (.int r :: rest))) : W p l e R s m args below meth c H locs cells slots Q (F0 m pc ls (.ref (ad (11, 0)) :: rest)) :=
  kg_vi (cu := fun u => ce_l cA cf ad z0 u) (As := []) S hw (q := (11, 0)) (c_X4_clock z0 k0  hq) wc_X4_clock wn_X4 hl wi_X4_clock (C := RX4) (T := TX4) (N := 27) (ci := 4) (fs := fx_11 cf ad k0 0) wse_X4_clock (km_11) rfl rfl (na := 0) (by decide +kernel) rfl rfl rfl hR hls rfl hro hcs hd kk
abbrev rmX4_emitted : Room := { frames := 0, cells := 0, slots := 0, locals := 0 }
set_option maxRecDepth 100000 in
set_option maxHeartbeats 4000000 in
theorem b_X4_emitted_0 {post : Int32 → ka_T → Prop} (S : CallFix p m c cX4_emitted 1 s args lw_gd RX4) (hr : meth.sig.returnType = some .int) (hk : meth.locks = false) : ∀ (k0 : ka_T) (H : Heap) (locs : List Loc) (ls : Array Slot), lv_has ls 1 [(0, .ref (ad (11, 0)))] → Wo_ D cA cf ad A z0 k0 s H locs → q_X4_emitted cf post k0 → W p l e rmX4_emitted s m args below meth c H locs 0 0 (MQ below (va_Qi post (fun u t => Wx_ D cA cf ad A z0 u t) A) args s 0 0 A) (F0 m 0 ls []) := by
  intro k0 H locs ls hl hw hq
  refine lv_aload_n S.1 S.2.1 dX4_emitted_0 rfl (lv_at hl 0 rfl) ?_
  refine gf_423 S hw wf_X4_127 dX4_emitted_1 ?_
  exact kr_i (cu := fun u => ce_l cA cf ad z0 u) S hr rfl hk hw hq dX4_emitted_4
theorem c_X4_emitted (z0 k0 : ka_T) {post : Int32 → ka_T → Prop} (hq : q_X4_emitted cf post  k0) : Met l yX4_emitted wsX4_emitted rmX4_emitted (va_Pc [.ref (ad (11, 0))] (Wx_ D cA cf ad A z0 k0)) (va_Qi post (fun u t => Wx_ D cA cf ad A z0 u t) A) 0 0 A :=
  kp_met (by decide +kernel) [.ref (ad (11, 0))] (Nat.le_of_ble_eq_true rfl) (fun p e s m args below meth c ls S hr hk hw hl => b_X4_emitted_0 S hr hk  k0 _ _ _ hl hw hq)
theorem call_X4_emitted {z0 k0 : ka_T} {post : Int32 → ka_T → Prop} (S : CallFix p m c cc nL s args lw_gd own) (hw : Wo_ D cA cf ad A z0 k0 s H locs) {index : Nat} (hl : Cond.methodLink own index yX4_emitted ∈ lw_gd) (hq : q_X4_emitted cf post  k0) (hR : rmX4_emitted.frames + 1 ≤ R.frames ∧ 8 + (1 + 11) + rmX4_emitted.locals ≤ R.locals) (hls : ls.size = nL) (hro : (rest.map fun v => v.category).sum ≤ 8) (hcs : cells ≤ R.cells ∧ slots ≤ R.slots) (hd : decode cc pc = .ok (.invokevirtual index, 3)) (kk : ∀ (r : Int32) (u : ka_T) (H1 : Heap) (locs1 : List Loc), post r u → Wo_ D cA cf ad A z0 u s H1 locs1 → W p l e R s m args below meth c H1 locs1 cells slots Q (F0 m (pc + 3) ls (.int r :: rest))) : W p l e R s m args below meth c H locs cells slots Q (F0 m pc ls (.ref (ad (11, 0)) :: rest)) :=
  kg_vi (cu := fun u => ce_l cA cf ad z0 u) (As := []) S hw (q := (11, 0)) (c_X4_emitted z0 k0  hq) wc_X4_emitted wn_X4 hl wi_X4_emitted (C := RX4) (T := TX4) (N := 27) (ci := 4) (fs := fx_11 cf ad k0 0) wse_X4_emitted (km_11) rfl rfl (na := 0) (by decide +kernel) rfl rfl rfl hR hls rfl hro hcs hd kk
abbrev rmX4_end : Room := { frames := 0, cells := 0, slots := 0, locals := 0 }
set_option maxRecDepth 100000 in
set_option maxHeartbeats 4000000 in
theorem b_X4_end_0 {post : ka_T → Prop} (S : CallFix p m c cX4_end 3 s args lw_gd RX4) (hr : meth.sig.returnType = none) (hk : meth.locks = false) : ∀ (x1 : Int32) (x2 : Int32) (k0 : ka_T) (H : Heap) (locs : List Loc) (ls : Array Slot), lv_has ls 3 [(0, .ref (ad (11, 0))), (1, .int x1), (2, .int x2)] → Wo_ D cA cf ad A z0 k0 s H locs → q_X4_end cf post x1 x2 k0 → W p l e rmX4_end s m args below meth c H locs 0 0 (MQ below (va_Qv post (fun u t => Wx_ D cA cf ad A z0 u t) A) args s 0 0 A) (F0 m 0 ls []) := by
  intro x1 x2 k0 H locs ls hl hw hq
  refine lv_aload_n S.1 S.2.1 dX4_end_0 rfl (lv_at hl 0 rfl) ?_
  refine gf_409 S hw wf_X4_16 dX4_end_1 ?_
  refine lv_iload_n S.1 S.2.1 dX4_end_4 rfl (lv_at hl 1 rfl) ?_
  refine lv_iconst (v := (0 : Int32)) S.1 S.2.1 dX4_end_5 (by decide) ?_
  obtain ⟨hi, hq⟩ := hq
  refine as_14 S hw hi dX4_end_6 (fun k1 H locs e1 hw => ?_)
  replace hq := hq _ e1
  refine lv_aload_n S.1 S.2.1 dX4_end_7 rfl (lv_at hl 0 rfl) ?_
  refine gf_420 S hw wf_X4_49 dX4_end_8 ?_
  refine lv_iload_n S.1 S.2.1 dX4_end_11 rfl (lv_at hl 1 rfl) ?_
  refine lv_iload_n S.1 S.2.1 dX4_end_12 rfl (lv_at hl 2 rfl) ?_
  obtain ⟨hi, hq⟩ := hq
  refine as_25 S hw hi dX4_end_13 (fun k2 H locs e2 hw => ?_)
  replace hq := hq _ e2
  exact kr_v (cu := fun u => ce_l cA cf ad z0 u) S hr hk hw hq dX4_end_14
theorem c_X4_end (z0 k0 : ka_T) (x1 : Int32) (x2 : Int32) {post : ka_T → Prop} (hq : q_X4_end cf post x1 x2 k0) : Met l yX4_end wsX4_end rmX4_end (va_Pc [.ref (ad (11, 0)), .int x1, .int x2] (Wx_ D cA cf ad A z0 k0)) (va_Qv post (fun u t => Wx_ D cA cf ad A z0 u t) A) 0 0 A :=
  kp_met (by decide +kernel) [.ref (ad (11, 0)), .int x1, .int x2] (Nat.le_of_ble_eq_true rfl) (fun p e s m args below meth c ls S hr hk hw hl => b_X4_end_0 S hr hk x1 x2 k0 _ _ _ hl hw hq)
theorem call_X4_end {z0 k0 : ka_T} {x1 : Int32} {x2 : Int32} {post : ka_T → Prop} (S : CallFix p m c cc nL s args lw_gd own) (hw : Wo_ D cA cf ad A z0 k0 s H locs) {index : Nat} (hl : Cond.methodLink own index yX4_end ∈ lw_gd) (hq : q_X4_end cf post x1 x2 k0) (hR : rmX4_end.frames + 1 ≤ R.frames ∧ 8 + (3 + 11) + rmX4_end.locals ≤ R.locals) (hls : ls.size = nL) (hro : (rest.map fun v => v.category).sum ≤ 8) (hcs : cells ≤ R.cells ∧ slots ≤ R.slots) (hd : decode cc pc = .ok (.invokevirtual index, 3)) (kk : ∀ (u : ka_T) (H1 : Heap) (locs1 : List Loc), post u → Wo_ D cA cf ad A z0 u s H1 locs1 → W p l e R s m args below meth c H1 locs1 cells slots Q (F0 m (pc + 3) ls rest)) : W p l e R s m args below meth c H locs cells slots Q (F0 m pc ls (.int x2 :: .int x1 :: .ref (ad (11, 0)) :: rest)) :=
  kg_vv (cu := fun u => ce_l cA cf ad z0 u) (As := [.int x1, .int x2]) S hw (q := (11, 0)) (c_X4_end z0 k0 x1 x2 hq) wc_X4_end wn_X4 hl wi_X4_end (C := RX4) (T := TX4) (N := 27) (ci := 4) (fs := fx_11 cf ad k0 0) wse_X4_end (km_11) rfl rfl (na := 2) (by decide +kernel) rfl rfl rfl hR hls rfl hro hcs hd kk
abbrev rmX4_inState : Room := { frames := 0, cells := 0, slots := 0, locals := 0 }
set_option maxRecDepth 100000 in
set_option maxHeartbeats 4000000 in
theorem b_X4_inState_75 {post : Int32 → ka_T → Prop} {kh_18 : Int32 → Int32 → Int32 → Int32 → Int32 → Int32 → ka_T → Prop} (hkh_18 : ∀ (x1 : Int32) (x2 : Int32) (x3 : Int32) (x4 : Int32) (x5 : Int32) (x6 : Int32) (k0 : ka_T) (H : Heap) (locs : List Loc) (ls : Array Slot), lv_has ls 8 [(0, .ref (ad (11, 0))), (1, .int x1), (2, .int x2), (3, .int x3), (4, .int x4), (5, .int x5), (6, .int x6)] → Wo_ D cA cf ad A z0 k0 s H locs → kh_18 x1 x2 x3 x4 x5 x6 k0 → W p l e rmX4_inState s m args below meth c H locs 0 0 (MQ below (va_Qi post (fun u t => Wx_ D cA cf ad A z0 u t) A) args s 0 0 A) (F0 m 18 ls [])) (S : CallFix p m c cX4_inState 8 s args lw_gd RX4) (hr : meth.sig.returnType = some .int) (hk : meth.locks = false) : ∀ (x1 : Int32) (x2 : Int32) (x3 : Int32) (x4 : Int32) (x5 : Int32) (x6 : Int32) (y0 : Int32) (k0 : ka_T) (H : Heap) (locs : List Loc) (ls : Array Slot), lv_has ls 8 [(0, .ref (ad (11, 0))), (1, .int x1), (2, .int x2), (3, .int x3), (4, .int x4), (5, .int x5), (6, .int x6)] → Wo_ D cA cf ad A z0 k0 s H locs → q_X4_inState_75 cf kh_18 post x1 x2 x3 x4 x5 x6 y0 k0 → W p l e rmX4_inState s m args below meth c H locs 0 0 (MQ below (va_Qi post (fun u t => Wx_ D cA cf ad A z0 u t) A) args s 0 0 A) (F0 m 75 ls [.int y0]) := by
  intro x1 x2 x3 x4 x5 x6 y0 k0 H locs ls hl hw hq
  refine lv_istore (lv' := [(7, .int y0), (0, .ref (ad (11, 0))), (1, .int x1), (2, .int x2), (3, .int x3), (4, .int x4), (5, .int x5), (6, .int x6)]) S.1 S.2.1 dX4_inState_75 hl (by decide) rfl (fun ls hl => ?_)
  refine lv_iload S.1 S.2.1 dX4_inState_77 (lv_at hl 0 rfl) ?_
  refine lv_if_eq (tgt := 89) S.1 S.2.1 dX4_inState_79 rfl (fun h1 => ?_) (fun h1 => ?_)
  · replace hq := hq.1 h1
    refine lv_iload S.1 S.2.1 dX4_inState_89 (lv_at hl 6 rfl) ?_
    refine lv_istore (lv' := [(5, .int x5), (7, .int y0), (0, .ref (ad (11, 0))), (1, .int x1), (2, .int x2), (3, .int x3), (4, .int x4), (6, .int x6)]) S.1 S.2.1 dX4_inState_91 hl (by decide) rfl (fun ls hl => ?_)
    refine lv_iinc (k := 7) (v := (x6 + 1)) (lv' := [(6, .int (x6 + 1)), (5, .int x5), (7, .int y0), (0, .ref (ad (11, 0))), (1, .int x1), (2, .int x2), (3, .int x3), (4, .int x4)]) S.1 S.2.1 dX4_inState_93 hl rfl (ii_1 _) (by decide) rfl (fun ls hl => ?_)
    refine lv_goto (tgt := 18) S.1 S.2.1 dX4_inState_96 rfl ?_
    exact hkh_18 x1 x2 x3 x4 x5 (x6 + 1) k0 _ _ _ (lv_sub hl [3, 4, 5, 6, 7, 1, 0] rfl) hw hq
  · replace hq := hq.2 h1
    refine lv_iload S.1 S.2.1 dX4_inState_82 (lv_at hl 6 rfl) ?_
    refine lv_iconst (v := (1 : Int32)) S.1 S.2.1 dX4_inState_84 (by decide) ?_
    refine lv_iadd S.1 S.2.1 dX4_inState_85 ?_
    refine lv_goto (tgt := 91) S.1 S.2.1 dX4_inState_86 rfl ?_
    refine lv_istore (lv' := [(5, .int (x5 + (1 : Int32))), (7, .int y0), (0, .ref (ad (11, 0))), (1, .int x1), (2, .int x2), (3, .int x3), (4, .int x4), (6, .int x6)]) S.1 S.2.1 dX4_inState_91 hl (by decide) rfl (fun ls hl => ?_)
    refine lv_iinc (k := 7) (v := (x6 + 1)) (lv' := [(6, .int (x6 + 1)), (5, .int (x5 + (1 : Int32))), (7, .int y0), (0, .ref (ad (11, 0))), (1, .int x1), (2, .int x2), (3, .int x3), (4, .int x4)]) S.1 S.2.1 dX4_inState_93 hl rfl (ii_1 _) (by decide) rfl (fun ls hl => ?_)
    refine lv_goto (tgt := 18) S.1 S.2.1 dX4_inState_96 rfl ?_
    exact hkh_18 x1 x2 x3 x4 (x5 + (1 : Int32)) (x6 + 1) k0 _ _ _ (lv_sub hl [3, 4, 5, 6, 7, 1, 0] rfl) hw hq
set_option maxRecDepth 100000 in
set_option maxHeartbeats 4000000 in
theorem b_X4_inState_53 {post : Int32 → ka_T → Prop} {kh_18 : Int32 → Int32 → Int32 → Int32 → Int32 → Int32 → ka_T → Prop} (hkh_18 : ∀ (x1 : Int32) (x2 : Int32) (x3 : Int32) (x4 : Int32) (x5 : Int32) (x6 : Int32) (k0 : ka_T) (H : Heap) (locs : List Loc) (ls : Array Slot), lv_has ls 8 [(0, .ref (ad (11, 0))), (1, .int x1), (2, .int x2), (3, .int x3), (4, .int x4), (5, .int x5), (6, .int x6)] → Wo_ D cA cf ad A z0 k0 s H locs → kh_18 x1 x2 x3 x4 x5 x6 k0 → W p l e rmX4_inState s m args below meth c H locs 0 0 (MQ below (va_Qi post (fun u t => Wx_ D cA cf ad A z0 u t) A) args s 0 0 A) (F0 m 18 ls [])) (S : CallFix p m c cX4_inState 8 s args lw_gd RX4) (hr : meth.sig.returnType = some .int) (hk : meth.locks = false) : ∀ (x1 : Int32) (x2 : Int32) (x3 : Int32) (x4 : Int32) (x5 : Int32) (x6 : Int32) (k0 : ka_T) (H : Heap) (locs : List Loc) (ls : Array Slot), lv_has ls 8 [(0, .ref (ad (11, 0))), (1, .int x1), (2, .int x2), (3, .int x3), (4, .int x4), (5, .int x5), (6, .int x6)] → Wo_ D cA cf ad A z0 k0 s H locs → q_X4_inState_53 cf kh_18 post x1 x2 x3 x4 x5 x6 k0 → W p l e rmX4_inState s m args below meth c H locs 0 0 (MQ below (va_Qi post (fun u t => Wx_ D cA cf ad A z0 u t) A) args s 0 0 A) (F0 m 53 ls []) := by
  intro x1 x2 x3 x4 x5 x6 k0 H locs ls hl hw hq
  refine lv_aload_n S.1 S.2.1 dX4_inState_53 rfl (lv_at hl 0 rfl) ?_
  refine gf_419 S hw wf_X4_46 dX4_inState_54 ?_
  refine lv_iload S.1 S.2.1 dX4_inState_57 (lv_at hl 6 rfl) ?_
  obtain ⟨hi, hq⟩ := hq
  refine al_24 S hw hi dX4_inState_59 ?_
  refine lv_aload_n S.1 S.2.1 dX4_inState_60 rfl (lv_at hl 0 rfl) ?_
  refine gf_419 S hw wf_X4_46 dX4_inState_61 ?_
  refine lv_iload S.1 S.2.1 dX4_inState_64 (lv_at hl 4 rfl) ?_
  obtain ⟨hi, hq⟩ := hq
  refine al_24 S hw hi dX4_inState_66 ?_
  refine lv_icmp_ge (tgt := 74) S.1 S.2.1 dX4_inState_67 rfl (fun h2 => ?_) (fun h2 => ?_)
  · replace hq := hq.1 h2
    refine lv_iconst (v := (0 : Int32)) S.1 S.2.1 dX4_inState_74 (by decide) ?_
    exact b_X4_inState_75 hkh_18 S hr hk x1 x2 x3 x4 x5 x6 (0 : Int32) k0 _ _ _ (lv_sub hl [0, 1, 2, 3, 4, 5, 6] rfl) hw hq
  · replace hq := hq.2 h2
    refine lv_iconst (v := (1 : Int32)) S.1 S.2.1 dX4_inState_70 (by decide) ?_
    refine lv_goto (tgt := 75) S.1 S.2.1 dX4_inState_71 rfl ?_
    exact b_X4_inState_75 hkh_18 S hr hk x1 x2 x3 x4 x5 x6 (1 : Int32) k0 _ _ _ (lv_sub hl [0, 1, 2, 3, 4, 5, 6] rfl) hw hq
set_option maxRecDepth 100000 in
set_option maxHeartbeats 4000000 in
theorem b_X4_inState_18 {post : Int32 → ka_T → Prop} {kh_3 : Int32 → Int32 → Int32 → Int32 → ka_T → Prop} (hkh_3 : ∀ (x1 : Int32) (x2 : Int32) (x3 : Int32) (x4 : Int32) (k0 : ka_T) (H : Heap) (locs : List Loc) (ls : Array Slot), lv_has ls 8 [(0, .ref (ad (11, 0))), (1, .int x1), (2, .int x2), (3, .int x3), (4, .int x4)] → Wo_ D cA cf ad A z0 k0 s H locs → kh_3 x1 x2 x3 x4 k0 → W p l e rmX4_inState s m args below meth c H locs 0 0 (MQ below (va_Qi post (fun u t => Wx_ D cA cf ad A z0 u t) A) args s 0 0 A) (F0 m 3 ls [])) (S : CallFix p m c cX4_inState 8 s args lw_gd RX4) (hr : meth.sig.returnType = some .int) (hk : meth.locks = false) : ∀ nf : Nat, ∀ (x1 : Int32) (x2 : Int32) (x3 : Int32) (x4 : Int32) (x5 : Int32) (x6 : Int32) (k0 : ka_T) (H : Heap) (locs : List Loc) (ls : Array Slot), lv_has ls 8 [(0, .ref (ad (11, 0))), (1, .int x1), (2, .int x2), (3, .int x3), (4, .int x4), (5, .int x5), (6, .int x6)] → Wo_ D cA cf ad A z0 k0 s H locs → q_X4_inState_18 cf kh_3 post nf x1 x2 x3 x4 x5 x6 k0 → W p l e rmX4_inState s m args below meth c H locs 0 0 (MQ below (va_Qi post (fun u t => Wx_ D cA cf ad A z0 u t) A) args s 0 0 A) (F0 m 18 ls []) := by
  intro nf
  induction nf with
  | zero =>
    intro x1 x2 x3 x4 x5 x6 k0 H locs ls hl hw hq
    exact False.elim hq
  | succ nf ih =>
    intro x1 x2 x3 x4 x5 x6 k0 H locs ls hl hw hq
    refine lv_iload S.1 S.2.1 dX4_inState_18 (lv_at hl 6 rfl) ?_
    refine lv_aload_n S.1 S.2.1 dX4_inState_20 rfl (lv_at hl 0 rfl) ?_
    refine gf_400 S hw wf_X4_65 dX4_inState_21 ?_
    refine lv_icmp_ge (tgt := 99) S.1 S.2.1 dX4_inState_24 rfl (fun h3 => ?_) (fun h3 => ?_)
    · replace hq := hq.1 h3
      refine lv_aload_n S.1 S.2.1 dX4_inState_99 rfl (lv_at hl 0 rfl) ?_
      refine gf_409 S hw wf_X4_16 dX4_inState_100 ?_
      refine lv_iload S.1 S.2.1 dX4_inState_103 (lv_at hl 4 rfl) ?_
      obtain ⟨hi, hq⟩ := hq
      refine al_14 S hw hi dX4_inState_105 ?_
      refine lv_iload_n S.1 S.2.1 dX4_inState_106 rfl (lv_at hl 1 rfl) ?_
      refine lv_icmp_ne (tgt := 134) S.1 S.2.1 dX4_inState_107 rfl (fun h4 => ?_) (fun h4 => ?_)
      · replace hq := hq.1 h4
        refine lv_iinc (k := 4) (v := (x4 + 1)) (lv' := [(4, .int (x4 + 1)), (0, .ref (ad (11, 0))), (1, .int x1), (2, .int x2), (3, .int x3), (5, .int x5), (6, .int x6)]) S.1 S.2.1 dX4_inState_134 hl rfl (ii_1 _) (by decide) rfl (fun ls hl => ?_)
        refine lv_goto (tgt := 3) S.1 S.2.1 dX4_inState_137 rfl ?_
        exact hkh_3 x1 x2 x3 (x4 + 1) k0 _ _ _ (lv_sub hl [1, 2, 3, 4, 0] rfl) hw hq
      · replace hq := hq.2 h4
        refine lv_iload_n S.1 S.2.1 dX4_inState_110 rfl (lv_at hl 2 rfl) ?_
        refine lv_if_lt (tgt := 125) S.1 S.2.1 dX4_inState_111 rfl (fun h5 => ?_) (fun h5 => ?_)
        · replace hq := hq.1 h5
          refine lv_iload S.1 S.2.1 dX4_inState_125 (lv_at hl 5 rfl) ?_
          refine lv_iload_n S.1 S.2.1 dX4_inState_127 rfl (lv_at hl 3 rfl) ?_
          refine lv_icmp_ne (tgt := 134) S.1 S.2.1 dX4_inState_128 rfl (fun h6 => ?_) (fun h6 => ?_)
          · replace hq := hq.1 h6
            refine lv_iinc (k := 4) (v := (x4 + 1)) (lv' := [(4, .int (x4 + 1)), (0, .ref (ad (11, 0))), (1, .int x1), (2, .int x2), (3, .int x3), (5, .int x5), (6, .int x6)]) S.1 S.2.1 dX4_inState_134 hl rfl (ii_1 _) (by decide) rfl (fun ls hl => ?_)
            refine lv_goto (tgt := 3) S.1 S.2.1 dX4_inState_137 rfl ?_
            exact hkh_3 x1 x2 x3 (x4 + 1) k0 _ _ _ (lv_sub hl [1, 2, 3, 4, 0] rfl) hw hq
          · replace hq := hq.2 h6
            refine lv_iload S.1 S.2.1 dX4_inState_131 (lv_at hl 4 rfl) ?_
            exact kr_i (cu := fun u => ce_l cA cf ad z0 u) S hr rfl hk hw hq dX4_inState_133
        · replace hq := hq.2 h5
          refine lv_aload_n S.1 S.2.1 dX4_inState_114 rfl (lv_at hl 0 rfl) ?_
          refine gf_417 S hw wf_X4_40 dX4_inState_115 ?_
          refine lv_iload S.1 S.2.1 dX4_inState_118 (lv_at hl 4 rfl) ?_
          obtain ⟨hi, hq⟩ := hq
          refine al_22 S hw hi dX4_inState_120 ?_
          refine lv_iload_n S.1 S.2.1 dX4_inState_121 rfl (lv_at hl 2 rfl) ?_
          refine lv_icmp_ne (tgt := 134) S.1 S.2.1 dX4_inState_122 rfl (fun h7 => ?_) (fun h7 => ?_)
          · replace hq := hq.1 h7
            refine lv_iinc (k := 4) (v := (x4 + 1)) (lv' := [(4, .int (x4 + 1)), (0, .ref (ad (11, 0))), (1, .int x1), (2, .int x2), (3, .int x3), (5, .int x5), (6, .int x6)]) S.1 S.2.1 dX4_inState_134 hl rfl (ii_1 _) (by decide) rfl (fun ls hl => ?_)
            refine lv_goto (tgt := 3) S.1 S.2.1 dX4_inState_137 rfl ?_
            exact hkh_3 x1 x2 x3 (x4 + 1) k0 _ _ _ (lv_sub hl [1, 2, 3, 4, 0] rfl) hw hq
          · replace hq := hq.2 h7
            refine lv_iload S.1 S.2.1 dX4_inState_125 (lv_at hl 5 rfl) ?_
            refine lv_iload_n S.1 S.2.1 dX4_inState_127 rfl (lv_at hl 3 rfl) ?_
            refine lv_icmp_ne (tgt := 134) S.1 S.2.1 dX4_inState_128 rfl (fun h8 => ?_) (fun h8 => ?_)
            · replace hq := hq.1 h8
              refine lv_iinc (k := 4) (v := (x4 + 1)) (lv' := [(4, .int (x4 + 1)), (0, .ref (ad (11, 0))), (1, .int x1), (2, .int x2), (3, .int x3), (5, .int x5), (6, .int x6)]) S.1 S.2.1 dX4_inState_134 hl rfl (ii_1 _) (by decide) rfl (fun ls hl => ?_)
              refine lv_goto (tgt := 3) S.1 S.2.1 dX4_inState_137 rfl ?_
              exact hkh_3 x1 x2 x3 (x4 + 1) k0 _ _ _ (lv_sub hl [1, 2, 3, 4, 0] rfl) hw hq
            · replace hq := hq.2 h8
              refine lv_iload S.1 S.2.1 dX4_inState_131 (lv_at hl 4 rfl) ?_
              exact kr_i (cu := fun u => ce_l cA cf ad z0 u) S hr rfl hk hw hq dX4_inState_133
    · replace hq := hq.2 h3
      refine lv_aload_n S.1 S.2.1 dX4_inState_27 rfl (lv_at hl 0 rfl) ?_
      refine gf_409 S hw wf_X4_16 dX4_inState_28 ?_
      refine lv_iload S.1 S.2.1 dX4_inState_31 (lv_at hl 6 rfl) ?_
      obtain ⟨hi, hq⟩ := hq
      refine al_14 S hw hi dX4_inState_33 ?_
      refine lv_iload_n S.1 S.2.1 dX4_inState_34 rfl (lv_at hl 1 rfl) ?_
      refine lv_icmp_ne (tgt := 74) S.1 S.2.1 dX4_inState_35 rfl (fun h9 => ?_) (fun h9 => ?_)
      · replace hq := hq.1 h9
        refine lv_iconst (v := (0 : Int32)) S.1 S.2.1 dX4_inState_74 (by decide) ?_
        exact b_X4_inState_75 ih S hr hk x1 x2 x3 x4 x5 x6 (0 : Int32) k0 _ _ _ (lv_sub hl [0, 1, 2, 3, 4, 5, 6] rfl) hw hq
      · replace hq := hq.2 h9
        refine lv_iload_n S.1 S.2.1 dX4_inState_38 rfl (lv_at hl 2 rfl) ?_
        refine lv_if_lt (tgt := 53) S.1 S.2.1 dX4_inState_39 rfl (fun h10 => ?_) (fun h10 => ?_)
        · replace hq := hq.1 h10
          exact b_X4_inState_53 ih S hr hk x1 x2 x3 x4 x5 x6 k0 _ _ _ (lv_sub hl [0, 1, 2, 3, 4, 5, 6] rfl) hw hq
        · replace hq := hq.2 h10
          refine lv_aload_n S.1 S.2.1 dX4_inState_42 rfl (lv_at hl 0 rfl) ?_
          refine gf_417 S hw wf_X4_40 dX4_inState_43 ?_
          refine lv_iload S.1 S.2.1 dX4_inState_46 (lv_at hl 6 rfl) ?_
          obtain ⟨hi, hq⟩ := hq
          refine al_22 S hw hi dX4_inState_48 ?_
          refine lv_iload_n S.1 S.2.1 dX4_inState_49 rfl (lv_at hl 2 rfl) ?_
          refine lv_icmp_ne (tgt := 74) S.1 S.2.1 dX4_inState_50 rfl (fun h11 => ?_) (fun h11 => ?_)
          · replace hq := hq.1 h11
            refine lv_iconst (v := (0 : Int32)) S.1 S.2.1 dX4_inState_74 (by decide) ?_
            exact b_X4_inState_75 ih S hr hk x1 x2 x3 x4 x5 x6 (0 : Int32) k0 _ _ _ (lv_sub hl [0, 1, 2, 3, 4, 5, 6] rfl) hw hq
          · replace hq := hq.2 h11
            exact b_X4_inState_53 ih S hr hk x1 x2 x3 x4 x5 x6 k0 _ _ _ (lv_sub hl [0, 1, 2, 3, 4, 5, 6] rfl) hw hq
set_option maxRecDepth 100000 in
set_option maxHeartbeats 4000000 in
theorem b_X4_inState_3 {post : Int32 → ka_T → Prop} (S : CallFix p m c cX4_inState 8 s args lw_gd RX4) (hr : meth.sig.returnType = some .int) (hk : meth.locks = false) : ∀ nf : Nat, ∀ (x1 : Int32) (x2 : Int32) (x3 : Int32) (x4 : Int32) (k0 : ka_T) (H : Heap) (locs : List Loc) (ls : Array Slot), lv_has ls 8 [(0, .ref (ad (11, 0))), (1, .int x1), (2, .int x2), (3, .int x3), (4, .int x4)] → Wo_ D cA cf ad A z0 k0 s H locs → q_X4_inState_3 cf post nf x1 x2 x3 x4 k0 → W p l e rmX4_inState s m args below meth c H locs 0 0 (MQ below (va_Qi post (fun u t => Wx_ D cA cf ad A z0 u t) A) args s 0 0 A) (F0 m 3 ls []) := by
  intro nf
  induction nf with
  | zero =>
    intro x1 x2 x3 x4 k0 H locs ls hl hw hq
    exact False.elim hq
  | succ nf ih =>
    intro x1 x2 x3 x4 k0 H locs ls hl hw hq
    refine lv_iload S.1 S.2.1 dX4_inState_3 (lv_at hl 4 rfl) ?_
    refine lv_aload_n S.1 S.2.1 dX4_inState_5 rfl (lv_at hl 0 rfl) ?_
    refine gf_400 S hw wf_X4_65 dX4_inState_6 ?_
    refine lv_icmp_ge (tgt := 140) S.1 S.2.1 dX4_inState_9 rfl (fun h12 => ?_) (fun h12 => ?_)
    · replace hq := hq.1 h12
      refine lv_iconst (v := (-1 : Int32)) S.1 S.2.1 dX4_inState_140 (by decide) ?_
      exact kr_i (cu := fun u => ce_l cA cf ad z0 u) S hr rfl hk hw hq dX4_inState_141
    · replace hq := hq.2 h12
      refine lv_iconst (v := (0 : Int32)) S.1 S.2.1 dX4_inState_12 (by decide) ?_
      refine lv_istore (lv' := [(5, .int (0 : Int32)), (0, .ref (ad (11, 0))), (1, .int x1), (2, .int x2), (3, .int x3), (4, .int x4)]) S.1 S.2.1 dX4_inState_13 hl (by decide) rfl (fun ls hl => ?_)
      refine lv_iconst (v := (0 : Int32)) S.1 S.2.1 dX4_inState_15 (by decide) ?_
      refine lv_istore (lv' := [(6, .int (0 : Int32)), (5, .int (0 : Int32)), (0, .ref (ad (11, 0))), (1, .int x1), (2, .int x2), (3, .int x3), (4, .int x4)]) S.1 S.2.1 dX4_inState_16 hl (by decide) rfl (fun ls hl => ?_)
      obtain ⟨nf9, hq⟩ := hq
      exact b_X4_inState_18 ih S hr hk nf9 x1 x2 x3 x4 (0 : Int32) (0 : Int32) k0 _ _ _ (lv_sub hl [2, 3, 4, 5, 6, 1, 0] rfl) hw hq
set_option maxRecDepth 100000 in
set_option maxHeartbeats 4000000 in
theorem b_X4_inState_0 {post : Int32 → ka_T → Prop} (S : CallFix p m c cX4_inState 8 s args lw_gd RX4) (hr : meth.sig.returnType = some .int) (hk : meth.locks = false) : ∀ (x1 : Int32) (x2 : Int32) (x3 : Int32) (k0 : ka_T) (H : Heap) (locs : List Loc) (ls : Array Slot), lv_has ls 8 [(0, .ref (ad (11, 0))), (1, .int x1), (2, .int x2), (3, .int x3)] → Wo_ D cA cf ad A z0 k0 s H locs → q_X4_inState cf post x1 x2 x3 k0 → W p l e rmX4_inState s m args below meth c H locs 0 0 (MQ below (va_Qi post (fun u t => Wx_ D cA cf ad A z0 u t) A) args s 0 0 A) (F0 m 0 ls []) := by
  intro x1 x2 x3 k0 H locs ls hl hw hq
  refine lv_iconst (v := (0 : Int32)) S.1 S.2.1 dX4_inState_0 (by decide) ?_
  refine lv_istore (lv' := [(4, .int (0 : Int32)), (0, .ref (ad (11, 0))), (1, .int x1), (2, .int x2), (3, .int x3)]) S.1 S.2.1 dX4_inState_1 hl (by decide) rfl (fun ls hl => ?_)
  obtain ⟨nf9, hq⟩ := hq
  exact b_X4_inState_3 S hr hk nf9 x1 x2 x3 (0 : Int32) k0 _ _ _ (lv_sub hl [1, 2, 3, 4, 0] rfl) hw hq
theorem c_X4_inState (z0 k0 : ka_T) (x1 : Int32) (x2 : Int32) (x3 : Int32) {post : Int32 → ka_T → Prop} (hq : q_X4_inState cf post x1 x2 x3 k0) : Met l yX4_inState wsX4_inState rmX4_inState (va_Pc [.ref (ad (11, 0)), .int x1, .int x2, .int x3] (Wx_ D cA cf ad A z0 k0)) (va_Qi post (fun u t => Wx_ D cA cf ad A z0 u t) A) 0 0 A :=
  kp_met (by decide +kernel) [.ref (ad (11, 0)), .int x1, .int x2, .int x3] (Nat.le_of_ble_eq_true rfl) (fun p e s m args below meth c ls S hr hk hw hl => b_X4_inState_0 S hr hk x1 x2 x3 k0 _ _ _ hl hw hq)
theorem call_X4_inState {z0 k0 : ka_T} {x1 : Int32} {x2 : Int32} {x3 : Int32} {post : Int32 → ka_T → Prop} (S : CallFix p m c cc nL s args lw_gd own) (hw : Wo_ D cA cf ad A z0 k0 s H locs) {index : Nat} (hl : Cond.methodLink own index yX4_inState ∈ lw_gd) (hq : q_X4_inState cf post x1 x2 x3 k0) (hR : rmX4_inState.frames + 1 ≤ R.frames ∧ 8 + (8 + 11) + rmX4_inState.locals ≤ R.locals) (hls : ls.size = nL) (hro : (rest.map fun v => v.category).sum ≤ 8) (hcs : cells ≤ R.cells ∧ slots ≤ R.slots) (hd : decode cc pc = .ok (.invokevirtual index, 3)) (kk : ∀ (r : Int32) (u : ka_T) (H1 : Heap) (locs1 : List Loc), post r u → Wo_ D cA cf ad A z0 u s H1 locs1 → W p l e R s m args below meth c H1 locs1 cells slots Q (F0 m (pc + 3) ls (.int r :: rest))) : W p l e R s m args below meth c H locs cells slots Q (F0 m pc ls (.int x3 :: .int x2 :: .int x1 :: .ref (ad (11, 0)) :: rest)) :=
  kg_vi (cu := fun u => ce_l cA cf ad z0 u) (As := [.int x1, .int x2, .int x3]) S hw (q := (11, 0)) (c_X4_inState z0 k0 x1 x2 x3 hq) wc_X4_inState wn_X4 hl wi_X4_inState (C := RX4) (T := TX4) (N := 27) (ci := 4) (fs := fx_11 cf ad k0 0) wse_X4_inState (km_11) rfl rfl (na := 3) (by decide +kernel) rfl rfl rfl hR hls rfl hro hcs hd kk
abbrev rmX4_isLive : Room := { frames := 0, cells := 0, slots := 0, locals := 0 }
set_option maxRecDepth 100000 in
set_option maxHeartbeats 4000000 in
theorem b_X4_isLive_0 {post : Int32 → ka_T → Prop} (S : CallFix p m c cX4_isLive 2 s args lw_gd RX4) (hr : meth.sig.returnType = some .boolean) (hk : meth.locks = false) : ∀ (x1 : Int32) (k0 : ka_T) (H : Heap) (locs : List Loc) (ls : Array Slot), lv_has ls 2 [(0, .ref (ad (11, 0))), (1, .int x1)] → Wo_ D cA cf ad A z0 k0 s H locs → q_X4_isLive cf post x1 k0 → W p l e rmX4_isLive s m args below meth c H locs 0 0 (MQ below (va_Qi post (fun u t => Wx_ D cA cf ad A z0 u t) A) args s 0 0 A) (F0 m 0 ls []) := by
  intro x1 k0 H locs ls hl hw hq
  refine lv_iload_n S.1 S.2.1 dX4_isLive_0 rfl (lv_at hl 1 rfl) ?_
  refine lv_if_lt (tgt := 25) S.1 S.2.1 dX4_isLive_1 rfl (fun h1 => ?_) (fun h1 => ?_)
  · replace hq := hq.1 h1
    refine lv_iconst (v := (0 : Int32)) S.1 S.2.1 dX4_isLive_25 (by decide) ?_
    exact kr_i (cu := fun u => ce_l cA cf ad z0 u) S hr (by decide) hk hw hq dX4_isLive_26
  · replace hq := hq.2 h1
    refine lv_iload_n S.1 S.2.1 dX4_isLive_4 rfl (lv_at hl 1 rfl) ?_
    refine lv_aload_n S.1 S.2.1 dX4_isLive_5 rfl (lv_at hl 0 rfl) ?_
    refine gf_400 S hw wf_X4_65 dX4_isLive_6 ?_
    refine lv_icmp_ge (tgt := 25) S.1 S.2.1 dX4_isLive_9 rfl (fun h2 => ?_) (fun h2 => ?_)
    · replace hq := hq.1 h2
      refine lv_iconst (v := (0 : Int32)) S.1 S.2.1 dX4_isLive_25 (by decide) ?_
      exact kr_i (cu := fun u => ce_l cA cf ad z0 u) S hr (by decide) hk hw hq dX4_isLive_26
    · replace hq := hq.2 h2
      refine lv_aload_n S.1 S.2.1 dX4_isLive_12 rfl (lv_at hl 0 rfl) ?_
      refine gf_409 S hw wf_X4_16 dX4_isLive_13 ?_
      refine lv_iload_n S.1 S.2.1 dX4_isLive_16 rfl (lv_at hl 1 rfl) ?_
      obtain ⟨hi, hq⟩ := hq
      refine al_14 S hw hi dX4_isLive_17 ?_
      refine lv_if_le (tgt := 25) S.1 S.2.1 dX4_isLive_18 rfl (fun h3 => ?_) (fun h3 => ?_)
      · replace hq := hq.1 h3
        refine lv_iconst (v := (0 : Int32)) S.1 S.2.1 dX4_isLive_25 (by decide) ?_
        exact kr_i (cu := fun u => ce_l cA cf ad z0 u) S hr (by decide) hk hw hq dX4_isLive_26
      · replace hq := hq.2 h3
        refine lv_iconst (v := (1 : Int32)) S.1 S.2.1 dX4_isLive_21 (by decide) ?_
        refine lv_goto (tgt := 26) S.1 S.2.1 dX4_isLive_22 rfl ?_
        exact kr_i (cu := fun u => ce_l cA cf ad z0 u) S hr (by decide) hk hw hq dX4_isLive_26
theorem c_X4_isLive (z0 k0 : ka_T) (x1 : Int32) {post : Int32 → ka_T → Prop} (hq : q_X4_isLive cf post x1 k0) : Met l yX4_isLive wsX4_isLive rmX4_isLive (va_Pc [.ref (ad (11, 0)), .int x1] (Wx_ D cA cf ad A z0 k0)) (va_Qi post (fun u t => Wx_ D cA cf ad A z0 u t) A) 0 0 A :=
  kp_met (by decide +kernel) [.ref (ad (11, 0)), .int x1] (Nat.le_of_ble_eq_true rfl) (fun p e s m args below meth c ls S hr hk hw hl => b_X4_isLive_0 S hr hk x1 k0 _ _ _ hl hw hq)
theorem call_X4_isLive {z0 k0 : ka_T} {x1 : Int32} {post : Int32 → ka_T → Prop} (S : CallFix p m c cc nL s args lw_gd own) (hw : Wo_ D cA cf ad A z0 k0 s H locs) {index : Nat} (hl : Cond.methodLink own index yX4_isLive ∈ lw_gd) (hq : q_X4_isLive cf post x1 k0) (hR : rmX4_isLive.frames + 1 ≤ R.frames ∧ 8 + (2 + 11) + rmX4_isLive.locals ≤ R.locals) (hls : ls.size = nL) (hro : (rest.map fun v => v.category).sum ≤ 8) (hcs : cells ≤ R.cells ∧ slots ≤ R.slots) (hd : decode cc pc = .ok (.invokevirtual index, 3)) (kk : ∀ (r : Int32) (u : ka_T) (H1 : Heap) (locs1 : List Loc), post r u → Wo_ D cA cf ad A z0 u s H1 locs1 → W p l e R s m args below meth c H1 locs1 cells slots Q (F0 m (pc + 3) ls (.int r :: rest))) : W p l e R s m args below meth c H locs cells slots Q (F0 m pc ls (.int x1 :: .ref (ad (11, 0)) :: rest)) :=
  kg_vi (cu := fun u => ce_l cA cf ad z0 u) (As := [.int x1]) S hw (q := (11, 0)) (c_X4_isLive z0 k0 x1 hq) wc_X4_isLive wn_X4 hl wi_X4_isLive (C := RX4) (T := TX4) (N := 27) (ci := 4) (fs := fx_11 cf ad k0 0) wse_X4_isLive (km_11) rfl rfl (na := 1) (by decide +kernel) rfl rfl rfl hR hls rfl hro hcs hd kk
abbrev rmX4_isPlace : Room := { frames := 0, cells := 0, slots := 0, locals := 0 }
set_option maxRecDepth 100000 in
set_option maxHeartbeats 4000000 in
theorem b_X4_isPlace_0 {post : Int32 → ka_T → Prop} (S : CallFix p m c cX4_isPlace 1 s args lw_gd RX4) (hr : meth.sig.returnType = some .boolean) (hk : meth.locks = false) : ∀ (x0 : Int32) (k0 : ka_T) (H : Heap) (locs : List Loc) (ls : Array Slot), lv_has ls 1 [(0, .int x0)] → Wo_ D cA cf ad A z0 k0 s H locs → q_X4_isPlace cf post x0 k0 → W p l e rmX4_isPlace s m args below meth c H locs 0 0 (MQ below (va_Qi post (fun u t => Wx_ D cA cf ad A z0 u t) A) args s 0 0 A) (F0 m 0 ls []) := by
  intro x0 k0 H locs ls hl hw hq
  refine lv_iload_n S.1 S.2.1 dX4_isPlace_0 rfl (lv_at hl 0 rfl) ?_
  refine lv_if_lt (tgt := 14) S.1 S.2.1 dX4_isPlace_1 rfl (fun h1 => ?_) (fun h1 => ?_)
  · replace hq := hq.1 h1
    refine lv_iconst (v := (0 : Int32)) S.1 S.2.1 dX4_isPlace_14 (by decide) ?_
    exact kr_i (cu := fun u => ce_l cA cf ad z0 u) S hr (by decide) hk hw hq dX4_isPlace_15
  · replace hq := hq.2 h1
    refine lv_iload_n S.1 S.2.1 dX4_isPlace_4 rfl (lv_at hl 0 rfl) ?_
    refine lv_bipush (v := (63 : Int32)) S.1 S.2.1 dX4_isPlace_5 (by decide) ?_
    refine lv_icmp_gt (tgt := 14) S.1 S.2.1 dX4_isPlace_7 rfl (fun h2 => ?_) (fun h2 => ?_)
    · replace hq := hq.1 h2
      refine lv_iconst (v := (0 : Int32)) S.1 S.2.1 dX4_isPlace_14 (by decide) ?_
      exact kr_i (cu := fun u => ce_l cA cf ad z0 u) S hr (by decide) hk hw hq dX4_isPlace_15
    · replace hq := hq.2 h2
      refine lv_iconst (v := (1 : Int32)) S.1 S.2.1 dX4_isPlace_10 (by decide) ?_
      refine lv_goto (tgt := 15) S.1 S.2.1 dX4_isPlace_11 rfl ?_
      exact kr_i (cu := fun u => ce_l cA cf ad z0 u) S hr (by decide) hk hw hq dX4_isPlace_15
theorem c_X4_isPlace (z0 k0 : ka_T) (x0 : Int32) {post : Int32 → ka_T → Prop} (hq : q_X4_isPlace cf post x0 k0) : Met l yX4_isPlace wsX4_isPlace rmX4_isPlace (va_Pc [.int x0] (Wx_ D cA cf ad A z0 k0)) (va_Qi post (fun u t => Wx_ D cA cf ad A z0 u t) A) 0 0 A :=
  kp_met (by decide +kernel) [.int x0] (Nat.le_of_ble_eq_true rfl) (fun p e s m args below meth c ls S hr hk hw hl => b_X4_isPlace_0 S hr hk x0 k0 _ _ _ hl hw hq)
theorem call_X4_isPlace {z0 k0 : ka_T} {x0 : Int32} {post : Int32 → ka_T → Prop} (S : CallFix p m c cc nL s args lw_gd own) (hw : Wo_ D cA cf ad A z0 k0 s H locs) {index : Nat} (hl : Cond.methodLink own index yX4_isPlace ∈ lw_gd) (hq : q_X4_isPlace cf post x0 k0) (hR : rmX4_isPlace.frames + 1 ≤ R.frames ∧ 8 + (1 + 11) + rmX4_isPlace.locals ≤ R.locals) (hls : ls.size = nL) (hro : (rest.map fun v => v.category).sum ≤ 8) (hcs : cells ≤ R.cells ∧ slots ≤ R.slots) (hd : decode cc pc = .ok (.invokestatic index, 3)) (kk : ∀ (r : Int32) (u : ka_T) (H1 : Heap) (locs1 : List Loc), post r u → Wo_ D cA cf ad A z0 u s H1 locs1 → W p l e R s m args below meth c H1 locs1 cells slots Q (F0 m (pc + 3) ls (.int r :: rest))) : W p l e R s m args below meth c H locs cells slots Q (F0 m pc ls (.int x0 :: rest)) :=
  kg_si (cu := fun u => ce_l cA cf ad z0 u) (As := [.int x0]) S hw (c_X4_isPlace z0 k0 x0 hq) wc_X4_isPlace wn_X4 hl wst_X4_isPlace (na := 1) (by decide +kernel) rfl rfl rfl hR hls rfl hro hcs hd kk
abbrev rmX4_jump : Room := { frames := 1, cells := 0, slots := 0, locals := 21 }
set_option maxRecDepth 100000 in
set_option maxHeartbeats 4000000 in
theorem b_X4_jump_0 {post : ka_T → Prop} (S : CallFix p m c cX4_jump 2 s args lw_gd RX4) (hr : meth.sig.returnType = none) (hk : meth.locks = false) : ∀ (x1 : Int32) (k0 : ka_T) (H : Heap) (locs : List Loc) (ls : Array Slot), lv_has ls 2 [(0, .ref (ad (11, 0))), (1, .int x1)] → Wo_ D cA cf ad A z0 k0 s H locs → q_X4_jump cf post x1 k0 → W p l e rmX4_jump s m args below meth c H locs 0 0 (MQ below (va_Qv post (fun u t => Wx_ D cA cf ad A z0 u t) A) args s 0 0 A) (F0 m 0 ls []) := by
  intro x1 k0 H locs ls hl hw hq
  refine lv_iload_n S.1 S.2.1 dX4_jump_0 rfl (lv_at hl 1 rfl) ?_
  refine call_X4_isPlace S hw wl_X4_118 hq ⟨Nat.le_of_ble_eq_true rfl, Nat.le_of_ble_eq_true rfl⟩ hl.1 (Nat.le_of_ble_eq_true rfl) ⟨Nat.zero_le _, Nat.zero_le _⟩ dX4_jump_1 (fun r1 k1 H locs hq hw => ?_)
  refine lv_if_ne (tgt := 15) S.1 S.2.1 dX4_jump_4 rfl (fun h2 => ?_) (fun h2 => ?_)
  · replace hq := hq.1 h2
    refine lv_aload_n S.1 S.2.1 dX4_jump_15 rfl (lv_at hl 0 rfl) ?_
    refine gf_411 S hw wf_X4_22 dX4_jump_16 ?_
    refine lv_aload_n S.1 S.2.1 dX4_jump_19 rfl (lv_at hl 0 rfl) ?_
    refine gf_425 S hw wf_X4_92 dX4_jump_20 ?_
    refine lv_iload_n S.1 S.2.1 dX4_jump_23 rfl (lv_at hl 1 rfl) ?_
    obtain ⟨hi, hq⟩ := hq
    refine as_16 S hw hi dX4_jump_24 (fun k3 H locs e3 hw => ?_)
    replace hq := hq _ e3
    exact kr_v (cu := fun u => ce_l cA cf ad z0 u) S hr hk hw hq dX4_jump_25
  · replace hq := hq.2 h2
    refine lv_aload_n S.1 S.2.1 dX4_jump_7 rfl (lv_at hl 0 rfl) ?_
    refine lv_iconst (v := (2 : Int32)) S.1 S.2.1 dX4_jump_8 (by decide) ?_
    refine call_X4_fall S hw wl_X4_95 hq ⟨Nat.le_of_ble_eq_true rfl, Nat.le_of_ble_eq_true rfl⟩ hl.1 (Nat.le_of_ble_eq_true rfl) ⟨Nat.zero_le _, Nat.zero_le _⟩ dX4_jump_9 (fun k4 H locs hq hw => ?_)
    refine lv_goto (tgt := 25) S.1 S.2.1 dX4_jump_12 rfl ?_
    exact kr_v (cu := fun u => ce_l cA cf ad z0 u) S hr hk hw hq dX4_jump_25
theorem c_X4_jump (z0 k0 : ka_T) (x1 : Int32) {post : ka_T → Prop} (hq : q_X4_jump cf post x1 k0) : Met l yX4_jump wsX4_jump rmX4_jump (va_Pc [.ref (ad (11, 0)), .int x1] (Wx_ D cA cf ad A z0 k0)) (va_Qv post (fun u t => Wx_ D cA cf ad A z0 u t) A) 0 0 A :=
  kp_met (by decide +kernel) [.ref (ad (11, 0)), .int x1] (Nat.le_of_ble_eq_true rfl) (fun p e s m args below meth c ls S hr hk hw hl => b_X4_jump_0 S hr hk x1 k0 _ _ _ hl hw hq)
theorem call_X4_jump {z0 k0 : ka_T} {x1 : Int32} {post : ka_T → Prop} (S : CallFix p m c cc nL s args lw_gd own) (hw : Wo_ D cA cf ad A z0 k0 s H locs) {index : Nat} (hl : Cond.methodLink own index yX4_jump ∈ lw_gd) (hq : q_X4_jump cf post x1 k0) (hR : rmX4_jump.frames + 1 ≤ R.frames ∧ 8 + (2 + 11) + rmX4_jump.locals ≤ R.locals) (hls : ls.size = nL) (hro : (rest.map fun v => v.category).sum ≤ 8) (hcs : cells ≤ R.cells ∧ slots ≤ R.slots) (hd : decode cc pc = .ok (.invokevirtual index, 3)) (kk : ∀ (u : ka_T) (H1 : Heap) (locs1 : List Loc), post u → Wo_ D cA cf ad A z0 u s H1 locs1 → W p l e R s m args below meth c H1 locs1 cells slots Q (F0 m (pc + 3) ls rest)) : W p l e R s m args below meth c H locs cells slots Q (F0 m pc ls (.int x1 :: .ref (ad (11, 0)) :: rest)) :=
  kg_vv (cu := fun u => ce_l cA cf ad z0 u) (As := [.int x1]) S hw (q := (11, 0)) (c_X4_jump z0 k0 x1 hq) wc_X4_jump wn_X4 hl wi_X4_jump (C := RX4) (T := TX4) (N := 27) (ci := 4) (fs := fx_11 cf ad k0 0) wse_X4_jump (km_11) rfl rfl (na := 1) (by decide +kernel) rfl rfl rfl hR hls rfl hro hcs hd kk
abbrev rmX4_jumpOp : Room := { frames := 2, cells := 0, slots := 0, locals := 42 }
set_option maxRecDepth 100000 in
set_option maxHeartbeats 4000000 in
theorem b_X4_jumpOp_0 {post : ka_T → Prop} (S : CallFix p m c cX4_jumpOp 4 s args lw_gd RX4) (hr : meth.sig.returnType = none) (hk : meth.locks = false) : ∀ (x1 : Int32) (x2 : Int32) (k0 : ka_T) (H : Heap) (locs : List Loc) (ls : Array Slot), lv_has ls 4 [(0, .ref (ad (11, 0))), (1, .int x1), (2, .int x2)] → Wo_ D cA cf ad A z0 k0 s H locs → q_X4_jumpOp cf post x1 x2 k0 → W p l e rmX4_jumpOp s m args below meth c H locs 0 0 (MQ below (va_Qv post (fun u t => Wx_ D cA cf ad A z0 u t) A) args s 0 0 A) (F0 m 0 ls []) := by
  intro x1 x2 k0 H locs ls hl hw hq
  refine lv_iload_n S.1 S.2.1 dX4_jumpOp_0 rfl (lv_at hl 1 rfl) ?_
  refine lv_bipush (v := (11 : Int32)) S.1 S.2.1 dX4_jumpOp_1 (by decide) ?_
  refine lv_icmp_ne (tgt := 14) S.1 S.2.1 dX4_jumpOp_3 rfl (fun h1 => ?_) (fun h1 => ?_)
  · replace hq := hq.1 h1
    refine lv_iload_n S.1 S.2.1 dX4_jumpOp_14 rfl (lv_at hl 1 rfl) ?_
    refine lv_bipush (v := (12 : Int32)) S.1 S.2.1 dX4_jumpOp_15 (by decide) ?_
    refine lv_icmp_ne (tgt := 44) S.1 S.2.1 dX4_jumpOp_17 rfl (fun h2 => ?_) (fun h2 => ?_)
    · replace hq := hq.1 h2
      refine lv_iload_n S.1 S.2.1 dX4_jumpOp_44 rfl (lv_at hl 1 rfl) ?_
      refine lv_bipush (v := (13 : Int32)) S.1 S.2.1 dX4_jumpOp_45 (by decide) ?_
      refine lv_icmp_ne (tgt := 144) S.1 S.2.1 dX4_jumpOp_47 rfl (fun h3 => ?_) (fun h3 => ?_)
      · replace hq := hq.1 h3
        refine lv_aload_n S.1 S.2.1 dX4_jumpOp_144 rfl (lv_at hl 0 rfl) ?_
        refine gf_414 S hw wf_X4_31 dX4_jumpOp_145 ?_
        refine lv_aload_n S.1 S.2.1 dX4_jumpOp_148 rfl (lv_at hl 0 rfl) ?_
        refine gf_425 S hw wf_X4_92 dX4_jumpOp_149 ?_
        obtain ⟨hi, hq⟩ := hq
        refine al_19 S hw hi dX4_jumpOp_152 ?_
        refine lv_if_ne (tgt := 164) S.1 S.2.1 dX4_jumpOp_153 rfl (fun h4 => ?_) (fun h4 => ?_)
        · replace hq := hq.1 h4
          refine lv_aload_n S.1 S.2.1 dX4_jumpOp_164 rfl (lv_at hl 0 rfl) ?_
          refine gf_414 S hw wf_X4_31 dX4_jumpOp_165 ?_
          refine lv_aload_n S.1 S.2.1 dX4_jumpOp_168 rfl (lv_at hl 0 rfl) ?_
          refine gf_425 S hw wf_X4_92 dX4_jumpOp_169 ?_
          refine lv_dup2_11 S.1 S.2.1 dX4_jumpOp_172 rfl rfl ?_
          obtain ⟨hi, hq⟩ := hq
          refine al_19 S hw hi dX4_jumpOp_173 ?_
          refine lv_iconst (v := (1 : Int32)) S.1 S.2.1 dX4_jumpOp_174 (by decide) ?_
          refine lv_isub S.1 S.2.1 dX4_jumpOp_175 ?_
          obtain ⟨hi, hq⟩ := hq
          refine as_19 S hw hi dX4_jumpOp_176 (fun k5 H locs e5 hw => ?_)
          replace hq := hq _ e5
          refine lv_aload_n S.1 S.2.1 dX4_jumpOp_177 rfl (lv_at hl 0 rfl) ?_
          refine gf_411 S hw wf_X4_22 dX4_jumpOp_178 ?_
          refine lv_aload_n S.1 S.2.1 dX4_jumpOp_181 rfl (lv_at hl 0 rfl) ?_
          refine gf_425 S hw wf_X4_92 dX4_jumpOp_182 ?_
          refine lv_aload_n S.1 S.2.1 dX4_jumpOp_185 rfl (lv_at hl 0 rfl) ?_
          refine gf_415 S hw wf_X4_34 dX4_jumpOp_186 ?_
          refine lv_iconst (v := (4 : Int32)) S.1 S.2.1 dX4_jumpOp_189 (by decide) ?_
          refine lv_aload_n S.1 S.2.1 dX4_jumpOp_190 rfl (lv_at hl 0 rfl) ?_
          refine gf_425 S hw wf_X4_92 dX4_jumpOp_191 ?_
          refine lv_imul S.1 S.2.1 dX4_jumpOp_194 ?_
          refine lv_aload_n S.1 S.2.1 dX4_jumpOp_195 rfl (lv_at hl 0 rfl) ?_
          refine gf_414 S hw wf_X4_31 dX4_jumpOp_196 ?_
          refine lv_aload_n S.1 S.2.1 dX4_jumpOp_199 rfl (lv_at hl 0 rfl) ?_
          refine gf_425 S hw wf_X4_92 dX4_jumpOp_200 ?_
          obtain ⟨hi, hq⟩ := hq
          refine al_19 S hw hi dX4_jumpOp_203 ?_
          refine lv_iadd S.1 S.2.1 dX4_jumpOp_204 ?_
          obtain ⟨hi, hq⟩ := hq
          refine al_20 S hw hi dX4_jumpOp_205 ?_
          obtain ⟨hi, hq⟩ := hq
          refine as_16 S hw hi dX4_jumpOp_206 (fun k6 H locs e6 hw => ?_)
          replace hq := hq _ e6
          exact kr_v (cu := fun u => ce_l cA cf ad z0 u) S hr hk hw hq dX4_jumpOp_207
        · replace hq := hq.2 h4
          refine lv_aload_n S.1 S.2.1 dX4_jumpOp_156 rfl (lv_at hl 0 rfl) ?_
          refine lv_iconst (v := (5 : Int32)) S.1 S.2.1 dX4_jumpOp_157 (by decide) ?_
          refine call_X4_fall S hw wl_X4_95 hq ⟨Nat.le_of_ble_eq_true rfl, Nat.le_of_ble_eq_true rfl⟩ hl.1 (Nat.le_of_ble_eq_true rfl) ⟨Nat.zero_le _, Nat.zero_le _⟩ dX4_jumpOp_158 (fun k7 H locs hq hw => ?_)
          refine lv_goto (tgt := 207) S.1 S.2.1 dX4_jumpOp_161 rfl ?_
          exact kr_v (cu := fun u => ce_l cA cf ad z0 u) S hr hk hw hq dX4_jumpOp_207
      · replace hq := hq.2 h3
        refine lv_aload_n S.1 S.2.1 dX4_jumpOp_50 rfl (lv_at hl 0 rfl) ?_
        refine gf_411 S hw wf_X4_22 dX4_jumpOp_51 ?_
        refine lv_aload_n S.1 S.2.1 dX4_jumpOp_54 rfl (lv_at hl 0 rfl) ?_
        refine gf_425 S hw wf_X4_92 dX4_jumpOp_55 ?_
        obtain ⟨hi, hq⟩ := hq
        refine al_16 S hw hi dX4_jumpOp_58 ?_
        refine lv_istore_n (lv' := [(3, .int (k0 411 0 (k0 425 0 0).toNatClampNeg)), (0, .ref (ad (11, 0))), (1, .int x1), (2, .int x2)]) S.1 S.2.1 dX4_jumpOp_59 rfl hl (by decide) rfl (fun ls hl => ?_)
        refine lv_iload_n S.1 S.2.1 dX4_jumpOp_60 rfl (lv_at hl 3 rfl) ?_
        refine call_X4_isPlace S hw wl_X4_118 hq ⟨Nat.le_of_ble_eq_true rfl, Nat.le_of_ble_eq_true rfl⟩ hl.1 (Nat.le_of_ble_eq_true rfl) ⟨Nat.zero_le _, Nat.zero_le _⟩ dX4_jumpOp_61 (fun r8 k8 H locs hq hw => ?_)
        refine lv_if_ne (tgt := 75) S.1 S.2.1 dX4_jumpOp_64 rfl (fun h9 => ?_) (fun h9 => ?_)
        · replace hq := hq.1 h9
          refine lv_aload_n S.1 S.2.1 dX4_jumpOp_75 rfl (lv_at hl 1 rfl) ?_
          refine gf_414 S hw wf_X4_31 dX4_jumpOp_76 ?_
          refine lv_aload_n S.1 S.2.1 dX4_jumpOp_79 rfl (lv_at hl 1 rfl) ?_
          refine gf_425 S hw wf_X4_92 dX4_jumpOp_80 ?_
          obtain ⟨hi, hq⟩ := hq
          refine al_19 S hw hi dX4_jumpOp_83 ?_
          refine lv_iconst (v := (4 : Int32)) S.1 S.2.1 dX4_jumpOp_84 (by decide) ?_
          refine lv_icmp_ne (tgt := 96) S.1 S.2.1 dX4_jumpOp_85 rfl (fun h10 => ?_) (fun h10 => ?_)
          · replace hq := hq.1 h10
            refine lv_aload_n S.1 S.2.1 dX4_jumpOp_96 rfl (lv_at hl 1 rfl) ?_
            refine gf_415 S hw wf_X4_34 dX4_jumpOp_97 ?_
            refine lv_iconst (v := (4 : Int32)) S.1 S.2.1 dX4_jumpOp_100 (by decide) ?_
            refine lv_aload_n S.1 S.2.1 dX4_jumpOp_101 rfl (lv_at hl 1 rfl) ?_
            refine gf_425 S hw wf_X4_92 dX4_jumpOp_102 ?_
            refine lv_imul S.1 S.2.1 dX4_jumpOp_105 ?_
            refine lv_aload_n S.1 S.2.1 dX4_jumpOp_106 rfl (lv_at hl 1 rfl) ?_
            refine gf_414 S hw wf_X4_31 dX4_jumpOp_107 ?_
            refine lv_aload_n S.1 S.2.1 dX4_jumpOp_110 rfl (lv_at hl 1 rfl) ?_
            refine gf_425 S hw wf_X4_92 dX4_jumpOp_111 ?_
            obtain ⟨hi, hq⟩ := hq
            refine al_19 S hw hi dX4_jumpOp_114 ?_
            refine lv_iadd S.1 S.2.1 dX4_jumpOp_115 ?_
            refine lv_iload_n S.1 S.2.1 dX4_jumpOp_116 rfl (lv_at hl 0 rfl) ?_
            obtain ⟨hi, hq⟩ := hq
            refine as_20 S hw hi dX4_jumpOp_117 (fun k11 H locs e11 hw => ?_)
            replace hq := hq _ e11
            refine lv_aload_n S.1 S.2.1 dX4_jumpOp_118 rfl (lv_at hl 1 rfl) ?_
            refine gf_414 S hw wf_X4_31 dX4_jumpOp_119 ?_
            refine lv_aload_n S.1 S.2.1 dX4_jumpOp_122 rfl (lv_at hl 1 rfl) ?_
            refine gf_425 S hw wf_X4_92 dX4_jumpOp_123 ?_
            refine lv_dup2_11 S.1 S.2.1 dX4_jumpOp_126 rfl rfl ?_
            obtain ⟨hi, hq⟩ := hq
            refine al_19 S hw hi dX4_jumpOp_127 ?_
            refine lv_iconst (v := (1 : Int32)) S.1 S.2.1 dX4_jumpOp_128 (by decide) ?_
            refine lv_iadd S.1 S.2.1 dX4_jumpOp_129 ?_
            obtain ⟨hi, hq⟩ := hq
            refine as_19 S hw hi dX4_jumpOp_130 (fun k12 H locs e12 hw => ?_)
            replace hq := hq _ e12
            refine lv_aload_n S.1 S.2.1 dX4_jumpOp_131 rfl (lv_at hl 1 rfl) ?_
            refine gf_411 S hw wf_X4_22 dX4_jumpOp_132 ?_
            refine lv_aload_n S.1 S.2.1 dX4_jumpOp_135 rfl (lv_at hl 1 rfl) ?_
            refine gf_425 S hw wf_X4_92 dX4_jumpOp_136 ?_
            refine lv_iload_n S.1 S.2.1 dX4_jumpOp_139 rfl (lv_at hl 3 rfl) ?_
            obtain ⟨hi, hq⟩ := hq
            refine as_16 S hw hi dX4_jumpOp_140 (fun k13 H locs e13 hw => ?_)
            replace hq := hq _ e13
            refine lv_goto (tgt := 207) S.1 S.2.1 dX4_jumpOp_141 rfl ?_
            exact kr_v (cu := fun u => ce_l cA cf ad z0 u) S hr hk hw hq dX4_jumpOp_207
          · replace hq := hq.2 h10
            refine lv_aload_n S.1 S.2.1 dX4_jumpOp_88 rfl (lv_at hl 1 rfl) ?_
            refine lv_iconst (v := (5 : Int32)) S.1 S.2.1 dX4_jumpOp_89 (by decide) ?_
            refine call_X4_fall S hw wl_X4_95 hq ⟨Nat.le_of_ble_eq_true rfl, Nat.le_of_ble_eq_true rfl⟩ hl.1 (Nat.le_of_ble_eq_true rfl) ⟨Nat.zero_le _, Nat.zero_le _⟩ dX4_jumpOp_90 (fun k14 H locs hq hw => ?_)
            refine lv_goto (tgt := 141) S.1 S.2.1 dX4_jumpOp_93 rfl ?_
            refine lv_goto (tgt := 207) S.1 S.2.1 dX4_jumpOp_141 rfl ?_
            exact kr_v (cu := fun u => ce_l cA cf ad z0 u) S hr hk hw hq dX4_jumpOp_207
        · replace hq := hq.2 h9
          refine lv_aload_n S.1 S.2.1 dX4_jumpOp_67 rfl (lv_at hl 1 rfl) ?_
          refine lv_iconst (v := (2 : Int32)) S.1 S.2.1 dX4_jumpOp_68 (by decide) ?_
          refine call_X4_fall S hw wl_X4_95 hq ⟨Nat.le_of_ble_eq_true rfl, Nat.le_of_ble_eq_true rfl⟩ hl.1 (Nat.le_of_ble_eq_true rfl) ⟨Nat.zero_le _, Nat.zero_le _⟩ dX4_jumpOp_69 (fun k15 H locs hq hw => ?_)
          refine lv_goto (tgt := 141) S.1 S.2.1 dX4_jumpOp_72 rfl ?_
          refine lv_goto (tgt := 207) S.1 S.2.1 dX4_jumpOp_141 rfl ?_
          exact kr_v (cu := fun u => ce_l cA cf ad z0 u) S hr hk hw hq dX4_jumpOp_207
    · replace hq := hq.2 h2
      refine lv_aload_n S.1 S.2.1 dX4_jumpOp_20 rfl (lv_at hl 0 rfl) ?_
      refine call_X4_take S hw wl_X4_106 hq ⟨Nat.le_of_ble_eq_true rfl, Nat.le_of_ble_eq_true rfl⟩ hl.1 (Nat.le_of_ble_eq_true rfl) ⟨Nat.zero_le _, Nat.zero_le _⟩ dX4_jumpOp_21 (fun r16 k16 H locs hq hw => ?_)
      refine lv_istore_n (lv' := [(3, .int r16), (0, .ref (ad (11, 0))), (1, .int x1), (2, .int x2)]) S.1 S.2.1 dX4_jumpOp_24 rfl hl (by decide) rfl (fun ls hl => ?_)
      refine lv_aload_n S.1 S.2.1 dX4_jumpOp_25 rfl (lv_at hl 1 rfl) ?_
      refine gf_426 S hw wf_X4_89 dX4_jumpOp_26 ?_
      refine lv_if_ne (tgt := 41) S.1 S.2.1 dX4_jumpOp_29 rfl (fun h17 => ?_) (fun h17 => ?_)
      · replace hq := hq.1 h17
        refine lv_goto (tgt := 207) S.1 S.2.1 dX4_jumpOp_41 rfl ?_
        exact kr_v (cu := fun u => ce_l cA cf ad z0 u) S hr hk hw hq dX4_jumpOp_207
      · replace hq := hq.2 h17
        refine lv_iload_n S.1 S.2.1 dX4_jumpOp_32 rfl (lv_at hl 0 rfl) ?_
        refine lv_if_ne (tgt := 41) S.1 S.2.1 dX4_jumpOp_33 rfl (fun h18 => ?_) (fun h18 => ?_)
        · replace hq := hq.1 h18
          refine lv_goto (tgt := 207) S.1 S.2.1 dX4_jumpOp_41 rfl ?_
          exact kr_v (cu := fun u => ce_l cA cf ad z0 u) S hr hk hw hq dX4_jumpOp_207
        · replace hq := hq.2 h18
          refine lv_aload_n S.1 S.2.1 dX4_jumpOp_36 rfl (lv_at hl 1 rfl) ?_
          refine lv_iload_n S.1 S.2.1 dX4_jumpOp_37 rfl (lv_at hl 3 rfl) ?_
          refine call_X4_jump S hw wl_X4_124 hq ⟨Nat.le_of_ble_eq_true rfl, Nat.le_of_ble_eq_true rfl⟩ hl.1 (Nat.le_of_ble_eq_true rfl) ⟨Nat.zero_le _, Nat.zero_le _⟩ dX4_jumpOp_38 (fun k19 H locs hq hw => ?_)
          refine lv_goto (tgt := 207) S.1 S.2.1 dX4_jumpOp_41 rfl ?_
          exact kr_v (cu := fun u => ce_l cA cf ad z0 u) S hr hk hw hq dX4_jumpOp_207
  · replace hq := hq.2 h1
    refine lv_aload_n S.1 S.2.1 dX4_jumpOp_6 rfl (lv_at hl 0 rfl) ?_
    refine lv_iload_n S.1 S.2.1 dX4_jumpOp_7 rfl (lv_at hl 2 rfl) ?_
    refine call_X4_jump S hw wl_X4_124 hq ⟨Nat.le_of_ble_eq_true rfl, Nat.le_of_ble_eq_true rfl⟩ hl.1 (Nat.le_of_ble_eq_true rfl) ⟨Nat.zero_le _, Nat.zero_le _⟩ dX4_jumpOp_8 (fun k20 H locs hq hw => ?_)
    refine lv_goto (tgt := 207) S.1 S.2.1 dX4_jumpOp_11 rfl ?_
    exact kr_v (cu := fun u => ce_l cA cf ad z0 u) S hr hk hw hq dX4_jumpOp_207
theorem c_X4_jumpOp (z0 k0 : ka_T) (x1 : Int32) (x2 : Int32) {post : ka_T → Prop} (hq : q_X4_jumpOp cf post x1 x2 k0) : Met l yX4_jumpOp wsX4_jumpOp rmX4_jumpOp (va_Pc [.ref (ad (11, 0)), .int x1, .int x2] (Wx_ D cA cf ad A z0 k0)) (va_Qv post (fun u t => Wx_ D cA cf ad A z0 u t) A) 0 0 A :=
  kp_met (by decide +kernel) [.ref (ad (11, 0)), .int x1, .int x2] (Nat.le_of_ble_eq_true rfl) (fun p e s m args below meth c ls S hr hk hw hl => b_X4_jumpOp_0 S hr hk x1 x2 k0 _ _ _ hl hw hq)
theorem call_X4_jumpOp {z0 k0 : ka_T} {x1 : Int32} {x2 : Int32} {post : ka_T → Prop} (S : CallFix p m c cc nL s args lw_gd own) (hw : Wo_ D cA cf ad A z0 k0 s H locs) {index : Nat} (hl : Cond.methodLink own index yX4_jumpOp ∈ lw_gd) (hq : q_X4_jumpOp cf post x1 x2 k0) (hR : rmX4_jumpOp.frames + 1 ≤ R.frames ∧ 8 + (4 + 11) + rmX4_jumpOp.locals ≤ R.locals) (hls : ls.size = nL) (hro : (rest.map fun v => v.category).sum ≤ 8) (hcs : cells ≤ R.cells ∧ slots ≤ R.slots) (hd : decode cc pc = .ok (.invokevirtual index, 3)) (kk : ∀ (u : ka_T) (H1 : Heap) (locs1 : List Loc), post u → Wo_ D cA cf ad A z0 u s H1 locs1 → W p l e R s m args below meth c H1 locs1 cells slots Q (F0 m (pc + 3) ls rest)) : W p l e R s m args below meth c H locs cells slots Q (F0 m pc ls (.int x2 :: .int x1 :: .ref (ad (11, 0)) :: rest)) :=
  kg_vv (cu := fun u => ce_l cA cf ad z0 u) (As := [.int x1, .int x2]) S hw (q := (11, 0)) (c_X4_jumpOp z0 k0 x1 x2 hq) wc_X4_jumpOp wn_X4 hl wi_X4_jumpOp (C := RX4) (T := TX4) (N := 27) (ci := 4) (fs := fx_11 cf ad k0 0) wse_X4_jumpOp (km_11) rfl rfl (na := 2) (by decide +kernel) rfl rfl rfl hR hls rfl hro hcs hd kk
abbrev rmX4_kill : Room := { frames := 1, cells := 0, slots := 0, locals := 22 }
set_option maxRecDepth 100000 in
set_option maxHeartbeats 4000000 in
theorem b_X4_kill_0 {post : Int32 → ka_T → Prop} (S : CallFix p m c cX4_kill 2 s args lw_gd RX4) (hr : meth.sig.returnType = some .boolean) (hk : meth.locks = false) : ∀ (x1 : Int32) (k0 : ka_T) (H : Heap) (locs : List Loc) (ls : Array Slot), lv_has ls 2 [(0, .ref (ad (11, 0))), (1, .int x1)] → Wo_ D cA cf ad A z0 k0 s H locs → q_X4_kill cf post x1 k0 → W p l e rmX4_kill s m args below meth c H locs 0 0 (MQ below (va_Qi post (fun u t => Wx_ D cA cf ad A z0 u t) A) args s 0 0 A) (F0 m 0 ls []) := by
  intro x1 k0 H locs ls hl hw hq
  refine lv_aload_n S.1 S.2.1 dX4_kill_0 rfl (lv_at hl 0 rfl) ?_
  refine lv_iload_n S.1 S.2.1 dX4_kill_1 rfl (lv_at hl 1 rfl) ?_
  refine call_X4_isLive S hw wl_X4_134 hq ⟨Nat.le_of_ble_eq_true rfl, Nat.le_of_ble_eq_true rfl⟩ hl.1 (Nat.le_of_ble_eq_true rfl) ⟨Nat.zero_le _, Nat.zero_le _⟩ dX4_kill_2 (fun r1 k1 H locs hq hw => ?_)
  refine lv_if_ne (tgt := 10) S.1 S.2.1 dX4_kill_5 rfl (fun h2 => ?_) (fun h2 => ?_)
  · replace hq := hq.1 h2
    refine lv_aload_n S.1 S.2.1 dX4_kill_10 rfl (lv_at hl 0 rfl) ?_
    refine lv_iload_n S.1 S.2.1 dX4_kill_11 rfl (lv_at hl 1 rfl) ?_
    refine lv_iconst (v := (2 : Int32)) S.1 S.2.1 dX4_kill_12 (by decide) ?_
    refine call_X4_end S hw wl_X4_137 hq ⟨Nat.le_of_ble_eq_true rfl, Nat.le_of_ble_eq_true rfl⟩ hl.1 (Nat.le_of_ble_eq_true rfl) ⟨Nat.zero_le _, Nat.zero_le _⟩ dX4_kill_13 (fun k3 H locs hq hw => ?_)
    refine lv_iconst (v := (1 : Int32)) S.1 S.2.1 dX4_kill_16 (by decide) ?_
    exact kr_i (cu := fun u => ce_l cA cf ad z0 u) S hr (by decide) hk hw hq dX4_kill_17
  · replace hq := hq.2 h2
    refine lv_iconst (v := (0 : Int32)) S.1 S.2.1 dX4_kill_8 (by decide) ?_
    exact kr_i (cu := fun u => ce_l cA cf ad z0 u) S hr (by decide) hk hw hq dX4_kill_9
theorem c_X4_kill (z0 k0 : ka_T) (x1 : Int32) {post : Int32 → ka_T → Prop} (hq : q_X4_kill cf post x1 k0) : Met l yX4_kill wsX4_kill rmX4_kill (va_Pc [.ref (ad (11, 0)), .int x1] (Wx_ D cA cf ad A z0 k0)) (va_Qi post (fun u t => Wx_ D cA cf ad A z0 u t) A) 0 0 A :=
  kp_met (by decide +kernel) [.ref (ad (11, 0)), .int x1] (Nat.le_of_ble_eq_true rfl) (fun p e s m args below meth c ls S hr hk hw hl => b_X4_kill_0 S hr hk x1 k0 _ _ _ hl hw hq)
theorem call_X4_kill {z0 k0 : ka_T} {x1 : Int32} {post : Int32 → ka_T → Prop} (S : CallFix p m c cc nL s args lw_gd own) (hw : Wo_ D cA cf ad A z0 k0 s H locs) {index : Nat} (hl : Cond.methodLink own index yX4_kill ∈ lw_gd) (hq : q_X4_kill cf post x1 k0) (hR : rmX4_kill.frames + 1 ≤ R.frames ∧ 8 + (2 + 11) + rmX4_kill.locals ≤ R.locals) (hls : ls.size = nL) (hro : (rest.map fun v => v.category).sum ≤ 8) (hcs : cells ≤ R.cells ∧ slots ≤ R.slots) (hd : decode cc pc = .ok (.invokevirtual index, 3)) (kk : ∀ (r : Int32) (u : ka_T) (H1 : Heap) (locs1 : List Loc), post r u → Wo_ D cA cf ad A z0 u s H1 locs1 → W p l e R s m args below meth c H1 locs1 cells slots Q (F0 m (pc + 3) ls (.int r :: rest))) : W p l e R s m args below meth c H locs cells slots Q (F0 m pc ls (.int x1 :: .ref (ad (11, 0)) :: rest)) :=
  kg_vi (cu := fun u => ce_l cA cf ad z0 u) (As := [.int x1]) S hw (q := (11, 0)) (c_X4_kill z0 k0 x1 hq) wc_X4_kill wn_X4 hl wi_X4_kill (C := RX4) (T := TX4) (N := 27) (ci := 4) (fs := fx_11 cf ad k0 0) wse_X4_kill (km_11) rfl rfl (na := 1) (by decide +kernel) rfl rfl rfl hR hls rfl hro hcs hd kk
abbrev rmX4_memory : Room := { frames := 0, cells := 0, slots := 0, locals := 0 }
set_option maxRecDepth 100000 in
set_option maxHeartbeats 4000000 in
theorem b_X4_memory_0 {post : Int32 → ka_T → Prop} (S : CallFix p m c cX4_memory 2 s args lw_gd RX4) (hr : meth.sig.returnType = some .int) (hk : meth.locks = false) : ∀ (x1 : Int32) (k0 : ka_T) (H : Heap) (locs : List Loc) (ls : Array Slot), lv_has ls 2 [(0, .ref (ad (11, 0))), (1, .int x1)] → Wo_ D cA cf ad A z0 k0 s H locs → q_X4_memory cf post x1 k0 → W p l e rmX4_memory s m args below meth c H locs 0 0 (MQ below (va_Qi post (fun u t => Wx_ D cA cf ad A z0 u t) A) args s 0 0 A) (F0 m 0 ls []) := by
  intro x1 k0 H locs ls hl hw hq
  refine lv_iload_n S.1 S.2.1 dX4_memory_0 rfl (lv_at hl 1 rfl) ?_
  refine lv_if_lt (tgt := 10) S.1 S.2.1 dX4_memory_1 rfl (fun h1 => ?_) (fun h1 => ?_)
  · replace hq := hq.1 h1
    refine lv_ldc S.1 S.2.1 S.2.2.2.1 (S.2.2.2.2 _ wv_X4_174) dX4_memory_10 ?_
    refine lv_goto (tgt := 21) S.1 S.2.1 dX4_memory_12 rfl ?_
    exact kr_i (cu := fun u => ce_l cA cf ad z0 u) S hr rfl hk hw hq dX4_memory_21
  · replace hq := hq.2 h1
    refine lv_iload_n S.1 S.2.1 dX4_memory_4 rfl (lv_at hl 1 rfl) ?_
    refine lv_bipush (v := (15 : Int32)) S.1 S.2.1 dX4_memory_5 (by decide) ?_
    refine lv_icmp_le (tgt := 15) S.1 S.2.1 dX4_memory_7 rfl (fun h2 => ?_) (fun h2 => ?_)
    · replace hq := hq.1 h2
      refine lv_aload_n S.1 S.2.1 dX4_memory_15 rfl (lv_at hl 0 rfl) ?_
      refine gf_405 S hw wf_X4_13 dX4_memory_16 ?_
      refine lv_iload_n S.1 S.2.1 dX4_memory_19 rfl (lv_at hl 1 rfl) ?_
      obtain ⟨hi, hq⟩ := hq
      refine al_13 S hw hi dX4_memory_20 ?_
      exact kr_i (cu := fun u => ce_l cA cf ad z0 u) S hr rfl hk hw hq dX4_memory_21
    · replace hq := hq.2 h2
      refine lv_ldc S.1 S.2.1 S.2.2.2.1 (S.2.2.2.2 _ wv_X4_174) dX4_memory_10 ?_
      refine lv_goto (tgt := 21) S.1 S.2.1 dX4_memory_12 rfl ?_
      exact kr_i (cu := fun u => ce_l cA cf ad z0 u) S hr rfl hk hw hq dX4_memory_21
theorem c_X4_memory (z0 k0 : ka_T) (x1 : Int32) {post : Int32 → ka_T → Prop} (hq : q_X4_memory cf post x1 k0) : Met l yX4_memory wsX4_memory rmX4_memory (va_Pc [.ref (ad (11, 0)), .int x1] (Wx_ D cA cf ad A z0 k0)) (va_Qi post (fun u t => Wx_ D cA cf ad A z0 u t) A) 0 0 A :=
  kp_met (by decide +kernel) [.ref (ad (11, 0)), .int x1] (Nat.le_of_ble_eq_true rfl) (fun p e s m args below meth c ls S hr hk hw hl => b_X4_memory_0 S hr hk x1 k0 _ _ _ hl hw hq)
theorem call_X4_memory {z0 k0 : ka_T} {x1 : Int32} {post : Int32 → ka_T → Prop} (S : CallFix p m c cc nL s args lw_gd own) (hw : Wo_ D cA cf ad A z0 k0 s H locs) {index : Nat} (hl : Cond.methodLink own index yX4_memory ∈ lw_gd) (hq : q_X4_memory cf post x1 k0) (hR : rmX4_memory.frames + 1 ≤ R.frames ∧ 8 + (2 + 11) + rmX4_memory.locals ≤ R.locals) (hls : ls.size = nL) (hro : (rest.map fun v => v.category).sum ≤ 8) (hcs : cells ≤ R.cells ∧ slots ≤ R.slots) (hd : decode cc pc = .ok (.invokevirtual index, 3)) (kk : ∀ (r : Int32) (u : ka_T) (H1 : Heap) (locs1 : List Loc), post r u → Wo_ D cA cf ad A z0 u s H1 locs1 → W p l e R s m args below meth c H1 locs1 cells slots Q (F0 m (pc + 3) ls (.int r :: rest))) : W p l e R s m args below meth c H locs cells slots Q (F0 m pc ls (.int x1 :: .ref (ad (11, 0)) :: rest)) :=
  kg_vi (cu := fun u => ce_l cA cf ad z0 u) (As := [.int x1]) S hw (q := (11, 0)) (c_X4_memory z0 k0 x1 hq) wc_X4_memory wn_X4 hl wi_X4_memory (C := RX4) (T := TX4) (N := 27) (ci := 4) (fs := fx_11 cf ad k0 0) wse_X4_memory (km_11) rfl rfl (na := 1) (by decide +kernel) rfl rfl rfl hR hls rfl hro hcs hd kk
abbrev rmX4_memoryOp : Room := { frames := 2, cells := 0, slots := 0, locals := 43 }
set_option maxRecDepth 100000 in
set_option maxHeartbeats 4000000 in
theorem b_X4_memoryOp_46 {post : ka_T → Prop} (S : CallFix p m c cX4_memoryOp 4 s args lw_gd RX4) (hr : meth.sig.returnType = none) (hk : meth.locks = false) : ∀ (x2 : Int32) (k0 : ka_T) (H : Heap) (locs : List Loc) (ls : Array Slot), lv_has ls 4 [(0, .ref (ad (11, 0))), (2, .int x2)] → Wo_ D cA cf ad A z0 k0 s H locs → q_X4_memoryOp_46 cf post x2 k0 → W p l e rmX4_memoryOp s m args below meth c H locs 0 0 (MQ below (va_Qv post (fun u t => Wx_ D cA cf ad A z0 u t) A) args s 0 0 A) (F0 m 46 ls []) := by
  intro x2 k0 H locs ls hl hw hq
  refine lv_aload_n S.1 S.2.1 dX4_memoryOp_46 rfl (lv_at hl 0 rfl) ?_
  refine gf_426 S hw wf_X4_89 dX4_memoryOp_47 ?_
  refine lv_if_ne (tgt := 81) S.1 S.2.1 dX4_memoryOp_50 rfl (fun h1 => ?_) (fun h1 => ?_)
  · replace hq := hq.1 h1
    exact kr_v (cu := fun u => ce_l cA cf ad z0 u) S hr hk hw hq dX4_memoryOp_81
  · replace hq := hq.2 h1
    refine lv_aload_n S.1 S.2.1 dX4_memoryOp_53 rfl (lv_at hl 0 rfl) ?_
    refine call_X4_take S hw wl_X4_106 hq ⟨Nat.le_of_ble_eq_true rfl, Nat.le_of_ble_eq_true rfl⟩ hl.1 (Nat.le_of_ble_eq_true rfl) ⟨Nat.zero_le _, Nat.zero_le _⟩ dX4_memoryOp_54 (fun r2 k2 H locs hq hw => ?_)
    refine lv_istore_n (lv' := [(3, .int r2), (0, .ref (ad (11, 0))), (2, .int x2)]) S.1 S.2.1 dX4_memoryOp_57 rfl hl (by decide) rfl (fun ls hl => ?_)
    refine lv_aload_n S.1 S.2.1 dX4_memoryOp_58 rfl (lv_at hl 1 rfl) ?_
    refine gf_405 S hw wf_X4_13 dX4_memoryOp_59 ?_
    refine lv_iload_n S.1 S.2.1 dX4_memoryOp_62 rfl (lv_at hl 2 rfl) ?_
    refine lv_aload_n S.1 S.2.1 dX4_memoryOp_63 rfl (lv_at hl 1 rfl) ?_
    refine gf_426 S hw wf_X4_89 dX4_memoryOp_64 ?_
    refine lv_if_ne (tgt := 74) S.1 S.2.1 dX4_memoryOp_67 rfl (fun h3 => ?_) (fun h3 => ?_)
    · replace hq := hq.1 h3
      refine lv_aload_n S.1 S.2.1 dX4_memoryOp_74 rfl (lv_at hl 1 rfl) ?_
      refine gf_405 S hw wf_X4_13 dX4_memoryOp_75 ?_
      refine lv_iload_n S.1 S.2.1 dX4_memoryOp_78 rfl (lv_at hl 2 rfl) ?_
      obtain ⟨hi, hq⟩ := hq
      refine al_13 S hw hi dX4_memoryOp_79 ?_
      obtain ⟨hi, hq⟩ := hq
      refine as_13 S hw hi dX4_memoryOp_80 (fun k4 H locs e4 hw => ?_)
      replace hq := hq _ e4
      exact kr_v (cu := fun u => ce_l cA cf ad z0 u) S hr hk hw hq dX4_memoryOp_81
    · replace hq := hq.2 h3
      refine lv_iload_n S.1 S.2.1 dX4_memoryOp_70 rfl (lv_at hl 0 rfl) ?_
      refine lv_goto (tgt := 80) S.1 S.2.1 dX4_memoryOp_71 rfl ?_
      obtain ⟨hi, hq⟩ := hq
      refine as_13 S hw hi dX4_memoryOp_80 (fun k5 H locs e5 hw => ?_)
      replace hq := hq _ e5
      exact kr_v (cu := fun u => ce_l cA cf ad z0 u) S hr hk hw hq dX4_memoryOp_81
set_option maxRecDepth 100000 in
set_option maxHeartbeats 4000000 in
theorem b_X4_memoryOp_20 {post : ka_T → Prop} (S : CallFix p m c cX4_memoryOp 4 s args lw_gd RX4) (hr : meth.sig.returnType = none) (hk : meth.locks = false) : ∀ (x1 : Int32) (x2 : Int32) (k0 : ka_T) (H : Heap) (locs : List Loc) (ls : Array Slot), lv_has ls 4 [(0, .ref (ad (11, 0))), (1, .int x1), (2, .int x2)] → Wo_ D cA cf ad A z0 k0 s H locs → q_X4_memoryOp_20 cf post x1 x2 k0 → W p l e rmX4_memoryOp s m args below meth c H locs 0 0 (MQ below (va_Qv post (fun u t => Wx_ D cA cf ad A z0 u t) A) args s 0 0 A) (F0 m 20 ls []) := by
  intro x1 x2 k0 H locs ls hl hw hq
  refine lv_aload_n S.1 S.2.1 dX4_memoryOp_20 rfl (lv_at hl 0 rfl) ?_
  refine gf_426 S hw wf_X4_89 dX4_memoryOp_21 ?_
  refine lv_if_ne (tgt := 46) S.1 S.2.1 dX4_memoryOp_24 rfl (fun h6 => ?_) (fun h6 => ?_)
  · replace hq := hq.1 h6
    exact b_X4_memoryOp_46 S hr hk x2 k0 _ _ _ (lv_sub hl [0, 2] rfl) hw hq
  · replace hq := hq.2 h6
    refine lv_iload_n S.1 S.2.1 dX4_memoryOp_27 rfl (lv_at hl 1 rfl) ?_
    refine lv_bipush (v := (9 : Int32)) S.1 S.2.1 dX4_memoryOp_28 (by decide) ?_
    refine lv_icmp_ne (tgt := 46) S.1 S.2.1 dX4_memoryOp_30 rfl (fun h7 => ?_) (fun h7 => ?_)
    · replace hq := hq.1 h7
      exact b_X4_memoryOp_46 S hr hk x2 k0 _ _ _ (lv_sub hl [0, 2] rfl) hw hq
    · replace hq := hq.2 h7
      refine lv_aload_n S.1 S.2.1 dX4_memoryOp_33 rfl (lv_at hl 0 rfl) ?_
      refine lv_aload_n S.1 S.2.1 dX4_memoryOp_34 rfl (lv_at hl 0 rfl) ?_
      refine gf_405 S hw wf_X4_13 dX4_memoryOp_35 ?_
      refine lv_iload_n S.1 S.2.1 dX4_memoryOp_38 rfl (lv_at hl 2 rfl) ?_
      obtain ⟨hi, hq⟩ := hq
      refine al_13 S hw hi dX4_memoryOp_39 ?_
      refine call_X4_put S hw wl_X4_115 hq ⟨Nat.le_of_ble_eq_true rfl, Nat.le_of_ble_eq_true rfl⟩ hl.1 (Nat.le_of_ble_eq_true rfl) ⟨Nat.zero_le _, Nat.zero_le _⟩ dX4_memoryOp_40 (fun k8 H locs hq hw => ?_)
      refine lv_goto (tgt := 81) S.1 S.2.1 dX4_memoryOp_43 rfl ?_
      exact kr_v (cu := fun u => ce_l cA cf ad z0 u) S hr hk hw hq dX4_memoryOp_81
set_option maxRecDepth 100000 in
set_option maxHeartbeats 4000000 in
theorem b_X4_memoryOp_0 {post : ka_T → Prop} (S : CallFix p m c cX4_memoryOp 4 s args lw_gd RX4) (hr : meth.sig.returnType = none) (hk : meth.locks = false) : ∀ (x1 : Int32) (k0 : ka_T) (H : Heap) (locs : List Loc) (ls : Array Slot), lv_has ls 4 [(0, .ref (ad (11, 0))), (1, .int x1)] → Wo_ D cA cf ad A z0 k0 s H locs → q_X4_memoryOp cf post x1 k0 → W p l e rmX4_memoryOp s m args below meth c H locs 0 0 (MQ below (va_Qv post (fun u t => Wx_ D cA cf ad A z0 u t) A) args s 0 0 A) (F0 m 0 ls []) := by
  intro x1 k0 H locs ls hl hw hq
  refine lv_aload_n S.1 S.2.1 dX4_memoryOp_0 rfl (lv_at hl 0 rfl) ?_
  refine call_X4_take S hw wl_X4_106 hq ⟨Nat.le_of_ble_eq_true rfl, Nat.le_of_ble_eq_true rfl⟩ hl.1 (Nat.le_of_ble_eq_true rfl) ⟨Nat.zero_le _, Nat.zero_le _⟩ dX4_memoryOp_1 (fun r9 k9 H locs hq hw => ?_)
  refine lv_istore_n (lv' := [(2, .int r9), (0, .ref (ad (11, 0))), (1, .int x1)]) S.1 S.2.1 dX4_memoryOp_4 rfl hl (by decide) rfl (fun ls hl => ?_)
  refine lv_iload_n S.1 S.2.1 dX4_memoryOp_5 rfl (lv_at hl 0 rfl) ?_
  refine lv_if_lt (tgt := 15) S.1 S.2.1 dX4_memoryOp_6 rfl (fun h10 => ?_) (fun h10 => ?_)
  · replace hq := hq.1 h10
    refine lv_aload_n S.1 S.2.1 dX4_memoryOp_15 rfl (lv_at hl 1 rfl) ?_
    refine lv_iconst (v := (2 : Int32)) S.1 S.2.1 dX4_memoryOp_16 (by decide) ?_
    refine call_X4_fall S hw wl_X4_95 hq ⟨Nat.le_of_ble_eq_true rfl, Nat.le_of_ble_eq_true rfl⟩ hl.1 (Nat.le_of_ble_eq_true rfl) ⟨Nat.zero_le _, Nat.zero_le _⟩ dX4_memoryOp_17 (fun k11 H locs hq hw => ?_)
    exact b_X4_memoryOp_20 S hr hk x1 r9 k11 _ _ _ (lv_sub hl [1, 2, 0] rfl) hw hq
  · replace hq := hq.2 h10
    refine lv_iload_n S.1 S.2.1 dX4_memoryOp_9 rfl (lv_at hl 0 rfl) ?_
    refine lv_bipush (v := (15 : Int32)) S.1 S.2.1 dX4_memoryOp_10 (by decide) ?_
    refine lv_icmp_le (tgt := 20) S.1 S.2.1 dX4_memoryOp_12 rfl (fun h12 => ?_) (fun h12 => ?_)
    · replace hq := hq.1 h12
      exact b_X4_memoryOp_20 S hr hk x1 r9 k9 _ _ _ (lv_sub hl [1, 2, 0] rfl) hw hq
    · replace hq := hq.2 h12
      refine lv_aload_n S.1 S.2.1 dX4_memoryOp_15 rfl (lv_at hl 1 rfl) ?_
      refine lv_iconst (v := (2 : Int32)) S.1 S.2.1 dX4_memoryOp_16 (by decide) ?_
      refine call_X4_fall S hw wl_X4_95 hq ⟨Nat.le_of_ble_eq_true rfl, Nat.le_of_ble_eq_true rfl⟩ hl.1 (Nat.le_of_ble_eq_true rfl) ⟨Nat.zero_le _, Nat.zero_le _⟩ dX4_memoryOp_17 (fun k13 H locs hq hw => ?_)
      exact b_X4_memoryOp_20 S hr hk x1 r9 k13 _ _ _ (lv_sub hl [1, 2, 0] rfl) hw hq
theorem c_X4_memoryOp (z0 k0 : ka_T) (x1 : Int32) {post : ka_T → Prop} (hq : q_X4_memoryOp cf post x1 k0) : Met l yX4_memoryOp wsX4_memoryOp rmX4_memoryOp (va_Pc [.ref (ad (11, 0)), .int x1] (Wx_ D cA cf ad A z0 k0)) (va_Qv post (fun u t => Wx_ D cA cf ad A z0 u t) A) 0 0 A :=
  kp_met (by decide +kernel) [.ref (ad (11, 0)), .int x1] (Nat.le_of_ble_eq_true rfl) (fun p e s m args below meth c ls S hr hk hw hl => b_X4_memoryOp_0 S hr hk x1 k0 _ _ _ hl hw hq)
theorem call_X4_memoryOp {z0 k0 : ka_T} {x1 : Int32} {post : ka_T → Prop} (S : CallFix p m c cc nL s args lw_gd own) (hw : Wo_ D cA cf ad A z0 k0 s H locs) {index : Nat} (hl : Cond.methodLink own index yX4_memoryOp ∈ lw_gd) (hq : q_X4_memoryOp cf post x1 k0) (hR : rmX4_memoryOp.frames + 1 ≤ R.frames ∧ 8 + (4 + 11) + rmX4_memoryOp.locals ≤ R.locals) (hls : ls.size = nL) (hro : (rest.map fun v => v.category).sum ≤ 8) (hcs : cells ≤ R.cells ∧ slots ≤ R.slots) (hd : decode cc pc = .ok (.invokevirtual index, 3)) (kk : ∀ (u : ka_T) (H1 : Heap) (locs1 : List Loc), post u → Wo_ D cA cf ad A z0 u s H1 locs1 → W p l e R s m args below meth c H1 locs1 cells slots Q (F0 m (pc + 3) ls rest)) : W p l e R s m args below meth c H locs cells slots Q (F0 m pc ls (.int x1 :: .ref (ad (11, 0)) :: rest)) :=
  kg_vv (cu := fun u => ce_l cA cf ad z0 u) (As := [.int x1]) S hw (q := (11, 0)) (c_X4_memoryOp z0 k0 x1 hq) wc_X4_memoryOp wn_X4 hl wi_X4_memoryOp (C := RX4) (T := TX4) (N := 27) (ci := 4) (fs := fx_11 cf ad k0 0) wse_X4_memoryOp (km_11) rfl rfl (na := 1) (by decide +kernel) rfl rfl rfl hR hls rfl hro hcs hd kk
end KW
