/-! printed by wip/whole/gen.py: the walks, contracts and calls of the methods -/
section KW
variable {p : Program} {l : Launch} {e : Env} {R : Room} {s : State} {m : MethodId} {args : Array Value} {below : List Frame} {meth : Method} {c : Code} {H : Heap} {locs : List Loc} {cells slots : Nat} {Q : State → Prop}
variable {cc : ByteArray} {nL pc : Nat} {ls : Array Slot} {rest : List Value} {own : String} {D : va_G} {A : Nat → Prop} {cA : Nat → ClassId} {cf : Nat → Nat} {ad : Nat × Nat → Nat} {z0 : ka_T}
abbrev rmX3_drop : Room := { frames := 1, cells := 0, slots := 0, locals := 20 }
set_option maxRecDepth 100000 in
set_option maxHeartbeats 4000000 in
theorem b_X3_drop_0 {post : Int32 → ka_T → Prop} (S : CallFix p m c cX3_drop 2 s args lw_gd RX3) (hr : meth.sig.returnType = some .int) (hk : meth.locks = false) : ∀ (n1 : Nat) (hn1 : n1 < cf 0) (k0 : ka_T) (H : Heap) (locs : List Loc) (ls : Array Slot), lv_has ls 2 [(0, .ref (ad (0, 0))), (1, .ref (ad (6, n1)))] → Wo_ D cA cf ad A k0 z0 s H locs → q_X3_drop cf post n1 k0 → W p l e rmX3_drop s m args below meth c H locs 0 0 (MQ below (va_Qi post (fun u t => Wx_ D cA cf ad A u z0 t) A) args s 0 0 A) (F0 m 0 ls []) := by
  intro n1 hn1 k0 H locs ls hl hw hq
  refine lv_aload_n S.1 S.2.1 dX3_drop_0 rfl (lv_at hl 1 rfl) ?_
  refine gf_201 S hw hn1 wf_X3_108 dX3_drop_1 ?_
  refine gf_101 S hw (vl_n hn1) wf_X3_112 dX3_drop_4 ?_
  refine lv_iconst (v := (1 : Int32)) S.1 S.2.1 dX3_drop_7 (by decide) ?_
  refine lv_icmp_ge (tgt := 13) S.1 S.2.1 dX3_drop_8 rfl (fun h1 => ?_) (fun h1 => ?_)
  · replace hq := hq.1 h1
    refine lv_aload_n S.1 S.2.1 dX3_drop_13 rfl (lv_at hl 1 rfl) ?_
    refine gf_201 S hw hn1 wf_X3_108 dX3_drop_14 ?_
    refine call_X1_pop S hw wl_X3_235 (vl_n hn1) hq ⟨Nat.le_of_ble_eq_true rfl, Nat.le_of_ble_eq_true rfl⟩ hl.1 (Nat.le_of_ble_eq_true rfl) ⟨Nat.zero_le _, Nat.zero_le _⟩ dX3_drop_17 (fun r2 k2 H locs hq hw => ?_)
    refine lv_pop S.1 S.2.1 dX3_drop_20 rfl ?_
    refine lv_iconst (v := (0 : Int32)) S.1 S.2.1 dX3_drop_21 (by decide) ?_
    exact kr_i (cu := fun u => ce_l cA cf ad u z0) S hr rfl hk hw hq dX3_drop_22
  · replace hq := hq.2 h1
    refine lv_iconst (v := (1 : Int32)) S.1 S.2.1 dX3_drop_11 (by decide) ?_
    exact kr_i (cu := fun u => ce_l cA cf ad u z0) S hr rfl hk hw hq dX3_drop_12
theorem c_X3_drop (z0 k0 : ka_T) (n1 : Nat) (hn1 : n1 < cf 0) {post : Int32 → ka_T → Prop} (hq : q_X3_drop cf post n1 k0) : Met l yX3_drop wsX3_drop rmX3_drop (va_Pc [.ref (ad (0, 0)), .ref (ad (6, n1))] (Wx_ D cA cf ad A k0 z0)) (va_Qi post (fun u t => Wx_ D cA cf ad A u z0 t) A) 0 0 A :=
  kp_met (by decide +kernel) [.ref (ad (0, 0)), .ref (ad (6, n1))] (Nat.le_of_ble_eq_true rfl) (fun p e s m args below meth c ls S hr hk hw hl => b_X3_drop_0 S hr hk n1 hn1 k0 _ _ _ hl hw hq)
theorem call_X3_drop {z0 k0 : ka_T} {n1 : Nat} {post : Int32 → ka_T → Prop} (S : CallFix p m c cc nL s args lw_gd own) (hw : Wo_ D cA cf ad A k0 z0 s H locs) {index : Nat} (hl : Cond.methodLink own index yX3_drop ∈ lw_gd) (hn1 : n1 < cf 0) (hq : q_X3_drop cf post n1 k0) (hR : rmX3_drop.frames + 1 ≤ R.frames ∧ 8 + (2 + 11) + rmX3_drop.locals ≤ R.locals) (hls : ls.size = nL) (hro : (rest.map fun v => v.category).sum ≤ 8) (hcs : cells ≤ R.cells ∧ slots ≤ R.slots) (hd : decode cc pc = .ok (.invokevirtual index, 3)) (kk : ∀ (r : Int32) (u : ka_T) (H1 : Heap) (locs1 : List Loc), post r u → Wo_ D cA cf ad A u z0 s H1 locs1 → W p l e R s m args below meth c H1 locs1 cells slots Q (F0 m (pc + 3) ls (.int r :: rest))) : W p l e R s m args below meth c H locs cells slots Q (F0 m pc ls (.ref (ad (6, n1)) :: .ref (ad (0, 0)) :: rest)) :=
  kg_vi (cu := fun u => ce_l cA cf ad u z0) (As := [.ref (ad (6, n1))]) S hw (q := (0, 0)) (c_X3_drop z0 k0 n1 hn1 hq) wc_X3_drop wn_X3 hl wi_X3_drop (C := RX3) (T := TX3) (N := 9) (ci := 3) (fs := fx_0 cf ad k0 0) wse_X3_drop (km_0) rfl rfl (na := 1) (by decide +kernel) rfl rfl rfl hR hls rfl hro hcs hd kk
abbrev rmX3_outSlot : Room := { frames := 0, cells := 0, slots := 0, locals := 0 }
set_option maxRecDepth 100000 in
set_option maxHeartbeats 4000000 in
theorem b_X3_outSlot_0 {post : Int32 → ka_T → Prop} (S : CallFix p m c cX3_outSlot 1 s args lw_gd RX3) (hr : meth.sig.returnType = some .int) (hk : meth.locks = false) : ∀ (x0 : Int32) (k0 : ka_T) (H : Heap) (locs : List Loc) (ls : Array Slot), lv_has ls 1 [(0, .int x0)] → Wo_ D cA cf ad A k0 z0 s H locs → q_X3_outSlot cf post x0 k0 → W p l e rmX3_outSlot s m args below meth c H locs 0 0 (MQ below (va_Qi post (fun u t => Wx_ D cA cf ad A u z0 t) A) args s 0 0 A) (F0 m 0 ls []) := by
  intro x0 k0 H locs ls hl hw hq
  refine lv_iload_n S.1 S.2.1 dX3_outSlot_0 rfl (lv_at hl 0 rfl) ?_
  refine lv_bipush (v := (31 : Int32)) S.1 S.2.1 dX3_outSlot_1 (by decide) ?_
  refine lv_iand S.1 S.2.1 dX3_outSlot_3 ?_
  exact kr_i (cu := fun u => ce_l cA cf ad u z0) S hr rfl hk hw hq dX3_outSlot_4
theorem c_X3_outSlot (z0 k0 : ka_T) (x0 : Int32) {post : Int32 → ka_T → Prop} (hq : q_X3_outSlot cf post x0 k0) : Met l yX3_outSlot wsX3_outSlot rmX3_outSlot (va_Pc [.int x0] (Wx_ D cA cf ad A k0 z0)) (va_Qi post (fun u t => Wx_ D cA cf ad A u z0 t) A) 0 0 A :=
  kp_met (by decide +kernel) [.int x0] (Nat.le_of_ble_eq_true rfl) (fun p e s m args below meth c ls S hr hk hw hl => b_X3_outSlot_0 S hr hk x0 k0 _ _ _ hl hw hq)
theorem call_X3_outSlot {z0 k0 : ka_T} {x0 : Int32} {post : Int32 → ka_T → Prop} (S : CallFix p m c cc nL s args lw_gd own) (hw : Wo_ D cA cf ad A k0 z0 s H locs) {index : Nat} (hl : Cond.methodLink own index yX3_outSlot ∈ lw_gd) (hq : q_X3_outSlot cf post x0 k0) (hR : rmX3_outSlot.frames + 1 ≤ R.frames ∧ 8 + (1 + 11) + rmX3_outSlot.locals ≤ R.locals) (hls : ls.size = nL) (hro : (rest.map fun v => v.category).sum ≤ 8) (hcs : cells ≤ R.cells ∧ slots ≤ R.slots) (hd : decode cc pc = .ok (.invokestatic index, 3)) (kk : ∀ (r : Int32) (u : ka_T) (H1 : Heap) (locs1 : List Loc), post r u → Wo_ D cA cf ad A u z0 s H1 locs1 → W p l e R s m args below meth c H1 locs1 cells slots Q (F0 m (pc + 3) ls (.int r :: rest))) : W p l e R s m args below meth c H locs cells slots Q (F0 m pc ls (.int x0 :: rest)) :=
  kg_si (cu := fun u => ce_l cA cf ad u z0) (As := [.int x0]) S hw (c_X3_outSlot z0 k0 x0 hq) wc_X3_outSlot wn_X3 hl wst_X3_outSlot (na := 1) (by decide +kernel) rfl rfl rfl hR hls rfl hro hcs hd kk
abbrev rmX3_emit : Room := { frames := 1, cells := 0, slots := 0, locals := 20 }
set_option maxRecDepth 100000 in
set_option maxHeartbeats 4000000 in
theorem b_X3_emit_0 {post : Int32 → ka_T → Prop} (S : CallFix p m c cX3_emit 2 s args lw_gd RX3) (hr : meth.sig.returnType = some .int) (hk : meth.locks = false) : ∀ (n1 : Nat) (hn1 : n1 < cf 0) (k0 : ka_T) (H : Heap) (locs : List Loc) (ls : Array Slot), lv_has ls 2 [(0, .ref (ad (0, 0))), (1, .ref (ad (6, n1)))] → Wo_ D cA cf ad A k0 z0 s H locs → q_X3_emit cf post n1 k0 → W p l e rmX3_emit s m args below meth c H locs 0 0 (MQ below (va_Qi post (fun u t => Wx_ D cA cf ad A u z0 t) A) args s 0 0 A) (F0 m 0 ls []) := by
  intro n1 hn1 k0 H locs ls hl hw hq
  refine lv_aload_n S.1 S.2.1 dX3_emit_0 rfl (lv_at hl 1 rfl) ?_
  refine gf_201 S hw hn1 wf_X3_108 dX3_emit_1 ?_
  refine gf_101 S hw (vl_n hn1) wf_X3_112 dX3_emit_4 ?_
  refine lv_iconst (v := (1 : Int32)) S.1 S.2.1 dX3_emit_7 (by decide) ?_
  refine lv_icmp_ge (tgt := 13) S.1 S.2.1 dX3_emit_8 rfl (fun h1 => ?_) (fun h1 => ?_)
  · replace hq := hq.1 h1
    refine lv_aload_n S.1 S.2.1 dX3_emit_13 rfl (lv_at hl 0 rfl) ?_
    refine gf_304 S hw wf_X3_16 dX3_emit_14 ?_
    refine lv_aload_n S.1 S.2.1 dX3_emit_17 rfl (lv_at hl 0 rfl) ?_
    refine gf_305 S hw wf_X3_19 dX3_emit_18 ?_
    refine call_X3_outSlot S hw wl_X3_150 hq ⟨Nat.le_of_ble_eq_true rfl, Nat.le_of_ble_eq_true rfl⟩ hl.1 (Nat.le_of_ble_eq_true rfl) ⟨Nat.zero_le _, Nat.zero_le _⟩ dX3_emit_21 (fun r2 k2 H locs hq hw => ?_)
    refine lv_aload_n S.1 S.2.1 dX3_emit_24 rfl (lv_at hl 1 rfl) ?_
    refine gf_201 S hw hn1 wf_X3_108 dX3_emit_25 ?_
    refine call_X1_pop S hw wl_X3_235 (vl_n hn1) hq ⟨Nat.le_of_ble_eq_true rfl, Nat.le_of_ble_eq_true rfl⟩ hl.1 (Nat.le_of_ble_eq_true rfl) ⟨Nat.zero_le _, Nat.zero_le _⟩ dX3_emit_28 (fun r3 k3 H locs hq hw => ?_)
    obtain ⟨hi, hq⟩ := hq
    refine as_5 S hw hi dX3_emit_31 (fun k4 H locs e4 hw => ?_)
    replace hq := hq _ e4
    refine lv_aload_n S.1 S.2.1 dX3_emit_32 rfl (lv_at hl 0 rfl) ?_
    refine lv_dup S.1 S.2.1 dX3_emit_33 rfl ?_
    refine gf_305 S hw wf_X3_19 dX3_emit_34 ?_
    refine lv_iconst (v := (1 : Int32)) S.1 S.2.1 dX3_emit_37 (by decide) ?_
    refine lv_iadd S.1 S.2.1 dX3_emit_38 ?_
    refine pf_305 S hw wf_X3_19 dX3_emit_39 (fun k5 H locs e5 hw => ?_)
    replace hq := hq _ e5
    refine lv_iconst (v := (0 : Int32)) S.1 S.2.1 dX3_emit_42 (by decide) ?_
    exact kr_i (cu := fun u => ce_l cA cf ad u z0) S hr rfl hk hw hq dX3_emit_43
  · replace hq := hq.2 h1
    refine lv_iconst (v := (1 : Int32)) S.1 S.2.1 dX3_emit_11 (by decide) ?_
    exact kr_i (cu := fun u => ce_l cA cf ad u z0) S hr rfl hk hw hq dX3_emit_12
theorem c_X3_emit (z0 k0 : ka_T) (n1 : Nat) (hn1 : n1 < cf 0) {post : Int32 → ka_T → Prop} (hq : q_X3_emit cf post n1 k0) : Met l yX3_emit wsX3_emit rmX3_emit (va_Pc [.ref (ad (0, 0)), .ref (ad (6, n1))] (Wx_ D cA cf ad A k0 z0)) (va_Qi post (fun u t => Wx_ D cA cf ad A u z0 t) A) 0 0 A :=
  kp_met (by decide +kernel) [.ref (ad (0, 0)), .ref (ad (6, n1))] (Nat.le_of_ble_eq_true rfl) (fun p e s m args below meth c ls S hr hk hw hl => b_X3_emit_0 S hr hk n1 hn1 k0 _ _ _ hl hw hq)
theorem call_X3_emit {z0 k0 : ka_T} {n1 : Nat} {post : Int32 → ka_T → Prop} (S : CallFix p m c cc nL s args lw_gd own) (hw : Wo_ D cA cf ad A k0 z0 s H locs) {index : Nat} (hl : Cond.methodLink own index yX3_emit ∈ lw_gd) (hn1 : n1 < cf 0) (hq : q_X3_emit cf post n1 k0) (hR : rmX3_emit.frames + 1 ≤ R.frames ∧ 8 + (2 + 11) + rmX3_emit.locals ≤ R.locals) (hls : ls.size = nL) (hro : (rest.map fun v => v.category).sum ≤ 8) (hcs : cells ≤ R.cells ∧ slots ≤ R.slots) (hd : decode cc pc = .ok (.invokevirtual index, 3)) (kk : ∀ (r : Int32) (u : ka_T) (H1 : Heap) (locs1 : List Loc), post r u → Wo_ D cA cf ad A u z0 s H1 locs1 → W p l e R s m args below meth c H1 locs1 cells slots Q (F0 m (pc + 3) ls (.int r :: rest))) : W p l e R s m args below meth c H locs cells slots Q (F0 m pc ls (.ref (ad (6, n1)) :: .ref (ad (0, 0)) :: rest)) :=
  kg_vi (cu := fun u => ce_l cA cf ad u z0) (As := [.ref (ad (6, n1))]) S hw (q := (0, 0)) (c_X3_emit z0 k0 n1 hn1 hq) wc_X3_emit wn_X3 hl wi_X3_emit (C := RX3) (T := TX3) (N := 9) (ci := 3) (fs := fx_0 cf ad k0 0) wse_X3_emit (km_0) rfl rfl (na := 1) (by decide +kernel) rfl rfl rfl hR hls rfl hro hcs hd kk
abbrev rmX3_emitted : Room := { frames := 0, cells := 0, slots := 0, locals := 0 }
set_option maxRecDepth 100000 in
set_option maxHeartbeats 4000000 in
theorem b_X3_emitted_0 {post : Int32 → ka_T → Prop} (S : CallFix p m c cX3_emitted 1 s args lw_gd RX3) (hr : meth.sig.returnType = some .int) (hk : meth.locks = false) : ∀ (k0 : ka_T) (H : Heap) (locs : List Loc) (ls : Array Slot), lv_has ls 1 [(0, .ref (ad (0, 0)))] → Wo_ D cA cf ad A k0 z0 s H locs → q_X3_emitted cf post k0 → W p l e rmX3_emitted s m args below meth c H locs 0 0 (MQ below (va_Qi post (fun u t => Wx_ D cA cf ad A u z0 t) A) args s 0 0 A) (F0 m 0 ls []) := by
  intro k0 H locs ls hl hw hq
  refine lv_aload_n S.1 S.2.1 dX3_emitted_0 rfl (lv_at hl 0 rfl) ?_
  refine gf_305 S hw wf_X3_19 dX3_emitted_1 ?_
  exact kr_i (cu := fun u => ce_l cA cf ad u z0) S hr rfl hk hw hq dX3_emitted_4
theorem c_X3_emitted (z0 k0 : ka_T) {post : Int32 → ka_T → Prop} (hq : q_X3_emitted cf post  k0) : Met l yX3_emitted wsX3_emitted rmX3_emitted (va_Pc [.ref (ad (0, 0))] (Wx_ D cA cf ad A k0 z0)) (va_Qi post (fun u t => Wx_ D cA cf ad A u z0 t) A) 0 0 A :=
  kp_met (by decide +kernel) [.ref (ad (0, 0))] (Nat.le_of_ble_eq_true rfl) (fun p e s m args below meth c ls S hr hk hw hl => b_X3_emitted_0 S hr hk  k0 _ _ _ hl hw hq)
theorem call_X3_emitted {z0 k0 : ka_T} {post : Int32 → ka_T → Prop} (S : CallFix p m c cc nL s args lw_gd own) (hw : Wo_ D cA cf ad A k0 z0 s H locs) {index : Nat} (hl : Cond.methodLink own index yX3_emitted ∈ lw_gd) (hq : q_X3_emitted cf post  k0) (hR : rmX3_emitted.frames + 1 ≤ R.frames ∧ 8 + (1 + 11) + rmX3_emitted.locals ≤ R.locals) (hls : ls.size = nL) (hro : (rest.map fun v => v.category).sum ≤ 8) (hcs : cells ≤ R.cells ∧ slots ≤ R.slots) (hd : decode cc pc = .ok (.invokevirtual index, 3)) (kk : ∀ (r : Int32) (u : ka_T) (H1 : Heap) (locs1 : List Loc), post r u → Wo_ D cA cf ad A u z0 s H1 locs1 → W p l e R s m args below meth c H1 locs1 cells slots Q (F0 m (pc + 3) ls (.int r :: rest))) : W p l e R s m args below meth c H locs cells slots Q (F0 m pc ls (.ref (ad (0, 0)) :: rest)) :=
  kg_vi (cu := fun u => ce_l cA cf ad u z0) (As := []) S hw (q := (0, 0)) (c_X3_emitted z0 k0  hq) wc_X3_emitted wn_X3 hl wi_X3_emitted (C := RX3) (T := TX3) (N := 9) (ci := 3) (fs := fx_0 cf ad k0 0) wse_X3_emitted (km_0) rfl rfl (na := 0) (by decide +kernel) rfl rfl rfl hR hls rfl hro hcs hd kk
abbrev rmX3_end : Room := { frames := 0, cells := 0, slots := 0, locals := 0 }
set_option maxRecDepth 100000 in
set_option maxHeartbeats 4000000 in
theorem b_X3_end_0 {post : ka_T → Prop} (S : CallFix p m c cX3_end 2 s args lw_gd RX3) (hr : meth.sig.returnType = none) (hk : meth.locks = false) : ∀ (n0 : Nat) (hn0 : n0 < cf 0) (x1 : Int32) (k0 : ka_T) (H : Heap) (locs : List Loc) (ls : Array Slot), lv_has ls 2 [(0, .ref (ad (6, n0))), (1, .int x1)] → Wo_ D cA cf ad A k0 z0 s H locs → q_X3_end cf post n0 x1 k0 → W p l e rmX3_end s m args below meth c H locs 0 0 (MQ below (va_Qv post (fun u t => Wx_ D cA cf ad A u z0 t) A) args s 0 0 A) (F0 m 0 ls []) := by
  intro n0 hn0 x1 k0 H locs ls hl hw hq
  refine lv_aload_n S.1 S.2.1 dX3_end_0 rfl (lv_at hl 0 rfl) ?_
  refine lv_iconst (v := (0 : Int32)) S.1 S.2.1 dX3_end_1 (by decide) ?_
  refine pf_203 S hw hn0 wf_X3_71 dX3_end_2 (fun k1 H locs e1 hw => ?_)
  replace hq := hq _ e1
  refine lv_aload_n S.1 S.2.1 dX3_end_5 rfl (lv_at hl 0 rfl) ?_
  refine lv_iload_n S.1 S.2.1 dX3_end_6 rfl (lv_at hl 1 rfl) ?_
  refine pf_210 S hw hn0 wf_X3_153 dX3_end_7 (fun k2 H locs e2 hw => ?_)
  replace hq := hq _ e2
  exact kr_v (cu := fun u => ce_l cA cf ad u z0) S hr hk hw hq dX3_end_10
theorem c_X3_end (z0 k0 : ka_T) (n0 : Nat) (hn0 : n0 < cf 0) (x1 : Int32) {post : ka_T → Prop} (hq : q_X3_end cf post n0 x1 k0) : Met l yX3_end wsX3_end rmX3_end (va_Pc [.ref (ad (6, n0)), .int x1] (Wx_ D cA cf ad A k0 z0)) (va_Qv post (fun u t => Wx_ D cA cf ad A u z0 t) A) 0 0 A :=
  kp_met (by decide +kernel) [.ref (ad (6, n0)), .int x1] (Nat.le_of_ble_eq_true rfl) (fun p e s m args below meth c ls S hr hk hw hl => b_X3_end_0 S hr hk n0 hn0 x1 k0 _ _ _ hl hw hq)
theorem call_X3_end {z0 k0 : ka_T} {n0 : Nat} {x1 : Int32} {post : ka_T → Prop} (S : CallFix p m c cc nL s args lw_gd own) (hw : Wo_ D cA cf ad A k0 z0 s H locs) {index : Nat} (hl : Cond.methodLink own index yX3_end ∈ lw_gd) (hn0 : n0 < cf 0) (hq : q_X3_end cf post n0 x1 k0) (hR : rmX3_end.frames + 1 ≤ R.frames ∧ 8 + (2 + 11) + rmX3_end.locals ≤ R.locals) (hls : ls.size = nL) (hro : (rest.map fun v => v.category).sum ≤ 8) (hcs : cells ≤ R.cells ∧ slots ≤ R.slots) (hd : decode cc pc = .ok (.invokestatic index, 3)) (kk : ∀ (u : ka_T) (H1 : Heap) (locs1 : List Loc), post u → Wo_ D cA cf ad A u z0 s H1 locs1 → W p l e R s m args below meth c H1 locs1 cells slots Q (F0 m (pc + 3) ls rest)) : W p l e R s m args below meth c H locs cells slots Q (F0 m pc ls (.int x1 :: .ref (ad (6, n0)) :: rest)) :=
  kg_sw (cu := fun u => ce_l cA cf ad u z0) (As := [.ref (ad (6, n0)), .int x1]) S hw (c_X3_end z0 k0 n0 hn0 x1 hq) wc_X3_end wn_X3 hl wst_X3_end (na := 2) (by decide +kernel) rfl rfl rfl hR hls rfl hro hcs hd kk
abbrev rmX3_firstDueSleeper : Room := { frames := 0, cells := 0, slots := 0, locals := 0 }
set_option maxRecDepth 100000 in
set_option maxHeartbeats 4000000 in
theorem b_X3_firstDueSleeper_4 {post : Option Nat → ka_T → Prop} (S : CallFix p m c cX3_firstDueSleeper 4 s args lw_gd RX3) (hr : meth.sig.returnType = some (.object "TaskKernel$Task")) (hk : meth.locks = false) : ∀ nf : Nat, ∀ (o1 : Option Nat) (ho1 : ∀ n : Nat, o1 = some n → n < cf 0) (x2 : Int32) (k0 : ka_T) (H : Heap) (locs : List Loc) (ls : Array Slot), lv_has ls 4 [(0, .ref (ad (0, 0))), (1, va_rf (o1.map (fun n => ad (6, n)))), (2, .int x2)] → Wo_ D cA cf ad A k0 z0 s H locs → q_X3_firstDueSleeper_4 cf post nf o1 x2 k0 → W p l e rmX3_firstDueSleeper s m args below meth c H locs 0 0 (MQ below (va_Qq (pq_ cf ad post) (fun u t => Wx_ D cA cf ad A u z0 t) A) args s 0 0 A) (F0 m 4 ls []) := by
  intro nf
  induction nf with
  | zero =>
    intro o1 ho1 x2 k0 H locs ls hl hw hq
    exact False.elim hq
  | succ nf ih =>
    intro o1 ho1 x2 k0 H locs ls hl hw hq
    rcases o1 with _ | n1
    · replace hq := hq.1 rfl
      replace hl : lv_has ls 4 [(0, .ref (ad (0, 0))), (1, .null), (2, .int x2)] := hl
      refine lv_iload_n S.1 S.2.1 dX3_firstDueSleeper_4 rfl (lv_at hl 2 rfl) ?_
      refine lv_aload_n S.1 S.2.1 dX3_firstDueSleeper_5 rfl (lv_at hl 0 rfl) ?_
      refine gf_300 S hw wf_X3_39 dX3_firstDueSleeper_6 ?_
      refine an_1 S hw dX3_firstDueSleeper_9 ?_
      refine lv_icmp_ge (tgt := 62) S.1 S.2.1 dX3_firstDueSleeper_10 rfl (fun h1 => ?_) (fun h1 => ?_)
      · replace hq := hq.1 h1
        refine lv_aload_nN S.1 S.2.1 dX3_firstDueSleeper_62 rfl (lv_at hl 1 rfl) ?_
        exact kr_q (cu := fun u => ce_l cA cf ad u z0) none S hr hk hw ⟨none, rfl, fun _ h => (by cases h), hq⟩ dX3_firstDueSleeper_63
      · replace hq := hq.2 h1
        refine lv_aload_n S.1 S.2.1 dX3_firstDueSleeper_13 rfl (lv_at hl 0 rfl) ?_
        refine gf_300 S hw wf_X3_39 dX3_firstDueSleeper_14 ?_
        refine lv_iload_n S.1 S.2.1 dX3_firstDueSleeper_17 rfl (lv_at hl 2 rfl) ?_
        obtain ⟨hi, hq⟩ := hq
        refine ar_1 S hw hi dX3_firstDueSleeper_18 (fun t2 e2 ht2 => ?_)
        replace hq := hq _ e2 ht2
        refine lv_astore_n (lv' := [(3, .ref (ad (6, t2))), (0, .ref (ad (0, 0))), (1, .null), (2, .int x2)]) S.1 S.2.1 dX3_firstDueSleeper_19 rfl hl (by decide) rfl (fun ls hl => ?_)
        refine lv_aload_n S.1 S.2.1 dX3_firstDueSleeper_20 rfl (lv_at hl 0 rfl) ?_
        refine gf_203 S hw ht2 wf_X3_71 dX3_firstDueSleeper_21 ?_
        refine lv_iconst (v := (2 : Int32)) S.1 S.2.1 dX3_firstDueSleeper_24 (by decide) ?_
        refine lv_icmp_ne (tgt := 56) S.1 S.2.1 dX3_firstDueSleeper_25 rfl (fun h3 => ?_) (fun h3 => ?_)
        · replace hq := hq.1 h3
          refine lv_iinc (k := 3) (v := (x2 + 1)) (lv' := [(2, .int (x2 + 1)), (3, .ref (ad (6, t2))), (0, .ref (ad (0, 0))), (1, .null)]) S.1 S.2.1 dX3_firstDueSleeper_56 hl rfl (ii_1 _) (by decide) rfl (fun ls hl => ?_)
          refine lv_goto (tgt := 4) S.1 S.2.1 dX3_firstDueSleeper_59 rfl ?_
          exact ih none (fun _ h => by cases h) (x2 + 1) k0 _ _ _ (lv_sub hl [2, 3, 0] rfl) hw hq
        · replace hq := hq.2 h3
          refine lv_aload_n S.1 S.2.1 dX3_firstDueSleeper_28 rfl (lv_at hl 0 rfl) ?_
          refine gf_207 S hw ht2 wf_X3_120 dX3_firstDueSleeper_29 ?_
          refine lv_aload_n S.1 S.2.1 dX3_firstDueSleeper_32 rfl (lv_at hl 1 rfl) ?_
          refine gf_306 S hw wf_X3_23 dX3_firstDueSleeper_33 ?_
          refine lv_icmp_ne (tgt := 56) S.1 S.2.1 dX3_firstDueSleeper_36 rfl (fun h4 => ?_) (fun h4 => ?_)
          · replace hq := hq.1 h4
            refine lv_iinc (k := 3) (v := (x2 + 1)) (lv' := [(2, .int (x2 + 1)), (3, .ref (ad (6, t2))), (0, .ref (ad (0, 0))), (1, .null)]) S.1 S.2.1 dX3_firstDueSleeper_56 hl rfl (ii_1 _) (by decide) rfl (fun ls hl => ?_)
            refine lv_goto (tgt := 4) S.1 S.2.1 dX3_firstDueSleeper_59 rfl ?_
            exact ih none (fun _ h => by cases h) (x2 + 1) k0 _ _ _ (lv_sub hl [2, 3, 0] rfl) hw hq
          · replace hq := hq.2 h4
            refine lv_aload_nN S.1 S.2.1 dX3_firstDueSleeper_39 rfl (lv_at hl 2 rfl) ?_
            refine lv_ifnullN (tgt := 54) S.1 S.2.1 dX3_firstDueSleeper_40 rfl ?_
            refine lv_aload_n S.1 S.2.1 dX3_firstDueSleeper_54 rfl (lv_at hl 0 rfl) ?_
            refine lv_astore_n (lv' := [(1, .ref (ad (6, t2))), (3, .ref (ad (6, t2))), (0, .ref (ad (0, 0))), (2, .int x2)]) S.1 S.2.1 dX3_firstDueSleeper_55 rfl hl (by decide) rfl (fun ls hl => ?_)
            refine lv_iinc (k := 3) (v := (x2 + 1)) (lv' := [(2, .int (x2 + 1)), (1, .ref (ad (6, t2))), (3, .ref (ad (6, t2))), (0, .ref (ad (0, 0)))]) S.1 S.2.1 dX3_firstDueSleeper_56 hl rfl (ii_1 _) (by decide) rfl (fun ls hl => ?_)
            refine lv_goto (tgt := 4) S.1 S.2.1 dX3_firstDueSleeper_59 rfl ?_
            exact ih (some t2) (fun _ h => by cases h; exact ht2) (x2 + 1) k0 _ _ _ (lv_sub hl [3, 1, 0] rfl) hw hq
    · have hn1 : n1 < cf 0 := ho1 n1 rfl
      replace hq := hq.2 n1 rfl hn1
      replace hl : lv_has ls 4 [(0, .ref (ad (0, 0))), (1, .ref (ad (6, n1))), (2, .int x2)] := hl
      refine lv_iload_n S.1 S.2.1 dX3_firstDueSleeper_4 rfl (lv_at hl 2 rfl) ?_
      refine lv_aload_n S.1 S.2.1 dX3_firstDueSleeper_5 rfl (lv_at hl 0 rfl) ?_
      refine gf_300 S hw wf_X3_39 dX3_firstDueSleeper_6 ?_
      refine an_1 S hw dX3_firstDueSleeper_9 ?_
      refine lv_icmp_ge (tgt := 62) S.1 S.2.1 dX3_firstDueSleeper_10 rfl (fun h5 => ?_) (fun h5 => ?_)
      · replace hq := hq.1 h5
        refine lv_aload_n S.1 S.2.1 dX3_firstDueSleeper_62 rfl (lv_at hl 1 rfl) ?_
        exact kr_q (cu := fun u => ce_l cA cf ad u z0) (some (ad (6, n1))) S hr hk hw ⟨some n1, rfl, fun _ h => (by cases h; exact hn1), hq⟩ dX3_firstDueSleeper_63
      · replace hq := hq.2 h5
        refine lv_aload_n S.1 S.2.1 dX3_firstDueSleeper_13 rfl (lv_at hl 0 rfl) ?_
        refine gf_300 S hw wf_X3_39 dX3_firstDueSleeper_14 ?_
        refine lv_iload_n S.1 S.2.1 dX3_firstDueSleeper_17 rfl (lv_at hl 2 rfl) ?_
        obtain ⟨hi, hq⟩ := hq
        refine ar_1 S hw hi dX3_firstDueSleeper_18 (fun t6 e6 ht6 => ?_)
        replace hq := hq _ e6 ht6
        refine lv_astore_n (lv' := [(3, .ref (ad (6, t6))), (0, .ref (ad (0, 0))), (1, .ref (ad (6, n1))), (2, .int x2)]) S.1 S.2.1 dX3_firstDueSleeper_19 rfl hl (by decide) rfl (fun ls hl => ?_)
        refine lv_aload_n S.1 S.2.1 dX3_firstDueSleeper_20 rfl (lv_at hl 0 rfl) ?_
        refine gf_203 S hw ht6 wf_X3_71 dX3_firstDueSleeper_21 ?_
        refine lv_iconst (v := (2 : Int32)) S.1 S.2.1 dX3_firstDueSleeper_24 (by decide) ?_
        refine lv_icmp_ne (tgt := 56) S.1 S.2.1 dX3_firstDueSleeper_25 rfl (fun h7 => ?_) (fun h7 => ?_)
        · replace hq := hq.1 h7
          refine lv_iinc (k := 3) (v := (x2 + 1)) (lv' := [(2, .int (x2 + 1)), (3, .ref (ad (6, t6))), (0, .ref (ad (0, 0))), (1, .ref (ad (6, n1)))]) S.1 S.2.1 dX3_firstDueSleeper_56 hl rfl (ii_1 _) (by decide) rfl (fun ls hl => ?_)
          refine lv_goto (tgt := 4) S.1 S.2.1 dX3_firstDueSleeper_59 rfl ?_
          exact ih (some n1) (fun _ h => by cases h; exact hn1) (x2 + 1) k0 _ _ _ (lv_sub hl [2, 3, 0] rfl) hw hq
        · replace hq := hq.2 h7
          refine lv_aload_n S.1 S.2.1 dX3_firstDueSleeper_28 rfl (lv_at hl 0 rfl) ?_
          refine gf_207 S hw ht6 wf_X3_120 dX3_firstDueSleeper_29 ?_
          refine lv_aload_n S.1 S.2.1 dX3_firstDueSleeper_32 rfl (lv_at hl 1 rfl) ?_
          refine gf_306 S hw wf_X3_23 dX3_firstDueSleeper_33 ?_
          refine lv_icmp_ne (tgt := 56) S.1 S.2.1 dX3_firstDueSleeper_36 rfl (fun h8 => ?_) (fun h8 => ?_)
          · replace hq := hq.1 h8
            refine lv_iinc (k := 3) (v := (x2 + 1)) (lv' := [(2, .int (x2 + 1)), (3, .ref (ad (6, t6))), (0, .ref (ad (0, 0))), (1, .ref (ad (6, n1)))]) S.1 S.2.1 dX3_firstDueSleeper_56 hl rfl (ii_1 _) (by decide) rfl (fun ls hl => ?_)
            refine lv_goto (tgt := 4) S.1 S.2.1 dX3_firstDueSleeper_59 rfl ?_
            exact ih (some n1) (fun _ h => by cases h; exact hn1) (x2 + 1) k0 _ _ _ (lv_sub hl [2, 3, 0] rfl) hw hq
          · replace hq := hq.2 h8
            refine lv_aload_n S.1 S.2.1 dX3_firstDueSleeper_39 rfl (lv_at hl 2 rfl) ?_
            refine lv_ifnull S.1 S.2.1 dX3_firstDueSleeper_40 ?_
            refine lv_aload_n S.1 S.2.1 dX3_firstDueSleeper_43 rfl (lv_at hl 0 rfl) ?_
            refine gf_206 S hw ht6 wf_X3_164 dX3_firstDueSleeper_44 ?_
            refine lv_aload_n S.1 S.2.1 dX3_firstDueSleeper_47 rfl (lv_at hl 2 rfl) ?_
            refine gf_206 S hw hn1 wf_X3_164 dX3_firstDueSleeper_48 ?_
            refine lv_icmp_ge (tgt := 56) S.1 S.2.1 dX3_firstDueSleeper_51 rfl (fun h9 => ?_) (fun h9 => ?_)
            · replace hq := hq.1 h9
              refine lv_iinc (k := 3) (v := (x2 + 1)) (lv' := [(2, .int (x2 + 1)), (3, .ref (ad (6, t6))), (0, .ref (ad (0, 0))), (1, .ref (ad (6, n1)))]) S.1 S.2.1 dX3_firstDueSleeper_56 hl rfl (ii_1 _) (by decide) rfl (fun ls hl => ?_)
              refine lv_goto (tgt := 4) S.1 S.2.1 dX3_firstDueSleeper_59 rfl ?_
              exact ih (some n1) (fun _ h => by cases h; exact hn1) (x2 + 1) k0 _ _ _ (lv_sub hl [2, 3, 0] rfl) hw hq
            · replace hq := hq.2 h9
              refine lv_aload_n S.1 S.2.1 dX3_firstDueSleeper_54 rfl (lv_at hl 0 rfl) ?_
              refine lv_astore_n (lv' := [(1, .ref (ad (6, t6))), (3, .ref (ad (6, t6))), (0, .ref (ad (0, 0))), (2, .int x2)]) S.1 S.2.1 dX3_firstDueSleeper_55 rfl hl (by decide) rfl (fun ls hl => ?_)
              refine lv_iinc (k := 3) (v := (x2 + 1)) (lv' := [(2, .int (x2 + 1)), (1, .ref (ad (6, t6))), (3, .ref (ad (6, t6))), (0, .ref (ad (0, 0)))]) S.1 S.2.1 dX3_firstDueSleeper_56 hl rfl (ii_1 _) (by decide) rfl (fun ls hl => ?_)
              refine lv_goto (tgt := 4) S.1 S.2.1 dX3_firstDueSleeper_59 rfl ?_
              exact ih (some t6) (fun _ h => by cases h; exact ht6) (x2 + 1) k0 _ _ _ (lv_sub hl [3, 1, 0] rfl) hw hq
set_option maxRecDepth 100000 in
set_option maxHeartbeats 4000000 in
theorem b_X3_firstDueSleeper_0 {post : Option Nat → ka_T → Prop} (S : CallFix p m c cX3_firstDueSleeper 4 s args lw_gd RX3) (hr : meth.sig.returnType = some (.object "TaskKernel$Task")) (hk : meth.locks = false) : ∀ (k0 : ka_T) (H : Heap) (locs : List Loc) (ls : Array Slot), lv_has ls 4 [(0, .ref (ad (0, 0)))] → Wo_ D cA cf ad A k0 z0 s H locs → q_X3_firstDueSleeper cf post k0 → W p l e rmX3_firstDueSleeper s m args below meth c H locs 0 0 (MQ below (va_Qq (pq_ cf ad post) (fun u t => Wx_ D cA cf ad A u z0 t) A) args s 0 0 A) (F0 m 0 ls []) := by
  intro k0 H locs ls hl hw hq
  refine lv_null S.1 S.2.1 dX3_firstDueSleeper_0 ?_
  refine lv_astore_nN (lv' := [(1, .null), (0, .ref (ad (0, 0)))]) S.1 S.2.1 dX3_firstDueSleeper_1 rfl hl (by decide) rfl (fun ls hl => ?_)
  refine lv_iconst (v := (0 : Int32)) S.1 S.2.1 dX3_firstDueSleeper_2 (by decide) ?_
  refine lv_istore_n (lv' := [(2, .int (0 : Int32)), (1, .null), (0, .ref (ad (0, 0)))]) S.1 S.2.1 dX3_firstDueSleeper_3 rfl hl (by decide) rfl (fun ls hl => ?_)
  obtain ⟨nf9, hq⟩ := hq
  exact b_X3_firstDueSleeper_4 S hr hk nf9 none (fun _ h => by cases h) (0 : Int32) k0 _ _ _ (lv_sub hl [2, 1, 0] rfl) hw hq
theorem c_X3_firstDueSleeper (z0 k0 : ka_T) {post : Option Nat → ka_T → Prop} (hq : q_X3_firstDueSleeper cf post  k0) : Met l yX3_firstDueSleeper wsX3_firstDueSleeper rmX3_firstDueSleeper (va_Pc [.ref (ad (0, 0))] (Wx_ D cA cf ad A k0 z0)) (va_Qq (pq_ cf ad post) (fun u t => Wx_ D cA cf ad A u z0 t) A) 0 0 A :=
  kp_met (by decide +kernel) [.ref (ad (0, 0))] (Nat.le_of_ble_eq_true rfl) (fun p e s m args below meth c ls S hr hk hw hl => b_X3_firstDueSleeper_0 S hr hk  k0 _ _ _ hl hw hq)
theorem call_X3_firstDueSleeper {z0 k0 : ka_T} {post : Option Nat → ka_T → Prop} (S : CallFix p m c cc nL s args lw_gd own) (hw : Wo_ D cA cf ad A k0 z0 s H locs) {index : Nat} (hl : Cond.methodLink own index yX3_firstDueSleeper ∈ lw_gd) (hq : q_X3_firstDueSleeper cf post  k0) (hR : rmX3_firstDueSleeper.frames + 1 ≤ R.frames ∧ 8 + (4 + 11) + rmX3_firstDueSleeper.locals ≤ R.locals) (hls : ls.size = nL) (hro : (rest.map fun v => v.category).sum ≤ 8) (hcs : cells ≤ R.cells ∧ slots ≤ R.slots) (hd : decode cc pc = .ok (.invokevirtual index, 3)) (kn : ∀ (u : ka_T) (H1 : Heap) (locs1 : List Loc), post none u → Wo_ D cA cf ad A u z0 s H1 locs1 → W p l e R s m args below meth c H1 locs1 cells slots Q (F0 m (pc + 3) ls (.null :: rest))) (ks : ∀ (n : Nat) (u : ka_T) (H1 : Heap) (locs1 : List Loc), n < cf 0 → post (some n) u → Wo_ D cA cf ad A u z0 s H1 locs1 → W p l e R s m args below meth c H1 locs1 cells slots Q (F0 m (pc + 3) ls (.ref (ad (6, n)) :: rest))) : W p l e R s m args below meth c H locs cells slots Q (F0 m pc ls (.ref (ad (0, 0)) :: rest)) :=
  kg_vq (cu := fun u => ce_l cA cf ad u z0) (As := []) S hw (q := (0, 0)) (c_X3_firstDueSleeper z0 k0  hq) wc_X3_firstDueSleeper wn_X3 hl wi_X3_firstDueSleeper (C := RX3) (T := TX3) (N := 9) (ci := 3) (fs := fx_0 cf ad k0 0) wse_X3_firstDueSleeper (km_0) rfl rfl (na := 0) (by decide +kernel) rfl rfl rfl hR hls rfl hro hcs hd (fun r u H1 locs1 hp hw1 => by
    obtain ⟨r1, rfl, hv, hp⟩ := hp
    cases r1 with
    | none => exact kn u H1 locs1 hp hw1
    | some n => exact ks n u H1 locs1 (hv n rfl) hp hw1)
abbrev rmX3_firstWaiting : Room := { frames := 1, cells := 0, slots := 0, locals := 22 }
set_option maxRecDepth 100000 in
set_option maxHeartbeats 4000000 in
theorem b_X3_firstWaiting_5 {post : Option Nat → ka_T → Prop} (S : CallFix p m c cX3_firstWaiting 6 s args lw_gd RX3) (hr : meth.sig.returnType = some (.object "TaskKernel$Task")) (hk : meth.locks = false) : ∀ nf : Nat, ∀ (x1 : Int32) (x2 : Int32) (o3 : Option Nat) (ho3 : ∀ n : Nat, o3 = some n → n < cf 0) (x4 : Int32) (k0 : ka_T) (H : Heap) (locs : List Loc) (ls : Array Slot), lv_has ls 6 [(0, .ref (ad (0, 0))), (1, .int x1), (2, .int x2), (3, va_rf (o3.map (fun n => ad (6, n)))), (4, .int x4)] → Wo_ D cA cf ad A k0 z0 s H locs → q_X3_firstWaiting_5 cf post nf x1 x2 o3 x4 k0 → W p l e rmX3_firstWaiting s m args below meth c H locs 0 0 (MQ below (va_Qq (pq_ cf ad post) (fun u t => Wx_ D cA cf ad A u z0 t) A) args s 0 0 A) (F0 m 5 ls []) := by
  intro nf
  induction nf with
  | zero =>
    intro x1 x2 o3 ho3 x4 k0 H locs ls hl hw hq
    exact False.elim hq
  | succ nf ih =>
    intro x1 x2 o3 ho3 x4 k0 H locs ls hl hw hq
    rcases o3 with _ | n3
    · replace hq := hq.1 rfl
      replace hl : lv_has ls 6 [(0, .ref (ad (0, 0))), (1, .int x1), (2, .int x2), (3, .null), (4, .int x4)] := hl
      refine lv_iload S.1 S.2.1 dX3_firstWaiting_5 (lv_at hl 4 rfl) ?_
      refine lv_aload_n S.1 S.2.1 dX3_firstWaiting_7 rfl (lv_at hl 0 rfl) ?_
      refine gf_300 S hw wf_X3_39 dX3_firstWaiting_8 ?_
      refine an_1 S hw dX3_firstWaiting_11 ?_
      refine lv_icmp_ge (tgt := 59) S.1 S.2.1 dX3_firstWaiting_12 rfl (fun h1 => ?_) (fun h1 => ?_)
      · replace hq := hq.1 h1
        refine lv_aload_nN S.1 S.2.1 dX3_firstWaiting_59 rfl (lv_at hl 3 rfl) ?_
        exact kr_q (cu := fun u => ce_l cA cf ad u z0) none S hr hk hw ⟨none, rfl, fun _ h => (by cases h), hq⟩ dX3_firstWaiting_60
      · replace hq := hq.2 h1
        refine lv_aload_n S.1 S.2.1 dX3_firstWaiting_15 rfl (lv_at hl 0 rfl) ?_
        refine gf_300 S hw wf_X3_39 dX3_firstWaiting_16 ?_
        refine lv_iload S.1 S.2.1 dX3_firstWaiting_19 (lv_at hl 4 rfl) ?_
        obtain ⟨hi, hq⟩ := hq
        refine ar_1 S hw hi dX3_firstWaiting_21 (fun t2 e2 ht2 => ?_)
        replace hq := hq _ e2 ht2
        refine lv_astore (lv' := [(5, .ref (ad (6, t2))), (0, .ref (ad (0, 0))), (1, .int x1), (2, .int x2), (3, .null), (4, .int x4)]) S.1 S.2.1 dX3_firstWaiting_22 hl (by decide) rfl (fun ls hl => ?_)
        refine lv_aload S.1 S.2.1 dX3_firstWaiting_24 (lv_at hl 0 rfl) ?_
        refine lv_iload_n S.1 S.2.1 dX3_firstWaiting_26 rfl (lv_at hl 2 rfl) ?_
        refine lv_iload_n S.1 S.2.1 dX3_firstWaiting_27 rfl (lv_at hl 3 rfl) ?_
        refine call_X2_isWaiting S hw wl_X3_140 ht2 hq ⟨Nat.le_of_ble_eq_true rfl, Nat.le_of_ble_eq_true rfl⟩ hl.1 (Nat.le_of_ble_eq_true rfl) ⟨Nat.zero_le _, Nat.zero_le _⟩ dX3_firstWaiting_28 (fun r3 k3 H locs hq hw => ?_)
        refine lv_if_eq (tgt := 53) S.1 S.2.1 dX3_firstWaiting_31 rfl (fun h4 => ?_) (fun h4 => ?_)
        · replace hq := hq.1 h4
          refine lv_iinc (k := 5) (v := (x4 + 1)) (lv' := [(4, .int (x4 + 1)), (5, .ref (ad (6, t2))), (0, .ref (ad (0, 0))), (1, .int x1), (2, .int x2), (3, .null)]) S.1 S.2.1 dX3_firstWaiting_53 hl rfl (ii_1 _) (by decide) rfl (fun ls hl => ?_)
          refine lv_goto (tgt := 5) S.1 S.2.1 dX3_firstWaiting_56 rfl ?_
          exact ih x1 x2 none (fun _ h => by cases h) (x4 + 1) k3 _ _ _ (lv_sub hl [2, 3, 4, 5, 0] rfl) hw hq
        · replace hq := hq.2 h4
          refine lv_aload_nN S.1 S.2.1 dX3_firstWaiting_34 rfl (lv_at hl 4 rfl) ?_
          refine lv_ifnullN (tgt := 50) S.1 S.2.1 dX3_firstWaiting_35 rfl ?_
          refine lv_aload S.1 S.2.1 dX3_firstWaiting_50 (lv_at hl 0 rfl) ?_
          refine lv_astore_n (lv' := [(3, .ref (ad (6, t2))), (5, .ref (ad (6, t2))), (0, .ref (ad (0, 0))), (1, .int x1), (2, .int x2), (4, .int x4)]) S.1 S.2.1 dX3_firstWaiting_52 rfl hl (by decide) rfl (fun ls hl => ?_)
          refine lv_iinc (k := 5) (v := (x4 + 1)) (lv' := [(4, .int (x4 + 1)), (3, .ref (ad (6, t2))), (5, .ref (ad (6, t2))), (0, .ref (ad (0, 0))), (1, .int x1), (2, .int x2)]) S.1 S.2.1 dX3_firstWaiting_53 hl rfl (ii_1 _) (by decide) rfl (fun ls hl => ?_)
          refine lv_goto (tgt := 5) S.1 S.2.1 dX3_firstWaiting_56 rfl ?_
          exact ih x1 x2 (some t2) (fun _ h => by cases h; exact ht2) (x4 + 1) k3 _ _ _ (lv_sub hl [3, 4, 5, 1, 0] rfl) hw hq
    · have hn3 : n3 < cf 0 := ho3 n3 rfl
      replace hq := hq.2 n3 rfl hn3
      replace hl : lv_has ls 6 [(0, .ref (ad (0, 0))), (1, .int x1), (2, .int x2), (3, .ref (ad (6, n3))), (4, .int x4)] := hl
      refine lv_iload S.1 S.2.1 dX3_firstWaiting_5 (lv_at hl 4 rfl) ?_
      refine lv_aload_n S.1 S.2.1 dX3_firstWaiting_7 rfl (lv_at hl 0 rfl) ?_
      refine gf_300 S hw wf_X3_39 dX3_firstWaiting_8 ?_
      refine an_1 S hw dX3_firstWaiting_11 ?_
      refine lv_icmp_ge (tgt := 59) S.1 S.2.1 dX3_firstWaiting_12 rfl (fun h5 => ?_) (fun h5 => ?_)
      · replace hq := hq.1 h5
        refine lv_aload_n S.1 S.2.1 dX3_firstWaiting_59 rfl (lv_at hl 3 rfl) ?_
        exact kr_q (cu := fun u => ce_l cA cf ad u z0) (some (ad (6, n3))) S hr hk hw ⟨some n3, rfl, fun _ h => (by cases h; exact hn3), hq⟩ dX3_firstWaiting_60
      · replace hq := hq.2 h5
        refine lv_aload_n S.1 S.2.1 dX3_firstWaiting_15 rfl (lv_at hl 0 rfl) ?_
        refine gf_300 S hw wf_X3_39 dX3_firstWaiting_16 ?_
        refine lv_iload S.1 S.2.1 dX3_firstWaiting_19 (lv_at hl 4 rfl) ?_
        obtain ⟨hi, hq⟩ := hq
        refine ar_1 S hw hi dX3_firstWaiting_21 (fun t6 e6 ht6 => ?_)
        replace hq := hq _ e6 ht6
        refine lv_astore (lv' := [(5, .ref (ad (6, t6))), (0, .ref (ad (0, 0))), (1, .int x1), (2, .int x2), (3, .ref (ad (6, n3))), (4, .int x4)]) S.1 S.2.1 dX3_firstWaiting_22 hl (by decide) rfl (fun ls hl => ?_)
        refine lv_aload S.1 S.2.1 dX3_firstWaiting_24 (lv_at hl 0 rfl) ?_
        refine lv_iload_n S.1 S.2.1 dX3_firstWaiting_26 rfl (lv_at hl 2 rfl) ?_
        refine lv_iload_n S.1 S.2.1 dX3_firstWaiting_27 rfl (lv_at hl 3 rfl) ?_
        refine call_X2_isWaiting S hw wl_X3_140 ht6 hq ⟨Nat.le_of_ble_eq_true rfl, Nat.le_of_ble_eq_true rfl⟩ hl.1 (Nat.le_of_ble_eq_true rfl) ⟨Nat.zero_le _, Nat.zero_le _⟩ dX3_firstWaiting_28 (fun r7 k7 H locs hq hw => ?_)
        refine lv_if_eq (tgt := 53) S.1 S.2.1 dX3_firstWaiting_31 rfl (fun h8 => ?_) (fun h8 => ?_)
        · replace hq := hq.1 h8
          refine lv_iinc (k := 5) (v := (x4 + 1)) (lv' := [(4, .int (x4 + 1)), (5, .ref (ad (6, t6))), (0, .ref (ad (0, 0))), (1, .int x1), (2, .int x2), (3, .ref (ad (6, n3)))]) S.1 S.2.1 dX3_firstWaiting_53 hl rfl (ii_1 _) (by decide) rfl (fun ls hl => ?_)
          refine lv_goto (tgt := 5) S.1 S.2.1 dX3_firstWaiting_56 rfl ?_
          exact ih x1 x2 (some n3) (fun _ h => by cases h; exact hn3) (x4 + 1) k7 _ _ _ (lv_sub hl [2, 3, 4, 5, 0] rfl) hw hq
        · replace hq := hq.2 h8
          refine lv_aload_n S.1 S.2.1 dX3_firstWaiting_34 rfl (lv_at hl 4 rfl) ?_
          refine lv_ifnull S.1 S.2.1 dX3_firstWaiting_35 ?_
          refine lv_aload S.1 S.2.1 dX3_firstWaiting_38 (lv_at hl 0 rfl) ?_
          refine gf_206 S hw ht6 wf_X3_164 dX3_firstWaiting_40 ?_
          refine lv_aload_n S.1 S.2.1 dX3_firstWaiting_43 rfl (lv_at hl 4 rfl) ?_
          refine gf_206 S hw hn3 wf_X3_164 dX3_firstWaiting_44 ?_
          refine lv_icmp_ge (tgt := 53) S.1 S.2.1 dX3_firstWaiting_47 rfl (fun h9 => ?_) (fun h9 => ?_)
          · replace hq := hq.1 h9
            refine lv_iinc (k := 5) (v := (x4 + 1)) (lv' := [(4, .int (x4 + 1)), (5, .ref (ad (6, t6))), (0, .ref (ad (0, 0))), (1, .int x1), (2, .int x2), (3, .ref (ad (6, n3)))]) S.1 S.2.1 dX3_firstWaiting_53 hl rfl (ii_1 _) (by decide) rfl (fun ls hl => ?_)
            refine lv_goto (tgt := 5) S.1 S.2.1 dX3_firstWaiting_56 rfl ?_
            exact ih x1 x2 (some n3) (fun _ h => by cases h; exact hn3) (x4 + 1) k7 _ _ _ (lv_sub hl [2, 3, 4, 5, 0] rfl) hw hq
          · replace hq := hq.2 h9
            refine lv_aload S.1 S.2.1 dX3_firstWaiting_50 (lv_at hl 0 rfl) ?_
            refine lv_astore_n (lv' := [(3, .ref (ad (6, t6))), (5, .ref (ad (6, t6))), (0, .ref (ad (0, 0))), (1, .int x1), (2, .int x2), (4, .int x4)]) S.1 S.2.1 dX3_firstWaiting_52 rfl hl (by decide) rfl (fun ls hl => ?_)
            refine lv_iinc (k := 5) (v := (x4 + 1)) (lv' := [(4, .int (x4 + 1)), (3, .ref (ad (6, t6))), (5, .ref (ad (6, t6))), (0, .ref (ad (0, 0))), (1, .int x1), (2, .int x2)]) S.1 S.2.1 dX3_firstWaiting_53 hl rfl (ii_1 _) (by decide) rfl (fun ls hl => ?_)
            refine lv_goto (tgt := 5) S.1 S.2.1 dX3_firstWaiting_56 rfl ?_
            exact ih x1 x2 (some t6) (fun _ h => by cases h; exact ht6) (x4 + 1) k7 _ _ _ (lv_sub hl [3, 4, 5, 1, 0] rfl) hw hq
set_option maxRecDepth 100000 in
set_option maxHeartbeats 4000000 in
theorem b_X3_firstWaiting_0 {post : Option Nat → ka_T → Prop} (S : CallFix p m c cX3_firstWaiting 6 s args lw_gd RX3) (hr : meth.sig.returnType = some (.object "TaskKernel$Task")) (hk : meth.locks = false) : ∀ (x1 : Int32) (x2 : Int32) (k0 : ka_T) (H : Heap) (locs : List Loc) (ls : Array Slot), lv_has ls 6 [(0, .ref (ad (0, 0))), (1, .int x1), (2, .int x2)] → Wo_ D cA cf ad A k0 z0 s H locs → q_X3_firstWaiting cf post x1 x2 k0 → W p l e rmX3_firstWaiting s m args below meth c H locs 0 0 (MQ below (va_Qq (pq_ cf ad post) (fun u t => Wx_ D cA cf ad A u z0 t) A) args s 0 0 A) (F0 m 0 ls []) := by
  intro x1 x2 k0 H locs ls hl hw hq
  refine lv_null S.1 S.2.1 dX3_firstWaiting_0 ?_
  refine lv_astore_nN (lv' := [(3, .null), (0, .ref (ad (0, 0))), (1, .int x1), (2, .int x2)]) S.1 S.2.1 dX3_firstWaiting_1 rfl hl (by decide) rfl (fun ls hl => ?_)
  refine lv_iconst (v := (0 : Int32)) S.1 S.2.1 dX3_firstWaiting_2 (by decide) ?_
  refine lv_istore (lv' := [(4, .int (0 : Int32)), (3, .null), (0, .ref (ad (0, 0))), (1, .int x1), (2, .int x2)]) S.1 S.2.1 dX3_firstWaiting_3 hl (by decide) rfl (fun ls hl => ?_)
  obtain ⟨nf9, hq⟩ := hq
  exact b_X3_firstWaiting_5 S hr hk nf9 x1 x2 none (fun _ h => by cases h) (0 : Int32) k0 _ _ _ (lv_sub hl [2, 3, 4, 1, 0] rfl) hw hq
theorem c_X3_firstWaiting (z0 k0 : ka_T) (x1 : Int32) (x2 : Int32) {post : Option Nat → ka_T → Prop} (hq : q_X3_firstWaiting cf post x1 x2 k0) : Met l yX3_firstWaiting wsX3_firstWaiting rmX3_firstWaiting (va_Pc [.ref (ad (0, 0)), .int x1, .int x2] (Wx_ D cA cf ad A k0 z0)) (va_Qq (pq_ cf ad post) (fun u t => Wx_ D cA cf ad A u z0 t) A) 0 0 A :=
  kp_met (by decide +kernel) [.ref (ad (0, 0)), .int x1, .int x2] (Nat.le_of_ble_eq_true rfl) (fun p e s m args below meth c ls S hr hk hw hl => b_X3_firstWaiting_0 S hr hk x1 x2 k0 _ _ _ hl hw hq)
theorem call_X3_firstWaiting {z0 k0 : ka_T} {x1 : Int32} {x2 : Int32} {post : Option Nat → ka_T → Prop} (S : CallFix p m c cc nL s args lw_gd own) (hw : Wo_ D cA cf ad A k0 z0 s H locs) {index : Nat} (hl : Cond.methodLink own index yX3_firstWaiting ∈ lw_gd) (hq : q_X3_firstWaiting cf post x1 x2 k0) (hR : rmX3_firstWaiting.frames + 1 ≤ R.frames ∧ 8 + (6 + 11) + rmX3_firstWaiting.locals ≤ R.locals) (hls : ls.size = nL) (hro : (rest.map fun v => v.category).sum ≤ 8) (hcs : cells ≤ R.cells ∧ slots ≤ R.slots) (hd : decode cc pc = .ok (.invokevirtual index, 3)) (kn : ∀ (u : ka_T) (H1 : Heap) (locs1 : List Loc), post none u → Wo_ D cA cf ad A u z0 s H1 locs1 → W p l e R s m args below meth c H1 locs1 cells slots Q (F0 m (pc + 3) ls (.null :: rest))) (ks : ∀ (n : Nat) (u : ka_T) (H1 : Heap) (locs1 : List Loc), n < cf 0 → post (some n) u → Wo_ D cA cf ad A u z0 s H1 locs1 → W p l e R s m args below meth c H1 locs1 cells slots Q (F0 m (pc + 3) ls (.ref (ad (6, n)) :: rest))) : W p l e R s m args below meth c H locs cells slots Q (F0 m pc ls (.int x2 :: .int x1 :: .ref (ad (0, 0)) :: rest)) :=
  kg_vq (cu := fun u => ce_l cA cf ad u z0) (As := [.int x1, .int x2]) S hw (q := (0, 0)) (c_X3_firstWaiting z0 k0 x1 x2 hq) wc_X3_firstWaiting wn_X3 hl wi_X3_firstWaiting (C := RX3) (T := TX3) (N := 9) (ci := 3) (fs := fx_0 cf ad k0 0) wse_X3_firstWaiting (km_0) rfl rfl (na := 2) (by decide +kernel) rfl rfl rfl hR hls rfl hro hcs hd (fun r u H1 locs1 hp hw1 => by
    obtain ⟨r1, rfl, hv, hp⟩ := hp
    cases r1 with
    | none => exact kn u H1 locs1 hp hw1
    | some n => exact ks n u H1 locs1 (hv n rfl) hp hw1)
abbrev rmX3_goBack : Room := { frames := 1, cells := 0, slots := 0, locals := 20 }
set_option maxRecDepth 100000 in
set_option maxHeartbeats 4000000 in
theorem b_X3_goBack_0 {post : Int32 → ka_T → Prop} (S : CallFix p m c cX3_goBack 2 s args lw_gd RX3) (hr : meth.sig.returnType = some .int) (hk : meth.locks = false) : ∀ (n1 : Nat) (hn1 : n1 < cf 0) (k0 : ka_T) (H : Heap) (locs : List Loc) (ls : Array Slot), lv_has ls 2 [(0, .ref (ad (0, 0))), (1, .ref (ad (6, n1)))] → Wo_ D cA cf ad A k0 z0 s H locs → q_X3_goBack cf post n1 k0 → W p l e rmX3_goBack s m args below meth c H locs 0 0 (MQ below (va_Qi post (fun u t => Wx_ D cA cf ad A u z0 t) A) args s 0 0 A) (F0 m 0 ls []) := by
  intro n1 hn1 k0 H locs ls hl hw hq
  refine lv_aload_n S.1 S.2.1 dX3_goBack_0 rfl (lv_at hl 1 rfl) ?_
  refine gf_202 S hw hn1 wf_X3_117 dX3_goBack_1 ?_
  refine gf_101 S hw (vl_f hn1) wf_X3_112 dX3_goBack_4 ?_
  refine lv_iconst (v := (1 : Int32)) S.1 S.2.1 dX3_goBack_7 (by decide) ?_
  refine lv_icmp_ge (tgt := 13) S.1 S.2.1 dX3_goBack_8 rfl (fun h1 => ?_) (fun h1 => ?_)
  · replace hq := hq.1 h1
    refine lv_aload_n S.1 S.2.1 dX3_goBack_13 rfl (lv_at hl 1 rfl) ?_
    refine lv_aload_n S.1 S.2.1 dX3_goBack_14 rfl (lv_at hl 1 rfl) ?_
    refine gf_202 S hw hn1 wf_X3_117 dX3_goBack_15 ?_
    refine call_X1_pop S hw wl_X3_235 (vl_f hn1) hq ⟨Nat.le_of_ble_eq_true rfl, Nat.le_of_ble_eq_true rfl⟩ hl.1 (Nat.le_of_ble_eq_true rfl) ⟨Nat.zero_le _, Nat.zero_le _⟩ dX3_goBack_18 (fun r2 k2 H locs hq hw => ?_)
    refine pf_204 S hw hn1 wf_X3_102 dX3_goBack_21 (fun k3 H locs e3 hw => ?_)
    replace hq := hq _ e3
    refine lv_iconst (v := (0 : Int32)) S.1 S.2.1 dX3_goBack_24 (by decide) ?_
    exact kr_i (cu := fun u => ce_l cA cf ad u z0) S hr rfl hk hw hq dX3_goBack_25
  · replace hq := hq.2 h1
    refine lv_iconst (v := (5 : Int32)) S.1 S.2.1 dX3_goBack_11 (by decide) ?_
    exact kr_i (cu := fun u => ce_l cA cf ad u z0) S hr rfl hk hw hq dX3_goBack_12
theorem c_X3_goBack (z0 k0 : ka_T) (n1 : Nat) (hn1 : n1 < cf 0) {post : Int32 → ka_T → Prop} (hq : q_X3_goBack cf post n1 k0) : Met l yX3_goBack wsX3_goBack rmX3_goBack (va_Pc [.ref (ad (0, 0)), .ref (ad (6, n1))] (Wx_ D cA cf ad A k0 z0)) (va_Qi post (fun u t => Wx_ D cA cf ad A u z0 t) A) 0 0 A :=
  kp_met (by decide +kernel) [.ref (ad (0, 0)), .ref (ad (6, n1))] (Nat.le_of_ble_eq_true rfl) (fun p e s m args below meth c ls S hr hk hw hl => b_X3_goBack_0 S hr hk n1 hn1 k0 _ _ _ hl hw hq)
theorem call_X3_goBack {z0 k0 : ka_T} {n1 : Nat} {post : Int32 → ka_T → Prop} (S : CallFix p m c cc nL s args lw_gd own) (hw : Wo_ D cA cf ad A k0 z0 s H locs) {index : Nat} (hl : Cond.methodLink own index yX3_goBack ∈ lw_gd) (hn1 : n1 < cf 0) (hq : q_X3_goBack cf post n1 k0) (hR : rmX3_goBack.frames + 1 ≤ R.frames ∧ 8 + (2 + 11) + rmX3_goBack.locals ≤ R.locals) (hls : ls.size = nL) (hro : (rest.map fun v => v.category).sum ≤ 8) (hcs : cells ≤ R.cells ∧ slots ≤ R.slots) (hd : decode cc pc = .ok (.invokevirtual index, 3)) (kk : ∀ (r : Int32) (u : ka_T) (H1 : Heap) (locs1 : List Loc), post r u → Wo_ D cA cf ad A u z0 s H1 locs1 → W p l e R s m args below meth c H1 locs1 cells slots Q (F0 m (pc + 3) ls (.int r :: rest))) : W p l e R s m args below meth c H locs cells slots Q (F0 m pc ls (.ref (ad (6, n1)) :: .ref (ad (0, 0)) :: rest)) :=
  kg_vi (cu := fun u => ce_l cA cf ad u z0) (As := [.ref (ad (6, n1))]) S hw (q := (0, 0)) (c_X3_goBack z0 k0 n1 hn1 hq) wc_X3_goBack wn_X3 hl wi_X3_goBack (C := RX3) (T := TX3) (N := 9) (ci := 3) (fs := fx_0 cf ad k0 0) wse_X3_goBack (km_0) rfl rfl (na := 1) (by decide +kernel) rfl rfl rfl hR hls rfl hro hcs hd kk
abbrev rmX3_isCell : Room := { frames := 0, cells := 0, slots := 0, locals := 0 }
set_option maxRecDepth 100000 in
set_option maxHeartbeats 4000000 in
theorem b_X3_isCell_0 {post : Int32 → ka_T → Prop} (S : CallFix p m c cX3_isCell 1 s args lw_gd RX3) (hr : meth.sig.returnType = some .boolean) (hk : meth.locks = false) : ∀ (x0 : Int32) (k0 : ka_T) (H : Heap) (locs : List Loc) (ls : Array Slot), lv_has ls 1 [(0, .int x0)] → Wo_ D cA cf ad A k0 z0 s H locs → q_X3_isCell cf post x0 k0 → W p l e rmX3_isCell s m args below meth c H locs 0 0 (MQ below (va_Qi post (fun u t => Wx_ D cA cf ad A u z0 t) A) args s 0 0 A) (F0 m 0 ls []) := by
  intro x0 k0 H locs ls hl hw hq
  refine lv_iload_n S.1 S.2.1 dX3_isCell_0 rfl (lv_at hl 0 rfl) ?_
  refine lv_if_lt (tgt := 14) S.1 S.2.1 dX3_isCell_1 rfl (fun h1 => ?_) (fun h1 => ?_)
  · replace hq := hq.1 h1
    refine lv_iconst (v := (0 : Int32)) S.1 S.2.1 dX3_isCell_14 (by decide) ?_
    exact kr_i (cu := fun u => ce_l cA cf ad u z0) S hr (by decide) hk hw hq dX3_isCell_15
  · replace hq := hq.2 h1
    refine lv_iload_n S.1 S.2.1 dX3_isCell_4 rfl (lv_at hl 0 rfl) ?_
    refine lv_bipush (v := (16 : Int32)) S.1 S.2.1 dX3_isCell_5 (by decide) ?_
    refine lv_icmp_ge (tgt := 14) S.1 S.2.1 dX3_isCell_7 rfl (fun h2 => ?_) (fun h2 => ?_)
    · replace hq := hq.1 h2
      refine lv_iconst (v := (0 : Int32)) S.1 S.2.1 dX3_isCell_14 (by decide) ?_
      exact kr_i (cu := fun u => ce_l cA cf ad u z0) S hr (by decide) hk hw hq dX3_isCell_15
    · replace hq := hq.2 h2
      refine lv_iconst (v := (1 : Int32)) S.1 S.2.1 dX3_isCell_10 (by decide) ?_
      refine lv_goto (tgt := 15) S.1 S.2.1 dX3_isCell_11 rfl ?_
      exact kr_i (cu := fun u => ce_l cA cf ad u z0) S hr (by decide) hk hw hq dX3_isCell_15
theorem c_X3_isCell (z0 k0 : ka_T) (x0 : Int32) {post : Int32 → ka_T → Prop} (hq : q_X3_isCell cf post x0 k0) : Met l yX3_isCell wsX3_isCell rmX3_isCell (va_Pc [.int x0] (Wx_ D cA cf ad A k0 z0)) (va_Qi post (fun u t => Wx_ D cA cf ad A u z0 t) A) 0 0 A :=
  kp_met (by decide +kernel) [.int x0] (Nat.le_of_ble_eq_true rfl) (fun p e s m args below meth c ls S hr hk hw hl => b_X3_isCell_0 S hr hk x0 k0 _ _ _ hl hw hq)
theorem call_X3_isCell {z0 k0 : ka_T} {x0 : Int32} {post : Int32 → ka_T → Prop} (S : CallFix p m c cc nL s args lw_gd own) (hw : Wo_ D cA cf ad A k0 z0 s H locs) {index : Nat} (hl : Cond.methodLink own index yX3_isCell ∈ lw_gd) (hq : q_X3_isCell cf post x0 k0) (hR : rmX3_isCell.frames + 1 ≤ R.frames ∧ 8 + (1 + 11) + rmX3_isCell.locals ≤ R.locals) (hls : ls.size = nL) (hro : (rest.map fun v => v.category).sum ≤ 8) (hcs : cells ≤ R.cells ∧ slots ≤ R.slots) (hd : decode cc pc = .ok (.invokestatic index, 3)) (kk : ∀ (r : Int32) (u : ka_T) (H1 : Heap) (locs1 : List Loc), post r u → Wo_ D cA cf ad A u z0 s H1 locs1 → W p l e R s m args below meth c H1 locs1 cells slots Q (F0 m (pc + 3) ls (.int r :: rest))) : W p l e R s m args below meth c H locs cells slots Q (F0 m pc ls (.int x0 :: rest)) :=
  kg_si (cu := fun u => ce_l cA cf ad u z0) (As := [.int x0]) S hw (c_X3_isCell z0 k0 x0 hq) wc_X3_isCell wn_X3 hl wst_X3_isCell (na := 1) (by decide +kernel) rfl rfl rfl hR hls rfl hro hcs hd kk
abbrev rmX3_isTask : Room := { frames := 0, cells := 0, slots := 0, locals := 0 }
set_option maxRecDepth 100000 in
set_option maxHeartbeats 4000000 in
theorem b_X3_isTask_0 {post : Int32 → ka_T → Prop} (S : CallFix p m c cX3_isTask 2 s args lw_gd RX3) (hr : meth.sig.returnType = some .boolean) (hk : meth.locks = false) : ∀ (x1 : Int32) (k0 : ka_T) (H : Heap) (locs : List Loc) (ls : Array Slot), lv_has ls 2 [(0, .ref (ad (0, 0))), (1, .int x1)] → Wo_ D cA cf ad A k0 z0 s H locs → q_X3_isTask cf post x1 k0 → W p l e rmX3_isTask s m args below meth c H locs 0 0 (MQ below (va_Qi post (fun u t => Wx_ D cA cf ad A u z0 t) A) args s 0 0 A) (F0 m 0 ls []) := by
  intro x1 k0 H locs ls hl hw hq
  refine lv_iload_n S.1 S.2.1 dX3_isTask_0 rfl (lv_at hl 1 rfl) ?_
  refine lv_if_lt (tgt := 17) S.1 S.2.1 dX3_isTask_1 rfl (fun h1 => ?_) (fun h1 => ?_)
  · replace hq := hq.1 h1
    refine lv_iconst (v := (0 : Int32)) S.1 S.2.1 dX3_isTask_17 (by decide) ?_
    exact kr_i (cu := fun u => ce_l cA cf ad u z0) S hr (by decide) hk hw hq dX3_isTask_18
  · replace hq := hq.2 h1
    refine lv_iload_n S.1 S.2.1 dX3_isTask_4 rfl (lv_at hl 1 rfl) ?_
    refine lv_aload_n S.1 S.2.1 dX3_isTask_5 rfl (lv_at hl 0 rfl) ?_
    refine gf_300 S hw wf_X3_39 dX3_isTask_6 ?_
    refine an_1 S hw dX3_isTask_9 ?_
    refine lv_icmp_ge (tgt := 17) S.1 S.2.1 dX3_isTask_10 rfl (fun h2 => ?_) (fun h2 => ?_)
    · replace hq := hq.1 h2
      refine lv_iconst (v := (0 : Int32)) S.1 S.2.1 dX3_isTask_17 (by decide) ?_
      exact kr_i (cu := fun u => ce_l cA cf ad u z0) S hr (by decide) hk hw hq dX3_isTask_18
    · replace hq := hq.2 h2
      refine lv_iconst (v := (1 : Int32)) S.1 S.2.1 dX3_isTask_13 (by decide) ?_
      refine lv_goto (tgt := 18) S.1 S.2.1 dX3_isTask_14 rfl ?_
      exact kr_i (cu := fun u => ce_l cA cf ad u z0) S hr (by decide) hk hw hq dX3_isTask_18
theorem c_X3_isTask (z0 k0 : ka_T) (x1 : Int32) {post : Int32 → ka_T → Prop} (hq : q_X3_isTask cf post x1 k0) : Met l yX3_isTask wsX3_isTask rmX3_isTask (va_Pc [.ref (ad (0, 0)), .int x1] (Wx_ D cA cf ad A k0 z0)) (va_Qi post (fun u t => Wx_ D cA cf ad A u z0 t) A) 0 0 A :=
  kp_met (by decide +kernel) [.ref (ad (0, 0)), .int x1] (Nat.le_of_ble_eq_true rfl) (fun p e s m args below meth c ls S hr hk hw hl => b_X3_isTask_0 S hr hk x1 k0 _ _ _ hl hw hq)
theorem call_X3_isTask {z0 k0 : ka_T} {x1 : Int32} {post : Int32 → ka_T → Prop} (S : CallFix p m c cc nL s args lw_gd own) (hw : Wo_ D cA cf ad A k0 z0 s H locs) {index : Nat} (hl : Cond.methodLink own index yX3_isTask ∈ lw_gd) (hq : q_X3_isTask cf post x1 k0) (hR : rmX3_isTask.frames + 1 ≤ R.frames ∧ 8 + (2 + 11) + rmX3_isTask.locals ≤ R.locals) (hls : ls.size = nL) (hro : (rest.map fun v => v.category).sum ≤ 8) (hcs : cells ≤ R.cells ∧ slots ≤ R.slots) (hd : decode cc pc = .ok (.invokevirtual index, 3)) (kk : ∀ (r : Int32) (u : ka_T) (H1 : Heap) (locs1 : List Loc), post r u → Wo_ D cA cf ad A u z0 s H1 locs1 → W p l e R s m args below meth c H1 locs1 cells slots Q (F0 m (pc + 3) ls (.int r :: rest))) : W p l e R s m args below meth c H locs cells slots Q (F0 m pc ls (.int x1 :: .ref (ad (0, 0)) :: rest)) :=
  kg_vi (cu := fun u => ce_l cA cf ad u z0) (As := [.int x1]) S hw (q := (0, 0)) (c_X3_isTask z0 k0 x1 hq) wc_X3_isTask wn_X3 hl wi_X3_isTask (C := RX3) (T := TX3) (N := 9) (ci := 3) (fs := fx_0 cf ad k0 0) wse_X3_isTask (km_0) rfl rfl (na := 1) (by decide +kernel) rfl rfl rfl hR hls rfl hro hcs hd kk
abbrev rmX3_isLive : Room := { frames := 1, cells := 0, slots := 0, locals := 21 }
set_option maxRecDepth 100000 in
set_option maxHeartbeats 4000000 in
theorem b_X3_isLive_0 {post : Int32 → ka_T → Prop} (S : CallFix p m c cX3_isLive 2 s args lw_gd RX3) (hr : meth.sig.returnType = some .boolean) (hk : meth.locks = false) : ∀ (x1 : Int32) (k0 : ka_T) (H : Heap) (locs : List Loc) (ls : Array Slot), lv_has ls 2 [(0, .ref (ad (0, 0))), (1, .int x1)] → Wo_ D cA cf ad A k0 z0 s H locs → q_X3_isLive cf post x1 k0 → W p l e rmX3_isLive s m args below meth c H locs 0 0 (MQ below (va_Qi post (fun u t => Wx_ D cA cf ad A u z0 t) A) args s 0 0 A) (F0 m 0 ls []) := by
  intro x1 k0 H locs ls hl hw hq
  refine lv_aload_n S.1 S.2.1 dX3_isLive_0 rfl (lv_at hl 0 rfl) ?_
  refine lv_iload_n S.1 S.2.1 dX3_isLive_1 rfl (lv_at hl 1 rfl) ?_
  refine call_X3_isTask S hw wl_X3_98 hq ⟨Nat.le_of_ble_eq_true rfl, Nat.le_of_ble_eq_true rfl⟩ hl.1 (Nat.le_of_ble_eq_true rfl) ⟨Nat.zero_le _, Nat.zero_le _⟩ dX3_isLive_2 (fun r1 k1 H locs hq hw => ?_)
  refine lv_if_eq (tgt := 24) S.1 S.2.1 dX3_isLive_5 rfl (fun h2 => ?_) (fun h2 => ?_)
  · replace hq := hq.1 h2
    refine lv_iconst (v := (0 : Int32)) S.1 S.2.1 dX3_isLive_24 (by decide) ?_
    exact kr_i (cu := fun u => ce_l cA cf ad u z0) S hr (by decide) hk hw hq dX3_isLive_25
  · replace hq := hq.2 h2
    refine lv_aload_n S.1 S.2.1 dX3_isLive_8 rfl (lv_at hl 0 rfl) ?_
    refine gf_300 S hw wf_X3_39 dX3_isLive_9 ?_
    refine lv_iload_n S.1 S.2.1 dX3_isLive_12 rfl (lv_at hl 1 rfl) ?_
    obtain ⟨hi, hq⟩ := hq
    refine ar_1 S hw hi dX3_isLive_13 (fun t3 e3 ht3 => ?_)
    replace hq := hq _ e3 ht3
    refine gf_203 S hw ht3 wf_X3_71 dX3_isLive_14 ?_
    refine lv_if_eq (tgt := 24) S.1 S.2.1 dX3_isLive_17 rfl (fun h4 => ?_) (fun h4 => ?_)
    · replace hq := hq.1 h4
      refine lv_iconst (v := (0 : Int32)) S.1 S.2.1 dX3_isLive_24 (by decide) ?_
      exact kr_i (cu := fun u => ce_l cA cf ad u z0) S hr (by decide) hk hw hq dX3_isLive_25
    · replace hq := hq.2 h4
      refine lv_iconst (v := (1 : Int32)) S.1 S.2.1 dX3_isLive_20 (by decide) ?_
      refine lv_goto (tgt := 25) S.1 S.2.1 dX3_isLive_21 rfl ?_
      exact kr_i (cu := fun u => ce_l cA cf ad u z0) S hr (by decide) hk hw hq dX3_isLive_25
theorem c_X3_isLive (z0 k0 : ka_T) (x1 : Int32) {post : Int32 → ka_T → Prop} (hq : q_X3_isLive cf post x1 k0) : Met l yX3_isLive wsX3_isLive rmX3_isLive (va_Pc [.ref (ad (0, 0)), .int x1] (Wx_ D cA cf ad A k0 z0)) (va_Qi post (fun u t => Wx_ D cA cf ad A u z0 t) A) 0 0 A :=
  kp_met (by decide +kernel) [.ref (ad (0, 0)), .int x1] (Nat.le_of_ble_eq_true rfl) (fun p e s m args below meth c ls S hr hk hw hl => b_X3_isLive_0 S hr hk x1 k0 _ _ _ hl hw hq)
theorem call_X3_isLive {z0 k0 : ka_T} {x1 : Int32} {post : Int32 → ka_T → Prop} (S : CallFix p m c cc nL s args lw_gd own) (hw : Wo_ D cA cf ad A k0 z0 s H locs) {index : Nat} (hl : Cond.methodLink own index yX3_isLive ∈ lw_gd) (hq : q_X3_isLive cf post x1 k0) (hR : rmX3_isLive.frames + 1 ≤ R.frames ∧ 8 + (2 + 11) + rmX3_isLive.locals ≤ R.locals) (hls : ls.size = nL) (hro : (rest.map fun v => v.category).sum ≤ 8) (hcs : cells ≤ R.cells ∧ slots ≤ R.slots) (hd : decode cc pc = .ok (.invokevirtual index, 3)) (kk : ∀ (r : Int32) (u : ka_T) (H1 : Heap) (locs1 : List Loc), post r u → Wo_ D cA cf ad A u z0 s H1 locs1 → W p l e R s m args below meth c H1 locs1 cells slots Q (F0 m (pc + 3) ls (.int r :: rest))) : W p l e R s m args below meth c H locs cells slots Q (F0 m pc ls (.int x1 :: .ref (ad (0, 0)) :: rest)) :=
  kg_vi (cu := fun u => ce_l cA cf ad u z0) (As := [.int x1]) S hw (q := (0, 0)) (c_X3_isLive z0 k0 x1 hq) wc_X3_isLive wn_X3 hl wi_X3_isLive (C := RX3) (T := TX3) (N := 9) (ci := 3) (fs := fx_0 cf ad k0 0) wse_X3_isLive (km_0) rfl rfl (na := 1) (by decide +kernel) rfl rfl rfl hR hls rfl hro hcs hd kk
abbrev rmX3_isQueue : Room := { frames := 0, cells := 0, slots := 0, locals := 0 }
set_option maxRecDepth 100000 in
set_option maxHeartbeats 4000000 in
theorem b_X3_isQueue_0 {post : Int32 → ka_T → Prop} (S : CallFix p m c cX3_isQueue 2 s args lw_gd RX3) (hr : meth.sig.returnType = some .boolean) (hk : meth.locks = false) : ∀ (x1 : Int32) (k0 : ka_T) (H : Heap) (locs : List Loc) (ls : Array Slot), lv_has ls 2 [(0, .ref (ad (0, 0))), (1, .int x1)] → Wo_ D cA cf ad A k0 z0 s H locs → q_X3_isQueue cf post x1 k0 → W p l e rmX3_isQueue s m args below meth c H locs 0 0 (MQ below (va_Qi post (fun u t => Wx_ D cA cf ad A u z0 t) A) args s 0 0 A) (F0 m 0 ls []) := by
  intro x1 k0 H locs ls hl hw hq
  refine lv_iload_n S.1 S.2.1 dX3_isQueue_0 rfl (lv_at hl 1 rfl) ?_
  refine lv_if_lt (tgt := 17) S.1 S.2.1 dX3_isQueue_1 rfl (fun h1 => ?_) (fun h1 => ?_)
  · replace hq := hq.1 h1
    refine lv_iconst (v := (0 : Int32)) S.1 S.2.1 dX3_isQueue_17 (by decide) ?_
    exact kr_i (cu := fun u => ce_l cA cf ad u z0) S hr (by decide) hk hw hq dX3_isQueue_18
  · replace hq := hq.2 h1
    refine lv_iload_n S.1 S.2.1 dX3_isQueue_4 rfl (lv_at hl 1 rfl) ?_
    refine lv_aload_n S.1 S.2.1 dX3_isQueue_5 rfl (lv_at hl 0 rfl) ?_
    refine gf_301 S hw wf_X3_48 dX3_isQueue_6 ?_
    refine an_2 S hw dX3_isQueue_9 ?_
    refine lv_icmp_ge (tgt := 17) S.1 S.2.1 dX3_isQueue_10 rfl (fun h2 => ?_) (fun h2 => ?_)
    · replace hq := hq.1 h2
      refine lv_iconst (v := (0 : Int32)) S.1 S.2.1 dX3_isQueue_17 (by decide) ?_
      exact kr_i (cu := fun u => ce_l cA cf ad u z0) S hr (by decide) hk hw hq dX3_isQueue_18
    · replace hq := hq.2 h2
      refine lv_iconst (v := (1 : Int32)) S.1 S.2.1 dX3_isQueue_13 (by decide) ?_
      refine lv_goto (tgt := 18) S.1 S.2.1 dX3_isQueue_14 rfl ?_
      exact kr_i (cu := fun u => ce_l cA cf ad u z0) S hr (by decide) hk hw hq dX3_isQueue_18
theorem c_X3_isQueue (z0 k0 : ka_T) (x1 : Int32) {post : Int32 → ka_T → Prop} (hq : q_X3_isQueue cf post x1 k0) : Met l yX3_isQueue wsX3_isQueue rmX3_isQueue (va_Pc [.ref (ad (0, 0)), .int x1] (Wx_ D cA cf ad A k0 z0)) (va_Qi post (fun u t => Wx_ D cA cf ad A u z0 t) A) 0 0 A :=
  kp_met (by decide +kernel) [.ref (ad (0, 0)), .int x1] (Nat.le_of_ble_eq_true rfl) (fun p e s m args below meth c ls S hr hk hw hl => b_X3_isQueue_0 S hr hk x1 k0 _ _ _ hl hw hq)
theorem call_X3_isQueue {z0 k0 : ka_T} {x1 : Int32} {post : Int32 → ka_T → Prop} (S : CallFix p m c cc nL s args lw_gd own) (hw : Wo_ D cA cf ad A k0 z0 s H locs) {index : Nat} (hl : Cond.methodLink own index yX3_isQueue ∈ lw_gd) (hq : q_X3_isQueue cf post x1 k0) (hR : rmX3_isQueue.frames + 1 ≤ R.frames ∧ 8 + (2 + 11) + rmX3_isQueue.locals ≤ R.locals) (hls : ls.size = nL) (hro : (rest.map fun v => v.category).sum ≤ 8) (hcs : cells ≤ R.cells ∧ slots ≤ R.slots) (hd : decode cc pc = .ok (.invokevirtual index, 3)) (kk : ∀ (r : Int32) (u : ka_T) (H1 : Heap) (locs1 : List Loc), post r u → Wo_ D cA cf ad A u z0 s H1 locs1 → W p l e R s m args below meth c H1 locs1 cells slots Q (F0 m (pc + 3) ls (.int r :: rest))) : W p l e R s m args below meth c H locs cells slots Q (F0 m pc ls (.int x1 :: .ref (ad (0, 0)) :: rest)) :=
  kg_vi (cu := fun u => ce_l cA cf ad u z0) (As := [.int x1]) S hw (q := (0, 0)) (c_X3_isQueue z0 k0 x1 hq) wc_X3_isQueue wn_X3 hl wi_X3_isQueue (C := RX3) (T := TX3) (N := 9) (ci := 3) (fs := fx_0 cf ad k0 0) wse_X3_isQueue (km_0) rfl rfl (na := 1) (by decide +kernel) rfl rfl rfl hR hls rfl hro hcs hd kk
abbrev rmX3_jump : Room := { frames := 1, cells := 0, slots := 0, locals := 20 }
set_option maxRecDepth 100000 in
set_option maxHeartbeats 4000000 in
theorem b_X3_jump_0 {post : Int32 → ka_T → Prop} (S : CallFix p m c cX3_jump 3 s args lw_gd RX3) (hr : meth.sig.returnType = some .int) (hk : meth.locks = false) : ∀ (n1 : Nat) (hn1 : n1 < cf 0) (x2 : Int32) (k0 : ka_T) (H : Heap) (locs : List Loc) (ls : Array Slot), lv_has ls 3 [(0, .ref (ad (0, 0))), (1, .ref (ad (6, n1))), (2, .int x2)] → Wo_ D cA cf ad A k0 z0 s H locs → q_X3_jump cf post n1 x2 k0 → W p l e rmX3_jump s m args below meth c H locs 0 0 (MQ below (va_Qi post (fun u t => Wx_ D cA cf ad A u z0 t) A) args s 0 0 A) (F0 m 0 ls []) := by
  intro n1 hn1 x2 k0 H locs ls hl hw hq
  refine lv_iload_n S.1 S.2.1 dX3_jump_0 rfl (lv_at hl 2 rfl) ?_
  refine call_X3_isCodePlace S hw wl_X3_55 hq ⟨Nat.le_of_ble_eq_true rfl, Nat.le_of_ble_eq_true rfl⟩ hl.1 (Nat.le_of_ble_eq_true rfl) ⟨Nat.zero_le _, Nat.zero_le _⟩ dX3_jump_1 (fun r1 k1 H locs hq hw => ?_)
  refine lv_if_ne (tgt := 9) S.1 S.2.1 dX3_jump_4 rfl (fun h2 => ?_) (fun h2 => ?_)
  · replace hq := hq.1 h2
    refine lv_aload_n S.1 S.2.1 dX3_jump_9 rfl (lv_at hl 1 rfl) ?_
    refine lv_iload_n S.1 S.2.1 dX3_jump_10 rfl (lv_at hl 2 rfl) ?_
    refine pf_204 S hw hn1 wf_X3_102 dX3_jump_11 (fun k3 H locs e3 hw => ?_)
    replace hq := hq _ e3
    refine lv_iconst (v := (0 : Int32)) S.1 S.2.1 dX3_jump_14 (by decide) ?_
    exact kr_i (cu := fun u => ce_l cA cf ad u z0) S hr rfl hk hw hq dX3_jump_15
  · replace hq := hq.2 h2
    refine lv_iconst (v := (2 : Int32)) S.1 S.2.1 dX3_jump_7 (by decide) ?_
    exact kr_i (cu := fun u => ce_l cA cf ad u z0) S hr rfl hk hw hq dX3_jump_8
theorem c_X3_jump (z0 k0 : ka_T) (n1 : Nat) (hn1 : n1 < cf 0) (x2 : Int32) {post : Int32 → ka_T → Prop} (hq : q_X3_jump cf post n1 x2 k0) : Met l yX3_jump wsX3_jump rmX3_jump (va_Pc [.ref (ad (0, 0)), .ref (ad (6, n1)), .int x2] (Wx_ D cA cf ad A k0 z0)) (va_Qi post (fun u t => Wx_ D cA cf ad A u z0 t) A) 0 0 A :=
  kp_met (by decide +kernel) [.ref (ad (0, 0)), .ref (ad (6, n1)), .int x2] (Nat.le_of_ble_eq_true rfl) (fun p e s m args below meth c ls S hr hk hw hl => b_X3_jump_0 S hr hk n1 hn1 x2 k0 _ _ _ hl hw hq)
theorem call_X3_jump {z0 k0 : ka_T} {n1 : Nat} {x2 : Int32} {post : Int32 → ka_T → Prop} (S : CallFix p m c cc nL s args lw_gd own) (hw : Wo_ D cA cf ad A k0 z0 s H locs) {index : Nat} (hl : Cond.methodLink own index yX3_jump ∈ lw_gd) (hn1 : n1 < cf 0) (hq : q_X3_jump cf post n1 x2 k0) (hR : rmX3_jump.frames + 1 ≤ R.frames ∧ 8 + (3 + 11) + rmX3_jump.locals ≤ R.locals) (hls : ls.size = nL) (hro : (rest.map fun v => v.category).sum ≤ 8) (hcs : cells ≤ R.cells ∧ slots ≤ R.slots) (hd : decode cc pc = .ok (.invokevirtual index, 3)) (kk : ∀ (r : Int32) (u : ka_T) (H1 : Heap) (locs1 : List Loc), post r u → Wo_ D cA cf ad A u z0 s H1 locs1 → W p l e R s m args below meth c H1 locs1 cells slots Q (F0 m (pc + 3) ls (.int r :: rest))) : W p l e R s m args below meth c H locs cells slots Q (F0 m pc ls (.int x2 :: .ref (ad (6, n1)) :: .ref (ad (0, 0)) :: rest)) :=
  kg_vi (cu := fun u => ce_l cA cf ad u z0) (As := [.ref (ad (6, n1)), .int x2]) S hw (q := (0, 0)) (c_X3_jump z0 k0 n1 hn1 x2 hq) wc_X3_jump wn_X3 hl wi_X3_jump (C := RX3) (T := TX3) (N := 9) (ci := 3) (fs := fx_0 cf ad k0 0) wse_X3_jump (km_0) rfl rfl (na := 2) (by decide +kernel) rfl rfl rfl hR hls rfl hro hcs hd kk
abbrev rmX3_jumpIfZero : Room := { frames := 2, cells := 0, slots := 0, locals := 42 }
set_option maxRecDepth 100000 in
set_option maxHeartbeats 4000000 in
theorem b_X3_jumpIfZero_0 {post : Int32 → ka_T → Prop} (S : CallFix p m c cX3_jumpIfZero 3 s args lw_gd RX3) (hr : meth.sig.returnType = some .int) (hk : meth.locks = false) : ∀ (n1 : Nat) (hn1 : n1 < cf 0) (x2 : Int32) (k0 : ka_T) (H : Heap) (locs : List Loc) (ls : Array Slot), lv_has ls 3 [(0, .ref (ad (0, 0))), (1, .ref (ad (6, n1))), (2, .int x2)] → Wo_ D cA cf ad A k0 z0 s H locs → q_X3_jumpIfZero cf post n1 x2 k0 → W p l e rmX3_jumpIfZero s m args below meth c H locs 0 0 (MQ below (va_Qi post (fun u t => Wx_ D cA cf ad A u z0 t) A) args s 0 0 A) (F0 m 0 ls []) := by
  intro n1 hn1 x2 k0 H locs ls hl hw hq
  refine lv_aload_n S.1 S.2.1 dX3_jumpIfZero_0 rfl (lv_at hl 1 rfl) ?_
  refine gf_201 S hw hn1 wf_X3_108 dX3_jumpIfZero_1 ?_
  refine gf_101 S hw (vl_n hn1) wf_X3_112 dX3_jumpIfZero_4 ?_
  refine lv_iconst (v := (1 : Int32)) S.1 S.2.1 dX3_jumpIfZero_7 (by decide) ?_
  refine lv_icmp_ge (tgt := 13) S.1 S.2.1 dX3_jumpIfZero_8 rfl (fun h1 => ?_) (fun h1 => ?_)
  · replace hq := hq.1 h1
    refine lv_aload_n S.1 S.2.1 dX3_jumpIfZero_13 rfl (lv_at hl 1 rfl) ?_
    refine gf_201 S hw hn1 wf_X3_108 dX3_jumpIfZero_14 ?_
    refine call_X1_pop S hw wl_X3_235 (vl_n hn1) hq ⟨Nat.le_of_ble_eq_true rfl, Nat.le_of_ble_eq_true rfl⟩ hl.1 (Nat.le_of_ble_eq_true rfl) ⟨Nat.zero_le _, Nat.zero_le _⟩ dX3_jumpIfZero_17 (fun r2 k2 H locs hq hw => ?_)
    refine lv_if_ne (tgt := 32) S.1 S.2.1 dX3_jumpIfZero_20 rfl (fun h3 => ?_) (fun h3 => ?_)
    · replace hq := hq.1 h3
      refine lv_iconst (v := (0 : Int32)) S.1 S.2.1 dX3_jumpIfZero_32 (by decide) ?_
      exact kr_i (cu := fun u => ce_l cA cf ad u z0) S hr rfl hk hw hq dX3_jumpIfZero_33
    · replace hq := hq.2 h3
      refine lv_aload_n S.1 S.2.1 dX3_jumpIfZero_23 rfl (lv_at hl 0 rfl) ?_
      refine lv_aload_n S.1 S.2.1 dX3_jumpIfZero_24 rfl (lv_at hl 1 rfl) ?_
      refine lv_iload_n S.1 S.2.1 dX3_jumpIfZero_25 rfl (lv_at hl 2 rfl) ?_
      refine call_X3_jump S hw wl_X3_202 hn1 hq ⟨Nat.le_of_ble_eq_true rfl, Nat.le_of_ble_eq_true rfl⟩ hl.1 (Nat.le_of_ble_eq_true rfl) ⟨Nat.zero_le _, Nat.zero_le _⟩ dX3_jumpIfZero_26 (fun r4 k4 H locs hq hw => ?_)
      refine lv_goto (tgt := 33) S.1 S.2.1 dX3_jumpIfZero_29 rfl ?_
      exact kr_i (cu := fun u => ce_l cA cf ad u z0) S hr rfl hk hw hq dX3_jumpIfZero_33
  · replace hq := hq.2 h1
    refine lv_iconst (v := (1 : Int32)) S.1 S.2.1 dX3_jumpIfZero_11 (by decide) ?_
    exact kr_i (cu := fun u => ce_l cA cf ad u z0) S hr rfl hk hw hq dX3_jumpIfZero_12
theorem c_X3_jumpIfZero (z0 k0 : ka_T) (n1 : Nat) (hn1 : n1 < cf 0) (x2 : Int32) {post : Int32 → ka_T → Prop} (hq : q_X3_jumpIfZero cf post n1 x2 k0) : Met l yX3_jumpIfZero wsX3_jumpIfZero rmX3_jumpIfZero (va_Pc [.ref (ad (0, 0)), .ref (ad (6, n1)), .int x2] (Wx_ D cA cf ad A k0 z0)) (va_Qi post (fun u t => Wx_ D cA cf ad A u z0 t) A) 0 0 A :=
  kp_met (by decide +kernel) [.ref (ad (0, 0)), .ref (ad (6, n1)), .int x2] (Nat.le_of_ble_eq_true rfl) (fun p e s m args below meth c ls S hr hk hw hl => b_X3_jumpIfZero_0 S hr hk n1 hn1 x2 k0 _ _ _ hl hw hq)
theorem call_X3_jumpIfZero {z0 k0 : ka_T} {n1 : Nat} {x2 : Int32} {post : Int32 → ka_T → Prop} (S : CallFix p m c cc nL s args lw_gd own) (hw : Wo_ D cA cf ad A k0 z0 s H locs) {index : Nat} (hl : Cond.methodLink own index yX3_jumpIfZero ∈ lw_gd) (hn1 : n1 < cf 0) (hq : q_X3_jumpIfZero cf post n1 x2 k0) (hR : rmX3_jumpIfZero.frames + 1 ≤ R.frames ∧ 8 + (3 + 11) + rmX3_jumpIfZero.locals ≤ R.locals) (hls : ls.size = nL) (hro : (rest.map fun v => v.category).sum ≤ 8) (hcs : cells ≤ R.cells ∧ slots ≤ R.slots) (hd : decode cc pc = .ok (.invokevirtual index, 3)) (kk : ∀ (r : Int32) (u : ka_T) (H1 : Heap) (locs1 : List Loc), post r u → Wo_ D cA cf ad A u z0 s H1 locs1 → W p l e R s m args below meth c H1 locs1 cells slots Q (F0 m (pc + 3) ls (.int r :: rest))) : W p l e R s m args below meth c H locs cells slots Q (F0 m pc ls (.int x2 :: .ref (ad (6, n1)) :: .ref (ad (0, 0)) :: rest)) :=
  kg_vi (cu := fun u => ce_l cA cf ad u z0) (As := [.ref (ad (6, n1)), .int x2]) S hw (q := (0, 0)) (c_X3_jumpIfZero z0 k0 n1 hn1 x2 hq) wc_X3_jumpIfZero wn_X3 hl wi_X3_jumpIfZero (C := RX3) (T := TX3) (N := 9) (ci := 3) (fs := fx_0 cf ad k0 0) wse_X3_jumpIfZero (km_0) rfl rfl (na := 2) (by decide +kernel) rfl rfl rfl hR hls rfl hro hcs hd kk
abbrev rmX3_kill : Room := { frames := 2, cells := 0, slots := 0, locals := 42 }
set_option maxRecDepth 100000 in
set_option maxHeartbeats 4000000 in
theorem b_X3_kill_0 {post : Int32 → ka_T → Prop} (S : CallFix p m c cX3_kill 2 s args lw_gd RX3) (hr : meth.sig.returnType = some .boolean) (hk : meth.locks = false) : ∀ (x1 : Int32) (k0 : ka_T) (H : Heap) (locs : List Loc) (ls : Array Slot), lv_has ls 2 [(0, .ref (ad (0, 0))), (1, .int x1)] → Wo_ D cA cf ad A k0 z0 s H locs → q_X3_kill cf post x1 k0 → W p l e rmX3_kill s m args below meth c H locs 0 0 (MQ below (va_Qi post (fun u t => Wx_ D cA cf ad A u z0 t) A) args s 0 0 A) (F0 m 0 ls []) := by
  intro x1 k0 H locs ls hl hw hq
  refine lv_aload_n S.1 S.2.1 dX3_kill_0 rfl (lv_at hl 0 rfl) ?_
  refine lv_iload_n S.1 S.2.1 dX3_kill_1 rfl (lv_at hl 1 rfl) ?_
  refine call_X3_isLive S hw wl_X3_95 hq ⟨Nat.le_of_ble_eq_true rfl, Nat.le_of_ble_eq_true rfl⟩ hl.1 (Nat.le_of_ble_eq_true rfl) ⟨Nat.zero_le _, Nat.zero_le _⟩ dX3_kill_2 (fun r1 k1 H locs hq hw => ?_)
  refine lv_if_ne (tgt := 10) S.1 S.2.1 dX3_kill_5 rfl (fun h2 => ?_) (fun h2 => ?_)
  · replace hq := hq.1 h2
    refine lv_aload_n S.1 S.2.1 dX3_kill_10 rfl (lv_at hl 0 rfl) ?_
    refine gf_300 S hw wf_X3_39 dX3_kill_11 ?_
    refine lv_iload_n S.1 S.2.1 dX3_kill_14 rfl (lv_at hl 1 rfl) ?_
    obtain ⟨hi, hq⟩ := hq
    refine ar_1 S hw hi dX3_kill_15 (fun t3 e3 ht3 => ?_)
    replace hq := hq _ e3 ht3
    refine lv_iconst (v := (2 : Int32)) S.1 S.2.1 dX3_kill_16 (by decide) ?_
    refine call_X3_end S hw wl_X3_78 ht3 hq ⟨Nat.le_of_ble_eq_true rfl, Nat.le_of_ble_eq_true rfl⟩ hl.1 (Nat.le_of_ble_eq_true rfl) ⟨Nat.zero_le _, Nat.zero_le _⟩ dX3_kill_17 (fun k4 H locs hq hw => ?_)
    refine lv_iconst (v := (1 : Int32)) S.1 S.2.1 dX3_kill_20 (by decide) ?_
    exact kr_i (cu := fun u => ce_l cA cf ad u z0) S hr (by decide) hk hw hq dX3_kill_21
  · replace hq := hq.2 h2
    refine lv_iconst (v := (0 : Int32)) S.1 S.2.1 dX3_kill_8 (by decide) ?_
    exact kr_i (cu := fun u => ce_l cA cf ad u z0) S hr (by decide) hk hw hq dX3_kill_9
theorem c_X3_kill (z0 k0 : ka_T) (x1 : Int32) {post : Int32 → ka_T → Prop} (hq : q_X3_kill cf post x1 k0) : Met l yX3_kill wsX3_kill rmX3_kill (va_Pc [.ref (ad (0, 0)), .int x1] (Wx_ D cA cf ad A k0 z0)) (va_Qi post (fun u t => Wx_ D cA cf ad A u z0 t) A) 0 0 A :=
  kp_met (by decide +kernel) [.ref (ad (0, 0)), .int x1] (Nat.le_of_ble_eq_true rfl) (fun p e s m args below meth c ls S hr hk hw hl => b_X3_kill_0 S hr hk x1 k0 _ _ _ hl hw hq)
theorem call_X3_kill {z0 k0 : ka_T} {x1 : Int32} {post : Int32 → ka_T → Prop} (S : CallFix p m c cc nL s args lw_gd own) (hw : Wo_ D cA cf ad A k0 z0 s H locs) {index : Nat} (hl : Cond.methodLink own index yX3_kill ∈ lw_gd) (hq : q_X3_kill cf post x1 k0) (hR : rmX3_kill.frames + 1 ≤ R.frames ∧ 8 + (2 + 11) + rmX3_kill.locals ≤ R.locals) (hls : ls.size = nL) (hro : (rest.map fun v => v.category).sum ≤ 8) (hcs : cells ≤ R.cells ∧ slots ≤ R.slots) (hd : decode cc pc = .ok (.invokevirtual index, 3)) (kk : ∀ (r : Int32) (u : ka_T) (H1 : Heap) (locs1 : List Loc), post r u → Wo_ D cA cf ad A u z0 s H1 locs1 → W p l e R s m args below meth c H1 locs1 cells slots Q (F0 m (pc + 3) ls (.int r :: rest))) : W p l e R s m args below meth c H locs cells slots Q (F0 m pc ls (.int x1 :: .ref (ad (0, 0)) :: rest)) :=
  kg_vi (cu := fun u => ce_l cA cf ad u z0) (As := [.int x1]) S hw (q := (0, 0)) (c_X3_kill z0 k0 x1 hq) wc_X3_kill wn_X3 hl wi_X3_kill (C := RX3) (T := TX3) (N := 9) (ci := 3) (fs := fx_0 cf ad k0 0) wse_X3_kill (km_0) rfl rfl (na := 1) (by decide +kernel) rfl rfl rfl hR hls rfl hro hcs hd kk
abbrev rmX3_killOther : Room := { frames := 2, cells := 0, slots := 0, locals := 42 }
set_option maxRecDepth 100000 in
set_option maxHeartbeats 4000000 in
theorem b_X3_killOther_0 {post : Int32 → ka_T → Prop} (S : CallFix p m c cX3_killOther 3 s args lw_gd RX3) (hr : meth.sig.returnType = some .int) (hk : meth.locks = false) : ∀ (n1 : Nat) (hn1 : n1 < cf 0) (k0 : ka_T) (H : Heap) (locs : List Loc) (ls : Array Slot), lv_has ls 3 [(0, .ref (ad (0, 0))), (1, .ref (ad (6, n1)))] → Wo_ D cA cf ad A k0 z0 s H locs → q_X3_killOther cf post n1 k0 → W p l e rmX3_killOther s m args below meth c H locs 0 0 (MQ below (va_Qi post (fun u t => Wx_ D cA cf ad A u z0 t) A) args s 0 0 A) (F0 m 0 ls []) := by
  intro n1 hn1 k0 H locs ls hl hw hq
  refine lv_aload_n S.1 S.2.1 dX3_killOther_0 rfl (lv_at hl 1 rfl) ?_
  refine gf_201 S hw hn1 wf_X3_108 dX3_killOther_1 ?_
  refine gf_101 S hw (vl_n hn1) wf_X3_112 dX3_killOther_4 ?_
  refine lv_iconst (v := (1 : Int32)) S.1 S.2.1 dX3_killOther_7 (by decide) ?_
  refine lv_icmp_ge (tgt := 13) S.1 S.2.1 dX3_killOther_8 rfl (fun h1 => ?_) (fun h1 => ?_)
  · replace hq := hq.1 h1
    refine lv_aload_n S.1 S.2.1 dX3_killOther_13 rfl (lv_at hl 1 rfl) ?_
    refine gf_201 S hw hn1 wf_X3_108 dX3_killOther_14 ?_
    refine call_X1_pop S hw wl_X3_235 (vl_n hn1) hq ⟨Nat.le_of_ble_eq_true rfl, Nat.le_of_ble_eq_true rfl⟩ hl.1 (Nat.le_of_ble_eq_true rfl) ⟨Nat.zero_le _, Nat.zero_le _⟩ dX3_killOther_17 (fun r2 k2 H locs hq hw => ?_)
    refine lv_istore_n (lv' := [(2, .int r2), (0, .ref (ad (0, 0))), (1, .ref (ad (6, n1)))]) S.1 S.2.1 dX3_killOther_20 rfl hl (by decide) rfl (fun ls hl => ?_)
    refine lv_aload_n S.1 S.2.1 dX3_killOther_21 rfl (lv_at hl 1 rfl) ?_
    refine lv_iload_n S.1 S.2.1 dX3_killOther_22 rfl (lv_at hl 0 rfl) ?_
    refine call_X3_isLive S hw wl_X3_95 hq ⟨Nat.le_of_ble_eq_true rfl, Nat.le_of_ble_eq_true rfl⟩ hl.1 (Nat.le_of_ble_eq_true rfl) ⟨Nat.zero_le _, Nat.zero_le _⟩ dX3_killOther_23 (fun r3 k3 H locs hq hw => ?_)
    refine lv_if_ne (tgt := 35) S.1 S.2.1 dX3_killOther_26 rfl (fun h4 => ?_) (fun h4 => ?_)
    · replace hq := hq.1 h4
      refine lv_aload_n S.1 S.2.1 dX3_killOther_35 rfl (lv_at hl 1 rfl) ?_
      refine gf_300 S hw wf_X3_39 dX3_killOther_36 ?_
      refine lv_iload_n S.1 S.2.1 dX3_killOther_39 rfl (lv_at hl 0 rfl) ?_
      obtain ⟨hi, hq⟩ := hq
      refine ar_1 S hw hi dX3_killOther_40 (fun t5 e5 ht5 => ?_)
      replace hq := hq _ e5 ht5
      refine lv_iconst (v := (2 : Int32)) S.1 S.2.1 dX3_killOther_41 (by decide) ?_
      refine call_X3_end S hw wl_X3_78 ht5 hq ⟨Nat.le_of_ble_eq_true rfl, Nat.le_of_ble_eq_true rfl⟩ hl.1 (Nat.le_of_ble_eq_true rfl) ⟨Nat.zero_le _, Nat.zero_le _⟩ dX3_killOther_42 (fun k6 H locs hq hw => ?_)
      refine lv_iload_n S.1 S.2.1 dX3_killOther_45 rfl (lv_at hl 0 rfl) ?_
      refine lv_aload_n S.1 S.2.1 dX3_killOther_46 rfl (lv_at hl 2 rfl) ?_
      refine gf_200 S hw hn1 wf_X3_229 dX3_killOther_47 ?_
      refine lv_icmp_ne (tgt := 57) S.1 S.2.1 dX3_killOther_50 rfl (fun h7 => ?_) (fun h7 => ?_)
      · replace hq := hq.1 h7
        refine lv_aload_n S.1 S.2.1 dX3_killOther_57 rfl (lv_at hl 2 rfl) ?_
        refine lv_iconst (v := (1 : Int32)) S.1 S.2.1 dX3_killOther_58 (by decide) ?_
        refine call_X2_put S hw wl_X3_180 hn1 hq ⟨Nat.le_of_ble_eq_true rfl, Nat.le_of_ble_eq_true rfl⟩ hl.1 (Nat.le_of_ble_eq_true rfl) ⟨Nat.zero_le _, Nat.zero_le _⟩ dX3_killOther_59 (fun r8 k8 H locs hq hw => ?_)
        exact kr_i (cu := fun u => ce_l cA cf ad u z0) S hr rfl hk hw hq dX3_killOther_62
      · replace hq := hq.2 h7
        refine lv_iconst (v := (0 : Int32)) S.1 S.2.1 dX3_killOther_53 (by decide) ?_
        refine lv_goto (tgt := 62) S.1 S.2.1 dX3_killOther_54 rfl ?_
        exact kr_i (cu := fun u => ce_l cA cf ad u z0) S hr rfl hk hw hq dX3_killOther_62
    · replace hq := hq.2 h4
      refine lv_aload_n S.1 S.2.1 dX3_killOther_29 rfl (lv_at hl 2 rfl) ?_
      refine lv_iconst (v := (0 : Int32)) S.1 S.2.1 dX3_killOther_30 (by decide) ?_
      refine call_X2_put S hw wl_X3_180 hn1 hq ⟨Nat.le_of_ble_eq_true rfl, Nat.le_of_ble_eq_true rfl⟩ hl.1 (Nat.le_of_ble_eq_true rfl) ⟨Nat.zero_le _, Nat.zero_le _⟩ dX3_killOther_31 (fun r9 k9 H locs hq hw => ?_)
      exact kr_i (cu := fun u => ce_l cA cf ad u z0) S hr rfl hk hw hq dX3_killOther_34
  · replace hq := hq.2 h1
    refine lv_iconst (v := (1 : Int32)) S.1 S.2.1 dX3_killOther_11 (by decide) ?_
    exact kr_i (cu := fun u => ce_l cA cf ad u z0) S hr rfl hk hw hq dX3_killOther_12
theorem c_X3_killOther (z0 k0 : ka_T) (n1 : Nat) (hn1 : n1 < cf 0) {post : Int32 → ka_T → Prop} (hq : q_X3_killOther cf post n1 k0) : Met l yX3_killOther wsX3_killOther rmX3_killOther (va_Pc [.ref (ad (0, 0)), .ref (ad (6, n1))] (Wx_ D cA cf ad A k0 z0)) (va_Qi post (fun u t => Wx_ D cA cf ad A u z0 t) A) 0 0 A :=
  kp_met (by decide +kernel) [.ref (ad (0, 0)), .ref (ad (6, n1))] (Nat.le_of_ble_eq_true rfl) (fun p e s m args below meth c ls S hr hk hw hl => b_X3_killOther_0 S hr hk n1 hn1 k0 _ _ _ hl hw hq)
theorem call_X3_killOther {z0 k0 : ka_T} {n1 : Nat} {post : Int32 → ka_T → Prop} (S : CallFix p m c cc nL s args lw_gd own) (hw : Wo_ D cA cf ad A k0 z0 s H locs) {index : Nat} (hl : Cond.methodLink own index yX3_killOther ∈ lw_gd) (hn1 : n1 < cf 0) (hq : q_X3_killOther cf post n1 k0) (hR : rmX3_killOther.frames + 1 ≤ R.frames ∧ 8 + (3 + 11) + rmX3_killOther.locals ≤ R.locals) (hls : ls.size = nL) (hro : (rest.map fun v => v.category).sum ≤ 8) (hcs : cells ≤ R.cells ∧ slots ≤ R.slots) (hd : decode cc pc = .ok (.invokevirtual index, 3)) (kk : ∀ (r : Int32) (u : ka_T) (H1 : Heap) (locs1 : List Loc), post r u → Wo_ D cA cf ad A u z0 s H1 locs1 → W p l e R s m args below meth c H1 locs1 cells slots Q (F0 m (pc + 3) ls (.int r :: rest))) : W p l e R s m args below meth c H locs cells slots Q (F0 m pc ls (.ref (ad (6, n1)) :: .ref (ad (0, 0)) :: rest)) :=
  kg_vi (cu := fun u => ce_l cA cf ad u z0) (As := [.ref (ad (6, n1))]) S hw (q := (0, 0)) (c_X3_killOther z0 k0 n1 hn1 hq) wc_X3_killOther wn_X3 hl wi_X3_killOther (C := RX3) (T := TX3) (N := 9) (ci := 3) (fs := fx_0 cf ad k0 0) wse_X3_killOther (km_0) rfl rfl (na := 1) (by decide +kernel) rfl rfl rfl hR hls rfl hro hcs hd kk
abbrev rmX3_load : Room := { frames := 2, cells := 0, slots := 0, locals := 42 }
set_option maxRecDepth 100000 in
set_option maxHeartbeats 4000000 in
theorem b_X3_load_0 {post : Int32 → ka_T → Prop} (S : CallFix p m c cX3_load 3 s args lw_gd RX3) (hr : meth.sig.returnType = some .int) (hk : meth.locks = false) : ∀ (n1 : Nat) (hn1 : n1 < cf 0) (k0 : ka_T) (H : Heap) (locs : List Loc) (ls : Array Slot), lv_has ls 3 [(0, .ref (ad (0, 0))), (1, .ref (ad (6, n1)))] → Wo_ D cA cf ad A k0 z0 s H locs → q_X3_load cf post n1 k0 → W p l e rmX3_load s m args below meth c H locs 0 0 (MQ below (va_Qi post (fun u t => Wx_ D cA cf ad A u z0 t) A) args s 0 0 A) (F0 m 0 ls []) := by
  intro n1 hn1 k0 H locs ls hl hw hq
  refine lv_aload_n S.1 S.2.1 dX3_load_0 rfl (lv_at hl 1 rfl) ?_
  refine gf_201 S hw hn1 wf_X3_108 dX3_load_1 ?_
  refine gf_101 S hw (vl_n hn1) wf_X3_112 dX3_load_4 ?_
  refine lv_iconst (v := (1 : Int32)) S.1 S.2.1 dX3_load_7 (by decide) ?_
  refine lv_icmp_ge (tgt := 13) S.1 S.2.1 dX3_load_8 rfl (fun h1 => ?_) (fun h1 => ?_)
  · replace hq := hq.1 h1
    refine lv_aload_n S.1 S.2.1 dX3_load_13 rfl (lv_at hl 1 rfl) ?_
    refine gf_201 S hw hn1 wf_X3_108 dX3_load_14 ?_
    refine call_X1_pop S hw wl_X3_235 (vl_n hn1) hq ⟨Nat.le_of_ble_eq_true rfl, Nat.le_of_ble_eq_true rfl⟩ hl.1 (Nat.le_of_ble_eq_true rfl) ⟨Nat.zero_le _, Nat.zero_le _⟩ dX3_load_17 (fun r2 k2 H locs hq hw => ?_)
    refine lv_istore_n (lv' := [(2, .int r2), (0, .ref (ad (0, 0))), (1, .ref (ad (6, n1)))]) S.1 S.2.1 dX3_load_20 rfl hl (by decide) rfl (fun ls hl => ?_)
    refine lv_iload_n S.1 S.2.1 dX3_load_21 rfl (lv_at hl 0 rfl) ?_
    refine call_X3_isCell S hw wl_X3_147 hq ⟨Nat.le_of_ble_eq_true rfl, Nat.le_of_ble_eq_true rfl⟩ hl.1 (Nat.le_of_ble_eq_true rfl) ⟨Nat.zero_le _, Nat.zero_le _⟩ dX3_load_22 (fun r3 k3 H locs hq hw => ?_)
    refine lv_if_eq (tgt := 41) S.1 S.2.1 dX3_load_25 rfl (fun h4 => ?_) (fun h4 => ?_)
    · replace hq := hq.1 h4
      refine lv_iconst (v := (2 : Int32)) S.1 S.2.1 dX3_load_41 (by decide) ?_
      exact kr_i (cu := fun u => ce_l cA cf ad u z0) S hr rfl hk hw hq dX3_load_42
    · replace hq := hq.2 h4
      refine lv_aload_n S.1 S.2.1 dX3_load_28 rfl (lv_at hl 2 rfl) ?_
      refine lv_aload_n S.1 S.2.1 dX3_load_29 rfl (lv_at hl 1 rfl) ?_
      refine gf_303 S hw wf_X3_13 dX3_load_30 ?_
      refine lv_iload_n S.1 S.2.1 dX3_load_33 rfl (lv_at hl 0 rfl) ?_
      obtain ⟨hi, hq⟩ := hq
      refine al_4 S hw hi dX3_load_34 ?_
      refine call_X2_put S hw wl_X3_180 hn1 hq ⟨Nat.le_of_ble_eq_true rfl, Nat.le_of_ble_eq_true rfl⟩ hl.1 (Nat.le_of_ble_eq_true rfl) ⟨Nat.zero_le _, Nat.zero_le _⟩ dX3_load_35 (fun r5 k5 H locs hq hw => ?_)
      refine lv_goto (tgt := 42) S.1 S.2.1 dX3_load_38 rfl ?_
      exact kr_i (cu := fun u => ce_l cA cf ad u z0) S hr rfl hk hw hq dX3_load_42
  · replace hq := hq.2 h1
    refine lv_iconst (v := (1 : Int32)) S.1 S.2.1 dX3_load_11 (by decide) ?_
    exact kr_i (cu := fun u => ce_l cA cf ad u z0) S hr rfl hk hw hq dX3_load_12
theorem c_X3_load (z0 k0 : ka_T) (n1 : Nat) (hn1 : n1 < cf 0) {post : Int32 → ka_T → Prop} (hq : q_X3_load cf post n1 k0) : Met l yX3_load wsX3_load rmX3_load (va_Pc [.ref (ad (0, 0)), .ref (ad (6, n1))] (Wx_ D cA cf ad A k0 z0)) (va_Qi post (fun u t => Wx_ D cA cf ad A u z0 t) A) 0 0 A :=
  kp_met (by decide +kernel) [.ref (ad (0, 0)), .ref (ad (6, n1))] (Nat.le_of_ble_eq_true rfl) (fun p e s m args below meth c ls S hr hk hw hl => b_X3_load_0 S hr hk n1 hn1 k0 _ _ _ hl hw hq)
theorem call_X3_load {z0 k0 : ka_T} {n1 : Nat} {post : Int32 → ka_T → Prop} (S : CallFix p m c cc nL s args lw_gd own) (hw : Wo_ D cA cf ad A k0 z0 s H locs) {index : Nat} (hl : Cond.methodLink own index yX3_load ∈ lw_gd) (hn1 : n1 < cf 0) (hq : q_X3_load cf post n1 k0) (hR : rmX3_load.frames + 1 ≤ R.frames ∧ 8 + (3 + 11) + rmX3_load.locals ≤ R.locals) (hls : ls.size = nL) (hro : (rest.map fun v => v.category).sum ≤ 8) (hcs : cells ≤ R.cells ∧ slots ≤ R.slots) (hd : decode cc pc = .ok (.invokevirtual index, 3)) (kk : ∀ (r : Int32) (u : ka_T) (H1 : Heap) (locs1 : List Loc), post r u → Wo_ D cA cf ad A u z0 s H1 locs1 → W p l e R s m args below meth c H1 locs1 cells slots Q (F0 m (pc + 3) ls (.int r :: rest))) : W p l e R s m args below meth c H locs cells slots Q (F0 m pc ls (.ref (ad (6, n1)) :: .ref (ad (0, 0)) :: rest)) :=
  kg_vi (cu := fun u => ce_l cA cf ad u z0) (As := [.ref (ad (6, n1))]) S hw (q := (0, 0)) (c_X3_load z0 k0 n1 hn1 hq) wc_X3_load wn_X3 hl wi_X3_load (C := RX3) (T := TX3) (N := 9) (ci := 3) (fs := fx_0 cf ad k0 0) wse_X3_load (km_0) rfl rfl (na := 1) (by decide +kernel) rfl rfl rfl hR hls rfl hro hcs hd kk
abbrev rmX3_markOf : Room := { frames := 0, cells := 0, slots := 0, locals := 0 }
set_option maxRecDepth 100000 in
set_option maxHeartbeats 4000000 in
theorem b_X3_markOf_0 {post : Int32 → ka_T → Prop} (S : CallFix p m c cX3_markOf 1 s args lw_gd RX3) (hr : meth.sig.returnType = some .int) (hk : meth.locks = false) : ∀ (x0 : Int32) (k0 : ka_T) (H : Heap) (locs : List Loc) (ls : Array Slot), lv_has ls 1 [(0, .int x0)] → Wo_ D cA cf ad A k0 z0 s H locs → q_X3_markOf cf post x0 k0 → W p l e rmX3_markOf s m args below meth c H locs 0 0 (MQ below (va_Qi post (fun u t => Wx_ D cA cf ad A u z0 t) A) args s 0 0 A) (F0 m 0 ls []) := by
  intro x0 k0 H locs ls hl hw hq
  refine lv_iload_n S.1 S.2.1 dX3_markOf_0 rfl (lv_at hl 0 rfl) ?_
  refine lv_iconst (v := (1 : Int32)) S.1 S.2.1 dX3_markOf_1 (by decide) ?_
  refine lv_icmp_ne (tgt := 7) S.1 S.2.1 dX3_markOf_2 rfl (fun h1 => ?_) (fun h1 => ?_)
  · replace hq := hq.1 h1
    refine lv_iload_n S.1 S.2.1 dX3_markOf_7 rfl (lv_at hl 0 rfl) ?_
    refine lv_if_ne (tgt := 15) S.1 S.2.1 dX3_markOf_8 rfl (fun h2 => ?_) (fun h2 => ?_)
    · replace hq := hq.1 h2
      refine lv_iload_n S.1 S.2.1 dX3_markOf_15 rfl (lv_at hl 0 rfl) ?_
      exact kr_i (cu := fun u => ce_l cA cf ad u z0) S hr rfl hk hw hq dX3_markOf_16
    · replace hq := hq.2 h2
      refine lv_iconst (v := (1 : Int32)) S.1 S.2.1 dX3_markOf_11 (by decide) ?_
      refine lv_goto (tgt := 16) S.1 S.2.1 dX3_markOf_12 rfl ?_
      exact kr_i (cu := fun u => ce_l cA cf ad u z0) S hr rfl hk hw hq dX3_markOf_16
  · replace hq := hq.2 h1
    refine lv_iconst (v := (0 : Int32)) S.1 S.2.1 dX3_markOf_5 (by decide) ?_
    exact kr_i (cu := fun u => ce_l cA cf ad u z0) S hr rfl hk hw hq dX3_markOf_6
theorem c_X3_markOf (z0 k0 : ka_T) (x0 : Int32) {post : Int32 → ka_T → Prop} (hq : q_X3_markOf cf post x0 k0) : Met l yX3_markOf wsX3_markOf rmX3_markOf (va_Pc [.int x0] (Wx_ D cA cf ad A k0 z0)) (va_Qi post (fun u t => Wx_ D cA cf ad A u z0 t) A) 0 0 A :=
  kp_met (by decide +kernel) [.int x0] (Nat.le_of_ble_eq_true rfl) (fun p e s m args below meth c ls S hr hk hw hl => b_X3_markOf_0 S hr hk x0 k0 _ _ _ hl hw hq)
theorem call_X3_markOf {z0 k0 : ka_T} {x0 : Int32} {post : Int32 → ka_T → Prop} (S : CallFix p m c cc nL s args lw_gd own) (hw : Wo_ D cA cf ad A k0 z0 s H locs) {index : Nat} (hl : Cond.methodLink own index yX3_markOf ∈ lw_gd) (hq : q_X3_markOf cf post x0 k0) (hR : rmX3_markOf.frames + 1 ≤ R.frames ∧ 8 + (1 + 11) + rmX3_markOf.locals ≤ R.locals) (hls : ls.size = nL) (hro : (rest.map fun v => v.category).sum ≤ 8) (hcs : cells ≤ R.cells ∧ slots ≤ R.slots) (hd : decode cc pc = .ok (.invokestatic index, 3)) (kk : ∀ (r : Int32) (u : ka_T) (H1 : Heap) (locs1 : List Loc), post r u → Wo_ D cA cf ad A u z0 s H1 locs1 → W p l e R s m args below meth c H1 locs1 cells slots Q (F0 m (pc + 3) ls (.int r :: rest))) : W p l e R s m args below meth c H locs cells slots Q (F0 m pc ls (.int x0 :: rest)) :=
  kg_si (cu := fun u => ce_l cA cf ad u z0) (As := [.int x0]) S hw (c_X3_markOf z0 k0 x0 hq) wc_X3_markOf wn_X3 hl wst_X3_markOf (na := 1) (by decide +kernel) rfl rfl rfl hR hls rfl hro hcs hd kk
abbrev rmX3_memory : Room := { frames := 1, cells := 0, slots := 0, locals := 20 }
set_option maxRecDepth 100000 in
set_option maxHeartbeats 4000000 in
theorem b_X3_memory_0 {post : Int32 → ka_T → Prop} (S : CallFix p m c cX3_memory 2 s args lw_gd RX3) (hr : meth.sig.returnType = some .int) (hk : meth.locks = false) : ∀ (x1 : Int32) (k0 : ka_T) (H : Heap) (locs : List Loc) (ls : Array Slot), lv_has ls 2 [(0, .ref (ad (0, 0))), (1, .int x1)] → Wo_ D cA cf ad A k0 z0 s H locs → q_X3_memory cf post x1 k0 → W p l e rmX3_memory s m args below meth c H locs 0 0 (MQ below (va_Qi post (fun u t => Wx_ D cA cf ad A u z0 t) A) args s 0 0 A) (F0 m 0 ls []) := by
  intro x1 k0 H locs ls hl hw hq
  refine lv_iload_n S.1 S.2.1 dX3_memory_0 rfl (lv_at hl 1 rfl) ?_
  refine call_X3_isCell S hw wl_X3_147 hq ⟨Nat.le_of_ble_eq_true rfl, Nat.le_of_ble_eq_true rfl⟩ hl.1 (Nat.le_of_ble_eq_true rfl) ⟨Nat.zero_le _, Nat.zero_le _⟩ dX3_memory_1 (fun r1 k1 H locs hq hw => ?_)
  refine lv_if_eq (tgt := 16) S.1 S.2.1 dX3_memory_4 rfl (fun h2 => ?_) (fun h2 => ?_)
  · replace hq := hq.1 h2
    refine lv_ldc S.1 S.2.1 S.2.2.2.1 (S.2.2.2.2 _ wv_X3_101) dX3_memory_16 ?_
    exact kr_i (cu := fun u => ce_l cA cf ad u z0) S hr rfl hk hw hq dX3_memory_18
  · replace hq := hq.2 h2
    refine lv_aload_n S.1 S.2.1 dX3_memory_7 rfl (lv_at hl 0 rfl) ?_
    refine gf_303 S hw wf_X3_13 dX3_memory_8 ?_
    refine lv_iload_n S.1 S.2.1 dX3_memory_11 rfl (lv_at hl 1 rfl) ?_
    obtain ⟨hi, hq⟩ := hq
    refine al_4 S hw hi dX3_memory_12 ?_
    refine lv_goto (tgt := 18) S.1 S.2.1 dX3_memory_13 rfl ?_
    exact kr_i (cu := fun u => ce_l cA cf ad u z0) S hr rfl hk hw hq dX3_memory_18
theorem c_X3_memory (z0 k0 : ka_T) (x1 : Int32) {post : Int32 → ka_T → Prop} (hq : q_X3_memory cf post x1 k0) : Met l yX3_memory wsX3_memory rmX3_memory (va_Pc [.ref (ad (0, 0)), .int x1] (Wx_ D cA cf ad A k0 z0)) (va_Qi post (fun u t => Wx_ D cA cf ad A u z0 t) A) 0 0 A :=
  kp_met (by decide +kernel) [.ref (ad (0, 0)), .int x1] (Nat.le_of_ble_eq_true rfl) (fun p e s m args below meth c ls S hr hk hw hl => b_X3_memory_0 S hr hk x1 k0 _ _ _ hl hw hq)
theorem call_X3_memory {z0 k0 : ka_T} {x1 : Int32} {post : Int32 → ka_T → Prop} (S : CallFix p m c cc nL s args lw_gd own) (hw : Wo_ D cA cf ad A k0 z0 s H locs) {index : Nat} (hl : Cond.methodLink own index yX3_memory ∈ lw_gd) (hq : q_X3_memory cf post x1 k0) (hR : rmX3_memory.frames + 1 ≤ R.frames ∧ 8 + (2 + 11) + rmX3_memory.locals ≤ R.locals) (hls : ls.size = nL) (hro : (rest.map fun v => v.category).sum ≤ 8) (hcs : cells ≤ R.cells ∧ slots ≤ R.slots) (hd : decode cc pc = .ok (.invokevirtual index, 3)) (kk : ∀ (r : Int32) (u : ka_T) (H1 : Heap) (locs1 : List Loc), post r u → Wo_ D cA cf ad A u z0 s H1 locs1 → W p l e R s m args below meth c H1 locs1 cells slots Q (F0 m (pc + 3) ls (.int r :: rest))) : W p l e R s m args below meth c H locs cells slots Q (F0 m pc ls (.int x1 :: .ref (ad (0, 0)) :: rest)) :=
  kg_vi (cu := fun u => ce_l cA cf ad u z0) (As := [.int x1]) S hw (q := (0, 0)) (c_X3_memory z0 k0 x1 hq) wc_X3_memory wn_X3 hl wi_X3_memory (C := RX3) (T := TX3) (N := 9) (ci := 3) (fs := fx_0 cf ad k0 0) wse_X3_memory (km_0) rfl rfl (na := 1) (by decide +kernel) rfl rfl rfl hR hls rfl hro hcs hd kk
abbrev rmX3_next : Room := { frames := 1, cells := 0, slots := 0, locals := 21 }
set_option maxRecDepth 100000 in
set_option maxHeartbeats 4000000 in
theorem b_X3_next_4 {post : Int32 → ka_T → Prop} (S : CallFix p m c cX3_next 3 s args lw_gd RX3) (hr : meth.sig.returnType = some .int) (hk : meth.locks = false) : ∀ nf : Nat, ∀ (x1 : Int32) (x2 : Int32) (k0 : ka_T) (H : Heap) (locs : List Loc) (ls : Array Slot), lv_has ls 3 [(0, .ref (ad (0, 0))), (1, .int x1), (2, .int x2)] → Wo_ D cA cf ad A k0 z0 s H locs → q_X3_next_4 cf post nf x1 x2 k0 → W p l e rmX3_next s m args below meth c H locs 0 0 (MQ below (va_Qi post (fun u t => Wx_ D cA cf ad A u z0 t) A) args s 0 0 A) (F0 m 4 ls []) := by
  intro nf
  induction nf with
  | zero =>
    intro x1 x2 k0 H locs ls hl hw hq
    exact False.elim hq
  | succ nf ih =>
    intro x1 x2 k0 H locs ls hl hw hq
    refine lv_iload_n S.1 S.2.1 dX3_next_4 rfl (lv_at hl 2 rfl) ?_
    refine lv_aload_n S.1 S.2.1 dX3_next_5 rfl (lv_at hl 0 rfl) ?_
    refine gf_300 S hw wf_X3_39 dX3_next_6 ?_
    refine an_1 S hw dX3_next_9 ?_
    refine lv_icmp_ge (tgt := 56) S.1 S.2.1 dX3_next_10 rfl (fun h1 => ?_) (fun h1 => ?_)
    · replace hq := hq.1 h1
      refine lv_iload_n S.1 S.2.1 dX3_next_56 rfl (lv_at hl 1 rfl) ?_
      exact kr_i (cu := fun u => ce_l cA cf ad u z0) S hr rfl hk hw hq dX3_next_57
    · replace hq := hq.2 h1
      refine lv_aload_n S.1 S.2.1 dX3_next_13 rfl (lv_at hl 0 rfl) ?_
      refine gf_300 S hw wf_X3_39 dX3_next_14 ?_
      refine lv_iload_n S.1 S.2.1 dX3_next_17 rfl (lv_at hl 2 rfl) ?_
      obtain ⟨hi, hq⟩ := hq
      refine ar_1 S hw hi dX3_next_18 (fun t2 e2 ht2 => ?_)
      replace hq := hq _ e2 ht2
      refine gf_203 S hw ht2 wf_X3_71 dX3_next_19 ?_
      refine lv_iconst (v := (1 : Int32)) S.1 S.2.1 dX3_next_22 (by decide) ?_
      refine lv_icmp_ne (tgt := 50) S.1 S.2.1 dX3_next_23 rfl (fun h3 => ?_) (fun h3 => ?_)
      · replace hq := hq.1 h3
        refine lv_iinc (k := 2) (v := (x2 + 1)) (lv' := [(2, .int (x2 + 1)), (0, .ref (ad (0, 0))), (1, .int x1)]) S.1 S.2.1 dX3_next_50 hl rfl (ii_1 _) (by decide) rfl (fun ls hl => ?_)
        refine lv_goto (tgt := 4) S.1 S.2.1 dX3_next_53 rfl ?_
        exact ih x1 (x2 + 1) k0 _ _ _ (lv_sub hl [1, 2, 0] rfl) hw hq
      · replace hq := hq.2 h3
        refine lv_iload_n S.1 S.2.1 dX3_next_26 rfl (lv_at hl 1 rfl) ?_
        refine lv_if_lt (tgt := 48) S.1 S.2.1 dX3_next_27 rfl (fun h4 => ?_) (fun h4 => ?_)
        · replace hq := hq.1 h4
          refine lv_iload_n S.1 S.2.1 dX3_next_48 rfl (lv_at hl 2 rfl) ?_
          refine lv_istore_n (lv' := [(1, .int x2), (0, .ref (ad (0, 0))), (2, .int x2)]) S.1 S.2.1 dX3_next_49 rfl hl (by decide) rfl (fun ls hl => ?_)
          refine lv_iinc (k := 2) (v := (x2 + 1)) (lv' := [(2, .int (x2 + 1)), (1, .int x2), (0, .ref (ad (0, 0)))]) S.1 S.2.1 dX3_next_50 hl rfl (ii_1 _) (by decide) rfl (fun ls hl => ?_)
          refine lv_goto (tgt := 4) S.1 S.2.1 dX3_next_53 rfl ?_
          exact ih x2 (x2 + 1) k0 _ _ _ (lv_sub hl [2, 1, 0] rfl) hw hq
        · replace hq := hq.2 h4
          refine lv_aload_n S.1 S.2.1 dX3_next_30 rfl (lv_at hl 0 rfl) ?_
          refine gf_300 S hw wf_X3_39 dX3_next_31 ?_
          refine lv_iload_n S.1 S.2.1 dX3_next_34 rfl (lv_at hl 2 rfl) ?_
          obtain ⟨hi, hq⟩ := hq
          refine ar_1 S hw hi dX3_next_35 (fun t5 e5 ht5 => ?_)
          replace hq := hq _ e5 ht5
          refine lv_aload_n S.1 S.2.1 dX3_next_36 rfl (lv_at hl 0 rfl) ?_
          refine gf_300 S hw wf_X3_39 dX3_next_37 ?_
          refine lv_iload_n S.1 S.2.1 dX3_next_40 rfl (lv_at hl 1 rfl) ?_
          obtain ⟨hi, hq⟩ := hq
          refine ar_1 S hw hi dX3_next_41 (fun t6 e6 ht6 => ?_)
          replace hq := hq _ e6 ht6
          refine call_X2_goesBefore S hw wl_X3_129 ht5 ht6 hq ⟨Nat.le_of_ble_eq_true rfl, Nat.le_of_ble_eq_true rfl⟩ hl.1 (Nat.le_of_ble_eq_true rfl) ⟨Nat.zero_le _, Nat.zero_le _⟩ dX3_next_42 (fun r7 k7 H locs hq hw => ?_)
          refine lv_if_eq (tgt := 50) S.1 S.2.1 dX3_next_45 rfl (fun h8 => ?_) (fun h8 => ?_)
          · replace hq := hq.1 h8
            refine lv_iinc (k := 2) (v := (x2 + 1)) (lv' := [(2, .int (x2 + 1)), (0, .ref (ad (0, 0))), (1, .int x1)]) S.1 S.2.1 dX3_next_50 hl rfl (ii_1 _) (by decide) rfl (fun ls hl => ?_)
            refine lv_goto (tgt := 4) S.1 S.2.1 dX3_next_53 rfl ?_
            exact ih x1 (x2 + 1) k7 _ _ _ (lv_sub hl [1, 2, 0] rfl) hw hq
          · replace hq := hq.2 h8
            refine lv_iload_n S.1 S.2.1 dX3_next_48 rfl (lv_at hl 2 rfl) ?_
            refine lv_istore_n (lv' := [(1, .int x2), (0, .ref (ad (0, 0))), (2, .int x2)]) S.1 S.2.1 dX3_next_49 rfl hl (by decide) rfl (fun ls hl => ?_)
            refine lv_iinc (k := 2) (v := (x2 + 1)) (lv' := [(2, .int (x2 + 1)), (1, .int x2), (0, .ref (ad (0, 0)))]) S.1 S.2.1 dX3_next_50 hl rfl (ii_1 _) (by decide) rfl (fun ls hl => ?_)
            refine lv_goto (tgt := 4) S.1 S.2.1 dX3_next_53 rfl ?_
            exact ih x2 (x2 + 1) k7 _ _ _ (lv_sub hl [2, 1, 0] rfl) hw hq
set_option maxRecDepth 100000 in
set_option maxHeartbeats 4000000 in
theorem b_X3_next_0 {post : Int32 → ka_T → Prop} (S : CallFix p m c cX3_next 3 s args lw_gd RX3) (hr : meth.sig.returnType = some .int) (hk : meth.locks = false) : ∀ (k0 : ka_T) (H : Heap) (locs : List Loc) (ls : Array Slot), lv_has ls 3 [(0, .ref (ad (0, 0)))] → Wo_ D cA cf ad A k0 z0 s H locs → q_X3_next cf post k0 → W p l e rmX3_next s m args below meth c H locs 0 0 (MQ below (va_Qi post (fun u t => Wx_ D cA cf ad A u z0 t) A) args s 0 0 A) (F0 m 0 ls []) := by
  intro k0 H locs ls hl hw hq
  refine lv_iconst (v := (-1 : Int32)) S.1 S.2.1 dX3_next_0 (by decide) ?_
  refine lv_istore_n (lv' := [(1, .int (-1 : Int32)), (0, .ref (ad (0, 0)))]) S.1 S.2.1 dX3_next_1 rfl hl (by decide) rfl (fun ls hl => ?_)
  refine lv_iconst (v := (0 : Int32)) S.1 S.2.1 dX3_next_2 (by decide) ?_
  refine lv_istore_n (lv' := [(2, .int (0 : Int32)), (1, .int (-1 : Int32)), (0, .ref (ad (0, 0)))]) S.1 S.2.1 dX3_next_3 rfl hl (by decide) rfl (fun ls hl => ?_)
  obtain ⟨nf9, hq⟩ := hq
  exact b_X3_next_4 S hr hk nf9 (-1 : Int32) (0 : Int32) k0 _ _ _ (lv_sub hl [2, 1, 0] rfl) hw hq
theorem c_X3_next (z0 k0 : ka_T) {post : Int32 → ka_T → Prop} (hq : q_X3_next cf post  k0) : Met l yX3_next wsX3_next rmX3_next (va_Pc [.ref (ad (0, 0))] (Wx_ D cA cf ad A k0 z0)) (va_Qi post (fun u t => Wx_ D cA cf ad A u z0 t) A) 0 0 A :=
  kp_met (by decide +kernel) [.ref (ad (0, 0))] (Nat.le_of_ble_eq_true rfl) (fun p e s m args below meth c ls S hr hk hw hl => b_X3_next_0 S hr hk  k0 _ _ _ hl hw hq)
theorem call_X3_next {z0 k0 : ka_T} {post : Int32 → ka_T → Prop} (S : CallFix p m c cc nL s args lw_gd own) (hw : Wo_ D cA cf ad A k0 z0 s H locs) {index : Nat} (hl : Cond.methodLink own index yX3_next ∈ lw_gd) (hq : q_X3_next cf post  k0) (hR : rmX3_next.frames + 1 ≤ R.frames ∧ 8 + (3 + 11) + rmX3_next.locals ≤ R.locals) (hls : ls.size = nL) (hro : (rest.map fun v => v.category).sum ≤ 8) (hcs : cells ≤ R.cells ∧ slots ≤ R.slots) (hd : decode cc pc = .ok (.invokevirtual index, 3)) (kk : ∀ (r : Int32) (u : ka_T) (H1 : Heap) (locs1 : List Loc), post r u → Wo_ D cA cf ad A u z0 s H1 locs1 → W p l e R s m args below meth c H1 locs1 cells slots Q (F0 m (pc + 3) ls (.int r :: rest))) : W p l e R s m args below meth c H locs cells slots Q (F0 m pc ls (.ref (ad (0, 0)) :: rest)) :=
  kg_vi (cu := fun u => ce_l cA cf ad u z0) (As := []) S hw (q := (0, 0)) (c_X3_next z0 k0  hq) wc_X3_next wn_X3 hl wi_X3_next (C := RX3) (T := TX3) (N := 9) (ci := 3) (fs := fx_0 cf ad k0 0) wse_X3_next (km_0) rfl rfl (na := 0) (by decide +kernel) rfl rfl rfl hR hls rfl hro hcs hd kk
end KW
