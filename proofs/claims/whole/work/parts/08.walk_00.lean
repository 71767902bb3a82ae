/-! printed by wip/whole/gen.py: the walks, contracts and calls of the methods -/
section KW
variable {p : Program} {l : Launch} {e : Env} {R : Room} {s : State} {m : MethodId} {args : Array Value} {below : List Frame} {meth : Method} {c : Code} {H : Heap} {locs : List Loc} {cells slots : Nat} {Q : State → Prop}
variable {cc : ByteArray} {nL pc : Nat} {ls : Array Slot} {rest : List Value} {own : String} {D : va_G} {A : Nat → Prop} {cA : Nat → ClassId} {cf : Nat → Nat} {ad : Nat × Nat → Nat} {z0 : ka_T}
abbrev rmX0_slot : Room := { frames := 0, cells := 0, slots := 0, locals := 0 }
set_option maxRecDepth 100000 in
set_option maxHeartbeats 4000000 in
theorem b_X0_slot_0 {post : Int32 → ka_T → Prop} (S : CallFix p m c cX0_slot 3 s args lw_gd RX0) (hr : meth.sig.returnType = some .int) (hk : meth.locks = false) : ∀ (n0 : Nat) (hn0 : n0 < cf 2) (x1 : Int32) (k0 : ka_T) (H : Heap) (locs : List Loc) (ls : Array Slot), lv_has ls 3 [(0, .ref (ad (9, n0))), (1, .int x1)] → Wo_ D cA cf ad A k0 z0 s H locs → q_X0_slot cf post n0 x1 k0 → W p l e rmX0_slot s m args below meth c H locs 0 0 (MQ below (va_Qi post (fun u t => Wx_ D cA cf ad A u z0 t) A) args s 0 0 A) (F0 m 0 ls []) := by
  intro n0 hn0 x1 k0 H locs ls hl hw hq
  refine lv_aload_n S.1 S.2.1 dX0_slot_0 rfl (lv_at hl 0 rfl) ?_
  refine gf_1 S hw hn0 wf_X0_9 dX0_slot_1 ?_
  refine lv_iload_n S.1 S.2.1 dX0_slot_4 rfl (lv_at hl 1 rfl) ?_
  refine lv_iadd S.1 S.2.1 dX0_slot_5 ?_
  refine lv_istore_n (lv' := [(2, .int ((k0 1 n0 0) + x1)), (0, .ref (ad (9, n0))), (1, .int x1)]) S.1 S.2.1 dX0_slot_6 rfl hl (by decide) rfl (fun ls hl => ?_)
  refine lv_iload_n S.1 S.2.1 dX0_slot_7 rfl (lv_at hl 0 rfl) ?_
  refine lv_aload_n S.1 S.2.1 dX0_slot_8 rfl (lv_at hl 1 rfl) ?_
  refine gf_0 S hw hn0 wf_X0_18 dX0_slot_9 ?_
  refine an_10 S hw hn0 dX0_slot_12 ?_
  refine lv_icmp_ge (tgt := 20) S.1 S.2.1 dX0_slot_13 rfl (fun h1 => ?_) (fun h1 => ?_)
  · replace hq := hq.1 h1
    refine lv_iload_n S.1 S.2.1 dX0_slot_20 rfl (lv_at hl 0 rfl) ?_
    refine lv_aload_n S.1 S.2.1 dX0_slot_21 rfl (lv_at hl 1 rfl) ?_
    refine gf_0 S hw hn0 wf_X0_18 dX0_slot_22 ?_
    refine an_10 S hw hn0 dX0_slot_25 ?_
    refine lv_isub S.1 S.2.1 dX0_slot_26 ?_
    exact kr_i (cu := fun u => ce_l cA cf ad u z0) S hr rfl hk hw hq dX0_slot_27
  · replace hq := hq.2 h1
    refine lv_iload_n S.1 S.2.1 dX0_slot_16 rfl (lv_at hl 0 rfl) ?_
    refine lv_goto (tgt := 27) S.1 S.2.1 dX0_slot_17 rfl ?_
    exact kr_i (cu := fun u => ce_l cA cf ad u z0) S hr rfl hk hw hq dX0_slot_27
theorem c_X0_slot (z0 k0 : ka_T) (n0 : Nat) (hn0 : n0 < cf 2) (x1 : Int32) {post : Int32 → ka_T → Prop} (hq : q_X0_slot cf post n0 x1 k0) : Met l yX0_slot wsX0_slot rmX0_slot (va_Pc [.ref (ad (9, n0)), .int x1] (Wx_ D cA cf ad A k0 z0)) (va_Qi post (fun u t => Wx_ D cA cf ad A u z0 t) A) 0 0 A :=
  kp_met (by decide +kernel) [.ref (ad (9, n0)), .int x1] (Nat.le_of_ble_eq_true rfl) (fun p e s m args below meth c ls S hr hk hw hl => b_X0_slot_0 S hr hk n0 hn0 x1 k0 _ _ _ hl hw hq)
theorem call_X0_slot {z0 k0 : ka_T} {n0 : Nat} {x1 : Int32} {post : Int32 → ka_T → Prop} (S : CallFix p m c cc nL s args lw_gd own) (hw : Wo_ D cA cf ad A k0 z0 s H locs) {index : Nat} (hl : Cond.methodLink own index yX0_slot ∈ lw_gd) (hn0 : n0 < cf 2) (hq : q_X0_slot cf post n0 x1 k0) (hR : rmX0_slot.frames + 1 ≤ R.frames ∧ 8 + (3 + 11) + rmX0_slot.locals ≤ R.locals) (hls : ls.size = nL) (hro : (rest.map fun v => v.category).sum ≤ 8) (hcs : cells ≤ R.cells ∧ slots ≤ R.slots) (hd : decode cc pc = .ok (.invokevirtual index, 3)) (kk : ∀ (r : Int32) (u : ka_T) (H1 : Heap) (locs1 : List Loc), post r u → Wo_ D cA cf ad A u z0 s H1 locs1 → W p l e R s m args below meth c H1 locs1 cells slots Q (F0 m (pc + 3) ls (.int r :: rest))) : W p l e R s m args below meth c H locs cells slots Q (F0 m pc ls (.int x1 :: .ref (ad (9, n0)) :: rest)) :=
  kg_vi (cu := fun u => ce_l cA cf ad u z0) (As := [.int x1]) S hw (q := (9, n0)) (c_X0_slot z0 k0 n0 hn0 x1 hq) wc_X0_slot wn_X0 hl wi_X0_slot (C := RX0) (T := TX0) (N := 3) (ci := 0) (fs := fx_9 cf ad k0 n0) wse_X0_slot (km_9 hn0) rfl rfl (na := 1) (by decide +kernel) rfl rfl rfl hR hls rfl hro hcs hd kk
abbrev rmX0_addLast : Room := { frames := 1, cells := 0, slots := 0, locals := 22 }
set_option maxRecDepth 100000 in
set_option maxHeartbeats 4000000 in
theorem b_X0_addLast_0 {post : Int32 → ka_T → Prop} (S : CallFix p m c cX0_addLast 2 s args lw_gd RX0) (hr : meth.sig.returnType = some .boolean) (hk : meth.locks = false) : ∀ (n0 : Nat) (hn0 : n0 < cf 2) (x1 : Int32) (k0 : ka_T) (H : Heap) (locs : List Loc) (ls : Array Slot), lv_has ls 2 [(0, .ref (ad (9, n0))), (1, .int x1)] → Wo_ D cA cf ad A k0 z0 s H locs → q_X0_addLast cf post n0 x1 k0 → W p l e rmX0_addLast s m args below meth c H locs 0 0 (MQ below (va_Qi post (fun u t => Wx_ D cA cf ad A u z0 t) A) args s 0 0 A) (F0 m 0 ls []) := by
  intro n0 hn0 x1 k0 H locs ls hl hw hq
  refine lv_aload_n S.1 S.2.1 dX0_addLast_0 rfl (lv_at hl 0 rfl) ?_
  refine gf_2 S hw hn0 wf_X0_15 dX0_addLast_1 ?_
  refine lv_aload_n S.1 S.2.1 dX0_addLast_4 rfl (lv_at hl 0 rfl) ?_
  refine gf_0 S hw hn0 wf_X0_18 dX0_addLast_5 ?_
  refine an_10 S hw hn0 dX0_addLast_8 ?_
  refine lv_icmp_lt (tgt := 14) S.1 S.2.1 dX0_addLast_9 rfl (fun h1 => ?_) (fun h1 => ?_)
  · replace hq := hq.1 h1
    refine lv_aload_n S.1 S.2.1 dX0_addLast_14 rfl (lv_at hl 0 rfl) ?_
    refine gf_0 S hw hn0 wf_X0_18 dX0_addLast_15 ?_
    refine lv_aload_n S.1 S.2.1 dX0_addLast_18 rfl (lv_at hl 0 rfl) ?_
    refine lv_aload_n S.1 S.2.1 dX0_addLast_19 rfl (lv_at hl 0 rfl) ?_
    refine gf_2 S hw hn0 wf_X0_15 dX0_addLast_20 ?_
    refine call_X0_slot S hw wl_X0_22 hn0 hq ⟨Nat.le_of_ble_eq_true rfl, Nat.le_of_ble_eq_true rfl⟩ hl.1 (Nat.le_of_ble_eq_true rfl) ⟨Nat.zero_le _, Nat.zero_le _⟩ dX0_addLast_23 (fun r2 k2 H locs hq hw => ?_)
    refine lv_iload_n S.1 S.2.1 dX0_addLast_26 rfl (lv_at hl 1 rfl) ?_
    obtain ⟨hi, hq⟩ := hq
    refine as_10 S hw hn0 hi dX0_addLast_27 (fun k3 H locs e3 hw => ?_)
    replace hq := hq _ e3
    refine lv_aload_n S.1 S.2.1 dX0_addLast_28 rfl (lv_at hl 0 rfl) ?_
    refine lv_dup S.1 S.2.1 dX0_addLast_29 rfl ?_
    refine gf_2 S hw hn0 wf_X0_15 dX0_addLast_30 ?_
    refine lv_iconst (v := (1 : Int32)) S.1 S.2.1 dX0_addLast_33 (by decide) ?_
    refine lv_iadd S.1 S.2.1 dX0_addLast_34 ?_
    refine pf_2 S hw hn0 wf_X0_15 dX0_addLast_35 (fun k4 H locs e4 hw => ?_)
    replace hq := hq _ e4
    refine lv_iconst (v := (1 : Int32)) S.1 S.2.1 dX0_addLast_38 (by decide) ?_
    exact kr_i (cu := fun u => ce_l cA cf ad u z0) S hr (by decide) hk hw hq dX0_addLast_39
  · replace hq := hq.2 h1
    refine lv_iconst (v := (0 : Int32)) S.1 S.2.1 dX0_addLast_12 (by decide) ?_
    exact kr_i (cu := fun u => ce_l cA cf ad u z0) S hr (by decide) hk hw hq dX0_addLast_13
theorem c_X0_addLast (z0 k0 : ka_T) (n0 : Nat) (hn0 : n0 < cf 2) (x1 : Int32) {post : Int32 → ka_T → Prop} (hq : q_X0_addLast cf post n0 x1 k0) : Met l yX0_addLast wsX0_addLast rmX0_addLast (va_Pc [.ref (ad (9, n0)), .int x1] (Wx_ D cA cf ad A k0 z0)) (va_Qi post (fun u t => Wx_ D cA cf ad A u z0 t) A) 0 0 A :=
  kp_met (by decide +kernel) [.ref (ad (9, n0)), .int x1] (Nat.le_of_ble_eq_true rfl) (fun p e s m args below meth c ls S hr hk hw hl => b_X0_addLast_0 S hr hk n0 hn0 x1 k0 _ _ _ hl hw hq)
theorem call_X0_addLast {z0 k0 : ka_T} {n0 : Nat} {x1 : Int32} {post : Int32 → ka_T → Prop} (S : CallFix p m c cc nL s args lw_gd own) (hw : Wo_ D cA cf ad A k0 z0 s H locs) {index : Nat} (hl : Cond.methodLink own index yX0_addLast ∈ lw_gd) (hn0 : n0 < cf 2) (hq : q_X0_addLast cf post n0 x1 k0) (hR : rmX0_addLast.frames + 1 ≤ R.frames ∧ 8 + (2 + 11) + rmX0_addLast.locals ≤ R.locals) (hls : ls.size = nL) (hro : (rest.map fun v => v.category).sum ≤ 8) (hcs : cells ≤ R.cells ∧ slots ≤ R.slots) (hd : decode cc pc = .ok (.invokevirtual index, 3)) (kk : ∀ (r : Int32) (u : ka_T) (H1 : Heap) (locs1 : List Loc), post r u → Wo_ D cA cf ad A u z0 s H1 locs1 → W p l e R s m args below meth c H1 locs1 cells slots Q (F0 m (pc + 3) ls (.int r :: rest))) : W p l e R s m args below meth c H locs cells slots Q (F0 m pc ls (.int x1 :: .ref (ad (9, n0)) :: rest)) :=
  kg_vi (cu := fun u => ce_l cA cf ad u z0) (As := [.int x1]) S hw (q := (9, n0)) (c_X0_addLast z0 k0 n0 hn0 x1 hq) wc_X0_addLast wn_X0 hl wi_X0_addLast (C := RX0) (T := TX0) (N := 3) (ci := 0) (fs := fx_9 cf ad k0 n0) wse_X0_addLast (km_9 hn0) rfl rfl (na := 1) (by decide +kernel) rfl rfl rfl hR hls rfl hro hcs hd kk
abbrev rmX0_fromFirst : Room := { frames := 1, cells := 0, slots := 0, locals := 22 }
set_option maxRecDepth 100000 in
set_option maxHeartbeats 4000000 in
theorem b_X0_fromFirst_0 {post : Int32 → ka_T → Prop} (S : CallFix p m c cX0_fromFirst 2 s args lw_gd RX0) (hr : meth.sig.returnType = some .int) (hk : meth.locks = false) : ∀ (n0 : Nat) (hn0 : n0 < cf 2) (x1 : Int32) (k0 : ka_T) (H : Heap) (locs : List Loc) (ls : Array Slot), lv_has ls 2 [(0, .ref (ad (9, n0))), (1, .int x1)] → Wo_ D cA cf ad A k0 z0 s H locs → q_X0_fromFirst cf post n0 x1 k0 → W p l e rmX0_fromFirst s m args below meth c H locs 0 0 (MQ below (va_Qi post (fun u t => Wx_ D cA cf ad A u z0 t) A) args s 0 0 A) (F0 m 0 ls []) := by
  intro n0 hn0 x1 k0 H locs ls hl hw hq
  refine lv_iload_n S.1 S.2.1 dX0_fromFirst_0 rfl (lv_at hl 1 rfl) ?_
  refine lv_if_lt (tgt := 25) S.1 S.2.1 dX0_fromFirst_1 rfl (fun h1 => ?_) (fun h1 => ?_)
  · replace hq := hq.1 h1
    refine lv_ldc S.1 S.2.1 S.2.2.2.1 (S.2.2.2.2 _ wv_X0_26) dX0_fromFirst_25 ?_
    exact kr_i (cu := fun u => ce_l cA cf ad u z0) S hr rfl hk hw hq dX0_fromFirst_27
  · replace hq := hq.2 h1
    refine lv_iload_n S.1 S.2.1 dX0_fromFirst_4 rfl (lv_at hl 1 rfl) ?_
    refine lv_aload_n S.1 S.2.1 dX0_fromFirst_5 rfl (lv_at hl 0 rfl) ?_
    refine gf_2 S hw hn0 wf_X0_15 dX0_fromFirst_6 ?_
    refine lv_icmp_ge (tgt := 25) S.1 S.2.1 dX0_fromFirst_9 rfl (fun h2 => ?_) (fun h2 => ?_)
    · replace hq := hq.1 h2
      refine lv_ldc S.1 S.2.1 S.2.2.2.1 (S.2.2.2.2 _ wv_X0_26) dX0_fromFirst_25 ?_
      exact kr_i (cu := fun u => ce_l cA cf ad u z0) S hr rfl hk hw hq dX0_fromFirst_27
    · replace hq := hq.2 h2
      refine lv_aload_n S.1 S.2.1 dX0_fromFirst_12 rfl (lv_at hl 0 rfl) ?_
      refine gf_0 S hw hn0 wf_X0_18 dX0_fromFirst_13 ?_
      refine lv_aload_n S.1 S.2.1 dX0_fromFirst_16 rfl (lv_at hl 0 rfl) ?_
      refine lv_iload_n S.1 S.2.1 dX0_fromFirst_17 rfl (lv_at hl 1 rfl) ?_
      refine call_X0_slot S hw wl_X0_22 hn0 hq ⟨Nat.le_of_ble_eq_true rfl, Nat.le_of_ble_eq_true rfl⟩ hl.1 (Nat.le_of_ble_eq_true rfl) ⟨Nat.zero_le _, Nat.zero_le _⟩ dX0_fromFirst_18 (fun r3 k3 H locs hq hw => ?_)
      obtain ⟨hi, hq⟩ := hq
      refine al_10 S hw hn0 hi dX0_fromFirst_21 ?_
      refine lv_goto (tgt := 27) S.1 S.2.1 dX0_fromFirst_22 rfl ?_
      exact kr_i (cu := fun u => ce_l cA cf ad u z0) S hr rfl hk hw hq dX0_fromFirst_27
theorem c_X0_fromFirst (z0 k0 : ka_T) (n0 : Nat) (hn0 : n0 < cf 2) (x1 : Int32) {post : Int32 → ka_T → Prop} (hq : q_X0_fromFirst cf post n0 x1 k0) : Met l yX0_fromFirst wsX0_fromFirst rmX0_fromFirst (va_Pc [.ref (ad (9, n0)), .int x1] (Wx_ D cA cf ad A k0 z0)) (va_Qi post (fun u t => Wx_ D cA cf ad A u z0 t) A) 0 0 A :=
  kp_met (by decide +kernel) [.ref (ad (9, n0)), .int x1] (Nat.le_of_ble_eq_true rfl) (fun p e s m args below meth c ls S hr hk hw hl => b_X0_fromFirst_0 S hr hk n0 hn0 x1 k0 _ _ _ hl hw hq)
theorem call_X0_fromFirst {z0 k0 : ka_T} {n0 : Nat} {x1 : Int32} {post : Int32 → ka_T → Prop} (S : CallFix p m c cc nL s args lw_gd own) (hw : Wo_ D cA cf ad A k0 z0 s H locs) {index : Nat} (hl : Cond.methodLink own index yX0_fromFirst ∈ lw_gd) (hn0 : n0 < cf 2) (hq : q_X0_fromFirst cf post n0 x1 k0) (hR : rmX0_fromFirst.frames + 1 ≤ R.frames ∧ 8 + (2 + 11) + rmX0_fromFirst.locals ≤ R.locals) (hls : ls.size = nL) (hro : (rest.map fun v => v.category).sum ≤ 8) (hcs : cells ≤ R.cells ∧ slots ≤ R.slots) (hd : decode cc pc = .ok (.invokevirtual index, 3)) (kk : ∀ (r : Int32) (u : ka_T) (H1 : Heap) (locs1 : List Loc), post r u → Wo_ D cA cf ad A u z0 s H1 locs1 → W p l e R s m args below meth c H1 locs1 cells slots Q (F0 m (pc + 3) ls (.int r :: rest))) : W p l e R s m args below meth c H locs cells slots Q (F0 m pc ls (.int x1 :: .ref (ad (9, n0)) :: rest)) :=
  kg_vi (cu := fun u => ce_l cA cf ad u z0) (As := [.int x1]) S hw (q := (9, n0)) (c_X0_fromFirst z0 k0 n0 hn0 x1 hq) wc_X0_fromFirst wn_X0 hl wi_X0_fromFirst (C := RX0) (T := TX0) (N := 3) (ci := 0) (fs := fx_9 cf ad k0 n0) wse_X0_fromFirst (km_9 hn0) rfl rfl (na := 1) (by decide +kernel) rfl rfl rfl hR hls rfl hro hcs hd kk
abbrev rmX0_removeFirst : Room := { frames := 1, cells := 0, slots := 0, locals := 22 }
set_option maxRecDepth 100000 in
set_option maxHeartbeats 4000000 in
theorem b_X0_removeFirst_0 {post : Int32 → ka_T → Prop} (S : CallFix p m c cX0_removeFirst 2 s args lw_gd RX0) (hr : meth.sig.returnType = some .int) (hk : meth.locks = false) : ∀ (n0 : Nat) (hn0 : n0 < cf 2) (k0 : ka_T) (H : Heap) (locs : List Loc) (ls : Array Slot), lv_has ls 2 [(0, .ref (ad (9, n0)))] → Wo_ D cA cf ad A k0 z0 s H locs → q_X0_removeFirst cf post n0 k0 → W p l e rmX0_removeFirst s m args below meth c H locs 0 0 (MQ below (va_Qi post (fun u t => Wx_ D cA cf ad A u z0 t) A) args s 0 0 A) (F0 m 0 ls []) := by
  intro n0 hn0 k0 H locs ls hl hw hq
  refine lv_aload_n S.1 S.2.1 dX0_removeFirst_0 rfl (lv_at hl 0 rfl) ?_
  refine gf_0 S hw hn0 wf_X0_18 dX0_removeFirst_1 ?_
  refine lv_aload_n S.1 S.2.1 dX0_removeFirst_4 rfl (lv_at hl 0 rfl) ?_
  refine gf_1 S hw hn0 wf_X0_9 dX0_removeFirst_5 ?_
  obtain ⟨hi, hq⟩ := hq
  refine al_10 S hw hn0 hi dX0_removeFirst_8 ?_
  refine lv_istore_n (lv' := [(1, .int (k0 0 n0 (k0 1 n0 0).toNatClampNeg)), (0, .ref (ad (9, n0)))]) S.1 S.2.1 dX0_removeFirst_9 rfl hl (by decide) rfl (fun ls hl => ?_)
  refine lv_aload_n S.1 S.2.1 dX0_removeFirst_10 rfl (lv_at hl 1 rfl) ?_
  refine lv_aload_n S.1 S.2.1 dX0_removeFirst_11 rfl (lv_at hl 1 rfl) ?_
  refine lv_iconst (v := (1 : Int32)) S.1 S.2.1 dX0_removeFirst_12 (by decide) ?_
  refine call_X0_slot S hw wl_X0_22 hn0 hq ⟨Nat.le_of_ble_eq_true rfl, Nat.le_of_ble_eq_true rfl⟩ hl.1 (Nat.le_of_ble_eq_true rfl) ⟨Nat.zero_le _, Nat.zero_le _⟩ dX0_removeFirst_13 (fun r1 k1 H locs hq hw => ?_)
  refine pf_1 S hw hn0 wf_X0_9 dX0_removeFirst_16 (fun k2 H locs e2 hw => ?_)
  replace hq := hq _ e2
  refine lv_aload_n S.1 S.2.1 dX0_removeFirst_19 rfl (lv_at hl 1 rfl) ?_
  refine lv_dup S.1 S.2.1 dX0_removeFirst_20 rfl ?_
  refine gf_2 S hw hn0 wf_X0_15 dX0_removeFirst_21 ?_
  refine lv_iconst (v := (1 : Int32)) S.1 S.2.1 dX0_removeFirst_24 (by decide) ?_
  refine lv_isub S.1 S.2.1 dX0_removeFirst_25 ?_
  refine pf_2 S hw hn0 wf_X0_15 dX0_removeFirst_26 (fun k3 H locs e3 hw => ?_)
  replace hq := hq _ e3
  refine lv_iload_n S.1 S.2.1 dX0_removeFirst_29 rfl (lv_at hl 0 rfl) ?_
  exact kr_i (cu := fun u => ce_l cA cf ad u z0) S hr rfl hk hw hq dX0_removeFirst_30
theorem c_X0_removeFirst (z0 k0 : ka_T) (n0 : Nat) (hn0 : n0 < cf 2) {post : Int32 → ka_T → Prop} (hq : q_X0_removeFirst cf post n0 k0) : Met l yX0_removeFirst wsX0_removeFirst rmX0_removeFirst (va_Pc [.ref (ad (9, n0))] (Wx_ D cA cf ad A k0 z0)) (va_Qi post (fun u t => Wx_ D cA cf ad A u z0 t) A) 0 0 A :=
  kp_met (by decide +kernel) [.ref (ad (9, n0))] (Nat.le_of_ble_eq_true rfl) (fun p e s m args below meth c ls S hr hk hw hl => b_X0_removeFirst_0 S hr hk n0 hn0 k0 _ _ _ hl hw hq)
theorem call_X0_removeFirst {z0 k0 : ka_T} {n0 : Nat} {post : Int32 → ka_T → Prop} (S : CallFix p m c cc nL s args lw_gd own) (hw : Wo_ D cA cf ad A k0 z0 s H locs) {index : Nat} (hl : Cond.methodLink own index yX0_removeFirst ∈ lw_gd) (hn0 : n0 < cf 2) (hq : q_X0_removeFirst cf post n0 k0) (hR : rmX0_removeFirst.frames + 1 ≤ R.frames ∧ 8 + (2 + 11) + rmX0_removeFirst.locals ≤ R.locals) (hls : ls.size = nL) (hro : (rest.map fun v => v.category).sum ≤ 8) (hcs : cells ≤ R.cells ∧ slots ≤ R.slots) (hd : decode cc pc = .ok (.invokevirtual index, 3)) (kk : ∀ (r : Int32) (u : ka_T) (H1 : Heap) (locs1 : List Loc), post r u → Wo_ D cA cf ad A u z0 s H1 locs1 → W p l e R s m args below meth c H1 locs1 cells slots Q (F0 m (pc + 3) ls (.int r :: rest))) : W p l e R s m args below meth c H locs cells slots Q (F0 m pc ls (.ref (ad (9, n0)) :: rest)) :=
  kg_vi (cu := fun u => ce_l cA cf ad u z0) (As := []) S hw (q := (9, n0)) (c_X0_removeFirst z0 k0 n0 hn0 hq) wc_X0_removeFirst wn_X0 hl wi_X0_removeFirst (C := RX0) (T := TX0) (N := 3) (ci := 0) (fs := fx_9 cf ad k0 n0) wse_X0_removeFirst (km_9 hn0) rfl rfl (na := 0) (by decide +kernel) rfl rfl rfl hR hls rfl hro hcs hd kk
abbrev rmX1_fromTop : Room := { frames := 0, cells := 0, slots := 0, locals := 0 }
set_option maxRecDepth 100000 in
set_option maxHeartbeats 4000000 in
theorem b_X1_fromTop_0 {post : Int32 → ka_T → Prop} (S : CallFix p m c cX1_fromTop 2 s args lw_gd RX1) (hr : meth.sig.returnType = some .int) (hk : meth.locks = false) : ∀ (n0 : Nat) (hn0 : n0 < 2 * cf 0) (x1 : Int32) (k0 : ka_T) (H : Heap) (locs : List Loc) (ls : Array Slot), lv_has ls 2 [(0, .ref (ad (7, n0))), (1, .int x1)] → Wo_ D cA cf ad A k0 z0 s H locs → q_X1_fromTop cf post n0 x1 k0 → W p l e rmX1_fromTop s m args below meth c H locs 0 0 (MQ below (va_Qi post (fun u t => Wx_ D cA cf ad A u z0 t) A) args s 0 0 A) (F0 m 0 ls []) := by
  intro n0 hn0 x1 k0 H locs ls hl hw hq
  refine lv_iload_n S.1 S.2.1 dX1_fromTop_0 rfl (lv_at hl 1 rfl) ?_
  refine lv_if_lt (tgt := 28) S.1 S.2.1 dX1_fromTop_1 rfl (fun h1 => ?_) (fun h1 => ?_)
  · replace hq := hq.1 h1
    refine lv_ldc S.1 S.2.1 S.2.2.2.1 (S.2.2.2.2 _ wv_X1_19) dX1_fromTop_28 ?_
    exact kr_i (cu := fun u => ce_l cA cf ad u z0) S hr rfl hk hw hq dX1_fromTop_30
  · replace hq := hq.2 h1
    refine lv_iload_n S.1 S.2.1 dX1_fromTop_4 rfl (lv_at hl 1 rfl) ?_
    refine lv_aload_n S.1 S.2.1 dX1_fromTop_5 rfl (lv_at hl 0 rfl) ?_
    refine gf_101 S hw hn0 wf_X1_9 dX1_fromTop_6 ?_
    refine lv_icmp_ge (tgt := 28) S.1 S.2.1 dX1_fromTop_9 rfl (fun h2 => ?_) (fun h2 => ?_)
    · replace hq := hq.1 h2
      refine lv_ldc S.1 S.2.1 S.2.2.2.1 (S.2.2.2.2 _ wv_X1_19) dX1_fromTop_28 ?_
      exact kr_i (cu := fun u => ce_l cA cf ad u z0) S hr rfl hk hw hq dX1_fromTop_30
    · replace hq := hq.2 h2
      refine lv_aload_n S.1 S.2.1 dX1_fromTop_12 rfl (lv_at hl 0 rfl) ?_
      refine gf_100 S hw hn0 wf_X1_15 dX1_fromTop_13 ?_
      refine lv_aload_n S.1 S.2.1 dX1_fromTop_16 rfl (lv_at hl 0 rfl) ?_
      refine gf_101 S hw hn0 wf_X1_9 dX1_fromTop_17 ?_
      refine lv_iconst (v := (1 : Int32)) S.1 S.2.1 dX1_fromTop_20 (by decide) ?_
      refine lv_isub S.1 S.2.1 dX1_fromTop_21 ?_
      refine lv_iload_n S.1 S.2.1 dX1_fromTop_22 rfl (lv_at hl 1 rfl) ?_
      refine lv_isub S.1 S.2.1 dX1_fromTop_23 ?_
      obtain ⟨hi, hq⟩ := hq
      refine al_8 S hw hn0 hi dX1_fromTop_24 ?_
      refine lv_goto (tgt := 30) S.1 S.2.1 dX1_fromTop_25 rfl ?_
      exact kr_i (cu := fun u => ce_l cA cf ad u z0) S hr rfl hk hw hq dX1_fromTop_30
theorem c_X1_fromTop (z0 k0 : ka_T) (n0 : Nat) (hn0 : n0 < 2 * cf 0) (x1 : Int32) {post : Int32 → ka_T → Prop} (hq : q_X1_fromTop cf post n0 x1 k0) : Met l yX1_fromTop wsX1_fromTop rmX1_fromTop (va_Pc [.ref (ad (7, n0)), .int x1] (Wx_ D cA cf ad A k0 z0)) (va_Qi post (fun u t => Wx_ D cA cf ad A u z0 t) A) 0 0 A :=
  kp_met (by decide +kernel) [.ref (ad (7, n0)), .int x1] (Nat.le_of_ble_eq_true rfl) (fun p e s m args below meth c ls S hr hk hw hl => b_X1_fromTop_0 S hr hk n0 hn0 x1 k0 _ _ _ hl hw hq)
theorem call_X1_fromTop {z0 k0 : ka_T} {n0 : Nat} {x1 : Int32} {post : Int32 → ka_T → Prop} (S : CallFix p m c cc nL s args lw_gd own) (hw : Wo_ D cA cf ad A k0 z0 s H locs) {index : Nat} (hl : Cond.methodLink own index yX1_fromTop ∈ lw_gd) (hn0 : n0 < 2 * cf 0) (hq : q_X1_fromTop cf post n0 x1 k0) (hR : rmX1_fromTop.frames + 1 ≤ R.frames ∧ 8 + (2 + 11) + rmX1_fromTop.locals ≤ R.locals) (hls : ls.size = nL) (hro : (rest.map fun v => v.category).sum ≤ 8) (hcs : cells ≤ R.cells ∧ slots ≤ R.slots) (hd : decode cc pc = .ok (.invokevirtual index, 3)) (kk : ∀ (r : Int32) (u : ka_T) (H1 : Heap) (locs1 : List Loc), post r u → Wo_ D cA cf ad A u z0 s H1 locs1 → W p l e R s m args below meth c H1 locs1 cells slots Q (F0 m (pc + 3) ls (.int r :: rest))) : W p l e R s m args below meth c H locs cells slots Q (F0 m pc ls (.int x1 :: .ref (ad (7, n0)) :: rest)) :=
  kg_vi (cu := fun u => ce_l cA cf ad u z0) (As := [.int x1]) S hw (q := (7, n0)) (c_X1_fromTop z0 k0 n0 hn0 x1 hq) wc_X1_fromTop wn_X1 hl wi_X1_fromTop (C := RX1) (T := TX1) (N := 2) (ci := 1) (fs := fx_7 cf ad k0 n0) wse_X1_fromTop (km_7 hn0) rfl rfl (na := 1) (by decide +kernel) rfl rfl rfl hR hls rfl hro hcs hd kk
abbrev rmX1_isFull : Room := { frames := 0, cells := 0, slots := 0, locals := 0 }
set_option maxRecDepth 100000 in
set_option maxHeartbeats 4000000 in
theorem b_X1_isFull_0 {post : Int32 → ka_T → Prop} (S : CallFix p m c cX1_isFull 1 s args lw_gd RX1) (hr : meth.sig.returnType = some .boolean) (hk : meth.locks = false) : ∀ (n0 : Nat) (hn0 : n0 < 2 * cf 0) (k0 : ka_T) (H : Heap) (locs : List Loc) (ls : Array Slot), lv_has ls 1 [(0, .ref (ad (7, n0)))] → Wo_ D cA cf ad A k0 z0 s H locs → q_X1_isFull cf post n0 k0 → W p l e rmX1_isFull s m args below meth c H locs 0 0 (MQ below (va_Qi post (fun u t => Wx_ D cA cf ad A u z0 t) A) args s 0 0 A) (F0 m 0 ls []) := by
  intro n0 hn0 k0 H locs ls hl hw hq
  refine lv_aload_n S.1 S.2.1 dX1_isFull_0 rfl (lv_at hl 0 rfl) ?_
  refine gf_101 S hw hn0 wf_X1_9 dX1_isFull_1 ?_
  refine lv_aload_n S.1 S.2.1 dX1_isFull_4 rfl (lv_at hl 0 rfl) ?_
  refine gf_100 S hw hn0 wf_X1_15 dX1_isFull_5 ?_
  refine an_8 S hw hn0 dX1_isFull_8 ?_
  refine lv_icmp_lt (tgt := 16) S.1 S.2.1 dX1_isFull_9 rfl (fun h1 => ?_) (fun h1 => ?_)
  · replace hq := hq.1 h1
    refine lv_iconst (v := (0 : Int32)) S.1 S.2.1 dX1_isFull_16 (by decide) ?_
    exact kr_i (cu := fun u => ce_l cA cf ad u z0) S hr (by decide) hk hw hq dX1_isFull_17
  · replace hq := hq.2 h1
    refine lv_iconst (v := (1 : Int32)) S.1 S.2.1 dX1_isFull_12 (by decide) ?_
    refine lv_goto (tgt := 17) S.1 S.2.1 dX1_isFull_13 rfl ?_
    exact kr_i (cu := fun u => ce_l cA cf ad u z0) S hr (by decide) hk hw hq dX1_isFull_17
theorem c_X1_isFull (z0 k0 : ka_T) (n0 : Nat) (hn0 : n0 < 2 * cf 0) {post : Int32 → ka_T → Prop} (hq : q_X1_isFull cf post n0 k0) : Met l yX1_isFull wsX1_isFull rmX1_isFull (va_Pc [.ref (ad (7, n0))] (Wx_ D cA cf ad A k0 z0)) (va_Qi post (fun u t => Wx_ D cA cf ad A u z0 t) A) 0 0 A :=
  kp_met (by decide +kernel) [.ref (ad (7, n0))] (Nat.le_of_ble_eq_true rfl) (fun p e s m args below meth c ls S hr hk hw hl => b_X1_isFull_0 S hr hk n0 hn0 k0 _ _ _ hl hw hq)
theorem call_X1_isFull {z0 k0 : ka_T} {n0 : Nat} {post : Int32 → ka_T → Prop} (S : CallFix p m c cc nL s args lw_gd own) (hw : Wo_ D cA cf ad A k0 z0 s H locs) {index : Nat} (hl : Cond.methodLink own index yX1_isFull ∈ lw_gd) (hn0 : n0 < 2 * cf 0) (hq : q_X1_isFull cf post n0 k0) (hR : rmX1_isFull.frames + 1 ≤ R.frames ∧ 8 + (1 + 11) + rmX1_isFull.locals ≤ R.locals) (hls : ls.size = nL) (hro : (rest.map fun v => v.category).sum ≤ 8) (hcs : cells ≤ R.cells ∧ slots ≤ R.slots) (hd : decode cc pc = .ok (.invokevirtual index, 3)) (kk : ∀ (r : Int32) (u : ka_T) (H1 : Heap) (locs1 : List Loc), post r u → Wo_ D cA cf ad A u z0 s H1 locs1 → W p l e R s m args below meth c H1 locs1 cells slots Q (F0 m (pc + 3) ls (.int r :: rest))) : W p l e R s m args below meth c H locs cells slots Q (F0 m pc ls (.ref (ad (7, n0)) :: rest)) :=
  kg_vi (cu := fun u => ce_l cA cf ad u z0) (As := []) S hw (q := (7, n0)) (c_X1_isFull z0 k0 n0 hn0 hq) wc_X1_isFull wn_X1 hl wi_X1_isFull (C := RX1) (T := TX1) (N := 2) (ci := 1) (fs := fx_7 cf ad k0 n0) wse_X1_isFull (km_7 hn0) rfl rfl (na := 0) (by decide +kernel) rfl rfl rfl hR hls rfl hro hcs hd kk
abbrev rmX1_pop : Room := { frames := 0, cells := 0, slots := 0, locals := 0 }
set_option maxRecDepth 100000 in
set_option maxHeartbeats 4000000 in
theorem b_X1_pop_0 {post : Int32 → ka_T → Prop} (S : CallFix p m c cX1_pop 1 s args lw_gd RX1) (hr : meth.sig.returnType = some .int) (hk : meth.locks = false) : ∀ (n0 : Nat) (hn0 : n0 < 2 * cf 0) (k0 : ka_T) (H : Heap) (locs : List Loc) (ls : Array Slot), lv_has ls 1 [(0, .ref (ad (7, n0)))] → Wo_ D cA cf ad A k0 z0 s H locs → q_X1_pop cf post n0 k0 → W p l e rmX1_pop s m args below meth c H locs 0 0 (MQ below (va_Qi post (fun u t => Wx_ D cA cf ad A u z0 t) A) args s 0 0 A) (F0 m 0 ls []) := by
  intro n0 hn0 k0 H locs ls hl hw hq
  refine lv_aload_n S.1 S.2.1 dX1_pop_0 rfl (lv_at hl 0 rfl) ?_
  refine lv_dup S.1 S.2.1 dX1_pop_1 rfl ?_
  refine gf_101 S hw hn0 wf_X1_9 dX1_pop_2 ?_
  refine lv_iconst (v := (1 : Int32)) S.1 S.2.1 dX1_pop_5 (by decide) ?_
  refine lv_isub S.1 S.2.1 dX1_pop_6 ?_
  refine pf_101 S hw hn0 wf_X1_9 dX1_pop_7 (fun k1 H locs e1 hw => ?_)
  replace hq := hq _ e1
  refine lv_aload_n S.1 S.2.1 dX1_pop_10 rfl (lv_at hl 0 rfl) ?_
  refine gf_100 S hw hn0 wf_X1_15 dX1_pop_11 ?_
  refine lv_aload_n S.1 S.2.1 dX1_pop_14 rfl (lv_at hl 0 rfl) ?_
  refine gf_101 S hw hn0 wf_X1_9 dX1_pop_15 ?_
  obtain ⟨hi, hq⟩ := hq
  refine al_8 S hw hn0 hi dX1_pop_18 ?_
  exact kr_i (cu := fun u => ce_l cA cf ad u z0) S hr rfl hk hw hq dX1_pop_19
theorem c_X1_pop (z0 k0 : ka_T) (n0 : Nat) (hn0 : n0 < 2 * cf 0) {post : Int32 → ka_T → Prop} (hq : q_X1_pop cf post n0 k0) : Met l yX1_pop wsX1_pop rmX1_pop (va_Pc [.ref (ad (7, n0))] (Wx_ D cA cf ad A k0 z0)) (va_Qi post (fun u t => Wx_ D cA cf ad A u z0 t) A) 0 0 A :=
  kp_met (by decide +kernel) [.ref (ad (7, n0))] (Nat.le_of_ble_eq_true rfl) (fun p e s m args below meth c ls S hr hk hw hl => b_X1_pop_0 S hr hk n0 hn0 k0 _ _ _ hl hw hq)
theorem call_X1_pop {z0 k0 : ka_T} {n0 : Nat} {post : Int32 → ka_T → Prop} (S : CallFix p m c cc nL s args lw_gd own) (hw : Wo_ D cA cf ad A k0 z0 s H locs) {index : Nat} (hl : Cond.methodLink own index yX1_pop ∈ lw_gd) (hn0 : n0 < 2 * cf 0) (hq : q_X1_pop cf post n0 k0) (hR : rmX1_pop.frames + 1 ≤ R.frames ∧ 8 + (1 + 11) + rmX1_pop.locals ≤ R.locals) (hls : ls.size = nL) (hro : (rest.map fun v => v.category).sum ≤ 8) (hcs : cells ≤ R.cells ∧ slots ≤ R.slots) (hd : decode cc pc = .ok (.invokevirtual index, 3)) (kk : ∀ (r : Int32) (u : ka_T) (H1 : Heap) (locs1 : List Loc), post r u → Wo_ D cA cf ad A u z0 s H1 locs1 → W p l e R s m args below meth c H1 locs1 cells slots Q (F0 m (pc + 3) ls (.int r :: rest))) : W p l e R s m args below meth c H locs cells slots Q (F0 m pc ls (.ref (ad (7, n0)) :: rest)) :=
  kg_vi (cu := fun u => ce_l cA cf ad u z0) (As := []) S hw (q := (7, n0)) (c_X1_pop z0 k0 n0 hn0 hq) wc_X1_pop wn_X1 hl wi_X1_pop (C := RX1) (T := TX1) (N := 2) (ci := 1) (fs := fx_7 cf ad k0 n0) wse_X1_pop (km_7 hn0) rfl rfl (na := 0) (by decide +kernel) rfl rfl rfl hR hls rfl hro hcs hd kk
abbrev rmX1_push : Room := { frames := 0, cells := 0, slots := 0, locals := 0 }
set_option maxRecDepth 100000 in
set_option maxHeartbeats 4000000 in
theorem b_X1_push_0 {post : Int32 → ka_T → Prop} (S : CallFix p m c cX1_push 2 s args lw_gd RX1) (hr : meth.sig.returnType = some .boolean) (hk : meth.locks = false) : ∀ (n0 : Nat) (hn0 : n0 < 2 * cf 0) (x1 : Int32) (k0 : ka_T) (H : Heap) (locs : List Loc) (ls : Array Slot), lv_has ls 2 [(0, .ref (ad (7, n0))), (1, .int x1)] → Wo_ D cA cf ad A k0 z0 s H locs → q_X1_push cf post n0 x1 k0 → W p l e rmX1_push s m args below meth c H locs 0 0 (MQ below (va_Qi post (fun u t => Wx_ D cA cf ad A u z0 t) A) args s 0 0 A) (F0 m 0 ls []) := by
  intro n0 hn0 x1 k0 H locs ls hl hw hq
  refine lv_aload_n S.1 S.2.1 dX1_push_0 rfl (lv_at hl 0 rfl) ?_
  refine gf_101 S hw hn0 wf_X1_9 dX1_push_1 ?_
  refine lv_aload_n S.1 S.2.1 dX1_push_4 rfl (lv_at hl 0 rfl) ?_
  refine gf_100 S hw hn0 wf_X1_15 dX1_push_5 ?_
  refine an_8 S hw hn0 dX1_push_8 ?_
  refine lv_icmp_lt (tgt := 14) S.1 S.2.1 dX1_push_9 rfl (fun h1 => ?_) (fun h1 => ?_)
  · replace hq := hq.1 h1
    refine lv_aload_n S.1 S.2.1 dX1_push_14 rfl (lv_at hl 0 rfl) ?_
    refine gf_100 S hw hn0 wf_X1_15 dX1_push_15 ?_
    refine lv_aload_n S.1 S.2.1 dX1_push_18 rfl (lv_at hl 0 rfl) ?_
    refine gf_101 S hw hn0 wf_X1_9 dX1_push_19 ?_
    refine lv_iload_n S.1 S.2.1 dX1_push_22 rfl (lv_at hl 1 rfl) ?_
    obtain ⟨hi, hq⟩ := hq
    refine as_8 S hw hn0 hi dX1_push_23 (fun k2 H locs e2 hw => ?_)
    replace hq := hq _ e2
    refine lv_aload_n S.1 S.2.1 dX1_push_24 rfl (lv_at hl 0 rfl) ?_
    refine lv_dup S.1 S.2.1 dX1_push_25 rfl ?_
    refine gf_101 S hw hn0 wf_X1_9 dX1_push_26 ?_
    refine lv_iconst (v := (1 : Int32)) S.1 S.2.1 dX1_push_29 (by decide) ?_
    refine lv_iadd S.1 S.2.1 dX1_push_30 ?_
    refine pf_101 S hw hn0 wf_X1_9 dX1_push_31 (fun k3 H locs e3 hw => ?_)
    replace hq := hq _ e3
    refine lv_iconst (v := (1 : Int32)) S.1 S.2.1 dX1_push_34 (by decide) ?_
    exact kr_i (cu := fun u => ce_l cA cf ad u z0) S hr (by decide) hk hw hq dX1_push_35
  · replace hq := hq.2 h1
    refine lv_iconst (v := (0 : Int32)) S.1 S.2.1 dX1_push_12 (by decide) ?_
    exact kr_i (cu := fun u => ce_l cA cf ad u z0) S hr (by decide) hk hw hq dX1_push_13
theorem c_X1_push (z0 k0 : ka_T) (n0 : Nat) (hn0 : n0 < 2 * cf 0) (x1 : Int32) {post : Int32 → ka_T → Prop} (hq : q_X1_push cf post n0 x1 k0) : Met l yX1_push wsX1_push rmX1_push (va_Pc [.ref (ad (7, n0)), .int x1] (Wx_ D cA cf ad A k0 z0)) (va_Qi post (fun u t => Wx_ D cA cf ad A u z0 t) A) 0 0 A :=
  kp_met (by decide +kernel) [.ref (ad (7, n0)), .int x1] (Nat.le_of_ble_eq_true rfl) (fun p e s m args below meth c ls S hr hk hw hl => b_X1_push_0 S hr hk n0 hn0 x1 k0 _ _ _ hl hw hq)
theorem call_X1_push {z0 k0 : ka_T} {n0 : Nat} {x1 : Int32} {post : Int32 → ka_T → Prop} (S : CallFix p m c cc nL s args lw_gd own) (hw : Wo_ D cA cf ad A k0 z0 s H locs) {index : Nat} (hl : Cond.methodLink own index yX1_push ∈ lw_gd) (hn0 : n0 < 2 * cf 0) (hq : q_X1_push cf post n0 x1 k0) (hR : rmX1_push.frames + 1 ≤ R.frames ∧ 8 + (2 + 11) + rmX1_push.locals ≤ R.locals) (hls : ls.size = nL) (hro : (rest.map fun v => v.category).sum ≤ 8) (hcs : cells ≤ R.cells ∧ slots ≤ R.slots) (hd : decode cc pc = .ok (.invokevirtual index, 3)) (kk : ∀ (r : Int32) (u : ka_T) (H1 : Heap) (locs1 : List Loc), post r u → Wo_ D cA cf ad A u z0 s H1 locs1 → W p l e R s m args below meth c H1 locs1 cells slots Q (F0 m (pc + 3) ls (.int r :: rest))) : W p l e R s m args below meth c H locs cells slots Q (F0 m pc ls (.int x1 :: .ref (ad (7, n0)) :: rest)) :=
  kg_vi (cu := fun u => ce_l cA cf ad u z0) (As := [.int x1]) S hw (q := (7, n0)) (c_X1_push z0 k0 n0 hn0 x1 hq) wc_X1_push wn_X1 hl wi_X1_push (C := RX1) (T := TX1) (N := 2) (ci := 1) (fs := fx_7 cf ad k0 n0) wse_X1_push (km_7 hn0) rfl rfl (na := 1) (by decide +kernel) rfl rfl rfl hR hls rfl hro hcs hd kk
abbrev rmX2_goesBefore : Room := { frames := 0, cells := 0, slots := 0, locals := 0 }
set_option maxRecDepth 100000 in
set_option maxHeartbeats 4000000 in
theorem b_X2_goesBefore_0 {post : Int32 → ka_T → Prop} (S : CallFix p m c cX2_goesBefore 2 s args lw_gd RX2) (hr : meth.sig.returnType = some .boolean) (hk : meth.locks = false) : ∀ (n0 : Nat) (hn0 : n0 < cf 0) (n1 : Nat) (hn1 : n1 < cf 0) (k0 : ka_T) (H : Heap) (locs : List Loc) (ls : Array Slot), lv_has ls 2 [(0, .ref (ad (6, n0))), (1, .ref (ad (6, n1)))] → Wo_ D cA cf ad A k0 z0 s H locs → q_X2_goesBefore cf post n0 n1 k0 → W p l e rmX2_goesBefore s m args below meth c H locs 0 0 (MQ below (va_Qi post (fun u t => Wx_ D cA cf ad A u z0 t) A) args s 0 0 A) (F0 m 0 ls []) := by
  intro n0 hn0 n1 hn1 k0 H locs ls hl hw hq
  refine lv_aload_n S.1 S.2.1 dX2_goesBefore_0 rfl (lv_at hl 0 rfl) ?_
  refine gf_205 S hw hn0 wf_X2_18 dX2_goesBefore_1 ?_
  refine lv_aload_n S.1 S.2.1 dX2_goesBefore_4 rfl (lv_at hl 1 rfl) ?_
  refine gf_205 S hw hn1 wf_X2_18 dX2_goesBefore_5 ?_
  refine lv_icmp_gt (tgt := 33) S.1 S.2.1 dX2_goesBefore_8 rfl (fun h1 => ?_) (fun h1 => ?_)
  · replace hq := hq.1 h1
    refine lv_iconst (v := (1 : Int32)) S.1 S.2.1 dX2_goesBefore_33 (by decide) ?_
    refine lv_goto (tgt := 38) S.1 S.2.1 dX2_goesBefore_34 rfl ?_
    exact kr_i (cu := fun u => ce_l cA cf ad u z0) S hr (by decide) hk hw hq dX2_goesBefore_38
  · replace hq := hq.2 h1
    refine lv_aload_n S.1 S.2.1 dX2_goesBefore_11 rfl (lv_at hl 0 rfl) ?_
    refine gf_205 S hw hn0 wf_X2_18 dX2_goesBefore_12 ?_
    refine lv_aload_n S.1 S.2.1 dX2_goesBefore_15 rfl (lv_at hl 1 rfl) ?_
    refine gf_205 S hw hn1 wf_X2_18 dX2_goesBefore_16 ?_
    refine lv_icmp_ne (tgt := 37) S.1 S.2.1 dX2_goesBefore_19 rfl (fun h2 => ?_) (fun h2 => ?_)
    · replace hq := hq.1 h2
      refine lv_iconst (v := (0 : Int32)) S.1 S.2.1 dX2_goesBefore_37 (by decide) ?_
      exact kr_i (cu := fun u => ce_l cA cf ad u z0) S hr (by decide) hk hw hq dX2_goesBefore_38
    · replace hq := hq.2 h2
      refine lv_aload_n S.1 S.2.1 dX2_goesBefore_22 rfl (lv_at hl 0 rfl) ?_
      refine gf_206 S hw hn0 wf_X2_21 dX2_goesBefore_23 ?_
      refine lv_aload_n S.1 S.2.1 dX2_goesBefore_26 rfl (lv_at hl 1 rfl) ?_
      refine gf_206 S hw hn1 wf_X2_21 dX2_goesBefore_27 ?_
      refine lv_icmp_ge (tgt := 37) S.1 S.2.1 dX2_goesBefore_30 rfl (fun h3 => ?_) (fun h3 => ?_)
      · replace hq := hq.1 h3
        refine lv_iconst (v := (0 : Int32)) S.1 S.2.1 dX2_goesBefore_37 (by decide) ?_
        exact kr_i (cu := fun u => ce_l cA cf ad u z0) S hr (by decide) hk hw hq dX2_goesBefore_38
      · replace hq := hq.2 h3
        refine lv_iconst (v := (1 : Int32)) S.1 S.2.1 dX2_goesBefore_33 (by decide) ?_
        refine lv_goto (tgt := 38) S.1 S.2.1 dX2_goesBefore_34 rfl ?_
        exact kr_i (cu := fun u => ce_l cA cf ad u z0) S hr (by decide) hk hw hq dX2_goesBefore_38
theorem c_X2_goesBefore (z0 k0 : ka_T) (n0 : Nat) (hn0 : n0 < cf 0) (n1 : Nat) (hn1 : n1 < cf 0) {post : Int32 → ka_T → Prop} (hq : q_X2_goesBefore cf post n0 n1 k0) : Met l yX2_goesBefore wsX2_goesBefore rmX2_goesBefore (va_Pc [.ref (ad (6, n0)), .ref (ad (6, n1))] (Wx_ D cA cf ad A k0 z0)) (va_Qi post (fun u t => Wx_ D cA cf ad A u z0 t) A) 0 0 A :=
  kp_met (by decide +kernel) [.ref (ad (6, n0)), .ref (ad (6, n1))] (Nat.le_of_ble_eq_true rfl) (fun p e s m args below meth c ls S hr hk hw hl => b_X2_goesBefore_0 S hr hk n0 hn0 n1 hn1 k0 _ _ _ hl hw hq)
theorem call_X2_goesBefore {z0 k0 : ka_T} {n0 : Nat} {n1 : Nat} {post : Int32 → ka_T → Prop} (S : CallFix p m c cc nL s args lw_gd own) (hw : Wo_ D cA cf ad A k0 z0 s H locs) {index : Nat} (hl : Cond.methodLink own index yX2_goesBefore ∈ lw_gd) (hn0 : n0 < cf 0) (hn1 : n1 < cf 0) (hq : q_X2_goesBefore cf post n0 n1 k0) (hR : rmX2_goesBefore.frames + 1 ≤ R.frames ∧ 8 + (2 + 11) + rmX2_goesBefore.locals ≤ R.locals) (hls : ls.size = nL) (hro : (rest.map fun v => v.category).sum ≤ 8) (hcs : cells ≤ R.cells ∧ slots ≤ R.slots) (hd : decode cc pc = .ok (.invokevirtual index, 3)) (kk : ∀ (r : Int32) (u : ka_T) (H1 : Heap) (locs1 : List Loc), post r u → Wo_ D cA cf ad A u z0 s H1 locs1 → W p l e R s m args below meth c H1 locs1 cells slots Q (F0 m (pc + 3) ls (.int r :: rest))) : W p l e R s m args below meth c H locs cells slots Q (F0 m pc ls (.ref (ad (6, n1)) :: .ref (ad (6, n0)) :: rest)) :=
  kg_vi (cu := fun u => ce_l cA cf ad u z0) (As := [.ref (ad (6, n1))]) S hw (q := (6, n0)) (c_X2_goesBefore z0 k0 n0 hn0 n1 hn1 hq) wc_X2_goesBefore wn_X2 hl wi_X2_goesBefore (C := RX2) (T := TX2) (N := 11) (ci := 2) (fs := fx_6 cf ad k0 n0) wse_X2_goesBefore (km_6 hn0) rfl rfl (na := 1) (by decide +kernel) rfl rfl rfl hR hls rfl hro hcs hd kk
abbrev rmX2_isWaiting : Room := { frames := 0, cells := 0, slots := 0, locals := 0 }
set_option maxRecDepth 100000 in
set_option maxHeartbeats 4000000 in
theorem b_X2_isWaiting_0 {post : Int32 → ka_T → Prop} (S : CallFix p m c cX2_isWaiting 3 s args lw_gd RX2) (hr : meth.sig.returnType = some .boolean) (hk : meth.locks = false) : ∀ (n0 : Nat) (hn0 : n0 < cf 0) (x1 : Int32) (x2 : Int32) (k0 : ka_T) (H : Heap) (locs : List Loc) (ls : Array Slot), lv_has ls 3 [(0, .ref (ad (6, n0))), (1, .int x1), (2, .int x2)] → Wo_ D cA cf ad A k0 z0 s H locs → q_X2_isWaiting cf post n0 x1 x2 k0 → W p l e rmX2_isWaiting s m args below meth c H locs 0 0 (MQ below (va_Qi post (fun u t => Wx_ D cA cf ad A u z0 t) A) args s 0 0 A) (F0 m 0 ls []) := by
  intro n0 hn0 x1 x2 k0 H locs ls hl hw hq
  refine lv_aload_n S.1 S.2.1 dX2_isWaiting_0 rfl (lv_at hl 0 rfl) ?_
  refine gf_203 S hw hn0 wf_X2_9 dX2_isWaiting_1 ?_
  refine lv_iload_n S.1 S.2.1 dX2_isWaiting_4 rfl (lv_at hl 1 rfl) ?_
  refine lv_icmp_ne (tgt := 20) S.1 S.2.1 dX2_isWaiting_5 rfl (fun h1 => ?_) (fun h1 => ?_)
  · replace hq := hq.1 h1
    refine lv_iconst (v := (0 : Int32)) S.1 S.2.1 dX2_isWaiting_20 (by decide) ?_
    exact kr_i (cu := fun u => ce_l cA cf ad u z0) S hr (by decide) hk hw hq dX2_isWaiting_21
  · replace hq := hq.2 h1
    refine lv_aload_n S.1 S.2.1 dX2_isWaiting_8 rfl (lv_at hl 0 rfl) ?_
    refine gf_208 S hw hn0 wf_X2_27 dX2_isWaiting_9 ?_
    refine lv_iload_n S.1 S.2.1 dX2_isWaiting_12 rfl (lv_at hl 2 rfl) ?_
    refine lv_icmp_ne (tgt := 20) S.1 S.2.1 dX2_isWaiting_13 rfl (fun h2 => ?_) (fun h2 => ?_)
    · replace hq := hq.1 h2
      refine lv_iconst (v := (0 : Int32)) S.1 S.2.1 dX2_isWaiting_20 (by decide) ?_
      exact kr_i (cu := fun u => ce_l cA cf ad u z0) S hr (by decide) hk hw hq dX2_isWaiting_21
    · replace hq := hq.2 h2
      refine lv_iconst (v := (1 : Int32)) S.1 S.2.1 dX2_isWaiting_16 (by decide) ?_
      refine lv_goto (tgt := 21) S.1 S.2.1 dX2_isWaiting_17 rfl ?_
      exact kr_i (cu := fun u => ce_l cA cf ad u z0) S hr (by decide) hk hw hq dX2_isWaiting_21
theorem c_X2_isWaiting (z0 k0 : ka_T) (n0 : Nat) (hn0 : n0 < cf 0) (x1 : Int32) (x2 : Int32) {post : Int32 → ka_T → Prop} (hq : q_X2_isWaiting cf post n0 x1 x2 k0) : Met l yX2_isWaiting wsX2_isWaiting rmX2_isWaiting (va_Pc [.ref (ad (6, n0)), .int x1, .int x2] (Wx_ D cA cf ad A k0 z0)) (va_Qi post (fun u t => Wx_ D cA cf ad A u z0 t) A) 0 0 A :=
  kp_met (by decide +kernel) [.ref (ad (6, n0)), .int x1, .int x2] (Nat.le_of_ble_eq_true rfl) (fun p e s m args below meth c ls S hr hk hw hl => b_X2_isWaiting_0 S hr hk n0 hn0 x1 x2 k0 _ _ _ hl hw hq)
theorem call_X2_isWaiting {z0 k0 : ka_T} {n0 : Nat} {x1 : Int32} {x2 : Int32} {post : Int32 → ka_T → Prop} (S : CallFix p m c cc nL s args lw_gd own) (hw : Wo_ D cA cf ad A k0 z0 s H locs) {index : Nat} (hl : Cond.methodLink own index yX2_isWaiting ∈ lw_gd) (hn0 : n0 < cf 0) (hq : q_X2_isWaiting cf post n0 x1 x2 k0) (hR : rmX2_isWaiting.frames + 1 ≤ R.frames ∧ 8 + (3 + 11) + rmX2_isWaiting.locals ≤ R.locals) (hls : ls.size = nL) (hro : (rest.map fun v => v.category).sum ≤ 8) (hcs : cells ≤ R.cells ∧ slots ≤ R.slots) (hd : decode cc pc = .ok (.invokevirtual index, 3)) (kk : ∀ (r : Int32) (u : ka_T) (H1 : Heap) (locs1 : List Loc), post r u → Wo_ D cA cf ad A u z0 s H1 locs1 → W p l e R s m args below meth c H1 locs1 cells slots Q (F0 m (pc + 3) ls (.int r :: rest))) : W p l e R s m args below meth c H locs cells slots Q (F0 m pc ls (.int x2 :: .int x1 :: .ref (ad (6, n0)) :: rest)) :=
  kg_vi (cu := fun u => ce_l cA cf ad u z0) (As := [.int x1, .int x2]) S hw (q := (6, n0)) (c_X2_isWaiting z0 k0 n0 hn0 x1 x2 hq) wc_X2_isWaiting wn_X2 hl wi_X2_isWaiting (C := RX2) (T := TX2) (N := 11) (ci := 2) (fs := fx_6 cf ad k0 n0) wse_X2_isWaiting (km_6 hn0) rfl rfl (na := 2) (by decide +kernel) rfl rfl rfl hR hls rfl hro hcs hd kk
abbrev rmX2_put : Room := { frames := 1, cells := 0, slots := 0, locals := 21 }
set_option maxRecDepth 100000 in
set_option maxHeartbeats 4000000 in
theorem b_X2_put_0 {post : Int32 → ka_T → Prop} (S : CallFix p m c cX2_put 2 s args lw_gd RX2) (hr : meth.sig.returnType = some .int) (hk : meth.locks = false) : ∀ (n0 : Nat) (hn0 : n0 < cf 0) (x1 : Int32) (k0 : ka_T) (H : Heap) (locs : List Loc) (ls : Array Slot), lv_has ls 2 [(0, .ref (ad (6, n0))), (1, .int x1)] → Wo_ D cA cf ad A k0 z0 s H locs → q_X2_put cf post n0 x1 k0 → W p l e rmX2_put s m args below meth c H locs 0 0 (MQ below (va_Qi post (fun u t => Wx_ D cA cf ad A u z0 t) A) args s 0 0 A) (F0 m 0 ls []) := by
  intro n0 hn0 x1 k0 H locs ls hl hw hq
  refine lv_aload_n S.1 S.2.1 dX2_put_0 rfl (lv_at hl 0 rfl) ?_
  refine gf_201 S hw hn0 wf_X2_44 dX2_put_1 ?_
  refine lv_iload_n S.1 S.2.1 dX2_put_4 rfl (lv_at hl 1 rfl) ?_
  refine call_X1_push S hw wl_X2_54 (vl_n hn0) hq ⟨Nat.le_of_ble_eq_true rfl, Nat.le_of_ble_eq_true rfl⟩ hl.1 (Nat.le_of_ble_eq_true rfl) ⟨Nat.zero_le _, Nat.zero_le _⟩ dX2_put_5 (fun r1 k1 H locs hq hw => ?_)
  refine lv_if_eq (tgt := 15) S.1 S.2.1 dX2_put_8 rfl (fun h2 => ?_) (fun h2 => ?_)
  · replace hq := hq.1 h2
    refine lv_iconst (v := (1 : Int32)) S.1 S.2.1 dX2_put_15 (by decide) ?_
    exact kr_i (cu := fun u => ce_l cA cf ad u z0) S hr rfl hk hw hq dX2_put_16
  · replace hq := hq.2 h2
    refine lv_iconst (v := (0 : Int32)) S.1 S.2.1 dX2_put_11 (by decide) ?_
    refine lv_goto (tgt := 16) S.1 S.2.1 dX2_put_12 rfl ?_
    exact kr_i (cu := fun u => ce_l cA cf ad u z0) S hr rfl hk hw hq dX2_put_16
theorem c_X2_put (z0 k0 : ka_T) (n0 : Nat) (hn0 : n0 < cf 0) (x1 : Int32) {post : Int32 → ka_T → Prop} (hq : q_X2_put cf post n0 x1 k0) : Met l yX2_put wsX2_put rmX2_put (va_Pc [.ref (ad (6, n0)), .int x1] (Wx_ D cA cf ad A k0 z0)) (va_Qi post (fun u t => Wx_ D cA cf ad A u z0 t) A) 0 0 A :=
  kp_met (by decide +kernel) [.ref (ad (6, n0)), .int x1] (Nat.le_of_ble_eq_true rfl) (fun p e s m args below meth c ls S hr hk hw hl => b_X2_put_0 S hr hk n0 hn0 x1 k0 _ _ _ hl hw hq)
theorem call_X2_put {z0 k0 : ka_T} {n0 : Nat} {x1 : Int32} {post : Int32 → ka_T → Prop} (S : CallFix p m c cc nL s args lw_gd own) (hw : Wo_ D cA cf ad A k0 z0 s H locs) {index : Nat} (hl : Cond.methodLink own index yX2_put ∈ lw_gd) (hn0 : n0 < cf 0) (hq : q_X2_put cf post n0 x1 k0) (hR : rmX2_put.frames + 1 ≤ R.frames ∧ 8 + (2 + 11) + rmX2_put.locals ≤ R.locals) (hls : ls.size = nL) (hro : (rest.map fun v => v.category).sum ≤ 8) (hcs : cells ≤ R.cells ∧ slots ≤ R.slots) (hd : decode cc pc = .ok (.invokevirtual index, 3)) (kk : ∀ (r : Int32) (u : ka_T) (H1 : Heap) (locs1 : List Loc), post r u → Wo_ D cA cf ad A u z0 s H1 locs1 → W p l e R s m args below meth c H1 locs1 cells slots Q (F0 m (pc + 3) ls (.int r :: rest))) : W p l e R s m args below meth c H locs cells slots Q (F0 m pc ls (.int x1 :: .ref (ad (6, n0)) :: rest)) :=
  kg_vi (cu := fun u => ce_l cA cf ad u z0) (As := [.int x1]) S hw (q := (6, n0)) (c_X2_put z0 k0 n0 hn0 x1 hq) wc_X2_put wn_X2 hl wi_X2_put (C := RX2) (T := TX2) (N := 11) (ci := 2) (fs := fx_6 cf ad k0 n0) wse_X2_put (km_6 hn0) rfl rfl (na := 1) (by decide +kernel) rfl rfl rfl hR hls rfl hro hcs hd kk
abbrev rmX2_reset : Room := { frames := 0, cells := 0, slots := 0, locals := 0 }
set_option maxRecDepth 100000 in
set_option maxHeartbeats 4000000 in
theorem b_X2_reset_0 {post : ka_T → Prop} (S : CallFix p m c cX2_reset 3 s args lw_gd RX2) (hr : meth.sig.returnType = none) (hk : meth.locks = false) : ∀ (n0 : Nat) (hn0 : n0 < cf 0) (x1 : Int32) (x2 : Int32) (k0 : ka_T) (H : Heap) (locs : List Loc) (ls : Array Slot), lv_has ls 3 [(0, .ref (ad (6, n0))), (1, .int x1), (2, .int x2)] → Wo_ D cA cf ad A k0 z0 s H locs → q_X2_reset cf post n0 x1 x2 k0 → W p l e rmX2_reset s m args below meth c H locs 0 0 (MQ below (va_Qv post (fun u t => Wx_ D cA cf ad A u z0 t) A) args s 0 0 A) (F0 m 0 ls []) := by
  intro n0 hn0 x1 x2 k0 H locs ls hl hw hq
  refine lv_aload_n S.1 S.2.1 dX2_reset_0 rfl (lv_at hl 0 rfl) ?_
  refine lv_iload_n S.1 S.2.1 dX2_reset_1 rfl (lv_at hl 1 rfl) ?_
  refine pf_204 S hw hn0 wf_X2_15 dX2_reset_2 (fun k1 H locs e1 hw => ?_)
  replace hq := hq _ e1
  refine lv_aload_n S.1 S.2.1 dX2_reset_5 rfl (lv_at hl 0 rfl) ?_
  refine lv_iload_n S.1 S.2.1 dX2_reset_6 rfl (lv_at hl 2 rfl) ?_
  refine pf_205 S hw hn0 wf_X2_18 dX2_reset_7 (fun k2 H locs e2 hw => ?_)
  replace hq := hq _ e2
  refine lv_aload_n S.1 S.2.1 dX2_reset_10 rfl (lv_at hl 0 rfl) ?_
  refine gf_201 S hw hn0 wf_X2_44 dX2_reset_11 ?_
  refine lv_iconst (v := (0 : Int32)) S.1 S.2.1 dX2_reset_14 (by decide) ?_
  refine pf_101 S hw (vl_n hn0) wf_X2_51 dX2_reset_15 (fun k3 H locs e3 hw => ?_)
  replace hq := hq _ e3
  refine lv_aload_n S.1 S.2.1 dX2_reset_18 rfl (lv_at hl 0 rfl) ?_
  refine gf_202 S hw hn0 wf_X2_48 dX2_reset_19 ?_
  refine lv_iconst (v := (0 : Int32)) S.1 S.2.1 dX2_reset_22 (by decide) ?_
  refine pf_101 S hw (vl_f hn0) wf_X2_51 dX2_reset_23 (fun k4 H locs e4 hw => ?_)
  replace hq := hq _ e4
  exact kr_v (cu := fun u => ce_l cA cf ad u z0) S hr hk hw hq dX2_reset_26
theorem c_X2_reset (z0 k0 : ka_T) (n0 : Nat) (hn0 : n0 < cf 0) (x1 : Int32) (x2 : Int32) {post : ka_T → Prop} (hq : q_X2_reset cf post n0 x1 x2 k0) : Met l yX2_reset wsX2_reset rmX2_reset (va_Pc [.ref (ad (6, n0)), .int x1, .int x2] (Wx_ D cA cf ad A k0 z0)) (va_Qv post (fun u t => Wx_ D cA cf ad A u z0 t) A) 0 0 A :=
  kp_met (by decide +kernel) [.ref (ad (6, n0)), .int x1, .int x2] (Nat.le_of_ble_eq_true rfl) (fun p e s m args below meth c ls S hr hk hw hl => b_X2_reset_0 S hr hk n0 hn0 x1 x2 k0 _ _ _ hl hw hq)
theorem call_X2_reset {z0 k0 : ka_T} {n0 : Nat} {x1 : Int32} {x2 : Int32} {post : ka_T → Prop} (S : CallFix p m c cc nL s args lw_gd own) (hw : Wo_ D cA cf ad A k0 z0 s H locs) {index : Nat} (hl : Cond.methodLink own index yX2_reset ∈ lw_gd) (hn0 : n0 < cf 0) (hq : q_X2_reset cf post n0 x1 x2 k0) (hR : rmX2_reset.frames + 1 ≤ R.frames ∧ 8 + (3 + 11) + rmX2_reset.locals ≤ R.locals) (hls : ls.size = nL) (hro : (rest.map fun v => v.category).sum ≤ 8) (hcs : cells ≤ R.cells ∧ slots ≤ R.slots) (hd : decode cc pc = .ok (.invokevirtual index, 3)) (kk : ∀ (u : ka_T) (H1 : Heap) (locs1 : List Loc), post u → Wo_ D cA cf ad A u z0 s H1 locs1 → W p l e R s m args below meth c H1 locs1 cells slots Q (F0 m (pc + 3) ls rest)) : W p l e R s m args below meth c H locs cells slots Q (F0 m pc ls (.int x2 :: .int x1 :: .ref (ad (6, n0)) :: rest)) :=
  kg_vv (cu := fun u => ce_l cA cf ad u z0) (As := [.int x1, .int x2]) S hw (q := (6, n0)) (c_X2_reset z0 k0 n0 hn0 x1 x2 hq) wc_X2_reset wn_X2 hl wi_X2_reset (C := RX2) (T := TX2) (N := 11) (ci := 2) (fs := fx_6 cf ad k0 n0) wse_X2_reset (km_6 hn0) rfl rfl (na := 2) (by decide +kernel) rfl rfl rfl hR hls rfl hro hcs hd kk
abbrev rmX3_enter : Room := { frames := 0, cells := 0, slots := 0, locals := 0 }
set_option maxRecDepth 100000 in
set_option maxHeartbeats 4000000 in
theorem b_X3_enter_0 {post : ka_T → Prop} (S : CallFix p m c cX3_enter 3 s args lw_gd RX3) (hr : meth.sig.returnType = none) (hk : meth.locks = false) : ∀ (n1 : Nat) (hn1 : n1 < cf 0) (x2 : Int32) (k0 : ka_T) (H : Heap) (locs : List Loc) (ls : Array Slot), lv_has ls 3 [(0, .ref (ad (0, 0))), (1, .ref (ad (6, n1))), (2, .int x2)] → Wo_ D cA cf ad A k0 z0 s H locs → q_X3_enter cf post n1 x2 k0 → W p l e rmX3_enter s m args below meth c H locs 0 0 (MQ below (va_Qv post (fun u t => Wx_ D cA cf ad A u z0 t) A) args s 0 0 A) (F0 m 0 ls []) := by
  intro n1 hn1 x2 k0 H locs ls hl hw hq
  refine lv_aload_n S.1 S.2.1 dX3_enter_0 rfl (lv_at hl 1 rfl) ?_
  refine lv_iload_n S.1 S.2.1 dX3_enter_1 rfl (lv_at hl 2 rfl) ?_
  refine pf_203 S hw hn1 wf_X3_71 dX3_enter_2 (fun k1 H locs e1 hw => ?_)
  replace hq := hq _ e1
  refine lv_aload_n S.1 S.2.1 dX3_enter_5 rfl (lv_at hl 1 rfl) ?_
  refine lv_aload_n S.1 S.2.1 dX3_enter_6 rfl (lv_at hl 0 rfl) ?_
  refine gf_307 S hw wf_X3_26 dX3_enter_7 ?_
  refine pf_206 S hw hn1 wf_X3_164 dX3_enter_10 (fun k2 H locs e2 hw => ?_)
  replace hq := hq _ e2
  refine lv_aload_n S.1 S.2.1 dX3_enter_13 rfl (lv_at hl 0 rfl) ?_
  refine lv_dup S.1 S.2.1 dX3_enter_14 rfl ?_
  refine gf_307 S hw wf_X3_26 dX3_enter_15 ?_
  refine lv_iconst (v := (1 : Int32)) S.1 S.2.1 dX3_enter_18 (by decide) ?_
  refine lv_iadd S.1 S.2.1 dX3_enter_19 ?_
  refine pf_307 S hw wf_X3_26 dX3_enter_20 (fun k3 H locs e3 hw => ?_)
  replace hq := hq _ e3
  refine lv_aload_n S.1 S.2.1 dX3_enter_23 rfl (lv_at hl 1 rfl) ?_
  refine lv_iconst (v := (0 : Int32)) S.1 S.2.1 dX3_enter_24 (by decide) ?_
  refine pf_207 S hw hn1 wf_X3_120 dX3_enter_25 (fun k4 H locs e4 hw => ?_)
  replace hq := hq _ e4
  refine lv_aload_n S.1 S.2.1 dX3_enter_28 rfl (lv_at hl 1 rfl) ?_
  refine lv_iconst (v := (-1 : Int32)) S.1 S.2.1 dX3_enter_29 (by decide) ?_
  refine pf_208 S hw hn1 wf_X3_123 dX3_enter_30 (fun k5 H locs e5 hw => ?_)
  replace hq := hq _ e5
  exact kr_v (cu := fun u => ce_l cA cf ad u z0) S hr hk hw hq dX3_enter_33
theorem c_X3_enter (z0 k0 : ka_T) (n1 : Nat) (hn1 : n1 < cf 0) (x2 : Int32) {post : ka_T → Prop} (hq : q_X3_enter cf post n1 x2 k0) : Met l yX3_enter wsX3_enter rmX3_enter (va_Pc [.ref (ad (0, 0)), .ref (ad (6, n1)), .int x2] (Wx_ D cA cf ad A k0 z0)) (va_Qv post (fun u t => Wx_ D cA cf ad A u z0 t) A) 0 0 A :=
  kp_met (by decide +kernel) [.ref (ad (0, 0)), .ref (ad (6, n1)), .int x2] (Nat.le_of_ble_eq_true rfl) (fun p e s m args below meth c ls S hr hk hw hl => b_X3_enter_0 S hr hk n1 hn1 x2 k0 _ _ _ hl hw hq)
theorem call_X3_enter {z0 k0 : ka_T} {n1 : Nat} {x2 : Int32} {post : ka_T → Prop} (S : CallFix p m c cc nL s args lw_gd own) (hw : Wo_ D cA cf ad A k0 z0 s H locs) {index : Nat} (hl : Cond.methodLink own index yX3_enter ∈ lw_gd) (hn1 : n1 < cf 0) (hq : q_X3_enter cf post n1 x2 k0) (hR : rmX3_enter.frames + 1 ≤ R.frames ∧ 8 + (3 + 11) + rmX3_enter.locals ≤ R.locals) (hls : ls.size = nL) (hro : (rest.map fun v => v.category).sum ≤ 8) (hcs : cells ≤ R.cells ∧ slots ≤ R.slots) (hd : decode cc pc = .ok (.invokevirtual index, 3)) (kk : ∀ (u : ka_T) (H1 : Heap) (locs1 : List Loc), post u → Wo_ D cA cf ad A u z0 s H1 locs1 → W p l e R s m args below meth c H1 locs1 cells slots Q (F0 m (pc + 3) ls rest)) : W p l e R s m args below meth c H locs cells slots Q (F0 m pc ls (.int x2 :: .ref (ad (6, n1)) :: .ref (ad (0, 0)) :: rest)) :=
  kg_vv (cu := fun u => ce_l cA cf ad u z0) (As := [.ref (ad (6, n1)), .int x2]) S hw (q := (0, 0)) (c_X3_enter z0 k0 n1 hn1 x2 hq) wc_X3_enter wn_X3 hl wi_X3_enter (C := RX3) (T := TX3) (N := 9) (ci := 3) (fs := fx_0 cf ad k0 0) wse_X3_enter (km_0) rfl rfl (na := 2) (by decide +kernel) rfl rfl rfl hR hls rfl hro hcs hd kk
abbrev rmX3_beginLeastFree : Room := { frames := 1, cells := 0, slots := 0, locals := 22 }
set_option maxRecDepth 100000 in
set_option maxHeartbeats 4000000 in
theorem b_X3_beginLeastFree_2 {post : Int32 → ka_T → Prop} (S : CallFix p m c cX3_beginLeastFree 4 s args lw_gd RX3) (hr : meth.sig.returnType = some .int) (hk : meth.locks = false) : ∀ nf : Nat, ∀ (x1 : Int32) (x2 : Int32) (x3 : Int32) (k0 : ka_T) (H : Heap) (locs : List Loc) (ls : Array Slot), lv_has ls 4 [(0, .ref (ad (0, 0))), (1, .int x1), (2, .int x2), (3, .int x3)] → Wo_ D cA cf ad A k0 z0 s H locs → q_X3_beginLeastFree_2 cf post nf x1 x2 x3 k0 → W p l e rmX3_beginLeastFree s m args below meth c H locs 0 0 (MQ below (va_Qi post (fun u t => Wx_ D cA cf ad A u z0 t) A) args s 0 0 A) (F0 m 2 ls []) := by
  intro nf
  induction nf with
  | zero =>
    intro x1 x2 x3 k0 H locs ls hl hw hq
    exact False.elim hq
  | succ nf ih =>
    intro x1 x2 x3 k0 H locs ls hl hw hq
    refine lv_iload_n S.1 S.2.1 dX3_beginLeastFree_2 rfl (lv_at hl 3 rfl) ?_
    refine lv_aload_n S.1 S.2.1 dX3_beginLeastFree_3 rfl (lv_at hl 0 rfl) ?_
    refine gf_300 S hw wf_X3_39 dX3_beginLeastFree_4 ?_
    refine an_1 S hw dX3_beginLeastFree_7 ?_
    refine lv_icmp_ge (tgt := 53) S.1 S.2.1 dX3_beginLeastFree_8 rfl (fun h1 => ?_) (fun h1 => ?_)
    · replace hq := hq.1 h1
      refine lv_iconst (v := (-1 : Int32)) S.1 S.2.1 dX3_beginLeastFree_53 (by decide) ?_
      exact kr_i (cu := fun u => ce_l cA cf ad u z0) S hr rfl hk hw hq dX3_beginLeastFree_54
    · replace hq := hq.2 h1
      refine lv_aload_n S.1 S.2.1 dX3_beginLeastFree_11 rfl (lv_at hl 0 rfl) ?_
      refine gf_300 S hw wf_X3_39 dX3_beginLeastFree_12 ?_
      refine lv_iload_n S.1 S.2.1 dX3_beginLeastFree_15 rfl (lv_at hl 3 rfl) ?_
      obtain ⟨hi, hq⟩ := hq
      refine ar_1 S hw hi dX3_beginLeastFree_16 (fun t2 e2 ht2 => ?_)
      replace hq := hq _ e2 ht2
      refine gf_203 S hw ht2 wf_X3_71 dX3_beginLeastFree_17 ?_
      refine lv_if_ne (tgt := 47) S.1 S.2.1 dX3_beginLeastFree_20 rfl (fun h3 => ?_) (fun h3 => ?_)
      · replace hq := hq.1 h3
        refine lv_iinc (k := 3) (v := (x3 + 1)) (lv' := [(3, .int (x3 + 1)), (0, .ref (ad (0, 0))), (1, .int x1), (2, .int x2)]) S.1 S.2.1 dX3_beginLeastFree_47 hl rfl (ii_1 _) (by decide) rfl (fun ls hl => ?_)
        refine lv_goto (tgt := 2) S.1 S.2.1 dX3_beginLeastFree_50 rfl ?_
        exact ih x1 x2 (x3 + 1) k0 _ _ _ (lv_sub hl [1, 2, 3, 0] rfl) hw hq
      · replace hq := hq.2 h3
        refine lv_aload_n S.1 S.2.1 dX3_beginLeastFree_23 rfl (lv_at hl 0 rfl) ?_
        refine gf_300 S hw wf_X3_39 dX3_beginLeastFree_24 ?_
        refine lv_iload_n S.1 S.2.1 dX3_beginLeastFree_27 rfl (lv_at hl 3 rfl) ?_
        obtain ⟨hi, hq⟩ := hq
        refine ar_1 S hw hi dX3_beginLeastFree_28 (fun t4 e4 ht4 => ?_)
        replace hq := hq _ e4 ht4
        refine lv_iload_n S.1 S.2.1 dX3_beginLeastFree_29 rfl (lv_at hl 1 rfl) ?_
        refine lv_iload_n S.1 S.2.1 dX3_beginLeastFree_30 rfl (lv_at hl 2 rfl) ?_
        refine call_X2_reset S hw wl_X3_167 ht4 hq ⟨Nat.le_of_ble_eq_true rfl, Nat.le_of_ble_eq_true rfl⟩ hl.1 (Nat.le_of_ble_eq_true rfl) ⟨Nat.zero_le _, Nat.zero_le _⟩ dX3_beginLeastFree_31 (fun k5 H locs hq hw => ?_)
        refine lv_aload_n S.1 S.2.1 dX3_beginLeastFree_34 rfl (lv_at hl 0 rfl) ?_
        refine lv_aload_n S.1 S.2.1 dX3_beginLeastFree_35 rfl (lv_at hl 0 rfl) ?_
        refine gf_300 S hw wf_X3_39 dX3_beginLeastFree_36 ?_
        refine lv_iload_n S.1 S.2.1 dX3_beginLeastFree_39 rfl (lv_at hl 3 rfl) ?_
        obtain ⟨hi, hq⟩ := hq
        refine ar_1 S hw hi dX3_beginLeastFree_40 (fun t6 e6 ht6 => ?_)
        replace hq := hq _ e6 ht6
        refine lv_iconst (v := (1 : Int32)) S.1 S.2.1 dX3_beginLeastFree_41 (by decide) ?_
        refine call_X3_enter S hw wl_X3_92 ht6 hq ⟨Nat.le_of_ble_eq_true rfl, Nat.le_of_ble_eq_true rfl⟩ hl.1 (Nat.le_of_ble_eq_true rfl) ⟨Nat.zero_le _, Nat.zero_le _⟩ dX3_beginLeastFree_42 (fun k7 H locs hq hw => ?_)
        refine lv_iload_n S.1 S.2.1 dX3_beginLeastFree_45 rfl (lv_at hl 3 rfl) ?_
        exact kr_i (cu := fun u => ce_l cA cf ad u z0) S hr rfl hk hw hq dX3_beginLeastFree_46
set_option maxRecDepth 100000 in
set_option maxHeartbeats 4000000 in
theorem b_X3_beginLeastFree_0 {post : Int32 → ka_T → Prop} (S : CallFix p m c cX3_beginLeastFree 4 s args lw_gd RX3) (hr : meth.sig.returnType = some .int) (hk : meth.locks = false) : ∀ (x1 : Int32) (x2 : Int32) (k0 : ka_T) (H : Heap) (locs : List Loc) (ls : Array Slot), lv_has ls 4 [(0, .ref (ad (0, 0))), (1, .int x1), (2, .int x2)] → Wo_ D cA cf ad A k0 z0 s H locs → q_X3_beginLeastFree cf post x1 x2 k0 → W p l e rmX3_beginLeastFree s m args below meth c H locs 0 0 (MQ below (va_Qi post (fun u t => Wx_ D cA cf ad A u z0 t) A) args s 0 0 A) (F0 m 0 ls []) := by
  intro x1 x2 k0 H locs ls hl hw hq
  refine lv_iconst (v := (0 : Int32)) S.1 S.2.1 dX3_beginLeastFree_0 (by decide) ?_
  refine lv_istore_n (lv' := [(3, .int (0 : Int32)), (0, .ref (ad (0, 0))), (1, .int x1), (2, .int x2)]) S.1 S.2.1 dX3_beginLeastFree_1 rfl hl (by decide) rfl (fun ls hl => ?_)
  obtain ⟨nf9, hq⟩ := hq
  exact b_X3_beginLeastFree_2 S hr hk nf9 x1 x2 (0 : Int32) k0 _ _ _ (lv_sub hl [1, 2, 3, 0] rfl) hw hq
theorem c_X3_beginLeastFree (z0 k0 : ka_T) (x1 : Int32) (x2 : Int32) {post : Int32 → ka_T → Prop} (hq : q_X3_beginLeastFree cf post x1 x2 k0) : Met l yX3_beginLeastFree wsX3_beginLeastFree rmX3_beginLeastFree (va_Pc [.ref (ad (0, 0)), .int x1, .int x2] (Wx_ D cA cf ad A k0 z0)) (va_Qi post (fun u t => Wx_ D cA cf ad A u z0 t) A) 0 0 A :=
  kp_met (by decide +kernel) [.ref (ad (0, 0)), .int x1, .int x2] (Nat.le_of_ble_eq_true rfl) (fun p e s m args below meth c ls S hr hk hw hl => b_X3_beginLeastFree_0 S hr hk x1 x2 k0 _ _ _ hl hw hq)
theorem call_X3_beginLeastFree {z0 k0 : ka_T} {x1 : Int32} {x2 : Int32} {post : Int32 → ka_T → Prop} (S : CallFix p m c cc nL s args lw_gd own) (hw : Wo_ D cA cf ad A k0 z0 s H locs) {index : Nat} (hl : Cond.methodLink own index yX3_beginLeastFree ∈ lw_gd) (hq : q_X3_beginLeastFree cf post x1 x2 k0) (hR : rmX3_beginLeastFree.frames + 1 ≤ R.frames ∧ 8 + (4 + 11) + rmX3_beginLeastFree.locals ≤ R.locals) (hls : ls.size = nL) (hro : (rest.map fun v => v.category).sum ≤ 8) (hcs : cells ≤ R.cells ∧ slots ≤ R.slots) (hd : decode cc pc = .ok (.invokevirtual index, 3)) (kk : ∀ (r : Int32) (u : ka_T) (H1 : Heap) (locs1 : List Loc), post r u → Wo_ D cA cf ad A u z0 s H1 locs1 → W p l e R s m args below meth c H1 locs1 cells slots Q (F0 m (pc + 3) ls (.int r :: rest))) : W p l e R s m args below meth c H locs cells slots Q (F0 m pc ls (.int x2 :: .int x1 :: .ref (ad (0, 0)) :: rest)) :=
  kg_vi (cu := fun u => ce_l cA cf ad u z0) (As := [.int x1, .int x2]) S hw (q := (0, 0)) (c_X3_beginLeastFree z0 k0 x1 x2 hq) wc_X3_beginLeastFree wn_X3 hl wi_X3_beginLeastFree (C := RX3) (T := TX3) (N := 9) (ci := 3) (fs := fx_0 cf ad k0 0) wse_X3_beginLeastFree (km_0) rfl rfl (na := 2) (by decide +kernel) rfl rfl rfl hR hls rfl hro hcs hd kk
abbrev rmX3_isCodePlace : Room := { frames := 0, cells := 0, slots := 0, locals := 0 }
set_option maxRecDepth 100000 in
set_option maxHeartbeats 4000000 in
theorem b_X3_isCodePlace_0 {post : Int32 → ka_T → Prop} (S : CallFix p m c cX3_isCodePlace 1 s args lw_gd RX3) (hr : meth.sig.returnType = some .boolean) (hk : meth.locks = false) : ∀ (x0 : Int32) (k0 : ka_T) (H : Heap) (locs : List Loc) (ls : Array Slot), lv_has ls 1 [(0, .int x0)] → Wo_ D cA cf ad A k0 z0 s H locs → q_X3_isCodePlace cf post x0 k0 → W p l e rmX3_isCodePlace s m args below meth c H locs 0 0 (MQ below (va_Qi post (fun u t => Wx_ D cA cf ad A u z0 t) A) args s 0 0 A) (F0 m 0 ls []) := by
  intro x0 k0 H locs ls hl hw hq
  refine lv_iload_n S.1 S.2.1 dX3_isCodePlace_0 rfl (lv_at hl 0 rfl) ?_
  refine lv_if_lt (tgt := 14) S.1 S.2.1 dX3_isCodePlace_1 rfl (fun h1 => ?_) (fun h1 => ?_)
  · replace hq := hq.1 h1
    refine lv_iconst (v := (0 : Int32)) S.1 S.2.1 dX3_isCodePlace_14 (by decide) ?_
    exact kr_i (cu := fun u => ce_l cA cf ad u z0) S hr (by decide) hk hw hq dX3_isCodePlace_15
  · replace hq := hq.2 h1
    refine lv_iload_n S.1 S.2.1 dX3_isCodePlace_4 rfl (lv_at hl 0 rfl) ?_
    refine lv_bipush (v := (64 : Int32)) S.1 S.2.1 dX3_isCodePlace_5 (by decide) ?_
    refine lv_icmp_ge (tgt := 14) S.1 S.2.1 dX3_isCodePlace_7 rfl (fun h2 => ?_) (fun h2 => ?_)
    · replace hq := hq.1 h2
      refine lv_iconst (v := (0 : Int32)) S.1 S.2.1 dX3_isCodePlace_14 (by decide) ?_
      exact kr_i (cu := fun u => ce_l cA cf ad u z0) S hr (by decide) hk hw hq dX3_isCodePlace_15
    · replace hq := hq.2 h2
      refine lv_iconst (v := (1 : Int32)) S.1 S.2.1 dX3_isCodePlace_10 (by decide) ?_
      refine lv_goto (tgt := 15) S.1 S.2.1 dX3_isCodePlace_11 rfl ?_
      exact kr_i (cu := fun u => ce_l cA cf ad u z0) S hr (by decide) hk hw hq dX3_isCodePlace_15
theorem c_X3_isCodePlace (z0 k0 : ka_T) (x0 : Int32) {post : Int32 → ka_T → Prop} (hq : q_X3_isCodePlace cf post x0 k0) : Met l yX3_isCodePlace wsX3_isCodePlace rmX3_isCodePlace (va_Pc [.int x0] (Wx_ D cA cf ad A k0 z0)) (va_Qi post (fun u t => Wx_ D cA cf ad A u z0 t) A) 0 0 A :=
  kp_met (by decide +kernel) [.int x0] (Nat.le_of_ble_eq_true rfl) (fun p e s m args below meth c ls S hr hk hw hl => b_X3_isCodePlace_0 S hr hk x0 k0 _ _ _ hl hw hq)
theorem call_X3_isCodePlace {z0 k0 : ka_T} {x0 : Int32} {post : Int32 → ka_T → Prop} (S : CallFix p m c cc nL s args lw_gd own) (hw : Wo_ D cA cf ad A k0 z0 s H locs) {index : Nat} (hl : Cond.methodLink own index yX3_isCodePlace ∈ lw_gd) (hq : q_X3_isCodePlace cf post x0 k0) (hR : rmX3_isCodePlace.frames + 1 ≤ R.frames ∧ 8 + (1 + 11) + rmX3_isCodePlace.locals ≤ R.locals) (hls : ls.size = nL) (hro : (rest.map fun v => v.category).sum ≤ 8) (hcs : cells ≤ R.cells ∧ slots ≤ R.slots) (hd : decode cc pc = .ok (.invokestatic index, 3)) (kk : ∀ (r : Int32) (u : ka_T) (H1 : Heap) (locs1 : List Loc), post r u → Wo_ D cA cf ad A u z0 s H1 locs1 → W p l e R s m args below meth c H1 locs1 cells slots Q (F0 m (pc + 3) ls (.int r :: rest))) : W p l e R s m args below meth c H locs cells slots Q (F0 m pc ls (.int x0 :: rest)) :=
  kg_si (cu := fun u => ce_l cA cf ad u z0) (As := [.int x0]) S hw (c_X3_isCodePlace z0 k0 x0 hq) wc_X3_isCodePlace wn_X3 hl wst_X3_isCodePlace (na := 1) (by decide +kernel) rfl rfl rfl hR hls rfl hro hcs hd kk
abbrev rmX3_beginOther : Room := { frames := 2, cells := 0, slots := 0, locals := 45 }
set_option maxRecDepth 100000 in
set_option maxHeartbeats 4000000 in
theorem b_X3_beginOther_0 {post : Int32 → ka_T → Prop} (S : CallFix p m c cX3_beginOther 4 s args lw_gd RX3) (hr : meth.sig.returnType = some .int) (hk : meth.locks = false) : ∀ (n1 : Nat) (hn1 : n1 < cf 0) (x2 : Int32) (k0 : ka_T) (H : Heap) (locs : List Loc) (ls : Array Slot), lv_has ls 4 [(0, .ref (ad (0, 0))), (1, .ref (ad (6, n1))), (2, .int x2)] → Wo_ D cA cf ad A k0 z0 s H locs → q_X3_beginOther cf post n1 x2 k0 → W p l e rmX3_beginOther s m args below meth c H locs 0 0 (MQ below (va_Qi post (fun u t => Wx_ D cA cf ad A u z0 t) A) args s 0 0 A) (F0 m 0 ls []) := by
  intro n1 hn1 x2 k0 H locs ls hl hw hq
  refine lv_iload_n S.1 S.2.1 dX3_beginOther_0 rfl (lv_at hl 2 rfl) ?_
  refine call_X3_isCodePlace S hw wl_X3_55 hq ⟨Nat.le_of_ble_eq_true rfl, Nat.le_of_ble_eq_true rfl⟩ hl.1 (Nat.le_of_ble_eq_true rfl) ⟨Nat.zero_le _, Nat.zero_le _⟩ dX3_beginOther_1 (fun r1 k1 H locs hq hw => ?_)
  refine lv_if_ne (tgt := 9) S.1 S.2.1 dX3_beginOther_4 rfl (fun h2 => ?_) (fun h2 => ?_)
  · replace hq := hq.1 h2
    refine lv_aload_n S.1 S.2.1 dX3_beginOther_9 rfl (lv_at hl 1 rfl) ?_
    refine gf_201 S hw hn1 wf_X3_108 dX3_beginOther_10 ?_
    refine gf_101 S hw (vl_n hn1) wf_X3_112 dX3_beginOther_13 ?_
    refine lv_iconst (v := (1 : Int32)) S.1 S.2.1 dX3_beginOther_16 (by decide) ?_
    refine lv_icmp_ge (tgt := 22) S.1 S.2.1 dX3_beginOther_17 rfl (fun h3 => ?_) (fun h3 => ?_)
    · replace hq := hq.1 h3
      refine lv_aload_n S.1 S.2.1 dX3_beginOther_22 rfl (lv_at hl 1 rfl) ?_
      refine gf_201 S hw hn1 wf_X3_108 dX3_beginOther_23 ?_
      refine call_X1_pop S hw wl_X3_235 (vl_n hn1) hq ⟨Nat.le_of_ble_eq_true rfl, Nat.le_of_ble_eq_true rfl⟩ hl.1 (Nat.le_of_ble_eq_true rfl) ⟨Nat.zero_le _, Nat.zero_le _⟩ dX3_beginOther_26 (fun r4 k4 H locs hq hw => ?_)
      refine lv_bipush (v := (7 : Int32)) S.1 S.2.1 dX3_beginOther_29 (by decide) ?_
      refine lv_iand S.1 S.2.1 dX3_beginOther_31 ?_
      refine lv_istore_n (lv' := [(3, .int (r4 &&& (7 : Int32))), (0, .ref (ad (0, 0))), (1, .ref (ad (6, n1))), (2, .int x2)]) S.1 S.2.1 dX3_beginOther_32 rfl hl (by decide) rfl (fun ls hl => ?_)
      refine lv_aload_n S.1 S.2.1 dX3_beginOther_33 rfl (lv_at hl 2 rfl) ?_
      refine lv_aload_n S.1 S.2.1 dX3_beginOther_34 rfl (lv_at hl 1 rfl) ?_
      refine lv_iload_n S.1 S.2.1 dX3_beginOther_35 rfl (lv_at hl 3 rfl) ?_
      refine lv_iload_n S.1 S.2.1 dX3_beginOther_36 rfl (lv_at hl 0 rfl) ?_
      refine call_X3_beginLeastFree S hw wl_X3_59 hq ⟨Nat.le_of_ble_eq_true rfl, Nat.le_of_ble_eq_true rfl⟩ hl.1 (Nat.le_of_ble_eq_true rfl) ⟨Nat.zero_le _, Nat.zero_le _⟩ dX3_beginOther_37 (fun r5 k5 H locs hq hw => ?_)
      refine call_X2_put S hw wl_X3_180 hn1 hq ⟨Nat.le_of_ble_eq_true rfl, Nat.le_of_ble_eq_true rfl⟩ hl.1 (Nat.le_of_ble_eq_true rfl) ⟨Nat.zero_le _, Nat.zero_le _⟩ dX3_beginOther_40 (fun r6 k6 H locs hq hw => ?_)
      exact kr_i (cu := fun u => ce_l cA cf ad u z0) S hr rfl hk hw hq dX3_beginOther_43
    · replace hq := hq.2 h3
      refine lv_iconst (v := (1 : Int32)) S.1 S.2.1 dX3_beginOther_20 (by decide) ?_
      exact kr_i (cu := fun u => ce_l cA cf ad u z0) S hr rfl hk hw hq dX3_beginOther_21
  · replace hq := hq.2 h2
    refine lv_iconst (v := (2 : Int32)) S.1 S.2.1 dX3_beginOther_7 (by decide) ?_
    exact kr_i (cu := fun u => ce_l cA cf ad u z0) S hr rfl hk hw hq dX3_beginOther_8
theorem c_X3_beginOther (z0 k0 : ka_T) (n1 : Nat) (hn1 : n1 < cf 0) (x2 : Int32) {post : Int32 → ka_T → Prop} (hq : q_X3_beginOther cf post n1 x2 k0) : Met l yX3_beginOther wsX3_beginOther rmX3_beginOther (va_Pc [.ref (ad (0, 0)), .ref (ad (6, n1)), .int x2] (Wx_ D cA cf ad A k0 z0)) (va_Qi post (fun u t => Wx_ D cA cf ad A u z0 t) A) 0 0 A :=
  kp_met (by decide +kernel) [.ref (ad (0, 0)), .ref (ad (6, n1)), .int x2] (Nat.le_of_ble_eq_true rfl) (fun p e s m args below meth c ls S hr hk hw hl => b_X3_beginOther_0 S hr hk n1 hn1 x2 k0 _ _ _ hl hw hq)
theorem call_X3_beginOther {z0 k0 : ka_T} {n1 : Nat} {x2 : Int32} {post : Int32 → ka_T → Prop} (S : CallFix p m c cc nL s args lw_gd own) (hw : Wo_ D cA cf ad A k0 z0 s H locs) {index : Nat} (hl : Cond.methodLink own index yX3_beginOther ∈ lw_gd) (hn1 : n1 < cf 0) (hq : q_X3_beginOther cf post n1 x2 k0) (hR : rmX3_beginOther.frames + 1 ≤ R.frames ∧ 8 + (4 + 11) + rmX3_beginOther.locals ≤ R.locals) (hls : ls.size = nL) (hro : (rest.map fun v => v.category).sum ≤ 8) (hcs : cells ≤ R.cells ∧ slots ≤ R.slots) (hd : decode cc pc = .ok (.invokevirtual index, 3)) (kk : ∀ (r : Int32) (u : ka_T) (H1 : Heap) (locs1 : List Loc), post r u → Wo_ D cA cf ad A u z0 s H1 locs1 → W p l e R s m args below meth c H1 locs1 cells slots Q (F0 m (pc + 3) ls (.int r :: rest))) : W p l e R s m args below meth c H locs cells slots Q (F0 m pc ls (.int x2 :: .ref (ad (6, n1)) :: .ref (ad (0, 0)) :: rest)) :=
  kg_vi (cu := fun u => ce_l cA cf ad u z0) (As := [.ref (ad (6, n1)), .int x2]) S hw (q := (0, 0)) (c_X3_beginOther z0 k0 n1 hn1 x2 hq) wc_X3_beginOther wn_X3 hl wi_X3_beginOther (C := RX3) (T := TX3) (N := 9) (ci := 3) (fs := fx_0 cf ad k0 0) wse_X3_beginOther (km_0) rfl rfl (na := 2) (by decide +kernel) rfl rfl rfl hR hls rfl hro hcs hd kk
abbrev rmX3_callPlace : Room := { frames := 1, cells := 0, slots := 0, locals := 21 }
set_option maxRecDepth 100000 in
set_option maxHeartbeats 4000000 in
theorem b_X3_callPlace_0 {post : Int32 → ka_T → Prop} (S : CallFix p m c cX3_callPlace 3 s args lw_gd RX3) (hr : meth.sig.returnType = some .int) (hk : meth.locks = false) : ∀ (n1 : Nat) (hn1 : n1 < cf 0) (x2 : Int32) (k0 : ka_T) (H : Heap) (locs : List Loc) (ls : Array Slot), lv_has ls 3 [(0, .ref (ad (0, 0))), (1, .ref (ad (6, n1))), (2, .int x2)] → Wo_ D cA cf ad A k0 z0 s H locs → q_X3_callPlace cf post n1 x2 k0 → W p l e rmX3_callPlace s m args below meth c H locs 0 0 (MQ below (va_Qi post (fun u t => Wx_ D cA cf ad A u z0 t) A) args s 0 0 A) (F0 m 0 ls []) := by
  intro n1 hn1 x2 k0 H locs ls hl hw hq
  refine lv_iload_n S.1 S.2.1 dX3_callPlace_0 rfl (lv_at hl 2 rfl) ?_
  refine call_X3_isCodePlace S hw wl_X3_55 hq ⟨Nat.le_of_ble_eq_true rfl, Nat.le_of_ble_eq_true rfl⟩ hl.1 (Nat.le_of_ble_eq_true rfl) ⟨Nat.zero_le _, Nat.zero_le _⟩ dX3_callPlace_1 (fun r1 k1 H locs hq hw => ?_)
  refine lv_if_ne (tgt := 9) S.1 S.2.1 dX3_callPlace_4 rfl (fun h2 => ?_) (fun h2 => ?_)
  · replace hq := hq.1 h2
    refine lv_aload_n S.1 S.2.1 dX3_callPlace_9 rfl (lv_at hl 1 rfl) ?_
    refine gf_202 S hw hn1 wf_X3_117 dX3_callPlace_10 ?_
    refine lv_aload_n S.1 S.2.1 dX3_callPlace_13 rfl (lv_at hl 1 rfl) ?_
    refine gf_204 S hw hn1 wf_X3_102 dX3_callPlace_14 ?_
    refine call_X1_push S hw wl_X3_238 (vl_f hn1) hq ⟨Nat.le_of_ble_eq_true rfl, Nat.le_of_ble_eq_true rfl⟩ hl.1 (Nat.le_of_ble_eq_true rfl) ⟨Nat.zero_le _, Nat.zero_le _⟩ dX3_callPlace_17 (fun r3 k3 H locs hq hw => ?_)
    refine lv_if_ne (tgt := 25) S.1 S.2.1 dX3_callPlace_20 rfl (fun h4 => ?_) (fun h4 => ?_)
    · replace hq := hq.1 h4
      refine lv_aload_n S.1 S.2.1 dX3_callPlace_25 rfl (lv_at hl 1 rfl) ?_
      refine lv_iload_n S.1 S.2.1 dX3_callPlace_26 rfl (lv_at hl 2 rfl) ?_
      refine pf_204 S hw hn1 wf_X3_102 dX3_callPlace_27 (fun k5 H locs e5 hw => ?_)
      replace hq := hq _ e5
      refine lv_iconst (v := (0 : Int32)) S.1 S.2.1 dX3_callPlace_30 (by decide) ?_
      exact kr_i (cu := fun u => ce_l cA cf ad u z0) S hr rfl hk hw hq dX3_callPlace_31
    · replace hq := hq.2 h4
      refine lv_iconst (v := (5 : Int32)) S.1 S.2.1 dX3_callPlace_23 (by decide) ?_
      exact kr_i (cu := fun u => ce_l cA cf ad u z0) S hr rfl hk hw hq dX3_callPlace_24
  · replace hq := hq.2 h2
    refine lv_iconst (v := (2 : Int32)) S.1 S.2.1 dX3_callPlace_7 (by decide) ?_
    exact kr_i (cu := fun u => ce_l cA cf ad u z0) S hr rfl hk hw hq dX3_callPlace_8
theorem c_X3_callPlace (z0 k0 : ka_T) (n1 : Nat) (hn1 : n1 < cf 0) (x2 : Int32) {post : Int32 → ka_T → Prop} (hq : q_X3_callPlace cf post n1 x2 k0) : Met l yX3_callPlace wsX3_callPlace rmX3_callPlace (va_Pc [.ref (ad (0, 0)), .ref (ad (6, n1)), .int x2] (Wx_ D cA cf ad A k0 z0)) (va_Qi post (fun u t => Wx_ D cA cf ad A u z0 t) A) 0 0 A :=
  kp_met (by decide +kernel) [.ref (ad (0, 0)), .ref (ad (6, n1)), .int x2] (Nat.le_of_ble_eq_true rfl) (fun p e s m args below meth c ls S hr hk hw hl => b_X3_callPlace_0 S hr hk n1 hn1 x2 k0 _ _ _ hl hw hq)
theorem call_X3_callPlace {z0 k0 : ka_T} {n1 : Nat} {x2 : Int32} {post : Int32 → ka_T → Prop} (S : CallFix p m c cc nL s args lw_gd own) (hw : Wo_ D cA cf ad A k0 z0 s H locs) {index : Nat} (hl : Cond.methodLink own index yX3_callPlace ∈ lw_gd) (hn1 : n1 < cf 0) (hq : q_X3_callPlace cf post n1 x2 k0) (hR : rmX3_callPlace.frames + 1 ≤ R.frames ∧ 8 + (3 + 11) + rmX3_callPlace.locals ≤ R.locals) (hls : ls.size = nL) (hro : (rest.map fun v => v.category).sum ≤ 8) (hcs : cells ≤ R.cells ∧ slots ≤ R.slots) (hd : decode cc pc = .ok (.invokevirtual index, 3)) (kk : ∀ (r : Int32) (u : ka_T) (H1 : Heap) (locs1 : List Loc), post r u → Wo_ D cA cf ad A u z0 s H1 locs1 → W p l e R s m args below meth c H1 locs1 cells slots Q (F0 m (pc + 3) ls (.int r :: rest))) : W p l e R s m args below meth c H locs cells slots Q (F0 m pc ls (.int x2 :: .ref (ad (6, n1)) :: .ref (ad (0, 0)) :: rest)) :=
  kg_vi (cu := fun u => ce_l cA cf ad u z0) (As := [.ref (ad (6, n1)), .int x2]) S hw (q := (0, 0)) (c_X3_callPlace z0 k0 n1 hn1 x2 hq) wc_X3_callPlace wn_X3 hl wi_X3_callPlace (C := RX3) (T := TX3) (N := 9) (ci := 3) (fs := fx_0 cf ad k0 0) wse_X3_callPlace (km_0) rfl rfl (na := 2) (by decide +kernel) rfl rfl rfl hR hls rfl hro hcs hd kk
abbrev rmX3_clock : Room := { frames := 0, cells := 0, slots := 0, locals := 0 }
set_option maxRecDepth 100000 in
set_option maxHeartbeats 4000000 in
theorem b_X3_clock_0 {post : Int32 → ka_T → Prop} (S : CallFix p m c cX3_clock 1 s args lw_gd RX3) (hr : meth.sig.returnType = some .int) (hk : meth.locks = false) : ∀ (k0 : ka_T) (H : Heap) (locs : List Loc) (ls : Array Slot), lv_has ls 1 [(0, .ref (ad (0, 0)))] → Wo_ D cA cf ad A k0 z0 s H locs → q_X3_clock cf post k0 → W p l e rmX3_clock s m args below meth c H locs 0 0 (MQ below (va_Qi post (fun u t => Wx_ D cA cf ad A u z0 t) A) args s 0 0 A) (F0 m 0 ls []) := by
  intro k0 H locs ls hl hw hq
  refine lv_aload_n S.1 S.2.1 dX3_clock_0 rfl (lv_at hl 0 rfl) ?_
  refine gf_306 S hw wf_X3_23 dX3_clock_1 ?_
  exact kr_i (cu := fun u => ce_l cA cf ad u z0) S hr rfl hk hw hq dX3_clock_4
theorem c_X3_clock (z0 k0 : ka_T) {post : Int32 → ka_T → Prop} (hq : q_X3_clock cf post  k0) : Met l yX3_clock wsX3_clock rmX3_clock (va_Pc [.ref (ad (0, 0))] (Wx_ D cA cf ad A k0 z0)) (va_Qi post (fun u t => Wx_ D cA cf ad A u z0 t) A) 0 0 A :=
  kp_met (by decide +kernel) [.ref (ad (0, 0))] (Nat.le_of_ble_eq_true rfl) (fun p e s m args below meth c ls S hr hk hw hl => b_X3_clock_0 S hr hk  k0 _ _ _ hl hw hq)
theorem call_X3_clock {z0 k0 : ka_T} {post : Int32 → ka_T → Prop} (S : CallFix p m c cc nL s args lw_gd own) (hw : Wo_ D cA cf ad A k0 z0 s H locs) {index : Nat} (hl : Cond.methodLink own index yX3_clock ∈ lw_gd) (hq : q_X3_clock cf post  k0) (hR : rmX3_clock.frames + 1 ≤ R.frames ∧ 8 + (1 + 11) + rmX3_clock.locals ≤ R.locals) (hls : ls.size = nL) (hro : (rest.map fun v => v.category).sum ≤ 8) (hcs : cells ≤ R.cells ∧ slots ≤ R.slots) (hd : decode cc pc = .ok (.invokevirtual index, 3)) (kk : ∀ (r : Int32) (u : ka_T) (H1 : Heap) (locs1 : List Loc), post r u → Wo_ D cA cf ad A u z0 s H1 locs1 → W p l e R s m args below meth c H1 locs1 cells slots Q (F0 m (pc + 3) ls (.int r :: rest))) : W p l e R s m args below meth c H locs cells slots Q (F0 m pc ls (.ref (ad (0, 0)) :: rest)) :=
  kg_vi (cu := fun u => ce_l cA cf ad u z0) (As := []) S hw (q := (0, 0)) (c_X3_clock z0 k0  hq) wc_X3_clock wn_X3 hl wi_X3_clock (C := RX3) (T := TX3) (N := 9) (ci := 3) (fs := fx_0 cf ad k0 0) wse_X3_clock (km_0) rfl rfl (na := 0) (by decide +kernel) rfl rfl rfl hR hls rfl hro hcs hd kk
abbrev rmX3_compute : Room := { frames := 2, cells := 0, slots := 0, locals := 42 }
set_option maxRecDepth 100000 in
set_option maxHeartbeats 4000000 in
theorem b_X3_compute_0 {post : Int32 → ka_T → Prop} (S : CallFix p m c cX3_compute 5 s args lw_gd RX3) (hr : meth.sig.returnType = some .int) (hk : meth.locks = false) : ∀ (n1 : Nat) (hn1 : n1 < cf 0) (x2 : Int32) (k0 : ka_T) (H : Heap) (locs : List Loc) (ls : Array Slot), lv_has ls 5 [(0, .ref (ad (0, 0))), (1, .ref (ad (6, n1))), (2, .int x2)] → Wo_ D cA cf ad A k0 z0 s H locs → q_X3_compute cf post n1 x2 k0 → W p l e rmX3_compute s m args below meth c H locs 0 0 (MQ below (va_Qi post (fun u t => Wx_ D cA cf ad A u z0 t) A) args s 0 0 A) (F0 m 0 ls []) := by
  intro n1 hn1 x2 k0 H locs ls hl hw hq
  refine lv_aload_n S.1 S.2.1 dX3_compute_0 rfl (lv_at hl 1 rfl) ?_
  refine gf_201 S hw hn1 wf_X3_108 dX3_compute_1 ?_
  refine gf_101 S hw (vl_n hn1) wf_X3_112 dX3_compute_4 ?_
  refine lv_iconst (v := (2 : Int32)) S.1 S.2.1 dX3_compute_7 (by decide) ?_
  refine lv_icmp_ge (tgt := 13) S.1 S.2.1 dX3_compute_8 rfl (fun h1 => ?_) (fun h1 => ?_)
  · replace hq := hq.1 h1
    refine lv_aload_n S.1 S.2.1 dX3_compute_13 rfl (lv_at hl 1 rfl) ?_
    refine gf_201 S hw hn1 wf_X3_108 dX3_compute_14 ?_
    refine call_X1_pop S hw wl_X3_235 (vl_n hn1) hq ⟨Nat.le_of_ble_eq_true rfl, Nat.le_of_ble_eq_true rfl⟩ hl.1 (Nat.le_of_ble_eq_true rfl) ⟨Nat.zero_le _, Nat.zero_le _⟩ dX3_compute_17 (fun r2 k2 H locs hq hw => ?_)
    refine lv_istore_n (lv' := [(3, .int r2), (0, .ref (ad (0, 0))), (1, .ref (ad (6, n1))), (2, .int x2)]) S.1 S.2.1 dX3_compute_20 rfl hl (by decide) rfl (fun ls hl => ?_)
    refine lv_aload_n S.1 S.2.1 dX3_compute_21 rfl (lv_at hl 2 rfl) ?_
    refine gf_201 S hw hn1 wf_X3_108 dX3_compute_22 ?_
    refine call_X1_pop S hw wl_X3_235 (vl_n hn1) hq ⟨Nat.le_of_ble_eq_true rfl, Nat.le_of_ble_eq_true rfl⟩ hl.1 (Nat.le_of_ble_eq_true rfl) ⟨Nat.zero_le _, Nat.zero_le _⟩ dX3_compute_25 (fun r3 k3 H locs hq hw => ?_)
    refine lv_istore (lv' := [(4, .int r3), (3, .int r2), (0, .ref (ad (0, 0))), (1, .ref (ad (6, n1))), (2, .int x2)]) S.1 S.2.1 dX3_compute_28 hl (by decide) rfl (fun ls hl => ?_)
    refine lv_iload_n S.1 S.2.1 dX3_compute_30 rfl (lv_at hl 4 rfl) ?_
    by_cases h4_0 : x2 = (2 : Int32)
    · replace hq := hq.1 h4_0
      refine lv_tableIn (off := 29) (tgt := 60) S.1 S.2.1 dX3_compute_31 (by rw [h4_0]; decide) (by rw [h4_0]; decide) (by rw [h4_0]; rfl) rfl ?_
      refine lv_aload_n S.1 S.2.1 dX3_compute_60 rfl (lv_at hl 3 rfl) ?_
      refine lv_iload S.1 S.2.1 dX3_compute_61 (lv_at hl 0 rfl) ?_
      refine lv_iload_n S.1 S.2.1 dX3_compute_63 rfl (lv_at hl 1 rfl) ?_
      refine lv_iadd S.1 S.2.1 dX3_compute_64 ?_
      refine call_X2_put S hw wl_X3_180 hn1 hq ⟨Nat.le_of_ble_eq_true rfl, Nat.le_of_ble_eq_true rfl⟩ hl.1 (Nat.le_of_ble_eq_true rfl) ⟨Nat.zero_le _, Nat.zero_le _⟩ dX3_compute_65 (fun r5 k5 H locs hq hw => ?_)
      exact kr_i (cu := fun u => ce_l cA cf ad u z0) S hr rfl hk hw hq dX3_compute_68
    · by_cases h4_1 : x2 = (3 : Int32)
      · replace hq := hq.2.1 h4_1
        refine lv_tableIn (off := 38) (tgt := 69) S.1 S.2.1 dX3_compute_31 (by rw [h4_1]; decide) (by rw [h4_1]; decide) (by rw [h4_1]; rfl) rfl ?_
        refine lv_aload_n S.1 S.2.1 dX3_compute_69 rfl (lv_at hl 3 rfl) ?_
        refine lv_iload S.1 S.2.1 dX3_compute_70 (lv_at hl 0 rfl) ?_
        refine lv_iload_n S.1 S.2.1 dX3_compute_72 rfl (lv_at hl 1 rfl) ?_
        refine lv_isub S.1 S.2.1 dX3_compute_73 ?_
        refine call_X2_put S hw wl_X3_180 hn1 hq ⟨Nat.le_of_ble_eq_true rfl, Nat.le_of_ble_eq_true rfl⟩ hl.1 (Nat.le_of_ble_eq_true rfl) ⟨Nat.zero_le _, Nat.zero_le _⟩ dX3_compute_74 (fun r6 k6 H locs hq hw => ?_)
        exact kr_i (cu := fun u => ce_l cA cf ad u z0) S hr rfl hk hw hq dX3_compute_77
      · by_cases h4_2 : x2 = (4 : Int32)
        · replace hq := hq.2.2.1 h4_2
          refine lv_tableIn (off := 47) (tgt := 78) S.1 S.2.1 dX3_compute_31 (by rw [h4_2]; decide) (by rw [h4_2]; decide) (by rw [h4_2]; rfl) rfl ?_
          refine lv_aload_n S.1 S.2.1 dX3_compute_78 rfl (lv_at hl 3 rfl) ?_
          refine lv_iload S.1 S.2.1 dX3_compute_79 (lv_at hl 0 rfl) ?_
          refine lv_iload_n S.1 S.2.1 dX3_compute_81 rfl (lv_at hl 1 rfl) ?_
          refine lv_imul S.1 S.2.1 dX3_compute_82 ?_
          refine call_X2_put S hw wl_X3_180 hn1 hq ⟨Nat.le_of_ble_eq_true rfl, Nat.le_of_ble_eq_true rfl⟩ hl.1 (Nat.le_of_ble_eq_true rfl) ⟨Nat.zero_le _, Nat.zero_le _⟩ dX3_compute_83 (fun r7 k7 H locs hq hw => ?_)
          exact kr_i (cu := fun u => ce_l cA cf ad u z0) S hr rfl hk hw hq dX3_compute_86
        · by_cases h4_3 : x2 = (5 : Int32)
          · replace hq := hq.2.2.2.1 h4_3
            refine lv_tableIn (off := 56) (tgt := 87) S.1 S.2.1 dX3_compute_31 (by rw [h4_3]; decide) (by rw [h4_3]; decide) (by rw [h4_3]; rfl) rfl ?_
            refine lv_iload_n S.1 S.2.1 dX3_compute_87 rfl (lv_at hl 1 rfl) ?_
            refine lv_if_ne (tgt := 95) S.1 S.2.1 dX3_compute_88 rfl (fun h8 => ?_) (fun h8 => ?_)
            · replace hq := hq.1 h8
              refine lv_aload_n S.1 S.2.1 dX3_compute_95 rfl (lv_at hl 3 rfl) ?_
              refine lv_iload S.1 S.2.1 dX3_compute_96 (lv_at hl 0 rfl) ?_
              refine lv_iload_n S.1 S.2.1 dX3_compute_98 rfl (lv_at hl 1 rfl) ?_
              obtain ⟨hi, hq⟩ := hq
              refine lv_idiv S.1 S.2.1 dX3_compute_99 hi ?_
              refine call_X2_put S hw wl_X3_180 hn1 hq ⟨Nat.le_of_ble_eq_true rfl, Nat.le_of_ble_eq_true rfl⟩ hl.1 (Nat.le_of_ble_eq_true rfl) ⟨Nat.zero_le _, Nat.zero_le _⟩ dX3_compute_100 (fun r9 k9 H locs hq hw => ?_)
              exact kr_i (cu := fun u => ce_l cA cf ad u z0) S hr rfl hk hw hq dX3_compute_103
            · replace hq := hq.2 h8
              refine lv_iconst (v := (3 : Int32)) S.1 S.2.1 dX3_compute_91 (by decide) ?_
              refine lv_goto (tgt := 103) S.1 S.2.1 dX3_compute_92 rfl ?_
              exact kr_i (cu := fun u => ce_l cA cf ad u z0) S hr rfl hk hw hq dX3_compute_103
          · replace hq := hq.2.2.2.2 h4_0 h4_1 h4_2 h4_3
            refine kg_tab (tgt := 104) S dX3_compute_31 (by
                have a0 := i32_ne (n := 2) (by decide) h4_0
                have a1 := i32_ne (n := 3) (by decide) h4_1
                have a2 := i32_ne (n := 4) (by decide) h4_2
                have a3 := i32_ne (n := 5) (by decide) h4_3
                left; omega
              ) rfl ?_
            refine lv_aload_n S.1 S.2.1 dX3_compute_104 rfl (lv_at hl 3 rfl) ?_
            refine lv_iload S.1 S.2.1 dX3_compute_105 (lv_at hl 0 rfl) ?_
            refine lv_iload_n S.1 S.2.1 dX3_compute_107 rfl (lv_at hl 1 rfl) ?_
            refine lv_icmp_ge (tgt := 115) S.1 S.2.1 dX3_compute_108 rfl (fun h10 => ?_) (fun h10 => ?_)
            · replace hq := hq.1 h10
              refine lv_iconst (v := (0 : Int32)) S.1 S.2.1 dX3_compute_115 (by decide) ?_
              refine call_X2_put S hw wl_X3_180 hn1 hq ⟨Nat.le_of_ble_eq_true rfl, Nat.le_of_ble_eq_true rfl⟩ hl.1 (Nat.le_of_ble_eq_true rfl) ⟨Nat.zero_le _, Nat.zero_le _⟩ dX3_compute_116 (fun r11 k11 H locs hq hw => ?_)
              exact kr_i (cu := fun u => ce_l cA cf ad u z0) S hr rfl hk hw hq dX3_compute_119
            · replace hq := hq.2 h10
              refine lv_iconst (v := (1 : Int32)) S.1 S.2.1 dX3_compute_111 (by decide) ?_
              refine lv_goto (tgt := 116) S.1 S.2.1 dX3_compute_112 rfl ?_
              refine call_X2_put S hw wl_X3_180 hn1 hq ⟨Nat.le_of_ble_eq_true rfl, Nat.le_of_ble_eq_true rfl⟩ hl.1 (Nat.le_of_ble_eq_true rfl) ⟨Nat.zero_le _, Nat.zero_le _⟩ dX3_compute_116 (fun r12 k12 H locs hq hw => ?_)
              exact kr_i (cu := fun u => ce_l cA cf ad u z0) S hr rfl hk hw hq dX3_compute_119
  · replace hq := hq.2 h1
    refine lv_iconst (v := (1 : Int32)) S.1 S.2.1 dX3_compute_11 (by decide) ?_
    exact kr_i (cu := fun u => ce_l cA cf ad u z0) S hr rfl hk hw hq dX3_compute_12
theorem c_X3_compute (z0 k0 : ka_T) (n1 : Nat) (hn1 : n1 < cf 0) (x2 : Int32) {post : Int32 → ka_T → Prop} (hq : q_X3_compute cf post n1 x2 k0) : Met l yX3_compute wsX3_compute rmX3_compute (va_Pc [.ref (ad (0, 0)), .ref (ad (6, n1)), .int x2] (Wx_ D cA cf ad A k0 z0)) (va_Qi post (fun u t => Wx_ D cA cf ad A u z0 t) A) 0 0 A :=
  kp_met (by decide +kernel) [.ref (ad (0, 0)), .ref (ad (6, n1)), .int x2] (Nat.le_of_ble_eq_true rfl) (fun p e s m args below meth c ls S hr hk hw hl => b_X3_compute_0 S hr hk n1 hn1 x2 k0 _ _ _ hl hw hq)
theorem call_X3_compute {z0 k0 : ka_T} {n1 : Nat} {x2 : Int32} {post : Int32 → ka_T → Prop} (S : CallFix p m c cc nL s args lw_gd own) (hw : Wo_ D cA cf ad A k0 z0 s H locs) {index : Nat} (hl : Cond.methodLink own index yX3_compute ∈ lw_gd) (hn1 : n1 < cf 0) (hq : q_X3_compute cf post n1 x2 k0) (hR : rmX3_compute.frames + 1 ≤ R.frames ∧ 8 + (5 + 11) + rmX3_compute.locals ≤ R.locals) (hls : ls.size = nL) (hro : (rest.map fun v => v.category).sum ≤ 8) (hcs : cells ≤ R.cells ∧ slots ≤ R.slots) (hd : decode cc pc = .ok (.invokevirtual index, 3)) (kk : ∀ (r : Int32) (u : ka_T) (H1 : Heap) (locs1 : List Loc), post r u → Wo_ D cA cf ad A u z0 s H1 locs1 → W p l e R s m args below meth c H1 locs1 cells slots Q (F0 m (pc + 3) ls (.int r :: rest))) : W p l e R s m args below meth c H locs cells slots Q (F0 m pc ls (.int x2 :: .ref (ad (6, n1)) :: .ref (ad (0, 0)) :: rest)) :=
  kg_vi (cu := fun u => ce_l cA cf ad u z0) (As := [.ref (ad (6, n1)), .int x2]) S hw (q := (0, 0)) (c_X3_compute z0 k0 n1 hn1 x2 hq) wc_X3_compute wn_X3 hl wi_X3_compute (C := RX3) (T := TX3) (N := 9) (ci := 3) (fs := fx_0 cf ad k0 0) wse_X3_compute (km_0) rfl rfl (na := 2) (by decide +kernel) rfl rfl rfl hR hls rfl hro hcs hd kk
abbrev rmX3_copyTop : Room := { frames := 2, cells := 0, slots := 0, locals := 42 }
set_option maxRecDepth 100000 in
set_option maxHeartbeats 4000000 in
theorem b_X3_copyTop_0 {post : Int32 → ka_T → Prop} (S : CallFix p m c cX3_copyTop 2 s args lw_gd RX3) (hr : meth.sig.returnType = some .int) (hk : meth.locks = false) : ∀ (n1 : Nat) (hn1 : n1 < cf 0) (k0 : ka_T) (H : Heap) (locs : List Loc) (ls : Array Slot), lv_has ls 2 [(0, .ref (ad (0, 0))), (1, .ref (ad (6, n1)))] → Wo_ D cA cf ad A k0 z0 s H locs → q_X3_copyTop cf post n1 k0 → W p l e rmX3_copyTop s m args below meth c H locs 0 0 (MQ below (va_Qi post (fun u t => Wx_ D cA cf ad A u z0 t) A) args s 0 0 A) (F0 m 0 ls []) := by
  intro n1 hn1 k0 H locs ls hl hw hq
  refine lv_aload_n S.1 S.2.1 dX3_copyTop_0 rfl (lv_at hl 1 rfl) ?_
  refine gf_201 S hw hn1 wf_X3_108 dX3_copyTop_1 ?_
  refine gf_101 S hw (vl_n hn1) wf_X3_112 dX3_copyTop_4 ?_
  refine lv_iconst (v := (1 : Int32)) S.1 S.2.1 dX3_copyTop_7 (by decide) ?_
  refine lv_icmp_ge (tgt := 15) S.1 S.2.1 dX3_copyTop_8 rfl (fun h1 => ?_) (fun h1 => ?_)
  · replace hq := hq.1 h1
    refine lv_aload_n S.1 S.2.1 dX3_copyTop_15 rfl (lv_at hl 1 rfl) ?_
    refine lv_aload_n S.1 S.2.1 dX3_copyTop_16 rfl (lv_at hl 1 rfl) ?_
    refine gf_201 S hw hn1 wf_X3_108 dX3_copyTop_17 ?_
    refine lv_iconst (v := (0 : Int32)) S.1 S.2.1 dX3_copyTop_20 (by decide) ?_
    refine call_X1_fromTop S hw wl_X3_126 (vl_n hn1) hq ⟨Nat.le_of_ble_eq_true rfl, Nat.le_of_ble_eq_true rfl⟩ hl.1 (Nat.le_of_ble_eq_true rfl) ⟨Nat.zero_le _, Nat.zero_le _⟩ dX3_copyTop_21 (fun r2 k2 H locs hq hw => ?_)
    refine call_X2_put S hw wl_X3_180 hn1 hq ⟨Nat.le_of_ble_eq_true rfl, Nat.le_of_ble_eq_true rfl⟩ hl.1 (Nat.le_of_ble_eq_true rfl) ⟨Nat.zero_le _, Nat.zero_le _⟩ dX3_copyTop_24 (fun r3 k3 H locs hq hw => ?_)
    exact kr_i (cu := fun u => ce_l cA cf ad u z0) S hr rfl hk hw hq dX3_copyTop_27
  · replace hq := hq.2 h1
    refine lv_iconst (v := (1 : Int32)) S.1 S.2.1 dX3_copyTop_11 (by decide) ?_
    refine lv_goto (tgt := 27) S.1 S.2.1 dX3_copyTop_12 rfl ?_
    exact kr_i (cu := fun u => ce_l cA cf ad u z0) S hr rfl hk hw hq dX3_copyTop_27
theorem c_X3_copyTop (z0 k0 : ka_T) (n1 : Nat) (hn1 : n1 < cf 0) {post : Int32 → ka_T → Prop} (hq : q_X3_copyTop cf post n1 k0) : Met l yX3_copyTop wsX3_copyTop rmX3_copyTop (va_Pc [.ref (ad (0, 0)), .ref (ad (6, n1))] (Wx_ D cA cf ad A k0 z0)) (va_Qi post (fun u t => Wx_ D cA cf ad A u z0 t) A) 0 0 A :=
  kp_met (by decide +kernel) [.ref (ad (0, 0)), .ref (ad (6, n1))] (Nat.le_of_ble_eq_true rfl) (fun p e s m args below meth c ls S hr hk hw hl => b_X3_copyTop_0 S hr hk n1 hn1 k0 _ _ _ hl hw hq)
theorem call_X3_copyTop {z0 k0 : ka_T} {n1 : Nat} {post : Int32 → ka_T → Prop} (S : CallFix p m c cc nL s args lw_gd own) (hw : Wo_ D cA cf ad A k0 z0 s H locs) {index : Nat} (hl : Cond.methodLink own index yX3_copyTop ∈ lw_gd) (hn1 : n1 < cf 0) (hq : q_X3_copyTop cf post n1 k0) (hR : rmX3_copyTop.frames + 1 ≤ R.frames ∧ 8 + (2 + 11) + rmX3_copyTop.locals ≤ R.locals) (hls : ls.size = nL) (hro : (rest.map fun v => v.category).sum ≤ 8) (hcs : cells ≤ R.cells ∧ slots ≤ R.slots) (hd : decode cc pc = .ok (.invokevirtual index, 3)) (kk : ∀ (r : Int32) (u : ka_T) (H1 : Heap) (locs1 : List Loc), post r u → Wo_ D cA cf ad A u z0 s H1 locs1 → W p l e R s m args below meth c H1 locs1 cells slots Q (F0 m (pc + 3) ls (.int r :: rest))) : W p l e R s m args below meth c H locs cells slots Q (F0 m pc ls (.ref (ad (6, n1)) :: .ref (ad (0, 0)) :: rest)) :=
  kg_vi (cu := fun u => ce_l cA cf ad u z0) (As := [.ref (ad (6, n1))]) S hw (q := (0, 0)) (c_X3_copyTop z0 k0 n1 hn1 hq) wc_X3_copyTop wn_X3 hl wi_X3_copyTop (C := RX3) (T := TX3) (N := 9) (ci := 3) (fs := fx_0 cf ad k0 0) wse_X3_copyTop (km_0) rfl rfl (na := 1) (by decide +kernel) rfl rfl rfl hR hls rfl hro hcs hd kk
abbrev rmX3_countBefore : Room := { frames := 1, cells := 0, slots := 0, locals := 22 }
set_option maxRecDepth 100000 in
set_option maxHeartbeats 4000000 in
theorem b_X3_countBefore_4 {post : Int32 → ka_T → Prop} (S : CallFix p m c cX3_countBefore 4 s args lw_gd RX3) (hr : meth.sig.returnType = some .int) (hk : meth.locks = false) : ∀ nf : Nat, ∀ (n1 : Nat) (hn1 : n1 < cf 0) (x2 : Int32) (x3 : Int32) (k0 : ka_T) (H : Heap) (locs : List Loc) (ls : Array Slot), lv_has ls 4 [(0, .ref (ad (0, 0))), (1, .ref (ad (6, n1))), (2, .int x2), (3, .int x3)] → Wo_ D cA cf ad A k0 z0 s H locs → q_X3_countBefore_4 cf post nf n1 x2 x3 k0 → W p l e rmX3_countBefore s m args below meth c H locs 0 0 (MQ below (va_Qi post (fun u t => Wx_ D cA cf ad A u z0 t) A) args s 0 0 A) (F0 m 4 ls []) := by
  intro nf
  induction nf with
  | zero =>
    intro n1 hn1 x2 x3 k0 H locs ls hl hw hq
    exact False.elim hq
  | succ nf ih =>
    intro n1 hn1 x2 x3 k0 H locs ls hl hw hq
    refine lv_iload_n S.1 S.2.1 dX3_countBefore_4 rfl (lv_at hl 3 rfl) ?_
    refine lv_aload_n S.1 S.2.1 dX3_countBefore_5 rfl (lv_at hl 0 rfl) ?_
    refine gf_300 S hw wf_X3_39 dX3_countBefore_6 ?_
    refine an_1 S hw dX3_countBefore_9 ?_
    refine lv_icmp_ge (tgt := 58) S.1 S.2.1 dX3_countBefore_10 rfl (fun h1 => ?_) (fun h1 => ?_)
    · replace hq := hq.1 h1
      refine lv_iload_n S.1 S.2.1 dX3_countBefore_58 rfl (lv_at hl 2 rfl) ?_
      exact kr_i (cu := fun u => ce_l cA cf ad u z0) S hr rfl hk hw hq dX3_countBefore_59
    · replace hq := hq.2 h1
      refine lv_aload_n S.1 S.2.1 dX3_countBefore_13 rfl (lv_at hl 0 rfl) ?_
      refine gf_300 S hw wf_X3_39 dX3_countBefore_14 ?_
      refine lv_iload_n S.1 S.2.1 dX3_countBefore_17 rfl (lv_at hl 3 rfl) ?_
      obtain ⟨hi, hq⟩ := hq
      refine ar_1 S hw hi dX3_countBefore_18 (fun t2 e2 ht2 => ?_)
      replace hq := hq _ e2 ht2
      refine lv_aload_n S.1 S.2.1 dX3_countBefore_19 rfl (lv_at hl 1 rfl) ?_
      refine gf_203 S hw hn1 wf_X3_71 dX3_countBefore_20 ?_
      refine lv_aload_n S.1 S.2.1 dX3_countBefore_23 rfl (lv_at hl 1 rfl) ?_
      refine gf_208 S hw hn1 wf_X3_123 dX3_countBefore_24 ?_
      refine call_X2_isWaiting S hw wl_X3_140 ht2 hq ⟨Nat.le_of_ble_eq_true rfl, Nat.le_of_ble_eq_true rfl⟩ hl.1 (Nat.le_of_ble_eq_true rfl) ⟨Nat.zero_le _, Nat.zero_le _⟩ dX3_countBefore_27 (fun r3 k3 H locs hq hw => ?_)
      refine lv_if_eq (tgt := 52) S.1 S.2.1 dX3_countBefore_30 rfl (fun h4 => ?_) (fun h4 => ?_)
      · replace hq := hq.1 h4
        refine lv_iinc (k := 3) (v := (x3 + 1)) (lv' := [(3, .int (x3 + 1)), (0, .ref (ad (0, 0))), (1, .ref (ad (6, n1))), (2, .int x2)]) S.1 S.2.1 dX3_countBefore_52 hl rfl (ii_1 _) (by decide) rfl (fun ls hl => ?_)
        refine lv_goto (tgt := 4) S.1 S.2.1 dX3_countBefore_55 rfl ?_
        exact ih n1 hn1 x2 (x3 + 1) k3 _ _ _ (lv_sub hl [1, 2, 3, 0] rfl) hw hq
      · replace hq := hq.2 h4
        refine lv_aload_n S.1 S.2.1 dX3_countBefore_33 rfl (lv_at hl 0 rfl) ?_
        refine gf_300 S hw wf_X3_39 dX3_countBefore_34 ?_
        refine lv_iload_n S.1 S.2.1 dX3_countBefore_37 rfl (lv_at hl 3 rfl) ?_
        obtain ⟨hi, hq⟩ := hq
        refine ar_1 S hw hi dX3_countBefore_38 (fun t5 e5 ht5 => ?_)
        replace hq := hq _ e5 ht5
        refine gf_206 S hw ht5 wf_X3_164 dX3_countBefore_39 ?_
        refine lv_aload_n S.1 S.2.1 dX3_countBefore_42 rfl (lv_at hl 1 rfl) ?_
        refine gf_206 S hw hn1 wf_X3_164 dX3_countBefore_43 ?_
        refine lv_icmp_ge (tgt := 52) S.1 S.2.1 dX3_countBefore_46 rfl (fun h6 => ?_) (fun h6 => ?_)
        · replace hq := hq.1 h6
          refine lv_iinc (k := 3) (v := (x3 + 1)) (lv' := [(3, .int (x3 + 1)), (0, .ref (ad (0, 0))), (1, .ref (ad (6, n1))), (2, .int x2)]) S.1 S.2.1 dX3_countBefore_52 hl rfl (ii_1 _) (by decide) rfl (fun ls hl => ?_)
          refine lv_goto (tgt := 4) S.1 S.2.1 dX3_countBefore_55 rfl ?_
          exact ih n1 hn1 x2 (x3 + 1) k3 _ _ _ (lv_sub hl [1, 2, 3, 0] rfl) hw hq
        · replace hq := hq.2 h6
          refine lv_iinc (k := 2) (v := (x2 + 1)) (lv' := [(2, .int (x2 + 1)), (0, .ref (ad (0, 0))), (1, .ref (ad (6, n1))), (3, .int x3)]) S.1 S.2.1 dX3_countBefore_49 hl rfl (ii_1 _) (by decide) rfl (fun ls hl => ?_)
          refine lv_iinc (k := 3) (v := (x3 + 1)) (lv' := [(3, .int (x3 + 1)), (2, .int (x2 + 1)), (0, .ref (ad (0, 0))), (1, .ref (ad (6, n1)))]) S.1 S.2.1 dX3_countBefore_52 hl rfl (ii_1 _) (by decide) rfl (fun ls hl => ?_)
          refine lv_goto (tgt := 4) S.1 S.2.1 dX3_countBefore_55 rfl ?_
          exact ih n1 hn1 (x2 + 1) (x3 + 1) k3 _ _ _ (lv_sub hl [2, 3, 1, 0] rfl) hw hq
set_option maxRecDepth 100000 in
set_option maxHeartbeats 4000000 in
theorem b_X3_countBefore_0 {post : Int32 → ka_T → Prop} (S : CallFix p m c cX3_countBefore 4 s args lw_gd RX3) (hr : meth.sig.returnType = some .int) (hk : meth.locks = false) : ∀ (n1 : Nat) (hn1 : n1 < cf 0) (k0 : ka_T) (H : Heap) (locs : List Loc) (ls : Array Slot), lv_has ls 4 [(0, .ref (ad (0, 0))), (1, .ref (ad (6, n1)))] → Wo_ D cA cf ad A k0 z0 s H locs → q_X3_countBefore cf post n1 k0 → W p l e rmX3_countBefore s m args below meth c H locs 0 0 (MQ below (va_Qi post (fun u t => Wx_ D cA cf ad A u z0 t) A) args s 0 0 A) (F0 m 0 ls []) := by
  intro n1 hn1 k0 H locs ls hl hw hq
  refine lv_iconst (v := (0 : Int32)) S.1 S.2.1 dX3_countBefore_0 (by decide) ?_
  refine lv_istore_n (lv' := [(2, .int (0 : Int32)), (0, .ref (ad (0, 0))), (1, .ref (ad (6, n1)))]) S.1 S.2.1 dX3_countBefore_1 rfl hl (by decide) rfl (fun ls hl => ?_)
  refine lv_iconst (v := (0 : Int32)) S.1 S.2.1 dX3_countBefore_2 (by decide) ?_
  refine lv_istore_n (lv' := [(3, .int (0 : Int32)), (2, .int (0 : Int32)), (0, .ref (ad (0, 0))), (1, .ref (ad (6, n1)))]) S.1 S.2.1 dX3_countBefore_3 rfl hl (by decide) rfl (fun ls hl => ?_)
  obtain ⟨nf9, hq⟩ := hq
  exact b_X3_countBefore_4 S hr hk nf9 n1 hn1 (0 : Int32) (0 : Int32) k0 _ _ _ (lv_sub hl [2, 3, 1, 0] rfl) hw hq
theorem c_X3_countBefore (z0 k0 : ka_T) (n1 : Nat) (hn1 : n1 < cf 0) {post : Int32 → ka_T → Prop} (hq : q_X3_countBefore cf post n1 k0) : Met l yX3_countBefore wsX3_countBefore rmX3_countBefore (va_Pc [.ref (ad (0, 0)), .ref (ad (6, n1))] (Wx_ D cA cf ad A k0 z0)) (va_Qi post (fun u t => Wx_ D cA cf ad A u z0 t) A) 0 0 A :=
  kp_met (by decide +kernel) [.ref (ad (0, 0)), .ref (ad (6, n1))] (Nat.le_of_ble_eq_true rfl) (fun p e s m args below meth c ls S hr hk hw hl => b_X3_countBefore_0 S hr hk n1 hn1 k0 _ _ _ hl hw hq)
theorem call_X3_countBefore {z0 k0 : ka_T} {n1 : Nat} {post : Int32 → ka_T → Prop} (S : CallFix p m c cc nL s args lw_gd own) (hw : Wo_ D cA cf ad A k0 z0 s H locs) {index : Nat} (hl : Cond.methodLink own index yX3_countBefore ∈ lw_gd) (hn1 : n1 < cf 0) (hq : q_X3_countBefore cf post n1 k0) (hR : rmX3_countBefore.frames + 1 ≤ R.frames ∧ 8 + (4 + 11) + rmX3_countBefore.locals ≤ R.locals) (hls : ls.size = nL) (hro : (rest.map fun v => v.category).sum ≤ 8) (hcs : cells ≤ R.cells ∧ slots ≤ R.slots) (hd : decode cc pc = .ok (.invokevirtual index, 3)) (kk : ∀ (r : Int32) (u : ka_T) (H1 : Heap) (locs1 : List Loc), post r u → Wo_ D cA cf ad A u z0 s H1 locs1 → W p l e R s m args below meth c H1 locs1 cells slots Q (F0 m (pc + 3) ls (.int r :: rest))) : W p l e R s m args below meth c H locs cells slots Q (F0 m pc ls (.ref (ad (6, n1)) :: .ref (ad (0, 0)) :: rest)) :=
  kg_vi (cu := fun u => ce_l cA cf ad u z0) (As := [.ref (ad (6, n1))]) S hw (q := (0, 0)) (c_X3_countBefore z0 k0 n1 hn1 hq) wc_X3_countBefore wn_X3 hl wi_X3_countBefore (C := RX3) (T := TX3) (N := 9) (ci := 3) (fs := fx_0 cf ad k0 0) wse_X3_countBefore (km_0) rfl rfl (na := 1) (by decide +kernel) rfl rfl rfl hR hls rfl hro hcs hd kk
end KW
