/-! printed by wip/whole/gen.py: the walks, contracts and calls of the methods -/
section KW
variable {p : Program} {l : Launch} {e : Env} {R : Room} {s : State} {m : MethodId} {args : Array Value} {below : List Frame} {meth : Method} {c : Code} {H : Heap} {locs : List Loc} {cells slots : Nat} {Q : State → Prop}
variable {cc : ByteArray} {nL pc : Nat} {ls : Array Slot} {rest : List Value} {own : String} {D : va_G} {A : Nat → Prop} {cA : Nat → ClassId} {cf : Nat → Nat} {ad : Nat × Nat → Nat} {z0 : ka_T}
abbrev rmX3_out : Room := { frames := 1, cells := 0, slots := 0, locals := 20 }
set_option maxRecDepth 100000 in
set_option maxHeartbeats 4000000 in
theorem b_X3_out_0 {post : Int32 → ka_T → Prop} (S : CallFix p m c cX3_out 2 s args lw_gd RX3) (hr : meth.sig.returnType = some .int) (hk : meth.locks = false) : ∀ (x1 : Int32) (k0 : ka_T) (H : Heap) (locs : List Loc) (ls : Array Slot), lv_has ls 2 [(0, .ref (ad (0, 0))), (1, .int x1)] → Wo_ D cA cf ad A k0 z0 s H locs → q_X3_out cf post x1 k0 → W p l e rmX3_out s m args below meth c H locs 0 0 (MQ below (va_Qi post (fun u t => Wx_ D cA cf ad A u z0 t) A) args s 0 0 A) (F0 m 0 ls []) := by
  intro x1 k0 H locs ls hl hw hq
  refine lv_iload_n S.1 S.2.1 dX3_out_0 rfl (lv_at hl 1 rfl) ?_
  refine lv_if_lt (tgt := 18) S.1 S.2.1 dX3_out_1 rfl (fun h1 => ?_) (fun h1 => ?_)
  · replace hq := hq.1 h1
    refine lv_ldc S.1 S.2.1 S.2.2.2.1 (S.2.2.2.2 _ wv_X3_101) dX3_out_18 ?_
    exact kr_i (cu := fun u => ce_l cA cf ad u z0) S hr rfl hk hw hq dX3_out_20
  · replace hq := hq.2 h1
    refine lv_iload_n S.1 S.2.1 dX3_out_4 rfl (lv_at hl 1 rfl) ?_
    refine lv_bipush (v := (32 : Int32)) S.1 S.2.1 dX3_out_5 (by decide) ?_
    refine lv_icmp_ge (tgt := 18) S.1 S.2.1 dX3_out_7 rfl (fun h2 => ?_) (fun h2 => ?_)
    · replace hq := hq.1 h2
      refine lv_ldc S.1 S.2.1 S.2.2.2.1 (S.2.2.2.2 _ wv_X3_101) dX3_out_18 ?_
      exact kr_i (cu := fun u => ce_l cA cf ad u z0) S hr rfl hk hw hq dX3_out_20
    · replace hq := hq.2 h2
      refine lv_iload_n S.1 S.2.1 dX3_out_10 rfl (lv_at hl 1 rfl) ?_
      refine lv_aload_n S.1 S.2.1 dX3_out_11 rfl (lv_at hl 0 rfl) ?_
      refine gf_305 S hw wf_X3_19 dX3_out_12 ?_
      refine lv_icmp_lt (tgt := 21) S.1 S.2.1 dX3_out_15 rfl (fun h3 => ?_) (fun h3 => ?_)
      · replace hq := hq.1 h3
        refine lv_aload_n S.1 S.2.1 dX3_out_21 rfl (lv_at hl 0 rfl) ?_
        refine gf_304 S hw wf_X3_16 dX3_out_22 ?_
        refine lv_aload_n S.1 S.2.1 dX3_out_25 rfl (lv_at hl 0 rfl) ?_
        refine gf_305 S hw wf_X3_19 dX3_out_26 ?_
        refine lv_iconst (v := (1 : Int32)) S.1 S.2.1 dX3_out_29 (by decide) ?_
        refine lv_isub S.1 S.2.1 dX3_out_30 ?_
        refine lv_iload_n S.1 S.2.1 dX3_out_31 rfl (lv_at hl 1 rfl) ?_
        refine lv_isub S.1 S.2.1 dX3_out_32 ?_
        refine call_X3_outSlot S hw wl_X3_150 hq ⟨Nat.le_of_ble_eq_true rfl, Nat.le_of_ble_eq_true rfl⟩ hl.1 (Nat.le_of_ble_eq_true rfl) ⟨Nat.zero_le _, Nat.zero_le _⟩ dX3_out_33 (fun r4 k4 H locs hq hw => ?_)
        obtain ⟨hi, hq⟩ := hq
        refine al_5 S hw hi dX3_out_36 ?_
        exact kr_i (cu := fun u => ce_l cA cf ad u z0) S hr rfl hk hw hq dX3_out_37
      · replace hq := hq.2 h3
        refine lv_ldc S.1 S.2.1 S.2.2.2.1 (S.2.2.2.2 _ wv_X3_101) dX3_out_18 ?_
        exact kr_i (cu := fun u => ce_l cA cf ad u z0) S hr rfl hk hw hq dX3_out_20
theorem c_X3_out (z0 k0 : ka_T) (x1 : Int32) {post : Int32 → ka_T → Prop} (hq : q_X3_out cf post x1 k0) : Met l yX3_out wsX3_out rmX3_out (va_Pc [.ref (ad (0, 0)), .int x1] (Wx_ D cA cf ad A k0 z0)) (va_Qi post (fun u t => Wx_ D cA cf ad A u z0 t) A) 0 0 A :=
  kp_met (by decide +kernel) [.ref (ad (0, 0)), .int x1] (Nat.le_of_ble_eq_true rfl) (fun p e s m args below meth c ls S hr hk hw hl => b_X3_out_0 S hr hk x1 k0 _ _ _ hl hw hq)
theorem call_X3_out {z0 k0 : ka_T} {x1 : Int32} {post : Int32 → ka_T → Prop} (S : CallFix p m c cc nL s args lw_gd own) (hw : Wo_ D cA cf ad A k0 z0 s H locs) {index : Nat} (hl : Cond.methodLink own index yX3_out ∈ lw_gd) (hq : q_X3_out cf post x1 k0) (hR : rmX3_out.frames + 1 ≤ R.frames ∧ 8 + (2 + 11) + rmX3_out.locals ≤ R.locals) (hls : ls.size = nL) (hro : (rest.map fun v => v.category).sum ≤ 8) (hcs : cells ≤ R.cells ∧ slots ≤ R.slots) (hd : decode cc pc = .ok (.invokevirtual index, 3)) (kk : ∀ (r : Int32) (u : ka_T) (H1 : Heap) (locs1 : List Loc), post r u → Wo_ D cA cf ad A u z0 s H1 locs1 → W p l e R s m args below meth c H1 locs1 cells slots Q (F0 m (pc + 3) ls (.int r :: rest))) : W p l e R s m args below meth c H locs cells slots Q (F0 m pc ls (.int x1 :: .ref (ad (0, 0)) :: rest)) :=
  kg_vi (cu := fun u => ce_l cA cf ad u z0) (As := [.int x1]) S hw (q := (0, 0)) (c_X3_out z0 k0 x1 hq) wc_X3_out wn_X3 hl wi_X3_out (C := RX3) (T := TX3) (N := 9) (ci := 3) (fs := fx_0 cf ad k0 0) wse_X3_out (km_0) rfl rfl (na := 1) (by decide +kernel) rfl rfl rfl hR hls rfl hro hcs hd kk
abbrev rmX3_poke : Room := { frames := 1, cells := 0, slots := 0, locals := 20 }
set_option maxRecDepth 100000 in
set_option maxHeartbeats 4000000 in
theorem b_X3_poke_0 {post : Int32 → ka_T → Prop} (S : CallFix p m c cX3_poke 3 s args lw_gd RX3) (hr : meth.sig.returnType = some .boolean) (hk : meth.locks = false) : ∀ (x1 : Int32) (x2 : Int32) (k0 : ka_T) (H : Heap) (locs : List Loc) (ls : Array Slot), lv_has ls 3 [(0, .ref (ad (0, 0))), (1, .int x1), (2, .int x2)] → Wo_ D cA cf ad A k0 z0 s H locs → q_X3_poke cf post x1 x2 k0 → W p l e rmX3_poke s m args below meth c H locs 0 0 (MQ below (va_Qi post (fun u t => Wx_ D cA cf ad A u z0 t) A) args s 0 0 A) (F0 m 0 ls []) := by
  intro x1 x2 k0 H locs ls hl hw hq
  refine lv_iload_n S.1 S.2.1 dX3_poke_0 rfl (lv_at hl 1 rfl) ?_
  refine call_X3_isCodePlace S hw wl_X3_55 hq ⟨Nat.le_of_ble_eq_true rfl, Nat.le_of_ble_eq_true rfl⟩ hl.1 (Nat.le_of_ble_eq_true rfl) ⟨Nat.zero_le _, Nat.zero_le _⟩ dX3_poke_1 (fun r1 k1 H locs hq hw => ?_)
  refine lv_if_eq (tgt := 14) S.1 S.2.1 dX3_poke_4 rfl (fun h2 => ?_) (fun h2 => ?_)
  · replace hq := hq.1 h2
    refine lv_iconst (v := (0 : Int32)) S.1 S.2.1 dX3_poke_14 (by decide) ?_
    exact kr_i (cu := fun u => ce_l cA cf ad u z0) S hr (by decide) hk hw hq dX3_poke_15
  · replace hq := hq.2 h2
    refine lv_aload_n S.1 S.2.1 dX3_poke_7 rfl (lv_at hl 0 rfl) ?_
    refine gf_308 S hw wf_X3_29 dX3_poke_8 ?_
    refine lv_if_eq (tgt := 16) S.1 S.2.1 dX3_poke_11 rfl (fun h3 => ?_) (fun h3 => ?_)
    · replace hq := hq.1 h3
      refine lv_aload_n S.1 S.2.1 dX3_poke_16 rfl (lv_at hl 0 rfl) ?_
      refine gf_302 S hw wf_X3_9 dX3_poke_17 ?_
      refine lv_iload_n S.1 S.2.1 dX3_poke_20 rfl (lv_at hl 1 rfl) ?_
      refine lv_iload_n S.1 S.2.1 dX3_poke_21 rfl (lv_at hl 2 rfl) ?_
      obtain ⟨hi, hq⟩ := hq
      refine as_3 S hw hi dX3_poke_22 (fun k4 H locs e4 hw => ?_)
      replace hq := hq _ e4
      refine lv_iconst (v := (1 : Int32)) S.1 S.2.1 dX3_poke_23 (by decide) ?_
      exact kr_i (cu := fun u => ce_l cA cf ad u z0) S hr (by decide) hk hw hq dX3_poke_24
    · replace hq := hq.2 h3
      refine lv_iconst (v := (0 : Int32)) S.1 S.2.1 dX3_poke_14 (by decide) ?_
      exact kr_i (cu := fun u => ce_l cA cf ad u z0) S hr (by decide) hk hw hq dX3_poke_15
theorem c_X3_poke (z0 k0 : ka_T) (x1 : Int32) (x2 : Int32) {post : Int32 → ka_T → Prop} (hq : q_X3_poke cf post x1 x2 k0) : Met l yX3_poke wsX3_poke rmX3_poke (va_Pc [.ref (ad (0, 0)), .int x1, .int x2] (Wx_ D cA cf ad A k0 z0)) (va_Qi post (fun u t => Wx_ D cA cf ad A u z0 t) A) 0 0 A :=
  kp_met (by decide +kernel) [.ref (ad (0, 0)), .int x1, .int x2] (Nat.le_of_ble_eq_true rfl) (fun p e s m args below meth c ls S hr hk hw hl => b_X3_poke_0 S hr hk x1 x2 k0 _ _ _ hl hw hq)
theorem call_X3_poke {z0 k0 : ka_T} {x1 : Int32} {x2 : Int32} {post : Int32 → ka_T → Prop} (S : CallFix p m c cc nL s args lw_gd own) (hw : Wo_ D cA cf ad A k0 z0 s H locs) {index : Nat} (hl : Cond.methodLink own index yX3_poke ∈ lw_gd) (hq : q_X3_poke cf post x1 x2 k0) (hR : rmX3_poke.frames + 1 ≤ R.frames ∧ 8 + (3 + 11) + rmX3_poke.locals ≤ R.locals) (hls : ls.size = nL) (hro : (rest.map fun v => v.category).sum ≤ 8) (hcs : cells ≤ R.cells ∧ slots ≤ R.slots) (hd : decode cc pc = .ok (.invokevirtual index, 3)) (kk : ∀ (r : Int32) (u : ka_T) (H1 : Heap) (locs1 : List Loc), post r u → Wo_ D cA cf ad A u z0 s H1 locs1 → W p l e R s m args below meth c H1 locs1 cells slots Q (F0 m (pc + 3) ls (.int r :: rest))) : W p l e R s m args below meth c H locs cells slots Q (F0 m pc ls (.int x2 :: .int x1 :: .ref (ad (0, 0)) :: rest)) :=
  kg_vi (cu := fun u => ce_l cA cf ad u z0) (As := [.int x1, .int x2]) S hw (q := (0, 0)) (c_X3_poke z0 k0 x1 x2 hq) wc_X3_poke wn_X3 hl wi_X3_poke (C := RX3) (T := TX3) (N := 9) (ci := 3) (fs := fx_0 cf ad k0 0) wse_X3_poke (km_0) rfl rfl (na := 2) (by decide +kernel) rfl rfl rfl hR hls rfl hro hcs hd kk
abbrev rmX3_queue : Room := { frames := 1, cells := 0, slots := 0, locals := 21 }
set_option maxRecDepth 100000 in
set_option maxHeartbeats 4000000 in
theorem b_X3_queue_0 {post : Int32 → ka_T → Prop} (S : CallFix p m c cX3_queue 2 s args lw_gd RX3) (hr : meth.sig.returnType = some .int) (hk : meth.locks = false) : ∀ (x1 : Int32) (k0 : ka_T) (H : Heap) (locs : List Loc) (ls : Array Slot), lv_has ls 2 [(0, .ref (ad (0, 0))), (1, .int x1)] → Wo_ D cA cf ad A k0 z0 s H locs → q_X3_queue cf post x1 k0 → W p l e rmX3_queue s m args below meth c H locs 0 0 (MQ below (va_Qi post (fun u t => Wx_ D cA cf ad A u z0 t) A) args s 0 0 A) (F0 m 0 ls []) := by
  intro x1 k0 H locs ls hl hw hq
  refine lv_aload_n S.1 S.2.1 dX3_queue_0 rfl (lv_at hl 0 rfl) ?_
  refine lv_iload_n S.1 S.2.1 dX3_queue_1 rfl (lv_at hl 1 rfl) ?_
  refine call_X3_isQueue S hw wl_X3_133 hq ⟨Nat.le_of_ble_eq_true rfl, Nat.le_of_ble_eq_true rfl⟩ hl.1 (Nat.le_of_ble_eq_true rfl) ⟨Nat.zero_le _, Nat.zero_le _⟩ dX3_queue_2 (fun r1 k1 H locs hq hw => ?_)
  refine lv_if_eq (tgt := 20) S.1 S.2.1 dX3_queue_5 rfl (fun h2 => ?_) (fun h2 => ?_)
  · replace hq := hq.1 h2
    refine lv_iconst (v := (-1 : Int32)) S.1 S.2.1 dX3_queue_20 (by decide) ?_
    exact kr_i (cu := fun u => ce_l cA cf ad u z0) S hr rfl hk hw hq dX3_queue_21
  · replace hq := hq.2 h2
    refine lv_aload_n S.1 S.2.1 dX3_queue_8 rfl (lv_at hl 0 rfl) ?_
    refine gf_301 S hw wf_X3_48 dX3_queue_9 ?_
    refine lv_iload_n S.1 S.2.1 dX3_queue_12 rfl (lv_at hl 1 rfl) ?_
    obtain ⟨hi, hq⟩ := hq
    refine ar_2 S hw hi dX3_queue_13 (fun t3 e3 ht3 => ?_)
    replace hq := hq _ e3 ht3
    refine gf_2 S hw ht3 wf_X3_136 dX3_queue_14 ?_
    refine lv_goto (tgt := 21) S.1 S.2.1 dX3_queue_17 rfl ?_
    exact kr_i (cu := fun u => ce_l cA cf ad u z0) S hr rfl hk hw hq dX3_queue_21
theorem c_X3_queue (z0 k0 : ka_T) (x1 : Int32) {post : Int32 → ka_T → Prop} (hq : q_X3_queue cf post x1 k0) : Met l yX3_queue wsX3_queue rmX3_queue (va_Pc [.ref (ad (0, 0)), .int x1] (Wx_ D cA cf ad A k0 z0)) (va_Qi post (fun u t => Wx_ D cA cf ad A u z0 t) A) 0 0 A :=
  kp_met (by decide +kernel) [.ref (ad (0, 0)), .int x1] (Nat.le_of_ble_eq_true rfl) (fun p e s m args below meth c ls S hr hk hw hl => b_X3_queue_0 S hr hk x1 k0 _ _ _ hl hw hq)
theorem call_X3_queue {z0 k0 : ka_T} {x1 : Int32} {post : Int32 → ka_T → Prop} (S : CallFix p m c cc nL s args lw_gd own) (hw : Wo_ D cA cf ad A k0 z0 s H locs) {index : Nat} (hl : Cond.methodLink own index yX3_queue ∈ lw_gd) (hq : q_X3_queue cf post x1 k0) (hR : rmX3_queue.frames + 1 ≤ R.frames ∧ 8 + (2 + 11) + rmX3_queue.locals ≤ R.locals) (hls : ls.size = nL) (hro : (rest.map fun v => v.category).sum ≤ 8) (hcs : cells ≤ R.cells ∧ slots ≤ R.slots) (hd : decode cc pc = .ok (.invokevirtual index, 3)) (kk : ∀ (r : Int32) (u : ka_T) (H1 : Heap) (locs1 : List Loc), post r u → Wo_ D cA cf ad A u z0 s H1 locs1 → W p l e R s m args below meth c H1 locs1 cells slots Q (F0 m (pc + 3) ls (.int r :: rest))) : W p l e R s m args below meth c H locs cells slots Q (F0 m pc ls (.int x1 :: .ref (ad (0, 0)) :: rest)) :=
  kg_vi (cu := fun u => ce_l cA cf ad u z0) (As := [.int x1]) S hw (q := (0, 0)) (c_X3_queue z0 k0 x1 hq) wc_X3_queue wn_X3 hl wi_X3_queue (C := RX3) (T := TX3) (N := 9) (ci := 3) (fs := fx_0 cf ad k0 0) wse_X3_queue (km_0) rfl rfl (na := 1) (by decide +kernel) rfl rfl rfl hR hls rfl hro hcs hd kk
abbrev rmX3_queued : Room := { frames := 2, cells := 0, slots := 0, locals := 43 }
set_option maxRecDepth 100000 in
set_option maxHeartbeats 4000000 in
theorem b_X3_queued_0 {post : Int32 → ka_T → Prop} (S : CallFix p m c cX3_queued 3 s args lw_gd RX3) (hr : meth.sig.returnType = some .int) (hk : meth.locks = false) : ∀ (x1 : Int32) (x2 : Int32) (k0 : ka_T) (H : Heap) (locs : List Loc) (ls : Array Slot), lv_has ls 3 [(0, .ref (ad (0, 0))), (1, .int x1), (2, .int x2)] → Wo_ D cA cf ad A k0 z0 s H locs → q_X3_queued cf post x1 x2 k0 → W p l e rmX3_queued s m args below meth c H locs 0 0 (MQ below (va_Qi post (fun u t => Wx_ D cA cf ad A u z0 t) A) args s 0 0 A) (F0 m 0 ls []) := by
  intro x1 x2 k0 H locs ls hl hw hq
  refine lv_aload_n S.1 S.2.1 dX3_queued_0 rfl (lv_at hl 0 rfl) ?_
  refine lv_iload_n S.1 S.2.1 dX3_queued_1 rfl (lv_at hl 1 rfl) ?_
  refine call_X3_isQueue S hw wl_X3_133 hq ⟨Nat.le_of_ble_eq_true rfl, Nat.le_of_ble_eq_true rfl⟩ hl.1 (Nat.le_of_ble_eq_true rfl) ⟨Nat.zero_le _, Nat.zero_le _⟩ dX3_queued_2 (fun r1 k1 H locs hq hw => ?_)
  refine lv_if_eq (tgt := 21) S.1 S.2.1 dX3_queued_5 rfl (fun h2 => ?_) (fun h2 => ?_)
  · replace hq := hq.1 h2
    refine lv_ldc S.1 S.2.1 S.2.2.2.1 (S.2.2.2.2 _ wv_X3_101) dX3_queued_21 ?_
    exact kr_i (cu := fun u => ce_l cA cf ad u z0) S hr rfl hk hw hq dX3_queued_23
  · replace hq := hq.2 h2
    refine lv_aload_n S.1 S.2.1 dX3_queued_8 rfl (lv_at hl 0 rfl) ?_
    refine gf_301 S hw wf_X3_48 dX3_queued_9 ?_
    refine lv_iload_n S.1 S.2.1 dX3_queued_12 rfl (lv_at hl 1 rfl) ?_
    obtain ⟨hi, hq⟩ := hq
    refine ar_2 S hw hi dX3_queued_13 (fun t3 e3 ht3 => ?_)
    replace hq := hq _ e3 ht3
    refine lv_iload_n S.1 S.2.1 dX3_queued_14 rfl (lv_at hl 2 rfl) ?_
    refine call_X0_fromFirst S hw wl_X3_137 ht3 hq ⟨Nat.le_of_ble_eq_true rfl, Nat.le_of_ble_eq_true rfl⟩ hl.1 (Nat.le_of_ble_eq_true rfl) ⟨Nat.zero_le _, Nat.zero_le _⟩ dX3_queued_15 (fun r4 k4 H locs hq hw => ?_)
    refine lv_goto (tgt := 23) S.1 S.2.1 dX3_queued_18 rfl ?_
    exact kr_i (cu := fun u => ce_l cA cf ad u z0) S hr rfl hk hw hq dX3_queued_23
theorem c_X3_queued (z0 k0 : ka_T) (x1 : Int32) (x2 : Int32) {post : Int32 → ka_T → Prop} (hq : q_X3_queued cf post x1 x2 k0) : Met l yX3_queued wsX3_queued rmX3_queued (va_Pc [.ref (ad (0, 0)), .int x1, .int x2] (Wx_ D cA cf ad A k0 z0)) (va_Qi post (fun u t => Wx_ D cA cf ad A u z0 t) A) 0 0 A :=
  kp_met (by decide +kernel) [.ref (ad (0, 0)), .int x1, .int x2] (Nat.le_of_ble_eq_true rfl) (fun p e s m args below meth c ls S hr hk hw hl => b_X3_queued_0 S hr hk x1 x2 k0 _ _ _ hl hw hq)
theorem call_X3_queued {z0 k0 : ka_T} {x1 : Int32} {x2 : Int32} {post : Int32 → ka_T → Prop} (S : CallFix p m c cc nL s args lw_gd own) (hw : Wo_ D cA cf ad A k0 z0 s H locs) {index : Nat} (hl : Cond.methodLink own index yX3_queued ∈ lw_gd) (hq : q_X3_queued cf post x1 x2 k0) (hR : rmX3_queued.frames + 1 ≤ R.frames ∧ 8 + (3 + 11) + rmX3_queued.locals ≤ R.locals) (hls : ls.size = nL) (hro : (rest.map fun v => v.category).sum ≤ 8) (hcs : cells ≤ R.cells ∧ slots ≤ R.slots) (hd : decode cc pc = .ok (.invokevirtual index, 3)) (kk : ∀ (r : Int32) (u : ka_T) (H1 : Heap) (locs1 : List Loc), post r u → Wo_ D cA cf ad A u z0 s H1 locs1 → W p l e R s m args below meth c H1 locs1 cells slots Q (F0 m (pc + 3) ls (.int r :: rest))) : W p l e R s m args below meth c H locs cells slots Q (F0 m pc ls (.int x2 :: .int x1 :: .ref (ad (0, 0)) :: rest)) :=
  kg_vi (cu := fun u => ce_l cA cf ad u z0) (As := [.int x1, .int x2]) S hw (q := (0, 0)) (c_X3_queued z0 k0 x1 x2 hq) wc_X3_queued wn_X3 hl wi_X3_queued (C := RX3) (T := TX3) (N := 9) (ci := 3) (fs := fx_0 cf ad k0 0) wse_X3_queued (km_0) rfl rfl (na := 2) (by decide +kernel) rfl rfl rfl hR hls rfl hro hcs hd kk
abbrev rmX3_waitAt : Room := { frames := 1, cells := 0, slots := 0, locals := 22 }
set_option maxRecDepth 100000 in
set_option maxHeartbeats 4000000 in
theorem b_X3_waitAt_0 {post : ka_T → Prop} (S : CallFix p m c cX3_waitAt 4 s args lw_gd RX3) (hr : meth.sig.returnType = none) (hk : meth.locks = false) : ∀ (n1 : Nat) (hn1 : n1 < cf 0) (x2 : Int32) (x3 : Int32) (k0 : ka_T) (H : Heap) (locs : List Loc) (ls : Array Slot), lv_has ls 4 [(0, .ref (ad (0, 0))), (1, .ref (ad (6, n1))), (2, .int x2), (3, .int x3)] → Wo_ D cA cf ad A k0 z0 s H locs → q_X3_waitAt cf post n1 x2 x3 k0 → W p l e rmX3_waitAt s m args below meth c H locs 0 0 (MQ below (va_Qv post (fun u t => Wx_ D cA cf ad A u z0 t) A) args s 0 0 A) (F0 m 0 ls []) := by
  intro n1 hn1 x2 x3 k0 H locs ls hl hw hq
  refine lv_aload_n S.1 S.2.1 dX3_waitAt_0 rfl (lv_at hl 0 rfl) ?_
  refine lv_aload_n S.1 S.2.1 dX3_waitAt_1 rfl (lv_at hl 1 rfl) ?_
  refine lv_iload_n S.1 S.2.1 dX3_waitAt_2 rfl (lv_at hl 2 rfl) ?_
  refine call_X3_enter S hw wl_X3_92 hn1 hq ⟨Nat.le_of_ble_eq_true rfl, Nat.le_of_ble_eq_true rfl⟩ hl.1 (Nat.le_of_ble_eq_true rfl) ⟨Nat.zero_le _, Nat.zero_le _⟩ dX3_waitAt_3 (fun k1 H locs hq hw => ?_)
  refine lv_aload_n S.1 S.2.1 dX3_waitAt_6 rfl (lv_at hl 1 rfl) ?_
  refine lv_iload_n S.1 S.2.1 dX3_waitAt_7 rfl (lv_at hl 3 rfl) ?_
  refine pf_208 S hw hn1 wf_X3_123 dX3_waitAt_8 (fun k2 H locs e2 hw => ?_)
  replace hq := hq _ e2
  exact kr_v (cu := fun u => ce_l cA cf ad u z0) S hr hk hw hq dX3_waitAt_11
theorem c_X3_waitAt (z0 k0 : ka_T) (n1 : Nat) (hn1 : n1 < cf 0) (x2 : Int32) (x3 : Int32) {post : ka_T → Prop} (hq : q_X3_waitAt cf post n1 x2 x3 k0) : Met l yX3_waitAt wsX3_waitAt rmX3_waitAt (va_Pc [.ref (ad (0, 0)), .ref (ad (6, n1)), .int x2, .int x3] (Wx_ D cA cf ad A k0 z0)) (va_Qv post (fun u t => Wx_ D cA cf ad A u z0 t) A) 0 0 A :=
  kp_met (by decide +kernel) [.ref (ad (0, 0)), .ref (ad (6, n1)), .int x2, .int x3] (Nat.le_of_ble_eq_true rfl) (fun p e s m args below meth c ls S hr hk hw hl => b_X3_waitAt_0 S hr hk n1 hn1 x2 x3 k0 _ _ _ hl hw hq)
theorem call_X3_waitAt {z0 k0 : ka_T} {n1 : Nat} {x2 : Int32} {x3 : Int32} {post : ka_T → Prop} (S : CallFix p m c cc nL s args lw_gd own) (hw : Wo_ D cA cf ad A k0 z0 s H locs) {index : Nat} (hl : Cond.methodLink own index yX3_waitAt ∈ lw_gd) (hn1 : n1 < cf 0) (hq : q_X3_waitAt cf post n1 x2 x3 k0) (hR : rmX3_waitAt.frames + 1 ≤ R.frames ∧ 8 + (4 + 11) + rmX3_waitAt.locals ≤ R.locals) (hls : ls.size = nL) (hro : (rest.map fun v => v.category).sum ≤ 8) (hcs : cells ≤ R.cells ∧ slots ≤ R.slots) (hd : decode cc pc = .ok (.invokevirtual index, 3)) (kk : ∀ (u : ka_T) (H1 : Heap) (locs1 : List Loc), post u → Wo_ D cA cf ad A u z0 s H1 locs1 → W p l e R s m args below meth c H1 locs1 cells slots Q (F0 m (pc + 3) ls rest)) : W p l e R s m args below meth c H locs cells slots Q (F0 m pc ls (.int x3 :: .int x2 :: .ref (ad (6, n1)) :: .ref (ad (0, 0)) :: rest)) :=
  kg_vv (cu := fun u => ce_l cA cf ad u z0) (As := [.ref (ad (6, n1)), .int x2, .int x3]) S hw (q := (0, 0)) (c_X3_waitAt z0 k0 n1 hn1 x2 x3 hq) wc_X3_waitAt wn_X3 hl wi_X3_waitAt (C := RX3) (T := TX3) (N := 9) (ci := 3) (fs := fx_0 cf ad k0 0) wse_X3_waitAt (km_0) rfl rfl (na := 3) (by decide +kernel) rfl rfl rfl hR hls rfl hro hcs hd kk
abbrev rmX3_receive : Room := { frames := 2, cells := 0, slots := 0, locals := 47 }
set_option maxRecDepth 100000 in
set_option maxHeartbeats 4000000 in
theorem b_X3_receive_0 {post : Int32 → ka_T → Prop} (S : CallFix p m c cX3_receive 5 s args lw_gd RX3) (hr : meth.sig.returnType = some .int) (hk : meth.locks = false) : ∀ (n1 : Nat) (hn1 : n1 < cf 0) (x2 : Int32) (k0 : ka_T) (H : Heap) (locs : List Loc) (ls : Array Slot), lv_has ls 5 [(0, .ref (ad (0, 0))), (1, .ref (ad (6, n1))), (2, .int x2)] → Wo_ D cA cf ad A k0 z0 s H locs → q_X3_receive cf post n1 x2 k0 → W p l e rmX3_receive s m args below meth c H locs 0 0 (MQ below (va_Qi post (fun u t => Wx_ D cA cf ad A u z0 t) A) args s 0 0 A) (F0 m 0 ls []) := by
  intro n1 hn1 x2 k0 H locs ls hl hw hq
  refine lv_aload_n S.1 S.2.1 dX3_receive_0 rfl (lv_at hl 0 rfl) ?_
  refine lv_iload_n S.1 S.2.1 dX3_receive_1 rfl (lv_at hl 2 rfl) ?_
  refine call_X3_isQueue S hw wl_X3_133 hq ⟨Nat.le_of_ble_eq_true rfl, Nat.le_of_ble_eq_true rfl⟩ hl.1 (Nat.le_of_ble_eq_true rfl) ⟨Nat.zero_le _, Nat.zero_le _⟩ dX3_receive_2 (fun r1 k1 H locs hq hw => ?_)
  refine lv_if_ne (tgt := 11) S.1 S.2.1 dX3_receive_5 rfl (fun h2 => ?_) (fun h2 => ?_)
  · replace hq := hq.1 h2
    refine lv_aload_n S.1 S.2.1 dX3_receive_11 rfl (lv_at hl 1 rfl) ?_
    refine gf_201 S hw hn1 wf_X3_108 dX3_receive_12 ?_
    refine call_X1_isFull S hw wl_X3_255 (vl_n hn1) hq ⟨Nat.le_of_ble_eq_true rfl, Nat.le_of_ble_eq_true rfl⟩ hl.1 (Nat.le_of_ble_eq_true rfl) ⟨Nat.zero_le _, Nat.zero_le _⟩ dX3_receive_15 (fun r3 k3 H locs hq hw => ?_)
    refine lv_if_eq (tgt := 23) S.1 S.2.1 dX3_receive_18 rfl (fun h4 => ?_) (fun h4 => ?_)
    · replace hq := hq.1 h4
      refine lv_aload_n S.1 S.2.1 dX3_receive_23 rfl (lv_at hl 0 rfl) ?_
      refine gf_301 S hw wf_X3_48 dX3_receive_24 ?_
      refine lv_iload_n S.1 S.2.1 dX3_receive_27 rfl (lv_at hl 2 rfl) ?_
      obtain ⟨hi, hq⟩ := hq
      refine ar_2 S hw hi dX3_receive_28 (fun t5 e5 ht5 => ?_)
      replace hq := hq _ e5 ht5
      refine lv_astore_n (lv' := [(3, .ref (ad (9, t5))), (0, .ref (ad (0, 0))), (1, .ref (ad (6, n1))), (2, .int x2)]) S.1 S.2.1 dX3_receive_29 rfl hl (by decide) rfl (fun ls hl => ?_)
      refine lv_aload_n S.1 S.2.1 dX3_receive_30 rfl (lv_at hl 0 rfl) ?_
      refine gf_2 S hw ht5 wf_X3_136 dX3_receive_31 ?_
      refine lv_iconst (v := (1 : Int32)) S.1 S.2.1 dX3_receive_34 (by decide) ?_
      refine lv_icmp_ge (tgt := 47) S.1 S.2.1 dX3_receive_35 rfl (fun h6 => ?_) (fun h6 => ?_)
      · replace hq := hq.1 h6
        refine lv_aload_n S.1 S.2.1 dX3_receive_47 rfl (lv_at hl 2 rfl) ?_
        refine gf_201 S hw hn1 wf_X3_108 dX3_receive_48 ?_
        refine lv_aload_n S.1 S.2.1 dX3_receive_51 rfl (lv_at hl 0 rfl) ?_
        refine call_X0_removeFirst S hw wl_X3_259 ht5 hq ⟨Nat.le_of_ble_eq_true rfl, Nat.le_of_ble_eq_true rfl⟩ hl.1 (Nat.le_of_ble_eq_true rfl) ⟨Nat.zero_le _, Nat.zero_le _⟩ dX3_receive_52 (fun r7 k7 H locs hq hw => ?_)
        refine call_X1_push S hw wl_X3_238 (vl_n hn1) hq ⟨Nat.le_of_ble_eq_true rfl, Nat.le_of_ble_eq_true rfl⟩ hl.1 (Nat.le_of_ble_eq_true rfl) ⟨Nat.zero_le _, Nat.zero_le _⟩ dX3_receive_55 (fun r8 k8 H locs hq hw => ?_)
        refine lv_pop S.1 S.2.1 dX3_receive_58 rfl ?_
        refine lv_aload_n S.1 S.2.1 dX3_receive_59 rfl (lv_at hl 1 rfl) ?_
        refine lv_iconst (v := (3 : Int32)) S.1 S.2.1 dX3_receive_60 (by decide) ?_
        refine lv_iload_n S.1 S.2.1 dX3_receive_61 rfl (lv_at hl 3 rfl) ?_
        refine call_X3_firstWaiting S hw wl_X3_241 hq ⟨Nat.le_of_ble_eq_true rfl, Nat.le_of_ble_eq_true rfl⟩ hl.1 (Nat.le_of_ble_eq_true rfl) ⟨Nat.zero_le _, Nat.zero_le _⟩ dX3_receive_62 (fun k9 H locs hq hw => ?_) (fun t9 k9 H locs ht9 hq hw => ?_)
        · replace hq := hq.1 rfl
          refine lv_astoreN (lv' := [(4, .null), (3, .ref (ad (9, t5))), (0, .ref (ad (0, 0))), (1, .ref (ad (6, n1))), (2, .int x2)]) S.1 S.2.1 dX3_receive_65 hl (by decide) rfl (fun ls hl => ?_)
          refine lv_aloadN S.1 S.2.1 dX3_receive_67 (lv_at hl 0 rfl) ?_
          refine lv_ifnullN (tgt := 89) S.1 S.2.1 dX3_receive_69 rfl ?_
          refine lv_iconst (v := (0 : Int32)) S.1 S.2.1 dX3_receive_89 (by decide) ?_
          exact kr_i (cu := fun u => ce_l cA cf ad u z0) S hr rfl hk hw hq dX3_receive_90
        · replace hq := hq.2 t9 rfl ht9
          refine lv_astore (lv' := [(4, .ref (ad (6, t9))), (3, .ref (ad (9, t5))), (0, .ref (ad (0, 0))), (1, .ref (ad (6, n1))), (2, .int x2)]) S.1 S.2.1 dX3_receive_65 hl (by decide) rfl (fun ls hl => ?_)
          refine lv_aload S.1 S.2.1 dX3_receive_67 (lv_at hl 0 rfl) ?_
          refine lv_ifnull S.1 S.2.1 dX3_receive_69 ?_
          refine lv_aload_n S.1 S.2.1 dX3_receive_72 rfl (lv_at hl 1 rfl) ?_
          refine lv_aload S.1 S.2.1 dX3_receive_73 (lv_at hl 0 rfl) ?_
          refine gf_209 S hw ht9 wf_X3_252 dX3_receive_75 ?_
          refine call_X0_addLast S hw wl_X3_245 ht5 hq ⟨Nat.le_of_ble_eq_true rfl, Nat.le_of_ble_eq_true rfl⟩ hl.1 (Nat.le_of_ble_eq_true rfl) ⟨Nat.zero_le _, Nat.zero_le _⟩ dX3_receive_78 (fun r10 k10 H locs hq hw => ?_)
          refine lv_pop S.1 S.2.1 dX3_receive_81 rfl ?_
          refine lv_aload_n S.1 S.2.1 dX3_receive_82 rfl (lv_at hl 2 rfl) ?_
          refine lv_aload S.1 S.2.1 dX3_receive_83 (lv_at hl 0 rfl) ?_
          refine lv_iconst (v := (1 : Int32)) S.1 S.2.1 dX3_receive_85 (by decide) ?_
          refine call_X3_enter S hw wl_X3_92 ht9 hq ⟨Nat.le_of_ble_eq_true rfl, Nat.le_of_ble_eq_true rfl⟩ hl.1 (Nat.le_of_ble_eq_true rfl) ⟨Nat.zero_le _, Nat.zero_le _⟩ dX3_receive_86 (fun k11 H locs hq hw => ?_)
          refine lv_iconst (v := (0 : Int32)) S.1 S.2.1 dX3_receive_89 (by decide) ?_
          exact kr_i (cu := fun u => ce_l cA cf ad u z0) S hr rfl hk hw hq dX3_receive_90
      · replace hq := hq.2 h6
        refine lv_aload_n S.1 S.2.1 dX3_receive_38 rfl (lv_at hl 1 rfl) ?_
        refine lv_aload_n S.1 S.2.1 dX3_receive_39 rfl (lv_at hl 2 rfl) ?_
        refine lv_iconst (v := (4 : Int32)) S.1 S.2.1 dX3_receive_40 (by decide) ?_
        refine lv_iload_n S.1 S.2.1 dX3_receive_41 rfl (lv_at hl 3 rfl) ?_
        refine call_X3_waitAt S hw wl_X3_248 hn1 hq ⟨Nat.le_of_ble_eq_true rfl, Nat.le_of_ble_eq_true rfl⟩ hl.1 (Nat.le_of_ble_eq_true rfl) ⟨Nat.zero_le _, Nat.zero_le _⟩ dX3_receive_42 (fun k12 H locs hq hw => ?_)
        refine lv_iconst (v := (0 : Int32)) S.1 S.2.1 dX3_receive_45 (by decide) ?_
        exact kr_i (cu := fun u => ce_l cA cf ad u z0) S hr rfl hk hw hq dX3_receive_46
    · replace hq := hq.2 h4
      refine lv_iconst (v := (1 : Int32)) S.1 S.2.1 dX3_receive_21 (by decide) ?_
      exact kr_i (cu := fun u => ce_l cA cf ad u z0) S hr rfl hk hw hq dX3_receive_22
  · replace hq := hq.2 h2
    refine lv_bipush (v := (6 : Int32)) S.1 S.2.1 dX3_receive_8 (by decide) ?_
    exact kr_i (cu := fun u => ce_l cA cf ad u z0) S hr rfl hk hw hq dX3_receive_10
theorem c_X3_receive (z0 k0 : ka_T) (n1 : Nat) (hn1 : n1 < cf 0) (x2 : Int32) {post : Int32 → ka_T → Prop} (hq : q_X3_receive cf post n1 x2 k0) : Met l yX3_receive wsX3_receive rmX3_receive (va_Pc [.ref (ad (0, 0)), .ref (ad (6, n1)), .int x2] (Wx_ D cA cf ad A k0 z0)) (va_Qi post (fun u t => Wx_ D cA cf ad A u z0 t) A) 0 0 A :=
  kp_met (by decide +kernel) [.ref (ad (0, 0)), .ref (ad (6, n1)), .int x2] (Nat.le_of_ble_eq_true rfl) (fun p e s m args below meth c ls S hr hk hw hl => b_X3_receive_0 S hr hk n1 hn1 x2 k0 _ _ _ hl hw hq)
theorem call_X3_receive {z0 k0 : ka_T} {n1 : Nat} {x2 : Int32} {post : Int32 → ka_T → Prop} (S : CallFix p m c cc nL s args lw_gd own) (hw : Wo_ D cA cf ad A k0 z0 s H locs) {index : Nat} (hl : Cond.methodLink own index yX3_receive ∈ lw_gd) (hn1 : n1 < cf 0) (hq : q_X3_receive cf post n1 x2 k0) (hR : rmX3_receive.frames + 1 ≤ R.frames ∧ 8 + (5 + 11) + rmX3_receive.locals ≤ R.locals) (hls : ls.size = nL) (hro : (rest.map fun v => v.category).sum ≤ 8) (hcs : cells ≤ R.cells ∧ slots ≤ R.slots) (hd : decode cc pc = .ok (.invokevirtual index, 3)) (kk : ∀ (r : Int32) (u : ka_T) (H1 : Heap) (locs1 : List Loc), post r u → Wo_ D cA cf ad A u z0 s H1 locs1 → W p l e R s m args below meth c H1 locs1 cells slots Q (F0 m (pc + 3) ls (.int r :: rest))) : W p l e R s m args below meth c H locs cells slots Q (F0 m pc ls (.int x2 :: .ref (ad (6, n1)) :: .ref (ad (0, 0)) :: rest)) :=
  kg_vi (cu := fun u => ce_l cA cf ad u z0) (As := [.ref (ad (6, n1)), .int x2]) S hw (q := (0, 0)) (c_X3_receive z0 k0 n1 hn1 x2 hq) wc_X3_receive wn_X3 hl wi_X3_receive (C := RX3) (T := TX3) (N := 9) (ci := 3) (fs := fx_0 cf ad k0 0) wse_X3_receive (km_0) rfl rfl (na := 2) (by decide +kernel) rfl rfl rfl hR hls rfl hro hcs hd kk
abbrev rmX3_swap : Room := { frames := 1, cells := 0, slots := 0, locals := 21 }
set_option maxRecDepth 100000 in
set_option maxHeartbeats 4000000 in
theorem b_X3_swap_0 {post : Int32 → ka_T → Prop} (S : CallFix p m c cX3_swap 4 s args lw_gd RX3) (hr : meth.sig.returnType = some .int) (hk : meth.locks = false) : ∀ (n1 : Nat) (hn1 : n1 < cf 0) (k0 : ka_T) (H : Heap) (locs : List Loc) (ls : Array Slot), lv_has ls 4 [(0, .ref (ad (0, 0))), (1, .ref (ad (6, n1)))] → Wo_ D cA cf ad A k0 z0 s H locs → q_X3_swap cf post n1 k0 → W p l e rmX3_swap s m args below meth c H locs 0 0 (MQ below (va_Qi post (fun u t => Wx_ D cA cf ad A u z0 t) A) args s 0 0 A) (F0 m 0 ls []) := by
  intro n1 hn1 k0 H locs ls hl hw hq
  refine lv_aload_n S.1 S.2.1 dX3_swap_0 rfl (lv_at hl 1 rfl) ?_
  refine gf_201 S hw hn1 wf_X3_108 dX3_swap_1 ?_
  refine gf_101 S hw (vl_n hn1) wf_X3_112 dX3_swap_4 ?_
  refine lv_iconst (v := (2 : Int32)) S.1 S.2.1 dX3_swap_7 (by decide) ?_
  refine lv_icmp_ge (tgt := 13) S.1 S.2.1 dX3_swap_8 rfl (fun h1 => ?_) (fun h1 => ?_)
  · replace hq := hq.1 h1
    refine lv_aload_n S.1 S.2.1 dX3_swap_13 rfl (lv_at hl 1 rfl) ?_
    refine gf_201 S hw hn1 wf_X3_108 dX3_swap_14 ?_
    refine call_X1_pop S hw wl_X3_235 (vl_n hn1) hq ⟨Nat.le_of_ble_eq_true rfl, Nat.le_of_ble_eq_true rfl⟩ hl.1 (Nat.le_of_ble_eq_true rfl) ⟨Nat.zero_le _, Nat.zero_le _⟩ dX3_swap_17 (fun r2 k2 H locs hq hw => ?_)
    refine lv_istore_n (lv' := [(2, .int r2), (0, .ref (ad (0, 0))), (1, .ref (ad (6, n1)))]) S.1 S.2.1 dX3_swap_20 rfl hl (by decide) rfl (fun ls hl => ?_)
    refine lv_aload_n S.1 S.2.1 dX3_swap_21 rfl (lv_at hl 2 rfl) ?_
    refine gf_201 S hw hn1 wf_X3_108 dX3_swap_22 ?_
    refine call_X1_pop S hw wl_X3_235 (vl_n hn1) hq ⟨Nat.le_of_ble_eq_true rfl, Nat.le_of_ble_eq_true rfl⟩ hl.1 (Nat.le_of_ble_eq_true rfl) ⟨Nat.zero_le _, Nat.zero_le _⟩ dX3_swap_25 (fun r3 k3 H locs hq hw => ?_)
    refine lv_istore_n (lv' := [(3, .int r3), (2, .int r2), (0, .ref (ad (0, 0))), (1, .ref (ad (6, n1)))]) S.1 S.2.1 dX3_swap_28 rfl hl (by decide) rfl (fun ls hl => ?_)
    refine lv_aload_n S.1 S.2.1 dX3_swap_29 rfl (lv_at hl 3 rfl) ?_
    refine gf_201 S hw hn1 wf_X3_108 dX3_swap_30 ?_
    refine lv_iload_n S.1 S.2.1 dX3_swap_33 rfl (lv_at hl 1 rfl) ?_
    refine call_X1_push S hw wl_X3_238 (vl_n hn1) hq ⟨Nat.le_of_ble_eq_true rfl, Nat.le_of_ble_eq_true rfl⟩ hl.1 (Nat.le_of_ble_eq_true rfl) ⟨Nat.zero_le _, Nat.zero_le _⟩ dX3_swap_34 (fun r4 k4 H locs hq hw => ?_)
    refine lv_pop S.1 S.2.1 dX3_swap_37 rfl ?_
    refine lv_aload_n S.1 S.2.1 dX3_swap_38 rfl (lv_at hl 3 rfl) ?_
    refine gf_201 S hw hn1 wf_X3_108 dX3_swap_39 ?_
    refine lv_iload_n S.1 S.2.1 dX3_swap_42 rfl (lv_at hl 0 rfl) ?_
    refine call_X1_push S hw wl_X3_238 (vl_n hn1) hq ⟨Nat.le_of_ble_eq_true rfl, Nat.le_of_ble_eq_true rfl⟩ hl.1 (Nat.le_of_ble_eq_true rfl) ⟨Nat.zero_le _, Nat.zero_le _⟩ dX3_swap_43 (fun r5 k5 H locs hq hw => ?_)
    refine lv_pop S.1 S.2.1 dX3_swap_46 rfl ?_
    refine lv_iconst (v := (0 : Int32)) S.1 S.2.1 dX3_swap_47 (by decide) ?_
    exact kr_i (cu := fun u => ce_l cA cf ad u z0) S hr rfl hk hw hq dX3_swap_48
  · replace hq := hq.2 h1
    refine lv_iconst (v := (1 : Int32)) S.1 S.2.1 dX3_swap_11 (by decide) ?_
    exact kr_i (cu := fun u => ce_l cA cf ad u z0) S hr rfl hk hw hq dX3_swap_12
theorem c_X3_swap (z0 k0 : ka_T) (n1 : Nat) (hn1 : n1 < cf 0) {post : Int32 → ka_T → Prop} (hq : q_X3_swap cf post n1 k0) : Met l yX3_swap wsX3_swap rmX3_swap (va_Pc [.ref (ad (0, 0)), .ref (ad (6, n1))] (Wx_ D cA cf ad A k0 z0)) (va_Qi post (fun u t => Wx_ D cA cf ad A u z0 t) A) 0 0 A :=
  kp_met (by decide +kernel) [.ref (ad (0, 0)), .ref (ad (6, n1))] (Nat.le_of_ble_eq_true rfl) (fun p e s m args below meth c ls S hr hk hw hl => b_X3_swap_0 S hr hk n1 hn1 k0 _ _ _ hl hw hq)
theorem call_X3_swap {z0 k0 : ka_T} {n1 : Nat} {post : Int32 → ka_T → Prop} (S : CallFix p m c cc nL s args lw_gd own) (hw : Wo_ D cA cf ad A k0 z0 s H locs) {index : Nat} (hl : Cond.methodLink own index yX3_swap ∈ lw_gd) (hn1 : n1 < cf 0) (hq : q_X3_swap cf post n1 k0) (hR : rmX3_swap.frames + 1 ≤ R.frames ∧ 8 + (4 + 11) + rmX3_swap.locals ≤ R.locals) (hls : ls.size = nL) (hro : (rest.map fun v => v.category).sum ≤ 8) (hcs : cells ≤ R.cells ∧ slots ≤ R.slots) (hd : decode cc pc = .ok (.invokevirtual index, 3)) (kk : ∀ (r : Int32) (u : ka_T) (H1 : Heap) (locs1 : List Loc), post r u → Wo_ D cA cf ad A u z0 s H1 locs1 → W p l e R s m args below meth c H1 locs1 cells slots Q (F0 m (pc + 3) ls (.int r :: rest))) : W p l e R s m args below meth c H locs cells slots Q (F0 m pc ls (.ref (ad (6, n1)) :: .ref (ad (0, 0)) :: rest)) :=
  kg_vi (cu := fun u => ce_l cA cf ad u z0) (As := [.ref (ad (6, n1))]) S hw (q := (0, 0)) (c_X3_swap z0 k0 n1 hn1 hq) wc_X3_swap wn_X3 hl wi_X3_swap (C := RX3) (T := TX3) (N := 9) (ci := 3) (fs := fx_0 cf ad k0 0) wse_X3_swap (km_0) rfl rfl (na := 1) (by decide +kernel) rfl rfl rfl hR hls rfl hro hcs hd kk
abbrev rmX3_store : Room := { frames := 1, cells := 0, slots := 0, locals := 20 }
set_option maxRecDepth 100000 in
set_option maxHeartbeats 4000000 in
theorem b_X3_store_0 {post : Int32 → ka_T → Prop} (S : CallFix p m c cX3_store 3 s args lw_gd RX3) (hr : meth.sig.returnType = some .int) (hk : meth.locks = false) : ∀ (n1 : Nat) (hn1 : n1 < cf 0) (k0 : ka_T) (H : Heap) (locs : List Loc) (ls : Array Slot), lv_has ls 3 [(0, .ref (ad (0, 0))), (1, .ref (ad (6, n1)))] → Wo_ D cA cf ad A k0 z0 s H locs → q_X3_store cf post n1 k0 → W p l e rmX3_store s m args below meth c H locs 0 0 (MQ below (va_Qi post (fun u t => Wx_ D cA cf ad A u z0 t) A) args s 0 0 A) (F0 m 0 ls []) := by
  intro n1 hn1 k0 H locs ls hl hw hq
  refine lv_aload_n S.1 S.2.1 dX3_store_0 rfl (lv_at hl 1 rfl) ?_
  refine gf_201 S hw hn1 wf_X3_108 dX3_store_1 ?_
  refine gf_101 S hw (vl_n hn1) wf_X3_112 dX3_store_4 ?_
  refine lv_iconst (v := (1 : Int32)) S.1 S.2.1 dX3_store_7 (by decide) ?_
  refine lv_icmp_ge (tgt := 13) S.1 S.2.1 dX3_store_8 rfl (fun h1 => ?_) (fun h1 => ?_)
  · replace hq := hq.1 h1
    refine lv_aload_n S.1 S.2.1 dX3_store_13 rfl (lv_at hl 1 rfl) ?_
    refine gf_201 S hw hn1 wf_X3_108 dX3_store_14 ?_
    refine call_X1_pop S hw wl_X3_235 (vl_n hn1) hq ⟨Nat.le_of_ble_eq_true rfl, Nat.le_of_ble_eq_true rfl⟩ hl.1 (Nat.le_of_ble_eq_true rfl) ⟨Nat.zero_le _, Nat.zero_le _⟩ dX3_store_17 (fun r2 k2 H locs hq hw => ?_)
    refine lv_istore_n (lv' := [(2, .int r2), (0, .ref (ad (0, 0))), (1, .ref (ad (6, n1)))]) S.1 S.2.1 dX3_store_20 rfl hl (by decide) rfl (fun ls hl => ?_)
    refine lv_iload_n S.1 S.2.1 dX3_store_21 rfl (lv_at hl 0 rfl) ?_
    refine call_X3_isCell S hw wl_X3_147 hq ⟨Nat.le_of_ble_eq_true rfl, Nat.le_of_ble_eq_true rfl⟩ hl.1 (Nat.le_of_ble_eq_true rfl) ⟨Nat.zero_le _, Nat.zero_le _⟩ dX3_store_22 (fun r3 k3 H locs hq hw => ?_)
    refine lv_if_ne (tgt := 30) S.1 S.2.1 dX3_store_25 rfl (fun h4 => ?_) (fun h4 => ?_)
    · replace hq := hq.1 h4
      refine lv_aload_n S.1 S.2.1 dX3_store_30 rfl (lv_at hl 2 rfl) ?_
      refine gf_201 S hw hn1 wf_X3_108 dX3_store_31 ?_
      refine gf_101 S hw (vl_n hn1) wf_X3_112 dX3_store_34 ?_
      refine lv_iconst (v := (1 : Int32)) S.1 S.2.1 dX3_store_37 (by decide) ?_
      refine lv_icmp_ge (tgt := 43) S.1 S.2.1 dX3_store_38 rfl (fun h5 => ?_) (fun h5 => ?_)
      · replace hq := hq.1 h5
        refine lv_aload_n S.1 S.2.1 dX3_store_43 rfl (lv_at hl 1 rfl) ?_
        refine gf_303 S hw wf_X3_13 dX3_store_44 ?_
        refine lv_iload_n S.1 S.2.1 dX3_store_47 rfl (lv_at hl 0 rfl) ?_
        refine lv_aload_n S.1 S.2.1 dX3_store_48 rfl (lv_at hl 2 rfl) ?_
        refine gf_201 S hw hn1 wf_X3_108 dX3_store_49 ?_
        refine call_X1_pop S hw wl_X3_235 (vl_n hn1) hq ⟨Nat.le_of_ble_eq_true rfl, Nat.le_of_ble_eq_true rfl⟩ hl.1 (Nat.le_of_ble_eq_true rfl) ⟨Nat.zero_le _, Nat.zero_le _⟩ dX3_store_52 (fun r6 k6 H locs hq hw => ?_)
        obtain ⟨hi, hq⟩ := hq
        refine as_4 S hw hi dX3_store_55 (fun k7 H locs e7 hw => ?_)
        replace hq := hq _ e7
        refine lv_iconst (v := (0 : Int32)) S.1 S.2.1 dX3_store_56 (by decide) ?_
        exact kr_i (cu := fun u => ce_l cA cf ad u z0) S hr rfl hk hw hq dX3_store_57
      · replace hq := hq.2 h5
        refine lv_iconst (v := (1 : Int32)) S.1 S.2.1 dX3_store_41 (by decide) ?_
        exact kr_i (cu := fun u => ce_l cA cf ad u z0) S hr rfl hk hw hq dX3_store_42
    · replace hq := hq.2 h4
      refine lv_iconst (v := (2 : Int32)) S.1 S.2.1 dX3_store_28 (by decide) ?_
      exact kr_i (cu := fun u => ce_l cA cf ad u z0) S hr rfl hk hw hq dX3_store_29
  · replace hq := hq.2 h1
    refine lv_iconst (v := (1 : Int32)) S.1 S.2.1 dX3_store_11 (by decide) ?_
    exact kr_i (cu := fun u => ce_l cA cf ad u z0) S hr rfl hk hw hq dX3_store_12
theorem c_X3_store (z0 k0 : ka_T) (n1 : Nat) (hn1 : n1 < cf 0) {post : Int32 → ka_T → Prop} (hq : q_X3_store cf post n1 k0) : Met l yX3_store wsX3_store rmX3_store (va_Pc [.ref (ad (0, 0)), .ref (ad (6, n1))] (Wx_ D cA cf ad A k0 z0)) (va_Qi post (fun u t => Wx_ D cA cf ad A u z0 t) A) 0 0 A :=
  kp_met (by decide +kernel) [.ref (ad (0, 0)), .ref (ad (6, n1))] (Nat.le_of_ble_eq_true rfl) (fun p e s m args below meth c ls S hr hk hw hl => b_X3_store_0 S hr hk n1 hn1 k0 _ _ _ hl hw hq)
theorem call_X3_store {z0 k0 : ka_T} {n1 : Nat} {post : Int32 → ka_T → Prop} (S : CallFix p m c cc nL s args lw_gd own) (hw : Wo_ D cA cf ad A k0 z0 s H locs) {index : Nat} (hl : Cond.methodLink own index yX3_store ∈ lw_gd) (hn1 : n1 < cf 0) (hq : q_X3_store cf post n1 k0) (hR : rmX3_store.frames + 1 ≤ R.frames ∧ 8 + (3 + 11) + rmX3_store.locals ≤ R.locals) (hls : ls.size = nL) (hro : (rest.map fun v => v.category).sum ≤ 8) (hcs : cells ≤ R.cells ∧ slots ≤ R.slots) (hd : decode cc pc = .ok (.invokevirtual index, 3)) (kk : ∀ (r : Int32) (u : ka_T) (H1 : Heap) (locs1 : List Loc), post r u → Wo_ D cA cf ad A u z0 s H1 locs1 → W p l e R s m args below meth c H1 locs1 cells slots Q (F0 m (pc + 3) ls (.int r :: rest))) : W p l e R s m args below meth c H locs cells slots Q (F0 m pc ls (.ref (ad (6, n1)) :: .ref (ad (0, 0)) :: rest)) :=
  kg_vi (cu := fun u => ce_l cA cf ad u z0) (As := [.ref (ad (6, n1))]) S hw (q := (0, 0)) (c_X3_store z0 k0 n1 hn1 hq) wc_X3_store wn_X3 hl wi_X3_store (C := RX3) (T := TX3) (N := 9) (ci := 3) (fs := fx_0 cf ad k0 0) wse_X3_store (km_0) rfl rfl (na := 1) (by decide +kernel) rfl rfl rfl hR hls rfl hro hcs hd kk
abbrev rmX3_runOnNumbers : Room := { frames := 3, cells := 0, slots := 0, locals := 66 }
set_option maxRecDepth 100000 in
set_option maxHeartbeats 4000000 in
theorem b_X3_runOnNumbers_0 {post : Int32 → ka_T → Prop} (S : CallFix p m c cX3_runOnNumbers 4 s args lw_gd RX3) (hr : meth.sig.returnType = some .int) (hk : meth.locks = false) : ∀ (n1 : Nat) (hn1 : n1 < cf 0) (x2 : Int32) (x3 : Int32) (k0 : ka_T) (H : Heap) (locs : List Loc) (ls : Array Slot), lv_has ls 4 [(0, .ref (ad (0, 0))), (1, .ref (ad (6, n1))), (2, .int x2), (3, .int x3)] → Wo_ D cA cf ad A k0 z0 s H locs → q_X3_runOnNumbers cf post n1 x2 x3 k0 → W p l e rmX3_runOnNumbers s m args below meth c H locs 0 0 (MQ below (va_Qi post (fun u t => Wx_ D cA cf ad A u z0 t) A) args s 0 0 A) (F0 m 0 ls []) := by
  intro n1 hn1 x2 x3 k0 H locs ls hl hw hq
  refine lv_iload_n S.1 S.2.1 dX3_runOnNumbers_0 rfl (lv_at hl 2 rfl) ?_
  by_cases h1_0 : x2 = (0 : Int32)
  · replace hq := hq.1 h1_0
    refine lv_tableIn (off := 59) (tgt := 60) S.1 S.2.1 dX3_runOnNumbers_1 (by rw [h1_0]; decide) (by rw [h1_0]; decide) (by rw [h1_0]; rfl) rfl ?_
    refine lv_aload_n S.1 S.2.1 dX3_runOnNumbers_60 rfl (lv_at hl 1 rfl) ?_
    refine lv_iconst (v := (1 : Int32)) S.1 S.2.1 dX3_runOnNumbers_61 (by decide) ?_
    refine call_X3_end S hw wl_X3_78 hn1 hq ⟨Nat.le_of_ble_eq_true rfl, Nat.le_of_ble_eq_true rfl⟩ hl.1 (Nat.le_of_ble_eq_true rfl) ⟨Nat.zero_le _, Nat.zero_le _⟩ dX3_runOnNumbers_62 (fun k2 H locs hq hw => ?_)
    refine lv_iconst (v := (0 : Int32)) S.1 S.2.1 dX3_runOnNumbers_65 (by decide) ?_
    exact kr_i (cu := fun u => ce_l cA cf ad u z0) S hr rfl hk hw hq dX3_runOnNumbers_66
  · by_cases h1_1 : x2 = (1 : Int32)
    · replace hq := hq.2.1 h1_1
      refine lv_tableIn (off := 66) (tgt := 67) S.1 S.2.1 dX3_runOnNumbers_1 (by rw [h1_1]; decide) (by rw [h1_1]; decide) (by rw [h1_1]; rfl) rfl ?_
      refine lv_aload_n S.1 S.2.1 dX3_runOnNumbers_67 rfl (lv_at hl 1 rfl) ?_
      refine lv_iload_n S.1 S.2.1 dX3_runOnNumbers_68 rfl (lv_at hl 3 rfl) ?_
      refine call_X2_put S hw wl_X3_180 hn1 hq ⟨Nat.le_of_ble_eq_true rfl, Nat.le_of_ble_eq_true rfl⟩ hl.1 (Nat.le_of_ble_eq_true rfl) ⟨Nat.zero_le _, Nat.zero_le _⟩ dX3_runOnNumbers_69 (fun r3 k3 H locs hq hw => ?_)
      exact kr_i (cu := fun u => ce_l cA cf ad u z0) S hr rfl hk hw hq dX3_runOnNumbers_72
    · by_cases h1_2 : x2 = (6 : Int32)
      · replace hq := hq.2.2.1 h1_2
        refine lv_tableIn (off := 72) (tgt := 73) S.1 S.2.1 dX3_runOnNumbers_1 (by rw [h1_2]; decide) (by rw [h1_2]; decide) (by rw [h1_2]; rfl) rfl ?_
        refine lv_aload_n S.1 S.2.1 dX3_runOnNumbers_73 rfl (lv_at hl 0 rfl) ?_
        refine lv_aload_n S.1 S.2.1 dX3_runOnNumbers_74 rfl (lv_at hl 1 rfl) ?_
        refine call_X3_copyTop S hw wl_X3_183 hn1 hq ⟨Nat.le_of_ble_eq_true rfl, Nat.le_of_ble_eq_true rfl⟩ hl.1 (Nat.le_of_ble_eq_true rfl) ⟨Nat.zero_le _, Nat.zero_le _⟩ dX3_runOnNumbers_75 (fun r4 k4 H locs hq hw => ?_)
        exact kr_i (cu := fun u => ce_l cA cf ad u z0) S hr rfl hk hw hq dX3_runOnNumbers_78
      · by_cases h1_3 : x2 = (7 : Int32)
        · replace hq := hq.2.2.2.1 h1_3
          refine lv_tableIn (off := 78) (tgt := 79) S.1 S.2.1 dX3_runOnNumbers_1 (by rw [h1_3]; decide) (by rw [h1_3]; decide) (by rw [h1_3]; rfl) rfl ?_
          refine lv_aload_n S.1 S.2.1 dX3_runOnNumbers_79 rfl (lv_at hl 0 rfl) ?_
          refine lv_aload_n S.1 S.2.1 dX3_runOnNumbers_80 rfl (lv_at hl 1 rfl) ?_
          refine call_X3_drop S hw wl_X3_186 hn1 hq ⟨Nat.le_of_ble_eq_true rfl, Nat.le_of_ble_eq_true rfl⟩ hl.1 (Nat.le_of_ble_eq_true rfl) ⟨Nat.zero_le _, Nat.zero_le _⟩ dX3_runOnNumbers_81 (fun r5 k5 H locs hq hw => ?_)
          exact kr_i (cu := fun u => ce_l cA cf ad u z0) S hr rfl hk hw hq dX3_runOnNumbers_84
        · by_cases h1_4 : x2 = (8 : Int32)
          · replace hq := hq.2.2.2.2.1 h1_4
            refine lv_tableIn (off := 84) (tgt := 85) S.1 S.2.1 dX3_runOnNumbers_1 (by rw [h1_4]; decide) (by rw [h1_4]; decide) (by rw [h1_4]; rfl) rfl ?_
            refine lv_aload_n S.1 S.2.1 dX3_runOnNumbers_85 rfl (lv_at hl 0 rfl) ?_
            refine lv_aload_n S.1 S.2.1 dX3_runOnNumbers_86 rfl (lv_at hl 1 rfl) ?_
            refine call_X3_swap S hw wl_X3_189 hn1 hq ⟨Nat.le_of_ble_eq_true rfl, Nat.le_of_ble_eq_true rfl⟩ hl.1 (Nat.le_of_ble_eq_true rfl) ⟨Nat.zero_le _, Nat.zero_le _⟩ dX3_runOnNumbers_87 (fun r6 k6 H locs hq hw => ?_)
            exact kr_i (cu := fun u => ce_l cA cf ad u z0) S hr rfl hk hw hq dX3_runOnNumbers_90
          · by_cases h1_5 : x2 = (9 : Int32)
            · replace hq := hq.2.2.2.2.2.1 h1_5
              refine lv_tableIn (off := 90) (tgt := 91) S.1 S.2.1 dX3_runOnNumbers_1 (by rw [h1_5]; decide) (by rw [h1_5]; decide) (by rw [h1_5]; rfl) rfl ?_
              refine lv_aload_n S.1 S.2.1 dX3_runOnNumbers_91 rfl (lv_at hl 0 rfl) ?_
              refine lv_aload_n S.1 S.2.1 dX3_runOnNumbers_92 rfl (lv_at hl 1 rfl) ?_
              refine call_X3_load S hw wl_X3_192 hn1 hq ⟨Nat.le_of_ble_eq_true rfl, Nat.le_of_ble_eq_true rfl⟩ hl.1 (Nat.le_of_ble_eq_true rfl) ⟨Nat.zero_le _, Nat.zero_le _⟩ dX3_runOnNumbers_93 (fun r7 k7 H locs hq hw => ?_)
              exact kr_i (cu := fun u => ce_l cA cf ad u z0) S hr rfl hk hw hq dX3_runOnNumbers_96
            · by_cases h1_6 : x2 = (10 : Int32)
              · replace hq := hq.2.2.2.2.2.2.1 h1_6
                refine lv_tableIn (off := 96) (tgt := 97) S.1 S.2.1 dX3_runOnNumbers_1 (by rw [h1_6]; decide) (by rw [h1_6]; decide) (by rw [h1_6]; rfl) rfl ?_
                refine lv_aload_n S.1 S.2.1 dX3_runOnNumbers_97 rfl (lv_at hl 0 rfl) ?_
                refine lv_aload_n S.1 S.2.1 dX3_runOnNumbers_98 rfl (lv_at hl 1 rfl) ?_
                refine call_X3_store S hw wl_X3_195 hn1 hq ⟨Nat.le_of_ble_eq_true rfl, Nat.le_of_ble_eq_true rfl⟩ hl.1 (Nat.le_of_ble_eq_true rfl) ⟨Nat.zero_le _, Nat.zero_le _⟩ dX3_runOnNumbers_99 (fun r8 k8 H locs hq hw => ?_)
                exact kr_i (cu := fun u => ce_l cA cf ad u z0) S hr rfl hk hw hq dX3_runOnNumbers_102
              · replace hq := hq.2.2.2.2.2.2.2 h1_0 h1_1 h1_2 h1_3 h1_4 h1_5 h1_6
                refine kg_tab (tgt := 103) S dX3_runOnNumbers_1 (by
                    by_cases g1_0 : x2 = (2 : Int32)
                    · exact Or.inr ⟨by rw [g1_0]; decide, by rw [g1_0]; decide, by rw [g1_0]; rfl⟩
                    by_cases g1_1 : x2 = (3 : Int32)
                    · exact Or.inr ⟨by rw [g1_1]; decide, by rw [g1_1]; decide, by rw [g1_1]; rfl⟩
                    by_cases g1_2 : x2 = (4 : Int32)
                    · exact Or.inr ⟨by rw [g1_2]; decide, by rw [g1_2]; decide, by rw [g1_2]; rfl⟩
                    by_cases g1_3 : x2 = (5 : Int32)
                    · exact Or.inr ⟨by rw [g1_3]; decide, by rw [g1_3]; decide, by rw [g1_3]; rfl⟩
                    have a0 := i32_ne (n := 0) (by decide) h1_0
                    have a1 := i32_ne (n := 1) (by decide) h1_1
                    have a2 := i32_ne (n := 6) (by decide) h1_2
                    have a3 := i32_ne (n := 7) (by decide) h1_3
                    have a4 := i32_ne (n := 8) (by decide) h1_4
                    have a5 := i32_ne (n := 9) (by decide) h1_5
                    have a6 := i32_ne (n := 10) (by decide) h1_6
                    have b0 := i32_ne (n := 2) (by decide) g1_0
                    have b1 := i32_ne (n := 3) (by decide) g1_1
                    have b2 := i32_ne (n := 4) (by decide) g1_2
                    have b3 := i32_ne (n := 5) (by decide) g1_3
                    left; omega
                  ) rfl ?_
                refine lv_aload_n S.1 S.2.1 dX3_runOnNumbers_103 rfl (lv_at hl 0 rfl) ?_
                refine lv_aload_n S.1 S.2.1 dX3_runOnNumbers_104 rfl (lv_at hl 1 rfl) ?_
                refine lv_iload_n S.1 S.2.1 dX3_runOnNumbers_105 rfl (lv_at hl 2 rfl) ?_
                refine call_X3_compute S hw wl_X3_198 hn1 hq ⟨Nat.le_of_ble_eq_true rfl, Nat.le_of_ble_eq_true rfl⟩ hl.1 (Nat.le_of_ble_eq_true rfl) ⟨Nat.zero_le _, Nat.zero_le _⟩ dX3_runOnNumbers_106 (fun r9 k9 H locs hq hw => ?_)
                exact kr_i (cu := fun u => ce_l cA cf ad u z0) S hr rfl hk hw hq dX3_runOnNumbers_109
theorem c_X3_runOnNumbers (z0 k0 : ka_T) (n1 : Nat) (hn1 : n1 < cf 0) (x2 : Int32) (x3 : Int32) {post : Int32 → ka_T → Prop} (hq : q_X3_runOnNumbers cf post n1 x2 x3 k0) : Met l yX3_runOnNumbers wsX3_runOnNumbers rmX3_runOnNumbers (va_Pc [.ref (ad (0, 0)), .ref (ad (6, n1)), .int x2, .int x3] (Wx_ D cA cf ad A k0 z0)) (va_Qi post (fun u t => Wx_ D cA cf ad A u z0 t) A) 0 0 A :=
  kp_met (by decide +kernel) [.ref (ad (0, 0)), .ref (ad (6, n1)), .int x2, .int x3] (Nat.le_of_ble_eq_true rfl) (fun p e s m args below meth c ls S hr hk hw hl => b_X3_runOnNumbers_0 S hr hk n1 hn1 x2 x3 k0 _ _ _ hl hw hq)
theorem call_X3_runOnNumbers {z0 k0 : ka_T} {n1 : Nat} {x2 : Int32} {x3 : Int32} {post : Int32 → ka_T → Prop} (S : CallFix p m c cc nL s args lw_gd own) (hw : Wo_ D cA cf ad A k0 z0 s H locs) {index : Nat} (hl : Cond.methodLink own index yX3_runOnNumbers ∈ lw_gd) (hn1 : n1 < cf 0) (hq : q_X3_runOnNumbers cf post n1 x2 x3 k0) (hR : rmX3_runOnNumbers.frames + 1 ≤ R.frames ∧ 8 + (4 + 11) + rmX3_runOnNumbers.locals ≤ R.locals) (hls : ls.size = nL) (hro : (rest.map fun v => v.category).sum ≤ 8) (hcs : cells ≤ R.cells ∧ slots ≤ R.slots) (hd : decode cc pc = .ok (.invokevirtual index, 3)) (kk : ∀ (r : Int32) (u : ka_T) (H1 : Heap) (locs1 : List Loc), post r u → Wo_ D cA cf ad A u z0 s H1 locs1 → W p l e R s m args below meth c H1 locs1 cells slots Q (F0 m (pc + 3) ls (.int r :: rest))) : W p l e R s m args below meth c H locs cells slots Q (F0 m pc ls (.int x3 :: .int x2 :: .ref (ad (6, n1)) :: .ref (ad (0, 0)) :: rest)) :=
  kg_vi (cu := fun u => ce_l cA cf ad u z0) (As := [.ref (ad (6, n1)), .int x2, .int x3]) S hw (q := (0, 0)) (c_X3_runOnNumbers z0 k0 n1 hn1 x2 x3 hq) wc_X3_runOnNumbers wn_X3 hl wi_X3_runOnNumbers (C := RX3) (T := TX3) (N := 9) (ci := 3) (fs := fx_0 cf ad k0 0) wse_X3_runOnNumbers (km_0) rfl rfl (na := 3) (by decide +kernel) rfl rfl rfl hR hls rfl hro hcs hd kk
abbrev rmX3_runOnItself : Room := { frames := 3, cells := 0, slots := 0, locals := 64 }
set_option maxRecDepth 100000 in
set_option maxHeartbeats 4000000 in
theorem b_X3_runOnItself_0 {post : Int32 → ka_T → Prop} (S : CallFix p m c cX3_runOnItself 4 s args lw_gd RX3) (hr : meth.sig.returnType = some .int) (hk : meth.locks = false) : ∀ (n1 : Nat) (hn1 : n1 < cf 0) (x2 : Int32) (x3 : Int32) (k0 : ka_T) (H : Heap) (locs : List Loc) (ls : Array Slot), lv_has ls 4 [(0, .ref (ad (0, 0))), (1, .ref (ad (6, n1))), (2, .int x2), (3, .int x3)] → Wo_ D cA cf ad A k0 z0 s H locs → q_X3_runOnItself cf post n1 x2 x3 k0 → W p l e rmX3_runOnItself s m args below meth c H locs 0 0 (MQ below (va_Qi post (fun u t => Wx_ D cA cf ad A u z0 t) A) args s 0 0 A) (F0 m 0 ls []) := by
  intro n1 hn1 x2 x3 k0 H locs ls hl hw hq
  refine lv_iload_n S.1 S.2.1 dX3_runOnItself_0 rfl (lv_at hl 2 rfl) ?_
  by_cases h1_0 : x2 = (11 : Int32)
  · replace hq := hq.1 h1_0
    refine lv_tableIn (off := 39) (tgt := 40) S.1 S.2.1 dX3_runOnItself_1 (by rw [h1_0]; decide) (by rw [h1_0]; decide) (by rw [h1_0]; rfl) rfl ?_
    refine lv_aload_n S.1 S.2.1 dX3_runOnItself_40 rfl (lv_at hl 0 rfl) ?_
    refine lv_aload_n S.1 S.2.1 dX3_runOnItself_41 rfl (lv_at hl 1 rfl) ?_
    refine lv_iload_n S.1 S.2.1 dX3_runOnItself_42 rfl (lv_at hl 3 rfl) ?_
    refine call_X3_jump S hw wl_X3_202 hn1 hq ⟨Nat.le_of_ble_eq_true rfl, Nat.le_of_ble_eq_true rfl⟩ hl.1 (Nat.le_of_ble_eq_true rfl) ⟨Nat.zero_le _, Nat.zero_le _⟩ dX3_runOnItself_43 (fun r2 k2 H locs hq hw => ?_)
    exact kr_i (cu := fun u => ce_l cA cf ad u z0) S hr rfl hk hw hq dX3_runOnItself_46
  · by_cases h1_1 : x2 = (12 : Int32)
    · replace hq := hq.2.1 h1_1
      refine lv_tableIn (off := 46) (tgt := 47) S.1 S.2.1 dX3_runOnItself_1 (by rw [h1_1]; decide) (by rw [h1_1]; decide) (by rw [h1_1]; rfl) rfl ?_
      refine lv_aload_n S.1 S.2.1 dX3_runOnItself_47 rfl (lv_at hl 0 rfl) ?_
      refine lv_aload_n S.1 S.2.1 dX3_runOnItself_48 rfl (lv_at hl 1 rfl) ?_
      refine lv_iload_n S.1 S.2.1 dX3_runOnItself_49 rfl (lv_at hl 3 rfl) ?_
      refine call_X3_jumpIfZero S hw wl_X3_205 hn1 hq ⟨Nat.le_of_ble_eq_true rfl, Nat.le_of_ble_eq_true rfl⟩ hl.1 (Nat.le_of_ble_eq_true rfl) ⟨Nat.zero_le _, Nat.zero_le _⟩ dX3_runOnItself_50 (fun r3 k3 H locs hq hw => ?_)
      exact kr_i (cu := fun u => ce_l cA cf ad u z0) S hr rfl hk hw hq dX3_runOnItself_53
    · by_cases h1_2 : x2 = (13 : Int32)
      · replace hq := hq.2.2.1 h1_2
        refine lv_tableIn (off := 53) (tgt := 54) S.1 S.2.1 dX3_runOnItself_1 (by rw [h1_2]; decide) (by rw [h1_2]; decide) (by rw [h1_2]; rfl) rfl ?_
        refine lv_aload_n S.1 S.2.1 dX3_runOnItself_54 rfl (lv_at hl 0 rfl) ?_
        refine lv_aload_n S.1 S.2.1 dX3_runOnItself_55 rfl (lv_at hl 1 rfl) ?_
        refine lv_iload_n S.1 S.2.1 dX3_runOnItself_56 rfl (lv_at hl 3 rfl) ?_
        refine call_X3_callPlace S hw wl_X3_208 hn1 hq ⟨Nat.le_of_ble_eq_true rfl, Nat.le_of_ble_eq_true rfl⟩ hl.1 (Nat.le_of_ble_eq_true rfl) ⟨Nat.zero_le _, Nat.zero_le _⟩ dX3_runOnItself_57 (fun r4 k4 H locs hq hw => ?_)
        exact kr_i (cu := fun u => ce_l cA cf ad u z0) S hr rfl hk hw hq dX3_runOnItself_60
      · by_cases h1_3 : x2 = (14 : Int32)
        · replace hq := hq.2.2.2.1 h1_3
          refine lv_tableIn (off := 60) (tgt := 61) S.1 S.2.1 dX3_runOnItself_1 (by rw [h1_3]; decide) (by rw [h1_3]; decide) (by rw [h1_3]; rfl) rfl ?_
          refine lv_aload_n S.1 S.2.1 dX3_runOnItself_61 rfl (lv_at hl 0 rfl) ?_
          refine lv_aload_n S.1 S.2.1 dX3_runOnItself_62 rfl (lv_at hl 1 rfl) ?_
          refine call_X3_goBack S hw wl_X3_211 hn1 hq ⟨Nat.le_of_ble_eq_true rfl, Nat.le_of_ble_eq_true rfl⟩ hl.1 (Nat.le_of_ble_eq_true rfl) ⟨Nat.zero_le _, Nat.zero_le _⟩ dX3_runOnItself_63 (fun r5 k5 H locs hq hw => ?_)
          exact kr_i (cu := fun u => ce_l cA cf ad u z0) S hr rfl hk hw hq dX3_runOnItself_66
        · by_cases h1_4 : x2 = (15 : Int32)
          · replace hq := hq.2.2.2.2.1 h1_4
            refine lv_tableIn (off := 66) (tgt := 67) S.1 S.2.1 dX3_runOnItself_1 (by rw [h1_4]; decide) (by rw [h1_4]; decide) (by rw [h1_4]; rfl) rfl ?_
            refine lv_aload_n S.1 S.2.1 dX3_runOnItself_67 rfl (lv_at hl 0 rfl) ?_
            refine lv_aload_n S.1 S.2.1 dX3_runOnItself_68 rfl (lv_at hl 1 rfl) ?_
            refine call_X3_emit S hw wl_X3_214 hn1 hq ⟨Nat.le_of_ble_eq_true rfl, Nat.le_of_ble_eq_true rfl⟩ hl.1 (Nat.le_of_ble_eq_true rfl) ⟨Nat.zero_le _, Nat.zero_le _⟩ dX3_runOnItself_69 (fun r6 k6 H locs hq hw => ?_)
            exact kr_i (cu := fun u => ce_l cA cf ad u z0) S hr rfl hk hw hq dX3_runOnItself_72
          · by_cases h1_5 : x2 = (16 : Int32)
            · replace hq := hq.2.2.2.2.2.1 h1_5
              refine lv_tableIn (off := 72) (tgt := 73) S.1 S.2.1 dX3_runOnItself_1 (by rw [h1_5]; decide) (by rw [h1_5]; decide) (by rw [h1_5]; rfl) rfl ?_
              refine lv_aload_n S.1 S.2.1 dX3_runOnItself_73 rfl (lv_at hl 0 rfl) ?_
              refine lv_aload_n S.1 S.2.1 dX3_runOnItself_74 rfl (lv_at hl 1 rfl) ?_
              refine lv_iconst (v := (1 : Int32)) S.1 S.2.1 dX3_runOnItself_75 (by decide) ?_
              refine call_X3_enter S hw wl_X3_92 hn1 hq ⟨Nat.le_of_ble_eq_true rfl, Nat.le_of_ble_eq_true rfl⟩ hl.1 (Nat.le_of_ble_eq_true rfl) ⟨Nat.zero_le _, Nat.zero_le _⟩ dX3_runOnItself_76 (fun k7 H locs hq hw => ?_)
              refine lv_iconst (v := (0 : Int32)) S.1 S.2.1 dX3_runOnItself_79 (by decide) ?_
              exact kr_i (cu := fun u => ce_l cA cf ad u z0) S hr rfl hk hw hq dX3_runOnItself_80
            · replace hq := hq.2.2.2.2.2.2 h1_0 h1_1 h1_2 h1_3 h1_4 h1_5
              refine kg_tab (tgt := 81) S dX3_runOnItself_1 (by
                  have a0 := i32_ne (n := 11) (by decide) h1_0
                  have a1 := i32_ne (n := 12) (by decide) h1_1
                  have a2 := i32_ne (n := 13) (by decide) h1_2
                  have a3 := i32_ne (n := 14) (by decide) h1_3
                  have a4 := i32_ne (n := 15) (by decide) h1_4
                  have a5 := i32_ne (n := 16) (by decide) h1_5
                  left; omega
                ) rfl ?_
              refine lv_aload_n S.1 S.2.1 dX3_runOnItself_81 rfl (lv_at hl 1 rfl) ?_
              refine lv_iload_n S.1 S.2.1 dX3_runOnItself_82 rfl (lv_at hl 3 rfl) ?_
              refine lv_bipush (v := (7 : Int32)) S.1 S.2.1 dX3_runOnItself_83 (by decide) ?_
              refine lv_iand S.1 S.2.1 dX3_runOnItself_85 ?_
              refine pf_205 S hw hn1 wf_X3_105 dX3_runOnItself_86 (fun k8 H locs e8 hw => ?_)
              replace hq := hq _ e8
              refine lv_iconst (v := (0 : Int32)) S.1 S.2.1 dX3_runOnItself_89 (by decide) ?_
              exact kr_i (cu := fun u => ce_l cA cf ad u z0) S hr rfl hk hw hq dX3_runOnItself_90
theorem c_X3_runOnItself (z0 k0 : ka_T) (n1 : Nat) (hn1 : n1 < cf 0) (x2 : Int32) (x3 : Int32) {post : Int32 → ka_T → Prop} (hq : q_X3_runOnItself cf post n1 x2 x3 k0) : Met l yX3_runOnItself wsX3_runOnItself rmX3_runOnItself (va_Pc [.ref (ad (0, 0)), .ref (ad (6, n1)), .int x2, .int x3] (Wx_ D cA cf ad A k0 z0)) (va_Qi post (fun u t => Wx_ D cA cf ad A u z0 t) A) 0 0 A :=
  kp_met (by decide +kernel) [.ref (ad (0, 0)), .ref (ad (6, n1)), .int x2, .int x3] (Nat.le_of_ble_eq_true rfl) (fun p e s m args below meth c ls S hr hk hw hl => b_X3_runOnItself_0 S hr hk n1 hn1 x2 x3 k0 _ _ _ hl hw hq)
theorem call_X3_runOnItself {z0 k0 : ka_T} {n1 : Nat} {x2 : Int32} {x3 : Int32} {post : Int32 → ka_T → Prop} (S : CallFix p m c cc nL s args lw_gd own) (hw : Wo_ D cA cf ad A k0 z0 s H locs) {index : Nat} (hl : Cond.methodLink own index yX3_runOnItself ∈ lw_gd) (hn1 : n1 < cf 0) (hq : q_X3_runOnItself cf post n1 x2 x3 k0) (hR : rmX3_runOnItself.frames + 1 ≤ R.frames ∧ 8 + (4 + 11) + rmX3_runOnItself.locals ≤ R.locals) (hls : ls.size = nL) (hro : (rest.map fun v => v.category).sum ≤ 8) (hcs : cells ≤ R.cells ∧ slots ≤ R.slots) (hd : decode cc pc = .ok (.invokevirtual index, 3)) (kk : ∀ (r : Int32) (u : ka_T) (H1 : Heap) (locs1 : List Loc), post r u → Wo_ D cA cf ad A u z0 s H1 locs1 → W p l e R s m args below meth c H1 locs1 cells slots Q (F0 m (pc + 3) ls (.int r :: rest))) : W p l e R s m args below meth c H locs cells slots Q (F0 m pc ls (.int x3 :: .int x2 :: .ref (ad (6, n1)) :: .ref (ad (0, 0)) :: rest)) :=
  kg_vi (cu := fun u => ce_l cA cf ad u z0) (As := [.ref (ad (6, n1)), .int x2, .int x3]) S hw (q := (0, 0)) (c_X3_runOnItself z0 k0 n1 hn1 x2 x3 hq) wc_X3_runOnItself wn_X3 hl wi_X3_runOnItself (C := RX3) (T := TX3) (N := 9) (ci := 3) (fs := fx_0 cf ad k0 0) wse_X3_runOnItself (km_0) rfl rfl (na := 3) (by decide +kernel) rfl rfl rfl hR hls rfl hro hcs hd kk
abbrev rmX3_sleep : Room := { frames := 1, cells := 0, slots := 0, locals := 22 }
set_option maxRecDepth 100000 in
set_option maxHeartbeats 4000000 in
theorem b_X3_sleep_0 {post : Int32 → ka_T → Prop} (S : CallFix p m c cX3_sleep 3 s args lw_gd RX3) (hr : meth.sig.returnType = some .int) (hk : meth.locks = false) : ∀ (n1 : Nat) (hn1 : n1 < cf 0) (k0 : ka_T) (H : Heap) (locs : List Loc) (ls : Array Slot), lv_has ls 3 [(0, .ref (ad (0, 0))), (1, .ref (ad (6, n1)))] → Wo_ D cA cf ad A k0 z0 s H locs → q_X3_sleep cf post n1 k0 → W p l e rmX3_sleep s m args below meth c H locs 0 0 (MQ below (va_Qi post (fun u t => Wx_ D cA cf ad A u z0 t) A) args s 0 0 A) (F0 m 0 ls []) := by
  intro n1 hn1 k0 H locs ls hl hw hq
  refine lv_aload_n S.1 S.2.1 dX3_sleep_0 rfl (lv_at hl 1 rfl) ?_
  refine gf_201 S hw hn1 wf_X3_108 dX3_sleep_1 ?_
  refine gf_101 S hw (vl_n hn1) wf_X3_112 dX3_sleep_4 ?_
  refine lv_iconst (v := (1 : Int32)) S.1 S.2.1 dX3_sleep_7 (by decide) ?_
  refine lv_icmp_ge (tgt := 13) S.1 S.2.1 dX3_sleep_8 rfl (fun h1 => ?_) (fun h1 => ?_)
  · replace hq := hq.1 h1
    refine lv_aload_n S.1 S.2.1 dX3_sleep_13 rfl (lv_at hl 1 rfl) ?_
    refine gf_201 S hw hn1 wf_X3_108 dX3_sleep_14 ?_
    refine call_X1_pop S hw wl_X3_235 (vl_n hn1) hq ⟨Nat.le_of_ble_eq_true rfl, Nat.le_of_ble_eq_true rfl⟩ hl.1 (Nat.le_of_ble_eq_true rfl) ⟨Nat.zero_le _, Nat.zero_le _⟩ dX3_sleep_17 (fun r2 k2 H locs hq hw => ?_)
    refine lv_istore_n (lv' := [(2, .int r2), (0, .ref (ad (0, 0))), (1, .ref (ad (6, n1)))]) S.1 S.2.1 dX3_sleep_20 rfl hl (by decide) rfl (fun ls hl => ?_)
    refine lv_iload_n S.1 S.2.1 dX3_sleep_21 rfl (lv_at hl 0 rfl) ?_
    refine lv_if_le (tgt := 47) S.1 S.2.1 dX3_sleep_22 rfl (fun h3 => ?_) (fun h3 => ?_)
    · replace hq := hq.1 h3
      refine lv_iconst (v := (0 : Int32)) S.1 S.2.1 dX3_sleep_47 (by decide) ?_
      exact kr_i (cu := fun u => ce_l cA cf ad u z0) S hr rfl hk hw hq dX3_sleep_48
    · replace hq := hq.2 h3
      refine lv_aload_n S.1 S.2.1 dX3_sleep_25 rfl (lv_at hl 1 rfl) ?_
      refine lv_aload_n S.1 S.2.1 dX3_sleep_26 rfl (lv_at hl 2 rfl) ?_
      refine lv_iconst (v := (2 : Int32)) S.1 S.2.1 dX3_sleep_27 (by decide) ?_
      refine call_X3_enter S hw wl_X3_92 hn1 hq ⟨Nat.le_of_ble_eq_true rfl, Nat.le_of_ble_eq_true rfl⟩ hl.1 (Nat.le_of_ble_eq_true rfl) ⟨Nat.zero_le _, Nat.zero_le _⟩ dX3_sleep_28 (fun k4 H locs hq hw => ?_)
      refine lv_aload_n S.1 S.2.1 dX3_sleep_31 rfl (lv_at hl 2 rfl) ?_
      refine lv_aload_n S.1 S.2.1 dX3_sleep_32 rfl (lv_at hl 1 rfl) ?_
      refine gf_306 S hw wf_X3_23 dX3_sleep_33 ?_
      refine lv_iload_n S.1 S.2.1 dX3_sleep_36 rfl (lv_at hl 0 rfl) ?_
      refine lv_sipush (v := (1000 : Int32)) S.1 S.2.1 dX3_sleep_37 (by decide) ?_
      refine va_mmin S.1 S.2.1 (S.2.2.1.trans hl.1.symm) S.2.2.2.1 (S.2.2.2.2 _ wl_X3_156) (S.2.2.2.2 _ wst_math_min) (S.2.2.2.2 _ wn_math) (S.2.2.2.2 _ wc_math_min) (Nat.le_of_ble_eq_true rfl) (Nat.le_of_ble_eq_true rfl) (Nat.zero_le _) (Nat.zero_le _) dX3_sleep_40 ?_
      refine lv_iadd S.1 S.2.1 dX3_sleep_43 ?_
      refine pf_207 S hw hn1 wf_X3_120 dX3_sleep_44 (fun k5 H locs e5 hw => ?_)
      replace hq := hq _ e5
      refine lv_iconst (v := (0 : Int32)) S.1 S.2.1 dX3_sleep_47 (by decide) ?_
      exact kr_i (cu := fun u => ce_l cA cf ad u z0) S hr rfl hk hw hq dX3_sleep_48
  · replace hq := hq.2 h1
    refine lv_iconst (v := (1 : Int32)) S.1 S.2.1 dX3_sleep_11 (by decide) ?_
    exact kr_i (cu := fun u => ce_l cA cf ad u z0) S hr rfl hk hw hq dX3_sleep_12
theorem c_X3_sleep (z0 k0 : ka_T) (n1 : Nat) (hn1 : n1 < cf 0) {post : Int32 → ka_T → Prop} (hq : q_X3_sleep cf post n1 k0) : Met l yX3_sleep wsX3_sleep rmX3_sleep (va_Pc [.ref (ad (0, 0)), .ref (ad (6, n1))] (Wx_ D cA cf ad A k0 z0)) (va_Qi post (fun u t => Wx_ D cA cf ad A u z0 t) A) 0 0 A :=
  kp_met (by decide +kernel) [.ref (ad (0, 0)), .ref (ad (6, n1))] (Nat.le_of_ble_eq_true rfl) (fun p e s m args below meth c ls S hr hk hw hl => b_X3_sleep_0 S hr hk n1 hn1 k0 _ _ _ hl hw hq)
theorem call_X3_sleep {z0 k0 : ka_T} {n1 : Nat} {post : Int32 → ka_T → Prop} (S : CallFix p m c cc nL s args lw_gd own) (hw : Wo_ D cA cf ad A k0 z0 s H locs) {index : Nat} (hl : Cond.methodLink own index yX3_sleep ∈ lw_gd) (hn1 : n1 < cf 0) (hq : q_X3_sleep cf post n1 k0) (hR : rmX3_sleep.frames + 1 ≤ R.frames ∧ 8 + (3 + 11) + rmX3_sleep.locals ≤ R.locals) (hls : ls.size = nL) (hro : (rest.map fun v => v.category).sum ≤ 8) (hcs : cells ≤ R.cells ∧ slots ≤ R.slots) (hd : decode cc pc = .ok (.invokevirtual index, 3)) (kk : ∀ (r : Int32) (u : ka_T) (H1 : Heap) (locs1 : List Loc), post r u → Wo_ D cA cf ad A u z0 s H1 locs1 → W p l e R s m args below meth c H1 locs1 cells slots Q (F0 m (pc + 3) ls (.int r :: rest))) : W p l e R s m args below meth c H locs cells slots Q (F0 m pc ls (.ref (ad (6, n1)) :: .ref (ad (0, 0)) :: rest)) :=
  kg_vi (cu := fun u => ce_l cA cf ad u z0) (As := [.ref (ad (6, n1))]) S hw (q := (0, 0)) (c_X3_sleep z0 k0 n1 hn1 hq) wc_X3_sleep wn_X3 hl wi_X3_sleep (C := RX3) (T := TX3) (N := 9) (ci := 3) (fs := fx_0 cf ad k0 0) wse_X3_sleep (km_0) rfl rfl (na := 1) (by decide +kernel) rfl rfl rfl hR hls rfl hro hcs hd kk
abbrev rmX3_send : Room := { frames := 2, cells := 0, slots := 0, locals := 47 }
set_option maxRecDepth 100000 in
set_option maxHeartbeats 4000000 in
theorem b_X3_send_0 {post : Int32 → ka_T → Prop} (S : CallFix p m c cX3_send 5 s args lw_gd RX3) (hr : meth.sig.returnType = some .int) (hk : meth.locks = false) : ∀ (n1 : Nat) (hn1 : n1 < cf 0) (x2 : Int32) (k0 : ka_T) (H : Heap) (locs : List Loc) (ls : Array Slot), lv_has ls 5 [(0, .ref (ad (0, 0))), (1, .ref (ad (6, n1))), (2, .int x2)] → Wo_ D cA cf ad A k0 z0 s H locs → q_X3_send cf post n1 x2 k0 → W p l e rmX3_send s m args below meth c H locs 0 0 (MQ below (va_Qi post (fun u t => Wx_ D cA cf ad A u z0 t) A) args s 0 0 A) (F0 m 0 ls []) := by
  intro n1 hn1 x2 k0 H locs ls hl hw hq
  refine lv_aload_n S.1 S.2.1 dX3_send_0 rfl (lv_at hl 0 rfl) ?_
  refine lv_iload_n S.1 S.2.1 dX3_send_1 rfl (lv_at hl 2 rfl) ?_
  refine call_X3_isQueue S hw wl_X3_133 hq ⟨Nat.le_of_ble_eq_true rfl, Nat.le_of_ble_eq_true rfl⟩ hl.1 (Nat.le_of_ble_eq_true rfl) ⟨Nat.zero_le _, Nat.zero_le _⟩ dX3_send_2 (fun r1 k1 H locs hq hw => ?_)
  refine lv_if_ne (tgt := 11) S.1 S.2.1 dX3_send_5 rfl (fun h2 => ?_) (fun h2 => ?_)
  · replace hq := hq.1 h2
    refine lv_aload_n S.1 S.2.1 dX3_send_11 rfl (lv_at hl 1 rfl) ?_
    refine gf_201 S hw hn1 wf_X3_108 dX3_send_12 ?_
    refine gf_101 S hw (vl_n hn1) wf_X3_112 dX3_send_15 ?_
    refine lv_iconst (v := (1 : Int32)) S.1 S.2.1 dX3_send_18 (by decide) ?_
    refine lv_icmp_ge (tgt := 24) S.1 S.2.1 dX3_send_19 rfl (fun h3 => ?_) (fun h3 => ?_)
    · replace hq := hq.1 h3
      refine lv_aload_n S.1 S.2.1 dX3_send_24 rfl (lv_at hl 1 rfl) ?_
      refine gf_201 S hw hn1 wf_X3_108 dX3_send_25 ?_
      refine call_X1_pop S hw wl_X3_235 (vl_n hn1) hq ⟨Nat.le_of_ble_eq_true rfl, Nat.le_of_ble_eq_true rfl⟩ hl.1 (Nat.le_of_ble_eq_true rfl) ⟨Nat.zero_le _, Nat.zero_le _⟩ dX3_send_28 (fun r4 k4 H locs hq hw => ?_)
      refine lv_istore_n (lv' := [(3, .int r4), (0, .ref (ad (0, 0))), (1, .ref (ad (6, n1))), (2, .int x2)]) S.1 S.2.1 dX3_send_31 rfl hl (by decide) rfl (fun ls hl => ?_)
      refine lv_aload_n S.1 S.2.1 dX3_send_32 rfl (lv_at hl 1 rfl) ?_
      refine lv_iconst (v := (4 : Int32)) S.1 S.2.1 dX3_send_33 (by decide) ?_
      refine lv_iload_n S.1 S.2.1 dX3_send_34 rfl (lv_at hl 3 rfl) ?_
      refine call_X3_firstWaiting S hw wl_X3_241 hq ⟨Nat.le_of_ble_eq_true rfl, Nat.le_of_ble_eq_true rfl⟩ hl.1 (Nat.le_of_ble_eq_true rfl) ⟨Nat.zero_le _, Nat.zero_le _⟩ dX3_send_35 (fun k5 H locs hq hw => ?_) (fun t5 k5 H locs ht5 hq hw => ?_)
      · replace hq := hq.1 rfl
        refine lv_astoreN (lv' := [(4, .null), (3, .int r4), (0, .ref (ad (0, 0))), (1, .ref (ad (6, n1))), (2, .int x2)]) S.1 S.2.1 dX3_send_38 hl (by decide) rfl (fun ls hl => ?_)
        refine lv_aloadN S.1 S.2.1 dX3_send_40 (lv_at hl 0 rfl) ?_
        refine lv_ifnullN (tgt := 65) S.1 S.2.1 dX3_send_42 rfl ?_
        refine lv_aload_n S.1 S.2.1 dX3_send_65 rfl (lv_at hl 2 rfl) ?_
        refine gf_301 S hw wf_X3_48 dX3_send_66 ?_
        refine lv_iload_n S.1 S.2.1 dX3_send_69 rfl (lv_at hl 4 rfl) ?_
        obtain ⟨hi, hq⟩ := hq
        refine ar_2 S hw hi dX3_send_70 (fun t6 e6 ht6 => ?_)
        replace hq := hq _ e6 ht6
        refine lv_iload_n S.1 S.2.1 dX3_send_71 rfl (lv_at hl 1 rfl) ?_
        refine call_X0_addLast S hw wl_X3_245 ht6 hq ⟨Nat.le_of_ble_eq_true rfl, Nat.le_of_ble_eq_true rfl⟩ hl.1 (Nat.le_of_ble_eq_true rfl) ⟨Nat.zero_le _, Nat.zero_le _⟩ dX3_send_72 (fun r7 k7 H locs hq hw => ?_)
        refine lv_if_ne (tgt := 90) S.1 S.2.1 dX3_send_75 rfl (fun h8 => ?_) (fun h8 => ?_)
        · replace hq := hq.1 h8
          refine lv_iconst (v := (0 : Int32)) S.1 S.2.1 dX3_send_90 (by decide) ?_
          exact kr_i (cu := fun u => ce_l cA cf ad u z0) S hr rfl hk hw hq dX3_send_91
        · replace hq := hq.2 h8
          refine lv_aload_n S.1 S.2.1 dX3_send_78 rfl (lv_at hl 2 rfl) ?_
          refine lv_aload_n S.1 S.2.1 dX3_send_79 rfl (lv_at hl 3 rfl) ?_
          refine lv_iconst (v := (3 : Int32)) S.1 S.2.1 dX3_send_80 (by decide) ?_
          refine lv_iload_n S.1 S.2.1 dX3_send_81 rfl (lv_at hl 4 rfl) ?_
          refine call_X3_waitAt S hw wl_X3_248 hn1 hq ⟨Nat.le_of_ble_eq_true rfl, Nat.le_of_ble_eq_true rfl⟩ hl.1 (Nat.le_of_ble_eq_true rfl) ⟨Nat.zero_le _, Nat.zero_le _⟩ dX3_send_82 (fun k9 H locs hq hw => ?_)
          refine lv_aload_n S.1 S.2.1 dX3_send_85 rfl (lv_at hl 3 rfl) ?_
          refine lv_iload_n S.1 S.2.1 dX3_send_86 rfl (lv_at hl 1 rfl) ?_
          refine pf_209 S hw hn1 wf_X3_252 dX3_send_87 (fun k10 H locs e10 hw => ?_)
          replace hq := hq _ e10
          refine lv_iconst (v := (0 : Int32)) S.1 S.2.1 dX3_send_90 (by decide) ?_
          exact kr_i (cu := fun u => ce_l cA cf ad u z0) S hr rfl hk hw hq dX3_send_91
      · replace hq := hq.2 t5 rfl ht5
        refine lv_astore (lv' := [(4, .ref (ad (6, t5))), (3, .int r4), (0, .ref (ad (0, 0))), (1, .ref (ad (6, n1))), (2, .int x2)]) S.1 S.2.1 dX3_send_38 hl (by decide) rfl (fun ls hl => ?_)
        refine lv_aload S.1 S.2.1 dX3_send_40 (lv_at hl 0 rfl) ?_
        refine lv_ifnull S.1 S.2.1 dX3_send_42 ?_
        refine lv_aload S.1 S.2.1 dX3_send_45 (lv_at hl 0 rfl) ?_
        refine gf_201 S hw ht5 wf_X3_108 dX3_send_47 ?_
        refine lv_iload_n S.1 S.2.1 dX3_send_50 rfl (lv_at hl 1 rfl) ?_
        refine call_X1_push S hw wl_X3_238 (vl_n ht5) hq ⟨Nat.le_of_ble_eq_true rfl, Nat.le_of_ble_eq_true rfl⟩ hl.1 (Nat.le_of_ble_eq_true rfl) ⟨Nat.zero_le _, Nat.zero_le _⟩ dX3_send_51 (fun r11 k11 H locs hq hw => ?_)
        refine lv_pop S.1 S.2.1 dX3_send_54 rfl ?_
        refine lv_aload_n S.1 S.2.1 dX3_send_55 rfl (lv_at hl 2 rfl) ?_
        refine lv_aload S.1 S.2.1 dX3_send_56 (lv_at hl 0 rfl) ?_
        refine lv_iconst (v := (1 : Int32)) S.1 S.2.1 dX3_send_58 (by decide) ?_
        refine call_X3_enter S hw wl_X3_92 ht5 hq ⟨Nat.le_of_ble_eq_true rfl, Nat.le_of_ble_eq_true rfl⟩ hl.1 (Nat.le_of_ble_eq_true rfl) ⟨Nat.zero_le _, Nat.zero_le _⟩ dX3_send_59 (fun k12 H locs hq hw => ?_)
        refine lv_goto (tgt := 90) S.1 S.2.1 dX3_send_62 rfl ?_
        refine lv_iconst (v := (0 : Int32)) S.1 S.2.1 dX3_send_90 (by decide) ?_
        exact kr_i (cu := fun u => ce_l cA cf ad u z0) S hr rfl hk hw hq dX3_send_91
    · replace hq := hq.2 h3
      refine lv_iconst (v := (1 : Int32)) S.1 S.2.1 dX3_send_22 (by decide) ?_
      exact kr_i (cu := fun u => ce_l cA cf ad u z0) S hr rfl hk hw hq dX3_send_23
  · replace hq := hq.2 h2
    refine lv_bipush (v := (6 : Int32)) S.1 S.2.1 dX3_send_8 (by decide) ?_
    exact kr_i (cu := fun u => ce_l cA cf ad u z0) S hr rfl hk hw hq dX3_send_10
theorem c_X3_send (z0 k0 : ka_T) (n1 : Nat) (hn1 : n1 < cf 0) (x2 : Int32) {post : Int32 → ka_T → Prop} (hq : q_X3_send cf post n1 x2 k0) : Met l yX3_send wsX3_send rmX3_send (va_Pc [.ref (ad (0, 0)), .ref (ad (6, n1)), .int x2] (Wx_ D cA cf ad A k0 z0)) (va_Qi post (fun u t => Wx_ D cA cf ad A u z0 t) A) 0 0 A :=
  kp_met (by decide +kernel) [.ref (ad (0, 0)), .ref (ad (6, n1)), .int x2] (Nat.le_of_ble_eq_true rfl) (fun p e s m args below meth c ls S hr hk hw hl => b_X3_send_0 S hr hk n1 hn1 x2 k0 _ _ _ hl hw hq)
theorem call_X3_send {z0 k0 : ka_T} {n1 : Nat} {x2 : Int32} {post : Int32 → ka_T → Prop} (S : CallFix p m c cc nL s args lw_gd own) (hw : Wo_ D cA cf ad A k0 z0 s H locs) {index : Nat} (hl : Cond.methodLink own index yX3_send ∈ lw_gd) (hn1 : n1 < cf 0) (hq : q_X3_send cf post n1 x2 k0) (hR : rmX3_send.frames + 1 ≤ R.frames ∧ 8 + (5 + 11) + rmX3_send.locals ≤ R.locals) (hls : ls.size = nL) (hro : (rest.map fun v => v.category).sum ≤ 8) (hcs : cells ≤ R.cells ∧ slots ≤ R.slots) (hd : decode cc pc = .ok (.invokevirtual index, 3)) (kk : ∀ (r : Int32) (u : ka_T) (H1 : Heap) (locs1 : List Loc), post r u → Wo_ D cA cf ad A u z0 s H1 locs1 → W p l e R s m args below meth c H1 locs1 cells slots Q (F0 m (pc + 3) ls (.int r :: rest))) : W p l e R s m args below meth c H locs cells slots Q (F0 m pc ls (.int x2 :: .ref (ad (6, n1)) :: .ref (ad (0, 0)) :: rest)) :=
  kg_vi (cu := fun u => ce_l cA cf ad u z0) (As := [.ref (ad (6, n1)), .int x2]) S hw (q := (0, 0)) (c_X3_send z0 k0 n1 hn1 x2 hq) wc_X3_send wn_X3 hl wi_X3_send (C := RX3) (T := TX3) (N := 9) (ci := 3) (fs := fx_0 cf ad k0 0) wse_X3_send (km_0) rfl rfl (na := 2) (by decide +kernel) rfl rfl rfl hR hls rfl hro hcs hd kk
abbrev rmX3_runWithOthers : Room := { frames := 3, cells := 0, slots := 0, locals := 71 }
set_option maxRecDepth 100000 in
set_option maxHeartbeats 4000000 in
theorem b_X3_runWithOthers_0 {post : Int32 → ka_T → Prop} (S : CallFix p m c cX3_runWithOthers 4 s args lw_gd RX3) (hr : meth.sig.returnType = some .int) (hk : meth.locks = false) : ∀ (n1 : Nat) (hn1 : n1 < cf 0) (x2 : Int32) (x3 : Int32) (k0 : ka_T) (H : Heap) (locs : List Loc) (ls : Array Slot), lv_has ls 4 [(0, .ref (ad (0, 0))), (1, .ref (ad (6, n1))), (2, .int x2), (3, .int x3)] → Wo_ D cA cf ad A k0 z0 s H locs → q_X3_runWithOthers cf post n1 x2 x3 k0 → W p l e rmX3_runWithOthers s m args below meth c H locs 0 0 (MQ below (va_Qi post (fun u t => Wx_ D cA cf ad A u z0 t) A) args s 0 0 A) (F0 m 0 ls []) := by
  intro n1 hn1 x2 x3 k0 H locs ls hl hw hq
  refine lv_iload_n S.1 S.2.1 dX3_runWithOthers_0 rfl (lv_at hl 2 rfl) ?_
  by_cases h1_0 : x2 = (18 : Int32)
  · replace hq := hq.1 h1_0
    refine lv_tableIn (off := 47) (tgt := 48) S.1 S.2.1 dX3_runWithOthers_1 (by rw [h1_0]; decide) (by rw [h1_0]; decide) (by rw [h1_0]; rfl) rfl ?_
    refine lv_aload_n S.1 S.2.1 dX3_runWithOthers_48 rfl (lv_at hl 0 rfl) ?_
    refine lv_aload_n S.1 S.2.1 dX3_runWithOthers_49 rfl (lv_at hl 1 rfl) ?_
    refine lv_iload_n S.1 S.2.1 dX3_runWithOthers_50 rfl (lv_at hl 3 rfl) ?_
    refine call_X3_beginOther S hw wl_X3_217 hn1 hq ⟨Nat.le_of_ble_eq_true rfl, Nat.le_of_ble_eq_true rfl⟩ hl.1 (Nat.le_of_ble_eq_true rfl) ⟨Nat.zero_le _, Nat.zero_le _⟩ dX3_runWithOthers_51 (fun r2 k2 H locs hq hw => ?_)
    exact kr_i (cu := fun u => ce_l cA cf ad u z0) S hr rfl hk hw hq dX3_runWithOthers_54
  · by_cases h1_1 : x2 = (19 : Int32)
    · replace hq := hq.2.1 h1_1
      refine lv_tableIn (off := 54) (tgt := 55) S.1 S.2.1 dX3_runWithOthers_1 (by rw [h1_1]; decide) (by rw [h1_1]; decide) (by rw [h1_1]; rfl) rfl ?_
      refine lv_aload_n S.1 S.2.1 dX3_runWithOthers_55 rfl (lv_at hl 0 rfl) ?_
      refine lv_aload_n S.1 S.2.1 dX3_runWithOthers_56 rfl (lv_at hl 1 rfl) ?_
      refine lv_iload_n S.1 S.2.1 dX3_runWithOthers_57 rfl (lv_at hl 2 rfl) ?_
      refine call_X3_compute S hw wl_X3_198 hn1 hq ⟨Nat.le_of_ble_eq_true rfl, Nat.le_of_ble_eq_true rfl⟩ hl.1 (Nat.le_of_ble_eq_true rfl) ⟨Nat.zero_le _, Nat.zero_le _⟩ dX3_runWithOthers_58 (fun r3 k3 H locs hq hw => ?_)
      exact kr_i (cu := fun u => ce_l cA cf ad u z0) S hr rfl hk hw hq dX3_runWithOthers_61
    · by_cases h1_2 : x2 = (20 : Int32)
      · replace hq := hq.2.2.1 h1_2
        refine lv_tableIn (off := 61) (tgt := 62) S.1 S.2.1 dX3_runWithOthers_1 (by rw [h1_2]; decide) (by rw [h1_2]; decide) (by rw [h1_2]; rfl) rfl ?_
        refine lv_aload_n S.1 S.2.1 dX3_runWithOthers_62 rfl (lv_at hl 0 rfl) ?_
        refine lv_aload_n S.1 S.2.1 dX3_runWithOthers_63 rfl (lv_at hl 1 rfl) ?_
        refine call_X3_sleep S hw wl_X3_220 hn1 hq ⟨Nat.le_of_ble_eq_true rfl, Nat.le_of_ble_eq_true rfl⟩ hl.1 (Nat.le_of_ble_eq_true rfl) ⟨Nat.zero_le _, Nat.zero_le _⟩ dX3_runWithOthers_64 (fun r4 k4 H locs hq hw => ?_)
        exact kr_i (cu := fun u => ce_l cA cf ad u z0) S hr rfl hk hw hq dX3_runWithOthers_67
      · by_cases h1_3 : x2 = (21 : Int32)
        · replace hq := hq.2.2.2.1 h1_3
          refine lv_tableIn (off := 67) (tgt := 68) S.1 S.2.1 dX3_runWithOthers_1 (by rw [h1_3]; decide) (by rw [h1_3]; decide) (by rw [h1_3]; rfl) rfl ?_
          refine lv_aload_n S.1 S.2.1 dX3_runWithOthers_68 rfl (lv_at hl 0 rfl) ?_
          refine lv_aload_n S.1 S.2.1 dX3_runWithOthers_69 rfl (lv_at hl 1 rfl) ?_
          refine lv_iload_n S.1 S.2.1 dX3_runWithOthers_70 rfl (lv_at hl 3 rfl) ?_
          refine call_X3_send S hw wl_X3_223 hn1 hq ⟨Nat.le_of_ble_eq_true rfl, Nat.le_of_ble_eq_true rfl⟩ hl.1 (Nat.le_of_ble_eq_true rfl) ⟨Nat.zero_le _, Nat.zero_le _⟩ dX3_runWithOthers_71 (fun r5 k5 H locs hq hw => ?_)
          exact kr_i (cu := fun u => ce_l cA cf ad u z0) S hr rfl hk hw hq dX3_runWithOthers_74
        · by_cases h1_4 : x2 = (22 : Int32)
          · replace hq := hq.2.2.2.2.1 h1_4
            refine lv_tableIn (off := 74) (tgt := 75) S.1 S.2.1 dX3_runWithOthers_1 (by rw [h1_4]; decide) (by rw [h1_4]; decide) (by rw [h1_4]; rfl) rfl ?_
            refine lv_aload_n S.1 S.2.1 dX3_runWithOthers_75 rfl (lv_at hl 0 rfl) ?_
            refine lv_aload_n S.1 S.2.1 dX3_runWithOthers_76 rfl (lv_at hl 1 rfl) ?_
            refine lv_iload_n S.1 S.2.1 dX3_runWithOthers_77 rfl (lv_at hl 3 rfl) ?_
            refine call_X3_receive S hw wl_X3_226 hn1 hq ⟨Nat.le_of_ble_eq_true rfl, Nat.le_of_ble_eq_true rfl⟩ hl.1 (Nat.le_of_ble_eq_true rfl) ⟨Nat.zero_le _, Nat.zero_le _⟩ dX3_runWithOthers_78 (fun r6 k6 H locs hq hw => ?_)
            exact kr_i (cu := fun u => ce_l cA cf ad u z0) S hr rfl hk hw hq dX3_runWithOthers_81
          · by_cases h1_5 : x2 = (23 : Int32)
            · replace hq := hq.2.2.2.2.2.1 h1_5
              refine lv_tableIn (off := 81) (tgt := 82) S.1 S.2.1 dX3_runWithOthers_1 (by rw [h1_5]; decide) (by rw [h1_5]; decide) (by rw [h1_5]; rfl) rfl ?_
              refine lv_aload_n S.1 S.2.1 dX3_runWithOthers_82 rfl (lv_at hl 1 rfl) ?_
              refine lv_aload_n S.1 S.2.1 dX3_runWithOthers_83 rfl (lv_at hl 1 rfl) ?_
              refine gf_200 S hw hn1 wf_X3_229 dX3_runWithOthers_84 ?_
              refine call_X2_put S hw wl_X3_180 hn1 hq ⟨Nat.le_of_ble_eq_true rfl, Nat.le_of_ble_eq_true rfl⟩ hl.1 (Nat.le_of_ble_eq_true rfl) ⟨Nat.zero_le _, Nat.zero_le _⟩ dX3_runWithOthers_87 (fun r7 k7 H locs hq hw => ?_)
              exact kr_i (cu := fun u => ce_l cA cf ad u z0) S hr rfl hk hw hq dX3_runWithOthers_90
            · by_cases h1_6 : x2 = (24 : Int32)
              · replace hq := hq.2.2.2.2.2.2.1 h1_6
                refine lv_tableIn (off := 90) (tgt := 91) S.1 S.2.1 dX3_runWithOthers_1 (by rw [h1_6]; decide) (by rw [h1_6]; decide) (by rw [h1_6]; rfl) rfl ?_
                refine lv_aload_n S.1 S.2.1 dX3_runWithOthers_91 rfl (lv_at hl 1 rfl) ?_
                refine lv_aload_n S.1 S.2.1 dX3_runWithOthers_92 rfl (lv_at hl 0 rfl) ?_
                refine gf_306 S hw wf_X3_23 dX3_runWithOthers_93 ?_
                refine call_X2_put S hw wl_X3_180 hn1 hq ⟨Nat.le_of_ble_eq_true rfl, Nat.le_of_ble_eq_true rfl⟩ hl.1 (Nat.le_of_ble_eq_true rfl) ⟨Nat.zero_le _, Nat.zero_le _⟩ dX3_runWithOthers_96 (fun r8 k8 H locs hq hw => ?_)
                exact kr_i (cu := fun u => ce_l cA cf ad u z0) S hr rfl hk hw hq dX3_runWithOthers_99
              · by_cases h1_7 : x2 = (25 : Int32)
                · replace hq := hq.2.2.2.2.2.2.2.1 h1_7
                  refine lv_tableIn (off := 99) (tgt := 100) S.1 S.2.1 dX3_runWithOthers_1 (by rw [h1_7]; decide) (by rw [h1_7]; decide) (by rw [h1_7]; rfl) rfl ?_
                  refine lv_aload_n S.1 S.2.1 dX3_runWithOthers_100 rfl (lv_at hl 0 rfl) ?_
                  refine lv_aload_n S.1 S.2.1 dX3_runWithOthers_101 rfl (lv_at hl 1 rfl) ?_
                  refine call_X3_killOther S hw wl_X3_232 hn1 hq ⟨Nat.le_of_ble_eq_true rfl, Nat.le_of_ble_eq_true rfl⟩ hl.1 (Nat.le_of_ble_eq_true rfl) ⟨Nat.zero_le _, Nat.zero_le _⟩ dX3_runWithOthers_102 (fun r9 k9 H locs hq hw => ?_)
                  exact kr_i (cu := fun u => ce_l cA cf ad u z0) S hr rfl hk hw hq dX3_runWithOthers_105
                · replace hq := hq.2.2.2.2.2.2.2.2 h1_0 h1_1 h1_2 h1_3 h1_4 h1_5 h1_6 h1_7
                  refine kg_tab (tgt := 106) S dX3_runWithOthers_1 (by
                      have a0 := i32_ne (n := 18) (by decide) h1_0
                      have a1 := i32_ne (n := 19) (by decide) h1_1
                      have a2 := i32_ne (n := 20) (by decide) h1_2
                      have a3 := i32_ne (n := 21) (by decide) h1_3
                      have a4 := i32_ne (n := 22) (by decide) h1_4
                      have a5 := i32_ne (n := 23) (by decide) h1_5
                      have a6 := i32_ne (n := 24) (by decide) h1_6
                      have a7 := i32_ne (n := 25) (by decide) h1_7
                      left; omega
                    ) rfl ?_
                  refine lv_iconst (v := (4 : Int32)) S.1 S.2.1 dX3_runWithOthers_106 (by decide) ?_
                  exact kr_i (cu := fun u => ce_l cA cf ad u z0) S hr rfl hk hw hq dX3_runWithOthers_107
theorem c_X3_runWithOthers (z0 k0 : ka_T) (n1 : Nat) (hn1 : n1 < cf 0) (x2 : Int32) (x3 : Int32) {post : Int32 → ka_T → Prop} (hq : q_X3_runWithOthers cf post n1 x2 x3 k0) : Met l yX3_runWithOthers wsX3_runWithOthers rmX3_runWithOthers (va_Pc [.ref (ad (0, 0)), .ref (ad (6, n1)), .int x2, .int x3] (Wx_ D cA cf ad A k0 z0)) (va_Qi post (fun u t => Wx_ D cA cf ad A u z0 t) A) 0 0 A :=
  kp_met (by decide +kernel) [.ref (ad (0, 0)), .ref (ad (6, n1)), .int x2, .int x3] (Nat.le_of_ble_eq_true rfl) (fun p e s m args below meth c ls S hr hk hw hl => b_X3_runWithOthers_0 S hr hk n1 hn1 x2 x3 k0 _ _ _ hl hw hq)
theorem call_X3_runWithOthers {z0 k0 : ka_T} {n1 : Nat} {x2 : Int32} {x3 : Int32} {post : Int32 → ka_T → Prop} (S : CallFix p m c cc nL s args lw_gd own) (hw : Wo_ D cA cf ad A k0 z0 s H locs) {index : Nat} (hl : Cond.methodLink own index yX3_runWithOthers ∈ lw_gd) (hn1 : n1 < cf 0) (hq : q_X3_runWithOthers cf post n1 x2 x3 k0) (hR : rmX3_runWithOthers.frames + 1 ≤ R.frames ∧ 8 + (4 + 11) + rmX3_runWithOthers.locals ≤ R.locals) (hls : ls.size = nL) (hro : (rest.map fun v => v.category).sum ≤ 8) (hcs : cells ≤ R.cells ∧ slots ≤ R.slots) (hd : decode cc pc = .ok (.invokevirtual index, 3)) (kk : ∀ (r : Int32) (u : ka_T) (H1 : Heap) (locs1 : List Loc), post r u → Wo_ D cA cf ad A u z0 s H1 locs1 → W p l e R s m args below meth c H1 locs1 cells slots Q (F0 m (pc + 3) ls (.int r :: rest))) : W p l e R s m args below meth c H locs cells slots Q (F0 m pc ls (.int x3 :: .int x2 :: .ref (ad (6, n1)) :: .ref (ad (0, 0)) :: rest)) :=
  kg_vi (cu := fun u => ce_l cA cf ad u z0) (As := [.ref (ad (6, n1)), .int x2, .int x3]) S hw (q := (0, 0)) (c_X3_runWithOthers z0 k0 n1 hn1 x2 x3 hq) wc_X3_runWithOthers wn_X3 hl wi_X3_runWithOthers (C := RX3) (T := TX3) (N := 9) (ci := 3) (fs := fx_0 cf ad k0 0) wse_X3_runWithOthers (km_0) rfl rfl (na := 3) (by decide +kernel) rfl rfl rfl hR hls rfl hro hcs hd kk
abbrev rmX3_runWord : Room := { frames := 4, cells := 0, slots := 0, locals := 94 }
set_option maxRecDepth 100000 in
set_option maxHeartbeats 4000000 in
theorem b_X3_runWord_0 {post : Int32 → ka_T → Prop} (S : CallFix p m c cX3_runWord 5 s args lw_gd RX3) (hr : meth.sig.returnType = some .int) (hk : meth.locks = false) : ∀ (n1 : Nat) (hn1 : n1 < cf 0) (k0 : ka_T) (H : Heap) (locs : List Loc) (ls : Array Slot), lv_has ls 5 [(0, .ref (ad (0, 0))), (1, .ref (ad (6, n1)))] → Wo_ D cA cf ad A k0 z0 s H locs → q_X3_runWord cf post n1 k0 → W p l e rmX3_runWord s m args below meth c H locs 0 0 (MQ below (va_Qi post (fun u t => Wx_ D cA cf ad A u z0 t) A) args s 0 0 A) (F0 m 0 ls []) := by
  intro n1 hn1 k0 H locs ls hl hw hq
  refine lv_aload_n S.1 S.2.1 dX3_runWord_0 rfl (lv_at hl 1 rfl) ?_
  refine gf_204 S hw hn1 wf_X3_102 dX3_runWord_1 ?_
  refine lv_istore_n (lv' := [(2, .int (k0 204 n1 0)), (0, .ref (ad (0, 0))), (1, .ref (ad (6, n1)))]) S.1 S.2.1 dX3_runWord_4 rfl hl (by decide) rfl (fun ls hl => ?_)
  refine lv_iload_n S.1 S.2.1 dX3_runWord_5 rfl (lv_at hl 0 rfl) ?_
  refine call_X3_isCodePlace S hw wl_X3_55 hq ⟨Nat.le_of_ble_eq_true rfl, Nat.le_of_ble_eq_true rfl⟩ hl.1 (Nat.le_of_ble_eq_true rfl) ⟨Nat.zero_le _, Nat.zero_le _⟩ dX3_runWord_6 (fun r1 k1 H locs hq hw => ?_)
  refine lv_if_ne (tgt := 14) S.1 S.2.1 dX3_runWord_9 rfl (fun h2 => ?_) (fun h2 => ?_)
  · replace hq := hq.1 h2
    refine lv_aload_n S.1 S.2.1 dX3_runWord_14 rfl (lv_at hl 2 rfl) ?_
    refine lv_iload_n S.1 S.2.1 dX3_runWord_15 rfl (lv_at hl 0 rfl) ?_
    refine lv_iconst (v := (1 : Int32)) S.1 S.2.1 dX3_runWord_16 (by decide) ?_
    refine lv_iadd S.1 S.2.1 dX3_runWord_17 ?_
    refine pf_204 S hw hn1 wf_X3_102 dX3_runWord_18 (fun k3 H locs e3 hw => ?_)
    replace hq := hq _ e3
    refine lv_aload_n S.1 S.2.1 dX3_runWord_21 rfl (lv_at hl 1 rfl) ?_
    refine gf_302 S hw wf_X3_9 dX3_runWord_22 ?_
    refine lv_iload_n S.1 S.2.1 dX3_runWord_25 rfl (lv_at hl 0 rfl) ?_
    obtain ⟨hi, hq⟩ := hq
    refine al_3 S hw hi dX3_runWord_26 ?_
    refine lv_bipush (v := (31 : Int32)) S.1 S.2.1 dX3_runWord_27 (by decide) ?_
    refine lv_iand S.1 S.2.1 dX3_runWord_29 ?_
    refine lv_istore_n (lv' := [(3, .int ((k3 302 0 (k0 204 n1 0).toNatClampNeg) &&& (31 : Int32))), (2, .int (k0 204 n1 0)), (0, .ref (ad (0, 0))), (1, .ref (ad (6, n1)))]) S.1 S.2.1 dX3_runWord_30 rfl hl (by decide) rfl (fun ls hl => ?_)
    refine lv_aload_n S.1 S.2.1 dX3_runWord_31 rfl (lv_at hl 2 rfl) ?_
    refine gf_302 S hw wf_X3_9 dX3_runWord_32 ?_
    refine lv_iload_n S.1 S.2.1 dX3_runWord_35 rfl (lv_at hl 1 rfl) ?_
    obtain ⟨hi, hq⟩ := hq
    refine al_3 S hw hi dX3_runWord_36 ?_
    refine lv_iconst (v := (5 : Int32)) S.1 S.2.1 dX3_runWord_37 (by decide) ?_
    refine lv_ishr S.1 S.2.1 dX3_runWord_38 ?_
    refine lv_istore (lv' := [(4, .int ((k3 302 0 (k0 204 n1 0).toNatClampNeg) >>> ((5 : Int32) &&& 31))), (3, .int ((k3 302 0 (k0 204 n1 0).toNatClampNeg) &&& (31 : Int32))), (2, .int (k0 204 n1 0)), (0, .ref (ad (0, 0))), (1, .ref (ad (6, n1)))]) S.1 S.2.1 dX3_runWord_39 hl (by decide) rfl (fun ls hl => ?_)
    refine lv_iload_n S.1 S.2.1 dX3_runWord_41 rfl (lv_at hl 1 rfl) ?_
    refine lv_bipush (v := (10 : Int32)) S.1 S.2.1 dX3_runWord_42 (by decide) ?_
    refine lv_icmp_gt (tgt := 56) S.1 S.2.1 dX3_runWord_44 rfl (fun h4 => ?_) (fun h4 => ?_)
    · replace hq := hq.1 h4
      refine lv_iload_n S.1 S.2.1 dX3_runWord_56 rfl (lv_at hl 1 rfl) ?_
      refine lv_bipush (v := (17 : Int32)) S.1 S.2.1 dX3_runWord_57 (by decide) ?_
      refine lv_icmp_gt (tgt := 73) S.1 S.2.1 dX3_runWord_59 rfl (fun h5 => ?_) (fun h5 => ?_)
      · replace hq := hq.1 h5
        refine lv_aload_n S.1 S.2.1 dX3_runWord_73 rfl (lv_at hl 3 rfl) ?_
        refine lv_aload_n S.1 S.2.1 dX3_runWord_74 rfl (lv_at hl 4 rfl) ?_
        refine lv_iload_n S.1 S.2.1 dX3_runWord_75 rfl (lv_at hl 1 rfl) ?_
        refine lv_iload S.1 S.2.1 dX3_runWord_76 (lv_at hl 0 rfl) ?_
        refine call_X3_runWithOthers S hw wl_X3_177 hn1 hq ⟨Nat.le_of_ble_eq_true rfl, Nat.le_of_ble_eq_true rfl⟩ hl.1 (Nat.le_of_ble_eq_true rfl) ⟨Nat.zero_le _, Nat.zero_le _⟩ dX3_runWord_78 (fun r6 k6 H locs hq hw => ?_)
        exact kr_i (cu := fun u => ce_l cA cf ad u z0) S hr rfl hk hw hq dX3_runWord_81
      · replace hq := hq.2 h5
        refine lv_aload_n S.1 S.2.1 dX3_runWord_62 rfl (lv_at hl 3 rfl) ?_
        refine lv_aload_n S.1 S.2.1 dX3_runWord_63 rfl (lv_at hl 4 rfl) ?_
        refine lv_iload_n S.1 S.2.1 dX3_runWord_64 rfl (lv_at hl 1 rfl) ?_
        refine lv_iload S.1 S.2.1 dX3_runWord_65 (lv_at hl 0 rfl) ?_
        refine call_X3_runOnItself S hw wl_X3_174 hn1 hq ⟨Nat.le_of_ble_eq_true rfl, Nat.le_of_ble_eq_true rfl⟩ hl.1 (Nat.le_of_ble_eq_true rfl) ⟨Nat.zero_le _, Nat.zero_le _⟩ dX3_runWord_67 (fun r7 k7 H locs hq hw => ?_)
        refine lv_goto (tgt := 81) S.1 S.2.1 dX3_runWord_70 rfl ?_
        exact kr_i (cu := fun u => ce_l cA cf ad u z0) S hr rfl hk hw hq dX3_runWord_81
    · replace hq := hq.2 h4
      refine lv_aload_n S.1 S.2.1 dX3_runWord_47 rfl (lv_at hl 3 rfl) ?_
      refine lv_aload_n S.1 S.2.1 dX3_runWord_48 rfl (lv_at hl 4 rfl) ?_
      refine lv_iload_n S.1 S.2.1 dX3_runWord_49 rfl (lv_at hl 1 rfl) ?_
      refine lv_iload S.1 S.2.1 dX3_runWord_50 (lv_at hl 0 rfl) ?_
      refine call_X3_runOnNumbers S hw wl_X3_170 hn1 hq ⟨Nat.le_of_ble_eq_true rfl, Nat.le_of_ble_eq_true rfl⟩ hl.1 (Nat.le_of_ble_eq_true rfl) ⟨Nat.zero_le _, Nat.zero_le _⟩ dX3_runWord_52 (fun r8 k8 H locs hq hw => ?_)
      exact kr_i (cu := fun u => ce_l cA cf ad u z0) S hr rfl hk hw hq dX3_runWord_55
  · replace hq := hq.2 h2
    refine lv_iconst (v := (2 : Int32)) S.1 S.2.1 dX3_runWord_12 (by decide) ?_
    exact kr_i (cu := fun u => ce_l cA cf ad u z0) S hr rfl hk hw hq dX3_runWord_13
theorem c_X3_runWord (z0 k0 : ka_T) (n1 : Nat) (hn1 : n1 < cf 0) {post : Int32 → ka_T → Prop} (hq : q_X3_runWord cf post n1 k0) : Met l yX3_runWord wsX3_runWord rmX3_runWord (va_Pc [.ref (ad (0, 0)), .ref (ad (6, n1))] (Wx_ D cA cf ad A k0 z0)) (va_Qi post (fun u t => Wx_ D cA cf ad A u z0 t) A) 0 0 A :=
  kp_met (by decide +kernel) [.ref (ad (0, 0)), .ref (ad (6, n1))] (Nat.le_of_ble_eq_true rfl) (fun p e s m args below meth c ls S hr hk hw hl => b_X3_runWord_0 S hr hk n1 hn1 k0 _ _ _ hl hw hq)
theorem call_X3_runWord {z0 k0 : ka_T} {n1 : Nat} {post : Int32 → ka_T → Prop} (S : CallFix p m c cc nL s args lw_gd own) (hw : Wo_ D cA cf ad A k0 z0 s H locs) {index : Nat} (hl : Cond.methodLink own index yX3_runWord ∈ lw_gd) (hn1 : n1 < cf 0) (hq : q_X3_runWord cf post n1 k0) (hR : rmX3_runWord.frames + 1 ≤ R.frames ∧ 8 + (5 + 11) + rmX3_runWord.locals ≤ R.locals) (hls : ls.size = nL) (hro : (rest.map fun v => v.category).sum ≤ 8) (hcs : cells ≤ R.cells ∧ slots ≤ R.slots) (hd : decode cc pc = .ok (.invokevirtual index, 3)) (kk : ∀ (r : Int32) (u : ka_T) (H1 : Heap) (locs1 : List Loc), post r u → Wo_ D cA cf ad A u z0 s H1 locs1 → W p l e R s m args below meth c H1 locs1 cells slots Q (F0 m (pc + 3) ls (.int r :: rest))) : W p l e R s m args below meth c H locs cells slots Q (F0 m pc ls (.ref (ad (6, n1)) :: .ref (ad (0, 0)) :: rest)) :=
  kg_vi (cu := fun u => ce_l cA cf ad u z0) (As := [.ref (ad (6, n1))]) S hw (q := (0, 0)) (c_X3_runWord z0 k0 n1 hn1 hq) wc_X3_runWord wn_X3 hl wi_X3_runWord (C := RX3) (T := TX3) (N := 9) (ci := 3) (fs := fx_0 cf ad k0 0) wse_X3_runWord (km_0) rfl rfl (na := 1) (by decide +kernel) rfl rfl rfl hR hls rfl hro hcs hd kk
end KW
