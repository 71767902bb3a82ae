/-! printed by wip/whole/gen.py: the walks, contracts and calls of the methods -/
section KW
variable {p : Program} {l : Launch} {e : Env} {R : Room} {s : State} {m : MethodId} {args : Array Value} {below : List Frame} {meth : Method} {c : Code} {H : Heap} {locs : List Loc} {cells slots : Nat} {Q : State → Prop}
variable {cc : ByteArray} {nL pc : Nat} {ls : Array Slot} {rest : List Value} {own : String} {D : va_G} {A : Nat → Prop} {cA : Nat → ClassId} {cf : Nat → Nat} {ad : Nat × Nat → Nat} {z0 : ka_T}
abbrev rmX3_step : Room := { frames := 5, cells := 0, slots := 0, locals := 118 }
set_option maxRecDepth 100000 in
set_option maxHeartbeats 4000000 in
theorem b_X3_step_0 {post : Int32 → ka_T → Prop} (S : CallFix p m c cX3_step 4 s args lw_gd RX3) (hr : meth.sig.returnType = some .int) (hk : meth.locks = false) : ∀ (k0 : ka_T) (H : Heap) (locs : List Loc) (ls : Array Slot), lv_has ls 4 [(0, .ref (ad (0, 0)))] → Wo_ D cA cf ad A k0 z0 s H locs → q_X3_step cf post k0 → W p l e rmX3_step s m args below meth c H locs 0 0 (MQ below (va_Qi post (fun u t => Wx_ D cA cf ad A u z0 t) A) args s 0 0 A) (F0 m 0 ls []) := by
  intro k0 H locs ls hl hw hq
  refine lv_aload_n S.1 S.2.1 dX3_step_0 rfl (lv_at hl 0 rfl) ?_
  refine call_X3_next S hw wl_X3_63 hq ⟨Nat.le_of_ble_eq_true rfl, Nat.le_of_ble_eq_true rfl⟩ hl.1 (Nat.le_of_ble_eq_true rfl) ⟨Nat.zero_le _, Nat.zero_le _⟩ dX3_step_1 (fun r1 k1 H locs hq hw => ?_)
  refine lv_istore_n (lv' := [(1, .int r1), (0, .ref (ad (0, 0)))]) S.1 S.2.1 dX3_step_4 rfl hl (by decide) rfl (fun ls hl => ?_)
  refine lv_iload_n S.1 S.2.1 dX3_step_5 rfl (lv_at hl 0 rfl) ?_
  refine lv_if_ge (tgt := 11) S.1 S.2.1 dX3_step_6 rfl (fun h2 => ?_) (fun h2 => ?_)
  · replace hq := hq.1 h2
    refine lv_aload_n S.1 S.2.1 dX3_step_11 rfl (lv_at hl 1 rfl) ?_
    refine gf_300 S hw wf_X3_39 dX3_step_12 ?_
    refine lv_iload_n S.1 S.2.1 dX3_step_15 rfl (lv_at hl 0 rfl) ?_
    obtain ⟨hi, hq⟩ := hq
    refine ar_1 S hw hi dX3_step_16 (fun t3 e3 ht3 => ?_)
    replace hq := hq _ e3 ht3
    refine lv_astore_n (lv' := [(2, .ref (ad (6, t3))), (1, .int r1), (0, .ref (ad (0, 0)))]) S.1 S.2.1 dX3_step_17 rfl hl (by decide) rfl (fun ls hl => ?_)
    refine lv_aload_n S.1 S.2.1 dX3_step_18 rfl (lv_at hl 2 rfl) ?_
    refine lv_aload_n S.1 S.2.1 dX3_step_19 rfl (lv_at hl 0 rfl) ?_
    refine call_X3_runWord S hw wl_X3_67 ht3 hq ⟨Nat.le_of_ble_eq_true rfl, Nat.le_of_ble_eq_true rfl⟩ hl.1 (Nat.le_of_ble_eq_true rfl) ⟨Nat.zero_le _, Nat.zero_le _⟩ dX3_step_20 (fun r4 k4 H locs hq hw => ?_)
    refine lv_istore_n (lv' := [(3, .int r4), (2, .ref (ad (6, t3))), (1, .int r1), (0, .ref (ad (0, 0)))]) S.1 S.2.1 dX3_step_23 rfl hl (by decide) rfl (fun ls hl => ?_)
    refine lv_iload_n S.1 S.2.1 dX3_step_24 rfl (lv_at hl 0 rfl) ?_
    refine lv_if_ne (tgt := 41) S.1 S.2.1 dX3_step_25 rfl (fun h5 => ?_) (fun h5 => ?_)
    · replace hq := hq.1 h5
      refine lv_aload_n S.1 S.2.1 dX3_step_41 rfl (lv_at hl 1 rfl) ?_
      refine lv_iconst (v := (2 : Int32)) S.1 S.2.1 dX3_step_42 (by decide) ?_
      refine lv_iload_n S.1 S.2.1 dX3_step_43 rfl (lv_at hl 0 rfl) ?_
      refine lv_iadd S.1 S.2.1 dX3_step_44 ?_
      refine call_X3_end S hw wl_X3_78 ht3 hq ⟨Nat.le_of_ble_eq_true rfl, Nat.le_of_ble_eq_true rfl⟩ hl.1 (Nat.le_of_ble_eq_true rfl) ⟨Nat.zero_le _, Nat.zero_le _⟩ dX3_step_45 (fun k6 H locs hq hw => ?_)
      refine lv_bipush (v := (16 : Int32)) S.1 S.2.1 dX3_step_48 (by decide) ?_
      refine lv_iload_n S.1 S.2.1 dX3_step_50 rfl (lv_at hl 2 rfl) ?_
      refine lv_imul S.1 S.2.1 dX3_step_51 ?_
      refine lv_bipush (v := (8 : Int32)) S.1 S.2.1 dX3_step_52 (by decide) ?_
      refine lv_iadd S.1 S.2.1 dX3_step_54 ?_
      refine lv_iload_n S.1 S.2.1 dX3_step_55 rfl (lv_at hl 0 rfl) ?_
      refine lv_iadd S.1 S.2.1 dX3_step_56 ?_
      exact kr_i (cu := fun u => ce_l cA cf ad u z0) S hr rfl hk hw hq dX3_step_57
    · replace hq := hq.2 h5
      refine lv_bipush (v := (16 : Int32)) S.1 S.2.1 dX3_step_28 (by decide) ?_
      refine lv_iload_n S.1 S.2.1 dX3_step_30 rfl (lv_at hl 2 rfl) ?_
      refine lv_imul S.1 S.2.1 dX3_step_31 ?_
      refine lv_aload_n S.1 S.2.1 dX3_step_32 rfl (lv_at hl 1 rfl) ?_
      refine gf_203 S hw ht3 wf_X3_71 dX3_step_33 ?_
      refine call_X3_markOf S hw wl_X3_74 hq ⟨Nat.le_of_ble_eq_true rfl, Nat.le_of_ble_eq_true rfl⟩ hl.1 (Nat.le_of_ble_eq_true rfl) ⟨Nat.zero_le _, Nat.zero_le _⟩ dX3_step_36 (fun r7 k7 H locs hq hw => ?_)
      refine lv_iadd S.1 S.2.1 dX3_step_39 ?_
      exact kr_i (cu := fun u => ce_l cA cf ad u z0) S hr rfl hk hw hq dX3_step_40
  · replace hq := hq.2 h2
    refine lv_iconst (v := (-1 : Int32)) S.1 S.2.1 dX3_step_9 (by decide) ?_
    exact kr_i (cu := fun u => ce_l cA cf ad u z0) S hr rfl hk hw hq dX3_step_10
theorem c_X3_step (z0 k0 : ka_T) {post : Int32 → ka_T → Prop} (hq : q_X3_step cf post  k0) : Met l yX3_step wsX3_step rmX3_step (va_Pc [.ref (ad (0, 0))] (Wx_ D cA cf ad A k0 z0)) (va_Qi post (fun u t => Wx_ D cA cf ad A u z0 t) A) 0 0 A :=
  kp_met (by decide +kernel) [.ref (ad (0, 0))] (Nat.le_of_ble_eq_true rfl) (fun p e s m args below meth c ls S hr hk hw hl => b_X3_step_0 S hr hk  k0 _ _ _ hl hw hq)
theorem call_X3_step {z0 k0 : ka_T} {post : Int32 → ka_T → Prop} (S : CallFix p m c cc nL s args lw_gd own) (hw : Wo_ D cA cf ad A k0 z0 s H locs) {index : Nat} (hl : Cond.methodLink own index yX3_step ∈ lw_gd) (hq : q_X3_step cf post  k0) (hR : rmX3_step.frames + 1 ≤ R.frames ∧ 8 + (4 + 11) + rmX3_step.locals ≤ R.locals) (hls : ls.size = nL) (hro : (rest.map fun v => v.category).sum ≤ 8) (hcs : cells ≤ R.cells ∧ slots ≤ R.slots) (hd : decode cc pc = .ok (.invokevirtual index, 3)) (kk : ∀ (r : Int32) (u : ka_T) (H1 : Heap) (locs1 : List Loc), post r u → Wo_ D cA cf ad A u z0 s H1 locs1 → W p l e R s m args below meth c H1 locs1 cells slots Q (F0 m (pc + 3) ls (.int r :: rest))) : W p l e R s m args below meth c H locs cells slots Q (F0 m pc ls (.ref (ad (0, 0)) :: rest)) :=
  kg_vi (cu := fun u => ce_l cA cf ad u z0) (As := []) S hw (q := (0, 0)) (c_X3_step z0 k0  hq) wc_X3_step wn_X3 hl wi_X3_step (C := RX3) (T := TX3) (N := 9) (ci := 3) (fs := fx_0 cf ad k0 0) wse_X3_step (km_0) rfl rfl (na := 0) (by decide +kernel) rfl rfl rfl hR hls rfl hro hcs hd kk
abbrev rmX3_tellsAnEnd : Room := { frames := 0, cells := 0, slots := 0, locals := 0 }
set_option maxRecDepth 100000 in
set_option maxHeartbeats 4000000 in
theorem b_X3_tellsAnEnd_0 {post : Int32 → ka_T → Prop} (S : CallFix p m c cX3_tellsAnEnd 1 s args lw_gd RX3) (hr : meth.sig.returnType = some .boolean) (hk : meth.locks = false) : ∀ (x0 : Int32) (k0 : ka_T) (H : Heap) (locs : List Loc) (ls : Array Slot), lv_has ls 1 [(0, .int x0)] → Wo_ D cA cf ad A k0 z0 s H locs → q_X3_tellsAnEnd cf post x0 k0 → W p l e rmX3_tellsAnEnd s m args below meth c H locs 0 0 (MQ below (va_Qi post (fun u t => Wx_ D cA cf ad A u z0 t) A) args s 0 0 A) (F0 m 0 ls []) := by
  intro x0 k0 H locs ls hl hw hq
  refine lv_iload_n S.1 S.2.1 dX3_tellsAnEnd_0 rfl (lv_at hl 0 rfl) ?_
  refine lv_iconst (v := (1 : Int32)) S.1 S.2.1 dX3_tellsAnEnd_1 (by decide) ?_
  refine lv_icmp_eq (tgt := 11) S.1 S.2.1 dX3_tellsAnEnd_2 rfl (fun h1 => ?_) (fun h1 => ?_)
  · replace hq := hq.1 h1
    refine lv_iconst (v := (1 : Int32)) S.1 S.2.1 dX3_tellsAnEnd_11 (by decide) ?_
    refine lv_goto (tgt := 16) S.1 S.2.1 dX3_tellsAnEnd_12 rfl ?_
    exact kr_i (cu := fun u => ce_l cA cf ad u z0) S hr (by decide) hk hw hq dX3_tellsAnEnd_16
  · replace hq := hq.2 h1
    refine lv_iload_n S.1 S.2.1 dX3_tellsAnEnd_5 rfl (lv_at hl 0 rfl) ?_
    refine lv_bipush (v := (8 : Int32)) S.1 S.2.1 dX3_tellsAnEnd_6 (by decide) ?_
    refine lv_icmp_lt (tgt := 15) S.1 S.2.1 dX3_tellsAnEnd_8 rfl (fun h2 => ?_) (fun h2 => ?_)
    · replace hq := hq.1 h2
      refine lv_iconst (v := (0 : Int32)) S.1 S.2.1 dX3_tellsAnEnd_15 (by decide) ?_
      exact kr_i (cu := fun u => ce_l cA cf ad u z0) S hr (by decide) hk hw hq dX3_tellsAnEnd_16
    · replace hq := hq.2 h2
      refine lv_iconst (v := (1 : Int32)) S.1 S.2.1 dX3_tellsAnEnd_11 (by decide) ?_
      refine lv_goto (tgt := 16) S.1 S.2.1 dX3_tellsAnEnd_12 rfl ?_
      exact kr_i (cu := fun u => ce_l cA cf ad u z0) S hr (by decide) hk hw hq dX3_tellsAnEnd_16
theorem c_X3_tellsAnEnd (z0 k0 : ka_T) (x0 : Int32) {post : Int32 → ka_T → Prop} (hq : q_X3_tellsAnEnd cf post x0 k0) : Met l yX3_tellsAnEnd wsX3_tellsAnEnd rmX3_tellsAnEnd (va_Pc [.int x0] (Wx_ D cA cf ad A k0 z0)) (va_Qi post (fun u t => Wx_ D cA cf ad A u z0 t) A) 0 0 A :=
  kp_met (by decide +kernel) [.int x0] (Nat.le_of_ble_eq_true rfl) (fun p e s m args below meth c ls S hr hk hw hl => b_X3_tellsAnEnd_0 S hr hk x0 k0 _ _ _ hl hw hq)
theorem call_X3_tellsAnEnd {z0 k0 : ka_T} {x0 : Int32} {post : Int32 → ka_T → Prop} (S : CallFix p m c cc nL s args lw_gd own) (hw : Wo_ D cA cf ad A k0 z0 s H locs) {index : Nat} (hl : Cond.methodLink own index yX3_tellsAnEnd ∈ lw_gd) (hq : q_X3_tellsAnEnd cf post x0 k0) (hR : rmX3_tellsAnEnd.frames + 1 ≤ R.frames ∧ 8 + (1 + 11) + rmX3_tellsAnEnd.locals ≤ R.locals) (hls : ls.size = nL) (hro : (rest.map fun v => v.category).sum ≤ 8) (hcs : cells ≤ R.cells ∧ slots ≤ R.slots) (hd : decode cc pc = .ok (.invokestatic index, 3)) (kk : ∀ (r : Int32) (u : ka_T) (H1 : Heap) (locs1 : List Loc), post r u → Wo_ D cA cf ad A u z0 s H1 locs1 → W p l e R s m args below meth c H1 locs1 cells slots Q (F0 m (pc + 3) ls (.int r :: rest))) : W p l e R s m args below meth c H locs cells slots Q (F0 m pc ls (.int x0 :: rest)) :=
  kg_si (cu := fun u => ce_l cA cf ad u z0) (As := [.int x0]) S hw (c_X3_tellsAnEnd z0 k0 x0 hq) wc_X3_tellsAnEnd wn_X3 hl wst_X3_tellsAnEnd (na := 1) (by decide +kernel) rfl rfl rfl hR hls rfl hro hcs hd kk
abbrev rmX3_run : Room := { frames := 6, cells := 0, slots := 0, locals := 141 }
set_option maxRecDepth 100000 in
set_option maxHeartbeats 4000000 in
theorem b_X3_run_15 {post : Int32 → ka_T → Prop} (S : CallFix p m c cX3_run 4 s args lw_gd RX3) (hr : meth.sig.returnType = some .int) (hk : meth.locks = false) : ∀ nf : Nat, ∀ (x1 : Int32) (x2 : Int32) (k0 : ka_T) (H : Heap) (locs : List Loc) (ls : Array Slot), lv_has ls 4 [(0, .ref (ad (0, 0))), (1, .int x1), (2, .int x2)] → Wo_ D cA cf ad A k0 z0 s H locs → q_X3_run_15 cf post nf x1 x2 k0 → W p l e rmX3_run s m args below meth c H locs 0 0 (MQ below (va_Qi post (fun u t => Wx_ D cA cf ad A u z0 t) A) args s 0 0 A) (F0 m 15 ls []) := by
  intro nf
  induction nf with
  | zero =>
    intro x1 x2 k0 H locs ls hl hw hq
    exact False.elim hq
  | succ nf ih =>
    intro x1 x2 k0 H locs ls hl hw hq
    refine lv_iload_n S.1 S.2.1 dX3_run_15 rfl (lv_at hl 2 rfl) ?_
    refine lv_iload_n S.1 S.2.1 dX3_run_16 rfl (lv_at hl 1 rfl) ?_
    refine lv_icmp_ge (tgt := 51) S.1 S.2.1 dX3_run_17 rfl (fun h1 => ?_) (fun h1 => ?_)
    · replace hq := hq.1 h1
      refine lv_iload_n S.1 S.2.1 dX3_run_51 rfl (lv_at hl 1 rfl) ?_
      exact kr_i (cu := fun u => ce_l cA cf ad u z0) S hr rfl hk hw hq dX3_run_52
    · replace hq := hq.2 h1
      refine lv_aload_n S.1 S.2.1 dX3_run_20 rfl (lv_at hl 0 rfl) ?_
      refine call_X3_step S hw wl_X3_82 hq ⟨Nat.le_of_ble_eq_true rfl, Nat.le_of_ble_eq_true rfl⟩ hl.1 (Nat.le_of_ble_eq_true rfl) ⟨Nat.zero_le _, Nat.zero_le _⟩ dX3_run_21 (fun r2 k2 H locs hq hw => ?_)
      refine lv_istore_n (lv' := [(3, .int r2), (0, .ref (ad (0, 0))), (1, .int x1), (2, .int x2)]) S.1 S.2.1 dX3_run_24 rfl hl (by decide) rfl (fun ls hl => ?_)
      refine lv_iload_n S.1 S.2.1 dX3_run_25 rfl (lv_at hl 0 rfl) ?_
      refine lv_if_ge (tgt := 31) S.1 S.2.1 dX3_run_26 rfl (fun h3 => ?_) (fun h3 => ?_)
      · replace hq := hq.1 h3
        refine lv_iload_n S.1 S.2.1 dX3_run_31 rfl (lv_at hl 0 rfl) ?_
        refine lv_bipush (v := (16 : Int32)) S.1 S.2.1 dX3_run_32 (by decide) ?_
        refine lv_irem S.1 S.2.1 dX3_run_34 (by decide) ?_
        refine call_X3_tellsAnEnd S hw wl_X3_85 hq ⟨Nat.le_of_ble_eq_true rfl, Nat.le_of_ble_eq_true rfl⟩ hl.1 (Nat.le_of_ble_eq_true rfl) ⟨Nat.zero_le _, Nat.zero_le _⟩ dX3_run_35 (fun r4 k4 H locs hq hw => ?_)
        refine lv_if_eq (tgt := 45) S.1 S.2.1 dX3_run_38 rfl (fun h5 => ?_) (fun h5 => ?_)
        · replace hq := hq.1 h5
          refine lv_iinc (k := 3) (v := (x2 + 1)) (lv' := [(2, .int (x2 + 1)), (3, .int r2), (0, .ref (ad (0, 0))), (1, .int x1)]) S.1 S.2.1 dX3_run_45 hl rfl (ii_1 _) (by decide) rfl (fun ls hl => ?_)
          refine lv_goto (tgt := 15) S.1 S.2.1 dX3_run_48 rfl ?_
          exact ih x1 (x2 + 1) k4 _ _ _ (lv_sub hl [2, 3, 0] rfl) hw hq
        · replace hq := hq.2 h5
          refine lv_iload_n S.1 S.2.1 dX3_run_41 rfl (lv_at hl 3 rfl) ?_
          refine lv_iconst (v := (1 : Int32)) S.1 S.2.1 dX3_run_42 (by decide) ?_
          refine lv_iadd S.1 S.2.1 dX3_run_43 ?_
          exact kr_i (cu := fun u => ce_l cA cf ad u z0) S hr rfl hk hw hq dX3_run_44
      · replace hq := hq.2 h3
        refine lv_iload_n S.1 S.2.1 dX3_run_29 rfl (lv_at hl 3 rfl) ?_
        exact kr_i (cu := fun u => ce_l cA cf ad u z0) S hr rfl hk hw hq dX3_run_30
set_option maxRecDepth 100000 in
set_option maxHeartbeats 4000000 in
theorem b_X3_run_0 {post : Int32 → ka_T → Prop} (S : CallFix p m c cX3_run 4 s args lw_gd RX3) (hr : meth.sig.returnType = some .int) (hk : meth.locks = false) : ∀ (x1 : Int32) (k0 : ka_T) (H : Heap) (locs : List Loc) (ls : Array Slot), lv_has ls 4 [(0, .ref (ad (0, 0))), (1, .int x1)] → Wo_ D cA cf ad A k0 z0 s H locs → q_X3_run cf post x1 k0 → W p l e rmX3_run s m args below meth c H locs 0 0 (MQ below (va_Qi post (fun u t => Wx_ D cA cf ad A u z0 t) A) args s 0 0 A) (F0 m 0 ls []) := by
  intro x1 k0 H locs ls hl hw hq
  refine lv_iload_n S.1 S.2.1 dX3_run_0 rfl (lv_at hl 1 rfl) ?_
  refine lv_iconst (v := (1 : Int32)) S.1 S.2.1 dX3_run_1 (by decide) ?_
  refine lv_icmp_lt (tgt := 11) S.1 S.2.1 dX3_run_2 rfl (fun h6 => ?_) (fun h6 => ?_)
  · replace hq := hq.1 h6
    refine lv_iconst (v := (-1 : Int32)) S.1 S.2.1 dX3_run_11 (by decide) ?_
    exact kr_i (cu := fun u => ce_l cA cf ad u z0) S hr rfl hk hw hq dX3_run_12
  · replace hq := hq.2 h6
    refine lv_iload_n S.1 S.2.1 dX3_run_5 rfl (lv_at hl 1 rfl) ?_
    refine lv_bipush (v := (64 : Int32)) S.1 S.2.1 dX3_run_6 (by decide) ?_
    refine lv_icmp_le (tgt := 13) S.1 S.2.1 dX3_run_8 rfl (fun h7 => ?_) (fun h7 => ?_)
    · replace hq := hq.1 h7
      refine lv_iconst (v := (0 : Int32)) S.1 S.2.1 dX3_run_13 (by decide) ?_
      refine lv_istore_n (lv' := [(2, .int (0 : Int32)), (0, .ref (ad (0, 0))), (1, .int x1)]) S.1 S.2.1 dX3_run_14 rfl hl (by decide) rfl (fun ls hl => ?_)
      obtain ⟨nf9, hq⟩ := hq
      exact b_X3_run_15 S hr hk nf9 x1 (0 : Int32) k0 _ _ _ (lv_sub hl [1, 2, 0] rfl) hw hq
    · replace hq := hq.2 h7
      refine lv_iconst (v := (-1 : Int32)) S.1 S.2.1 dX3_run_11 (by decide) ?_
      exact kr_i (cu := fun u => ce_l cA cf ad u z0) S hr rfl hk hw hq dX3_run_12
theorem c_X3_run (z0 k0 : ka_T) (x1 : Int32) {post : Int32 → ka_T → Prop} (hq : q_X3_run cf post x1 k0) : Met l yX3_run wsX3_run rmX3_run (va_Pc [.ref (ad (0, 0)), .int x1] (Wx_ D cA cf ad A k0 z0)) (va_Qi post (fun u t => Wx_ D cA cf ad A u z0 t) A) 0 0 A :=
  kp_met (by decide +kernel) [.ref (ad (0, 0)), .int x1] (Nat.le_of_ble_eq_true rfl) (fun p e s m args below meth c ls S hr hk hw hl => b_X3_run_0 S hr hk x1 k0 _ _ _ hl hw hq)
theorem call_X3_run {z0 k0 : ka_T} {x1 : Int32} {post : Int32 → ka_T → Prop} (S : CallFix p m c cc nL s args lw_gd own) (hw : Wo_ D cA cf ad A k0 z0 s H locs) {index : Nat} (hl : Cond.methodLink own index yX3_run ∈ lw_gd) (hq : q_X3_run cf post x1 k0) (hR : rmX3_run.frames + 1 ≤ R.frames ∧ 8 + (4 + 11) + rmX3_run.locals ≤ R.locals) (hls : ls.size = nL) (hro : (rest.map fun v => v.category).sum ≤ 8) (hcs : cells ≤ R.cells ∧ slots ≤ R.slots) (hd : decode cc pc = .ok (.invokevirtual index, 3)) (kk : ∀ (r : Int32) (u : ka_T) (H1 : Heap) (locs1 : List Loc), post r u → Wo_ D cA cf ad A u z0 s H1 locs1 → W p l e R s m args below meth c H1 locs1 cells slots Q (F0 m (pc + 3) ls (.int r :: rest))) : W p l e R s m args below meth c H locs cells slots Q (F0 m pc ls (.int x1 :: .ref (ad (0, 0)) :: rest)) :=
  kg_vi (cu := fun u => ce_l cA cf ad u z0) (As := [.int x1]) S hw (q := (0, 0)) (c_X3_run z0 k0 x1 hq) wc_X3_run wn_X3 hl wi_X3_run (C := RX3) (T := TX3) (N := 9) (ci := 3) (fs := fx_0 cf ad k0 0) wse_X3_run (km_0) rfl rfl (na := 1) (by decide +kernel) rfl rfl rfl hR hls rfl hro hcs hd kk
abbrev rmX3_spawn : Room := { frames := 2, cells := 0, slots := 0, locals := 45 }
set_option maxRecDepth 100000 in
set_option maxHeartbeats 4000000 in
theorem b_X3_spawn_0 {post : Int32 → ka_T → Prop} (S : CallFix p m c cX3_spawn 4 s args lw_gd RX3) (hr : meth.sig.returnType = some .int) (hk : meth.locks = false) : ∀ (x1 : Int32) (x2 : Int32) (k0 : ka_T) (H : Heap) (locs : List Loc) (ls : Array Slot), lv_has ls 4 [(0, .ref (ad (0, 0))), (1, .int x1), (2, .int x2)] → Wo_ D cA cf ad A k0 z0 s H locs → q_X3_spawn cf post x1 x2 k0 → W p l e rmX3_spawn s m args below meth c H locs 0 0 (MQ below (va_Qi post (fun u t => Wx_ D cA cf ad A u z0 t) A) args s 0 0 A) (F0 m 0 ls []) := by
  intro x1 x2 k0 H locs ls hl hw hq
  refine lv_iload_n S.1 S.2.1 dX3_spawn_0 rfl (lv_at hl 1 rfl) ?_
  refine call_X3_isCodePlace S hw wl_X3_55 hq ⟨Nat.le_of_ble_eq_true rfl, Nat.le_of_ble_eq_true rfl⟩ hl.1 (Nat.le_of_ble_eq_true rfl) ⟨Nat.zero_le _, Nat.zero_le _⟩ dX3_spawn_1 (fun r1 k1 H locs hq hw => ?_)
  refine lv_if_eq (tgt := 17) S.1 S.2.1 dX3_spawn_4 rfl (fun h2 => ?_) (fun h2 => ?_)
  · replace hq := hq.1 h2
    refine lv_bipush (v := (-2 : Int32)) S.1 S.2.1 dX3_spawn_17 (by decide) ?_
    exact kr_i (cu := fun u => ce_l cA cf ad u z0) S hr rfl hk hw hq dX3_spawn_19
  · replace hq := hq.2 h2
    refine lv_iload_n S.1 S.2.1 dX3_spawn_7 rfl (lv_at hl 2 rfl) ?_
    refine lv_if_lt (tgt := 17) S.1 S.2.1 dX3_spawn_8 rfl (fun h3 => ?_) (fun h3 => ?_)
    · replace hq := hq.1 h3
      refine lv_bipush (v := (-2 : Int32)) S.1 S.2.1 dX3_spawn_17 (by decide) ?_
      exact kr_i (cu := fun u => ce_l cA cf ad u z0) S hr rfl hk hw hq dX3_spawn_19
    · replace hq := hq.2 h3
      refine lv_iload_n S.1 S.2.1 dX3_spawn_11 rfl (lv_at hl 2 rfl) ?_
      refine lv_bipush (v := (7 : Int32)) S.1 S.2.1 dX3_spawn_12 (by decide) ?_
      refine lv_icmp_le (tgt := 20) S.1 S.2.1 dX3_spawn_14 rfl (fun h4 => ?_) (fun h4 => ?_)
      · replace hq := hq.1 h4
        refine lv_aload_n S.1 S.2.1 dX3_spawn_20 rfl (lv_at hl 0 rfl) ?_
        refine lv_iload_n S.1 S.2.1 dX3_spawn_21 rfl (lv_at hl 1 rfl) ?_
        refine lv_iload_n S.1 S.2.1 dX3_spawn_22 rfl (lv_at hl 2 rfl) ?_
        refine call_X3_beginLeastFree S hw wl_X3_59 hq ⟨Nat.le_of_ble_eq_true rfl, Nat.le_of_ble_eq_true rfl⟩ hl.1 (Nat.le_of_ble_eq_true rfl) ⟨Nat.zero_le _, Nat.zero_le _⟩ dX3_spawn_23 (fun r5 k5 H locs hq hw => ?_)
        refine lv_istore_n (lv' := [(3, .int r5), (0, .ref (ad (0, 0))), (1, .int x1), (2, .int x2)]) S.1 S.2.1 dX3_spawn_26 rfl hl (by decide) rfl (fun ls hl => ?_)
        refine lv_iload_n S.1 S.2.1 dX3_spawn_27 rfl (lv_at hl 0 rfl) ?_
        refine lv_if_lt (tgt := 36) S.1 S.2.1 dX3_spawn_28 rfl (fun h6 => ?_) (fun h6 => ?_)
        · replace hq := hq.1 h6
          refine lv_iload_n S.1 S.2.1 dX3_spawn_36 rfl (lv_at hl 0 rfl) ?_
          exact kr_i (cu := fun u => ce_l cA cf ad u z0) S hr rfl hk hw hq dX3_spawn_37
        · replace hq := hq.2 h6
          refine lv_aload_n S.1 S.2.1 dX3_spawn_31 rfl (lv_at hl 1 rfl) ?_
          refine lv_iconst (v := (1 : Int32)) S.1 S.2.1 dX3_spawn_32 (by decide) ?_
          refine pf_308 S hw wf_X3_29 (by decide) (by decide) dX3_spawn_33 (fun k7 H locs e7 hw => ?_)
          replace hq := hq _ e7
          refine lv_iload_n S.1 S.2.1 dX3_spawn_36 rfl (lv_at hl 0 rfl) ?_
          exact kr_i (cu := fun u => ce_l cA cf ad u z0) S hr rfl hk hw hq dX3_spawn_37
      · replace hq := hq.2 h4
        refine lv_bipush (v := (-2 : Int32)) S.1 S.2.1 dX3_spawn_17 (by decide) ?_
        exact kr_i (cu := fun u => ce_l cA cf ad u z0) S hr rfl hk hw hq dX3_spawn_19
theorem c_X3_spawn (z0 k0 : ka_T) (x1 : Int32) (x2 : Int32) {post : Int32 → ka_T → Prop} (hq : q_X3_spawn cf post x1 x2 k0) : Met l yX3_spawn wsX3_spawn rmX3_spawn (va_Pc [.ref (ad (0, 0)), .int x1, .int x2] (Wx_ D cA cf ad A k0 z0)) (va_Qi post (fun u t => Wx_ D cA cf ad A u z0 t) A) 0 0 A :=
  kp_met (by decide +kernel) [.ref (ad (0, 0)), .int x1, .int x2] (Nat.le_of_ble_eq_true rfl) (fun p e s m args below meth c ls S hr hk hw hl => b_X3_spawn_0 S hr hk x1 x2 k0 _ _ _ hl hw hq)
theorem call_X3_spawn {z0 k0 : ka_T} {x1 : Int32} {x2 : Int32} {post : Int32 → ka_T → Prop} (S : CallFix p m c cc nL s args lw_gd own) (hw : Wo_ D cA cf ad A k0 z0 s H locs) {index : Nat} (hl : Cond.methodLink own index yX3_spawn ∈ lw_gd) (hq : q_X3_spawn cf post x1 x2 k0) (hR : rmX3_spawn.frames + 1 ≤ R.frames ∧ 8 + (4 + 11) + rmX3_spawn.locals ≤ R.locals) (hls : ls.size = nL) (hro : (rest.map fun v => v.category).sum ≤ 8) (hcs : cells ≤ R.cells ∧ slots ≤ R.slots) (hd : decode cc pc = .ok (.invokevirtual index, 3)) (kk : ∀ (r : Int32) (u : ka_T) (H1 : Heap) (locs1 : List Loc), post r u → Wo_ D cA cf ad A u z0 s H1 locs1 → W p l e R s m args below meth c H1 locs1 cells slots Q (F0 m (pc + 3) ls (.int r :: rest))) : W p l e R s m args below meth c H locs cells slots Q (F0 m pc ls (.int x2 :: .int x1 :: .ref (ad (0, 0)) :: rest)) :=
  kg_vi (cu := fun u => ce_l cA cf ad u z0) (As := [.int x1, .int x2]) S hw (q := (0, 0)) (c_X3_spawn z0 k0 x1 x2 hq) wc_X3_spawn wn_X3 hl wi_X3_spawn (C := RX3) (T := TX3) (N := 9) (ci := 3) (fs := fx_0 cf ad k0 0) wse_X3_spawn (km_0) rfl rfl (na := 2) (by decide +kernel) rfl rfl rfl hR hls rfl hro hcs hd kk
abbrev rmX3_stack : Room := { frames := 2, cells := 0, slots := 0, locals := 42 }
set_option maxRecDepth 100000 in
set_option maxHeartbeats 4000000 in
theorem b_X3_stack_0 {post : Int32 → ka_T → Prop} (S : CallFix p m c cX3_stack 3 s args lw_gd RX3) (hr : meth.sig.returnType = some .int) (hk : meth.locks = false) : ∀ (x1 : Int32) (x2 : Int32) (k0 : ka_T) (H : Heap) (locs : List Loc) (ls : Array Slot), lv_has ls 3 [(0, .ref (ad (0, 0))), (1, .int x1), (2, .int x2)] → Wo_ D cA cf ad A k0 z0 s H locs → q_X3_stack cf post x1 x2 k0 → W p l e rmX3_stack s m args below meth c H locs 0 0 (MQ below (va_Qi post (fun u t => Wx_ D cA cf ad A u z0 t) A) args s 0 0 A) (F0 m 0 ls []) := by
  intro x1 x2 k0 H locs ls hl hw hq
  refine lv_aload_n S.1 S.2.1 dX3_stack_0 rfl (lv_at hl 0 rfl) ?_
  refine lv_iload_n S.1 S.2.1 dX3_stack_1 rfl (lv_at hl 1 rfl) ?_
  refine call_X3_isLive S hw wl_X3_95 hq ⟨Nat.le_of_ble_eq_true rfl, Nat.le_of_ble_eq_true rfl⟩ hl.1 (Nat.le_of_ble_eq_true rfl) ⟨Nat.zero_le _, Nat.zero_le _⟩ dX3_stack_2 (fun r1 k1 H locs hq hw => ?_)
  refine lv_if_eq (tgt := 24) S.1 S.2.1 dX3_stack_5 rfl (fun h2 => ?_) (fun h2 => ?_)
  · replace hq := hq.1 h2
    refine lv_ldc S.1 S.2.1 S.2.2.2.1 (S.2.2.2.2 _ wv_X3_101) dX3_stack_24 ?_
    exact kr_i (cu := fun u => ce_l cA cf ad u z0) S hr rfl hk hw hq dX3_stack_26
  · replace hq := hq.2 h2
    refine lv_aload_n S.1 S.2.1 dX3_stack_8 rfl (lv_at hl 0 rfl) ?_
    refine gf_300 S hw wf_X3_39 dX3_stack_9 ?_
    refine lv_iload_n S.1 S.2.1 dX3_stack_12 rfl (lv_at hl 1 rfl) ?_
    obtain ⟨hi, hq⟩ := hq
    refine ar_1 S hw hi dX3_stack_13 (fun t3 e3 ht3 => ?_)
    replace hq := hq _ e3 ht3
    refine gf_201 S hw ht3 wf_X3_108 dX3_stack_14 ?_
    refine lv_iload_n S.1 S.2.1 dX3_stack_17 rfl (lv_at hl 2 rfl) ?_
    refine call_X1_fromTop S hw wl_X3_126 (vl_n ht3) hq ⟨Nat.le_of_ble_eq_true rfl, Nat.le_of_ble_eq_true rfl⟩ hl.1 (Nat.le_of_ble_eq_true rfl) ⟨Nat.zero_le _, Nat.zero_le _⟩ dX3_stack_18 (fun r4 k4 H locs hq hw => ?_)
    refine lv_goto (tgt := 26) S.1 S.2.1 dX3_stack_21 rfl ?_
    exact kr_i (cu := fun u => ce_l cA cf ad u z0) S hr rfl hk hw hq dX3_stack_26
theorem c_X3_stack (z0 k0 : ka_T) (x1 : Int32) (x2 : Int32) {post : Int32 → ka_T → Prop} (hq : q_X3_stack cf post x1 x2 k0) : Met l yX3_stack wsX3_stack rmX3_stack (va_Pc [.ref (ad (0, 0)), .int x1, .int x2] (Wx_ D cA cf ad A k0 z0)) (va_Qi post (fun u t => Wx_ D cA cf ad A u z0 t) A) 0 0 A :=
  kp_met (by decide +kernel) [.ref (ad (0, 0)), .int x1, .int x2] (Nat.le_of_ble_eq_true rfl) (fun p e s m args below meth c ls S hr hk hw hl => b_X3_stack_0 S hr hk x1 x2 k0 _ _ _ hl hw hq)
theorem call_X3_stack {z0 k0 : ka_T} {x1 : Int32} {x2 : Int32} {post : Int32 → ka_T → Prop} (S : CallFix p m c cc nL s args lw_gd own) (hw : Wo_ D cA cf ad A k0 z0 s H locs) {index : Nat} (hl : Cond.methodLink own index yX3_stack ∈ lw_gd) (hq : q_X3_stack cf post x1 x2 k0) (hR : rmX3_stack.frames + 1 ≤ R.frames ∧ 8 + (3 + 11) + rmX3_stack.locals ≤ R.locals) (hls : ls.size = nL) (hro : (rest.map fun v => v.category).sum ≤ 8) (hcs : cells ≤ R.cells ∧ slots ≤ R.slots) (hd : decode cc pc = .ok (.invokevirtual index, 3)) (kk : ∀ (r : Int32) (u : ka_T) (H1 : Heap) (locs1 : List Loc), post r u → Wo_ D cA cf ad A u z0 s H1 locs1 → W p l e R s m args below meth c H1 locs1 cells slots Q (F0 m (pc + 3) ls (.int r :: rest))) : W p l e R s m args below meth c H locs cells slots Q (F0 m pc ls (.int x2 :: .int x1 :: .ref (ad (0, 0)) :: rest)) :=
  kg_vi (cu := fun u => ce_l cA cf ad u z0) (As := [.int x1, .int x2]) S hw (q := (0, 0)) (c_X3_stack z0 k0 x1 x2 hq) wc_X3_stack wn_X3 hl wi_X3_stack (C := RX3) (T := TX3) (N := 9) (ci := 3) (fs := fx_0 cf ad k0 0) wse_X3_stack (km_0) rfl rfl (na := 2) (by decide +kernel) rfl rfl rfl hR hls rfl hro hcs hd kk
abbrev rmX3_state : Room := { frames := 1, cells := 0, slots := 0, locals := 21 }
set_option maxRecDepth 100000 in
set_option maxHeartbeats 4000000 in
theorem b_X3_state_0 {post : Int32 → ka_T → Prop} (S : CallFix p m c cX3_state 2 s args lw_gd RX3) (hr : meth.sig.returnType = some .int) (hk : meth.locks = false) : ∀ (x1 : Int32) (k0 : ka_T) (H : Heap) (locs : List Loc) (ls : Array Slot), lv_has ls 2 [(0, .ref (ad (0, 0))), (1, .int x1)] → Wo_ D cA cf ad A k0 z0 s H locs → q_X3_state cf post x1 k0 → W p l e rmX3_state s m args below meth c H locs 0 0 (MQ below (va_Qi post (fun u t => Wx_ D cA cf ad A u z0 t) A) args s 0 0 A) (F0 m 0 ls []) := by
  intro x1 k0 H locs ls hl hw hq
  refine lv_aload_n S.1 S.2.1 dX3_state_0 rfl (lv_at hl 0 rfl) ?_
  refine lv_iload_n S.1 S.2.1 dX3_state_1 rfl (lv_at hl 1 rfl) ?_
  refine call_X3_isTask S hw wl_X3_98 hq ⟨Nat.le_of_ble_eq_true rfl, Nat.le_of_ble_eq_true rfl⟩ hl.1 (Nat.le_of_ble_eq_true rfl) ⟨Nat.zero_le _, Nat.zero_le _⟩ dX3_state_2 (fun r1 k1 H locs hq hw => ?_)
  refine lv_if_eq (tgt := 20) S.1 S.2.1 dX3_state_5 rfl (fun h2 => ?_) (fun h2 => ?_)
  · replace hq := hq.1 h2
    refine lv_iconst (v := (-1 : Int32)) S.1 S.2.1 dX3_state_20 (by decide) ?_
    exact kr_i (cu := fun u => ce_l cA cf ad u z0) S hr rfl hk hw hq dX3_state_21
  · replace hq := hq.2 h2
    refine lv_aload_n S.1 S.2.1 dX3_state_8 rfl (lv_at hl 0 rfl) ?_
    refine gf_300 S hw wf_X3_39 dX3_state_9 ?_
    refine lv_iload_n S.1 S.2.1 dX3_state_12 rfl (lv_at hl 1 rfl) ?_
    obtain ⟨hi, hq⟩ := hq
    refine ar_1 S hw hi dX3_state_13 (fun t3 e3 ht3 => ?_)
    replace hq := hq _ e3 ht3
    refine gf_203 S hw ht3 wf_X3_71 dX3_state_14 ?_
    refine lv_goto (tgt := 21) S.1 S.2.1 dX3_state_17 rfl ?_
    exact kr_i (cu := fun u => ce_l cA cf ad u z0) S hr rfl hk hw hq dX3_state_21
theorem c_X3_state (z0 k0 : ka_T) (x1 : Int32) {post : Int32 → ka_T → Prop} (hq : q_X3_state cf post x1 k0) : Met l yX3_state wsX3_state rmX3_state (va_Pc [.ref (ad (0, 0)), .int x1] (Wx_ D cA cf ad A k0 z0)) (va_Qi post (fun u t => Wx_ D cA cf ad A u z0 t) A) 0 0 A :=
  kp_met (by decide +kernel) [.ref (ad (0, 0)), .int x1] (Nat.le_of_ble_eq_true rfl) (fun p e s m args below meth c ls S hr hk hw hl => b_X3_state_0 S hr hk x1 k0 _ _ _ hl hw hq)
theorem call_X3_state {z0 k0 : ka_T} {x1 : Int32} {post : Int32 → ka_T → Prop} (S : CallFix p m c cc nL s args lw_gd own) (hw : Wo_ D cA cf ad A k0 z0 s H locs) {index : Nat} (hl : Cond.methodLink own index yX3_state ∈ lw_gd) (hq : q_X3_state cf post x1 k0) (hR : rmX3_state.frames + 1 ≤ R.frames ∧ 8 + (2 + 11) + rmX3_state.locals ≤ R.locals) (hls : ls.size = nL) (hro : (rest.map fun v => v.category).sum ≤ 8) (hcs : cells ≤ R.cells ∧ slots ≤ R.slots) (hd : decode cc pc = .ok (.invokevirtual index, 3)) (kk : ∀ (r : Int32) (u : ka_T) (H1 : Heap) (locs1 : List Loc), post r u → Wo_ D cA cf ad A u z0 s H1 locs1 → W p l e R s m args below meth c H1 locs1 cells slots Q (F0 m (pc + 3) ls (.int r :: rest))) : W p l e R s m args below meth c H locs cells slots Q (F0 m pc ls (.int x1 :: .ref (ad (0, 0)) :: rest)) :=
  kg_vi (cu := fun u => ce_l cA cf ad u z0) (As := [.int x1]) S hw (q := (0, 0)) (c_X3_state z0 k0 x1 hq) wc_X3_state wn_X3 hl wi_X3_state (C := RX3) (T := TX3) (N := 9) (ci := 3) (fs := fx_0 cf ad k0 0) wse_X3_state (km_0) rfl rfl (na := 1) (by decide +kernel) rfl rfl rfl hR hls rfl hro hcs hd kk
abbrev rmX3_task : Room := { frames := 2, cells := 0, slots := 0, locals := 42 }
set_option maxRecDepth 100000 in
set_option maxHeartbeats 4000000 in
theorem b_X3_task_0 {post : Int32 → ka_T → Prop} (S : CallFix p m c cX3_task 4 s args lw_gd RX3) (hr : meth.sig.returnType = some .int) (hk : meth.locks = false) : ∀ (x1 : Int32) (x2 : Int32) (k0 : ka_T) (H : Heap) (locs : List Loc) (ls : Array Slot), lv_has ls 4 [(0, .ref (ad (0, 0))), (1, .int x1), (2, .int x2)] → Wo_ D cA cf ad A k0 z0 s H locs → q_X3_task cf post x1 x2 k0 → W p l e rmX3_task s m args below meth c H locs 0 0 (MQ below (va_Qi post (fun u t => Wx_ D cA cf ad A u z0 t) A) args s 0 0 A) (F0 m 0 ls []) := by
  intro x1 x2 k0 H locs ls hl hw hq
  refine lv_aload_n S.1 S.2.1 dX3_task_0 rfl (lv_at hl 0 rfl) ?_
  refine lv_iload_n S.1 S.2.1 dX3_task_1 rfl (lv_at hl 1 rfl) ?_
  refine call_X3_isLive S hw wl_X3_95 hq ⟨Nat.le_of_ble_eq_true rfl, Nat.le_of_ble_eq_true rfl⟩ hl.1 (Nat.le_of_ble_eq_true rfl) ⟨Nat.zero_le _, Nat.zero_le _⟩ dX3_task_2 (fun r1 k1 H locs hq hw => ?_)
  refine lv_if_ne (tgt := 11) S.1 S.2.1 dX3_task_5 rfl (fun h2 => ?_) (fun h2 => ?_)
  · replace hq := hq.1 h2
    refine lv_aload_n S.1 S.2.1 dX3_task_11 rfl (lv_at hl 0 rfl) ?_
    refine gf_300 S hw wf_X3_39 dX3_task_12 ?_
    refine lv_iload_n S.1 S.2.1 dX3_task_15 rfl (lv_at hl 1 rfl) ?_
    obtain ⟨hi, hq⟩ := hq
    refine ar_1 S hw hi dX3_task_16 (fun t3 e3 ht3 => ?_)
    replace hq := hq _ e3 ht3
    refine lv_astore_n (lv' := [(3, .ref (ad (6, t3))), (0, .ref (ad (0, 0))), (1, .int x1), (2, .int x2)]) S.1 S.2.1 dX3_task_17 rfl hl (by decide) rfl (fun ls hl => ?_)
    refine lv_iload_n S.1 S.2.1 dX3_task_18 rfl (lv_at hl 3 rfl) ?_
    by_cases h4_0 : x2 = (0 : Int32)
    · replace hq := hq.1 h4_0
      refine lv_tableIn (off := 37) (tgt := 56) S.1 S.2.1 dX3_task_19 (by rw [h4_0]; decide) (by rw [h4_0]; decide) (by rw [h4_0]; rfl) rfl ?_
      refine lv_aload_n S.1 S.2.1 dX3_task_56 rfl (lv_at hl 0 rfl) ?_
      refine gf_204 S hw ht3 wf_X3_102 dX3_task_57 ?_
      exact kr_i (cu := fun u => ce_l cA cf ad u z0) S hr rfl hk hw hq dX3_task_60
    · by_cases h4_1 : x2 = (1 : Int32)
      · replace hq := hq.2.1 h4_1
        refine lv_tableIn (off := 42) (tgt := 61) S.1 S.2.1 dX3_task_19 (by rw [h4_1]; decide) (by rw [h4_1]; decide) (by rw [h4_1]; rfl) rfl ?_
        refine lv_aload_n S.1 S.2.1 dX3_task_61 rfl (lv_at hl 0 rfl) ?_
        refine gf_205 S hw ht3 wf_X3_105 dX3_task_62 ?_
        exact kr_i (cu := fun u => ce_l cA cf ad u z0) S hr rfl hk hw hq dX3_task_65
      · by_cases h4_2 : x2 = (2 : Int32)
        · replace hq := hq.2.2.1 h4_2
          refine lv_tableIn (off := 47) (tgt := 66) S.1 S.2.1 dX3_task_19 (by rw [h4_2]; decide) (by rw [h4_2]; decide) (by rw [h4_2]; rfl) rfl ?_
          refine lv_aload_n S.1 S.2.1 dX3_task_66 rfl (lv_at hl 0 rfl) ?_
          refine gf_201 S hw ht3 wf_X3_108 dX3_task_67 ?_
          refine gf_101 S hw (vl_n ht3) wf_X3_112 dX3_task_70 ?_
          exact kr_i (cu := fun u => ce_l cA cf ad u z0) S hr rfl hk hw hq dX3_task_73
        · by_cases h4_3 : x2 = (3 : Int32)
          · replace hq := hq.2.2.2.1 h4_3
            refine lv_tableIn (off := 55) (tgt := 74) S.1 S.2.1 dX3_task_19 (by rw [h4_3]; decide) (by rw [h4_3]; decide) (by rw [h4_3]; rfl) rfl ?_
            refine lv_aload_n S.1 S.2.1 dX3_task_74 rfl (lv_at hl 0 rfl) ?_
            refine gf_202 S hw ht3 wf_X3_117 dX3_task_75 ?_
            refine gf_101 S hw (vl_f ht3) wf_X3_112 dX3_task_78 ?_
            exact kr_i (cu := fun u => ce_l cA cf ad u z0) S hr rfl hk hw hq dX3_task_81
          · by_cases h4_4 : x2 = (4 : Int32)
            · replace hq := hq.2.2.2.2.1 h4_4
              refine lv_tableIn (off := 63) (tgt := 82) S.1 S.2.1 dX3_task_19 (by rw [h4_4]; decide) (by rw [h4_4]; decide) (by rw [h4_4]; rfl) rfl ?_
              refine lv_aload_n S.1 S.2.1 dX3_task_82 rfl (lv_at hl 0 rfl) ?_
              refine gf_207 S hw ht3 wf_X3_120 dX3_task_83 ?_
              exact kr_i (cu := fun u => ce_l cA cf ad u z0) S hr rfl hk hw hq dX3_task_86
            · by_cases h4_5 : x2 = (5 : Int32)
              · replace hq := hq.2.2.2.2.2.1 h4_5
                refine lv_tableIn (off := 68) (tgt := 87) S.1 S.2.1 dX3_task_19 (by rw [h4_5]; decide) (by rw [h4_5]; decide) (by rw [h4_5]; rfl) rfl ?_
                refine lv_aload_n S.1 S.2.1 dX3_task_87 rfl (lv_at hl 0 rfl) ?_
                refine gf_208 S hw ht3 wf_X3_123 dX3_task_88 ?_
                exact kr_i (cu := fun u => ce_l cA cf ad u z0) S hr rfl hk hw hq dX3_task_91
              · replace hq := hq.2.2.2.2.2.2 h4_0 h4_1 h4_2 h4_3 h4_4 h4_5
                refine kg_tab (tgt := 92) S dX3_task_19 (by
                    have a0 := i32_ne (n := 0) (by decide) h4_0
                    have a1 := i32_ne (n := 1) (by decide) h4_1
                    have a2 := i32_ne (n := 2) (by decide) h4_2
                    have a3 := i32_ne (n := 3) (by decide) h4_3
                    have a4 := i32_ne (n := 4) (by decide) h4_4
                    have a5 := i32_ne (n := 5) (by decide) h4_5
                    left; omega
                  ) rfl ?_
                refine lv_ldc S.1 S.2.1 S.2.2.2.1 (S.2.2.2.2 _ wv_X3_101) dX3_task_92 ?_
                exact kr_i (cu := fun u => ce_l cA cf ad u z0) S hr rfl hk hw hq dX3_task_94
  · replace hq := hq.2 h2
    refine lv_ldc S.1 S.2.1 S.2.2.2.1 (S.2.2.2.2 _ wv_X3_101) dX3_task_8 ?_
    exact kr_i (cu := fun u => ce_l cA cf ad u z0) S hr rfl hk hw hq dX3_task_10
theorem c_X3_task (z0 k0 : ka_T) (x1 : Int32) (x2 : Int32) {post : Int32 → ka_T → Prop} (hq : q_X3_task cf post x1 x2 k0) : Met l yX3_task wsX3_task rmX3_task (va_Pc [.ref (ad (0, 0)), .int x1, .int x2] (Wx_ D cA cf ad A k0 z0)) (va_Qi post (fun u t => Wx_ D cA cf ad A u z0 t) A) 0 0 A :=
  kp_met (by decide +kernel) [.ref (ad (0, 0)), .int x1, .int x2] (Nat.le_of_ble_eq_true rfl) (fun p e s m args below meth c ls S hr hk hw hl => b_X3_task_0 S hr hk x1 x2 k0 _ _ _ hl hw hq)
theorem call_X3_task {z0 k0 : ka_T} {x1 : Int32} {x2 : Int32} {post : Int32 → ka_T → Prop} (S : CallFix p m c cc nL s args lw_gd own) (hw : Wo_ D cA cf ad A k0 z0 s H locs) {index : Nat} (hl : Cond.methodLink own index yX3_task ∈ lw_gd) (hq : q_X3_task cf post x1 x2 k0) (hR : rmX3_task.frames + 1 ≤ R.frames ∧ 8 + (4 + 11) + rmX3_task.locals ≤ R.locals) (hls : ls.size = nL) (hro : (rest.map fun v => v.category).sum ≤ 8) (hcs : cells ≤ R.cells ∧ slots ≤ R.slots) (hd : decode cc pc = .ok (.invokevirtual index, 3)) (kk : ∀ (r : Int32) (u : ka_T) (H1 : Heap) (locs1 : List Loc), post r u → Wo_ D cA cf ad A u z0 s H1 locs1 → W p l e R s m args below meth c H1 locs1 cells slots Q (F0 m (pc + 3) ls (.int r :: rest))) : W p l e R s m args below meth c H locs cells slots Q (F0 m pc ls (.int x2 :: .int x1 :: .ref (ad (0, 0)) :: rest)) :=
  kg_vi (cu := fun u => ce_l cA cf ad u z0) (As := [.int x1, .int x2]) S hw (q := (0, 0)) (c_X3_task z0 k0 x1 x2 hq) wc_X3_task wn_X3 hl wi_X3_task (C := RX3) (T := TX3) (N := 9) (ci := 3) (fs := fx_0 cf ad k0 0) wse_X3_task (km_0) rfl rfl (na := 2) (by decide +kernel) rfl rfl rfl hR hls rfl hro hcs hd kk
abbrev rmX3_tick : Room := { frames := 1, cells := 0, slots := 0, locals := 23 }
set_option maxRecDepth 100000 in
set_option maxHeartbeats 4000000 in
theorem b_X3_tick_12 {post : Int32 → ka_T → Prop} (S : CallFix p m c cX3_tick 3 s args lw_gd RX3) (hr : meth.sig.returnType = some .int) (hk : meth.locks = false) : ∀ nf : Nat, ∀ (x1 : Int32) (k0 : ka_T) (H : Heap) (locs : List Loc) (ls : Array Slot), lv_has ls 3 [(0, .ref (ad (0, 0))), (1, .int x1)] → Wo_ D cA cf ad A k0 z0 s H locs → q_X3_tick_12 cf post nf x1 k0 → W p l e rmX3_tick s m args below meth c H locs 0 0 (MQ below (va_Qi post (fun u t => Wx_ D cA cf ad A u z0 t) A) args s 0 0 A) (F0 m 12 ls []) := by
  intro nf
  induction nf with
  | zero =>
    intro x1 k0 H locs ls hl hw hq
    exact False.elim hq
  | succ nf ih =>
    intro x1 k0 H locs ls hl hw hq
    refine lv_iload_n S.1 S.2.1 dX3_tick_12 rfl (lv_at hl 1 rfl) ?_
    refine lv_aload_n S.1 S.2.1 dX3_tick_13 rfl (lv_at hl 0 rfl) ?_
    refine gf_300 S hw wf_X3_39 dX3_tick_14 ?_
    refine an_1 S hw dX3_tick_17 ?_
    refine lv_icmp_ge (tgt := 44) S.1 S.2.1 dX3_tick_18 rfl (fun h1 => ?_) (fun h1 => ?_)
    · replace hq := hq.1 h1
      refine lv_aload_n S.1 S.2.1 dX3_tick_44 rfl (lv_at hl 0 rfl) ?_
      refine gf_300 S hw wf_X3_39 dX3_tick_45 ?_
      refine an_1 S hw dX3_tick_48 ?_
      exact kr_i (cu := fun u => ce_l cA cf ad u z0) S hr rfl hk hw hq dX3_tick_49
    · replace hq := hq.2 h1
      refine lv_aload_n S.1 S.2.1 dX3_tick_21 rfl (lv_at hl 0 rfl) ?_
      refine call_X3_firstDueSleeper S hw wl_X3_88 hq ⟨Nat.le_of_ble_eq_true rfl, Nat.le_of_ble_eq_true rfl⟩ hl.1 (Nat.le_of_ble_eq_true rfl) ⟨Nat.zero_le _, Nat.zero_le _⟩ dX3_tick_22 (fun k2 H locs hq hw => ?_) (fun t2 k2 H locs ht2 hq hw => ?_)
      · replace hq := hq.1 rfl
        refine lv_astore_nN (lv' := [(2, .null), (0, .ref (ad (0, 0))), (1, .int x1)]) S.1 S.2.1 dX3_tick_25 rfl hl (by decide) rfl (fun ls hl => ?_)
        refine lv_aload_nN S.1 S.2.1 dX3_tick_26 rfl (lv_at hl 0 rfl) ?_
        refine lv_ifnonnullN S.1 S.2.1 dX3_tick_27 ?_
        refine lv_iload_n S.1 S.2.1 dX3_tick_30 rfl (lv_at hl 2 rfl) ?_
        exact kr_i (cu := fun u => ce_l cA cf ad u z0) S hr rfl hk hw hq dX3_tick_31
      · replace hq := hq.2 t2 rfl ht2
        refine lv_astore_n (lv' := [(2, .ref (ad (6, t2))), (0, .ref (ad (0, 0))), (1, .int x1)]) S.1 S.2.1 dX3_tick_25 rfl hl (by decide) rfl (fun ls hl => ?_)
        refine lv_aload_n S.1 S.2.1 dX3_tick_26 rfl (lv_at hl 0 rfl) ?_
        refine lv_ifnonnull (tgt := 32) S.1 S.2.1 dX3_tick_27 rfl ?_
        refine lv_aload_n S.1 S.2.1 dX3_tick_32 rfl (lv_at hl 1 rfl) ?_
        refine lv_aload_n S.1 S.2.1 dX3_tick_33 rfl (lv_at hl 0 rfl) ?_
        refine lv_iconst (v := (1 : Int32)) S.1 S.2.1 dX3_tick_34 (by decide) ?_
        refine call_X3_enter S hw wl_X3_92 ht2 hq ⟨Nat.le_of_ble_eq_true rfl, Nat.le_of_ble_eq_true rfl⟩ hl.1 (Nat.le_of_ble_eq_true rfl) ⟨Nat.zero_le _, Nat.zero_le _⟩ dX3_tick_35 (fun k3 H locs hq hw => ?_)
        refine lv_iinc (k := 2) (v := (x1 + 1)) (lv' := [(1, .int (x1 + 1)), (2, .ref (ad (6, t2))), (0, .ref (ad (0, 0)))]) S.1 S.2.1 dX3_tick_38 hl rfl (ii_1 _) (by decide) rfl (fun ls hl => ?_)
        refine lv_goto (tgt := 12) S.1 S.2.1 dX3_tick_41 rfl ?_
        exact ih (x1 + 1) k3 _ _ _ (lv_sub hl [2, 0] rfl) hw hq
set_option maxRecDepth 100000 in
set_option maxHeartbeats 4000000 in
theorem b_X3_tick_0 {post : Int32 → ka_T → Prop} (S : CallFix p m c cX3_tick 3 s args lw_gd RX3) (hr : meth.sig.returnType = some .int) (hk : meth.locks = false) : ∀ (k0 : ka_T) (H : Heap) (locs : List Loc) (ls : Array Slot), lv_has ls 3 [(0, .ref (ad (0, 0)))] → Wo_ D cA cf ad A k0 z0 s H locs → q_X3_tick cf post k0 → W p l e rmX3_tick s m args below meth c H locs 0 0 (MQ below (va_Qi post (fun u t => Wx_ D cA cf ad A u z0 t) A) args s 0 0 A) (F0 m 0 ls []) := by
  intro k0 H locs ls hl hw hq
  refine lv_aload_n S.1 S.2.1 dX3_tick_0 rfl (lv_at hl 0 rfl) ?_
  refine lv_dup S.1 S.2.1 dX3_tick_1 rfl ?_
  refine gf_306 S hw wf_X3_23 dX3_tick_2 ?_
  refine lv_iconst (v := (1 : Int32)) S.1 S.2.1 dX3_tick_5 (by decide) ?_
  refine lv_iadd S.1 S.2.1 dX3_tick_6 ?_
  refine pf_306 S hw wf_X3_23 dX3_tick_7 (fun k4 H locs e4 hw => ?_)
  replace hq := hq _ e4
  refine lv_iconst (v := (0 : Int32)) S.1 S.2.1 dX3_tick_10 (by decide) ?_
  refine lv_istore_n (lv' := [(1, .int (0 : Int32)), (0, .ref (ad (0, 0)))]) S.1 S.2.1 dX3_tick_11 rfl hl (by decide) rfl (fun ls hl => ?_)
  obtain ⟨nf9, hq⟩ := hq
  exact b_X3_tick_12 S hr hk nf9 (0 : Int32) k4 _ _ _ (lv_sub hl [1, 0] rfl) hw hq
theorem c_X3_tick (z0 k0 : ka_T) {post : Int32 → ka_T → Prop} (hq : q_X3_tick cf post  k0) : Met l yX3_tick wsX3_tick rmX3_tick (va_Pc [.ref (ad (0, 0))] (Wx_ D cA cf ad A k0 z0)) (va_Qi post (fun u t => Wx_ D cA cf ad A u z0 t) A) 0 0 A :=
  kp_met (by decide +kernel) [.ref (ad (0, 0))] (Nat.le_of_ble_eq_true rfl) (fun p e s m args below meth c ls S hr hk hw hl => b_X3_tick_0 S hr hk  k0 _ _ _ hl hw hq)
theorem call_X3_tick {z0 k0 : ka_T} {post : Int32 → ka_T → Prop} (S : CallFix p m c cc nL s args lw_gd own) (hw : Wo_ D cA cf ad A k0 z0 s H locs) {index : Nat} (hl : Cond.methodLink own index yX3_tick ∈ lw_gd) (hq : q_X3_tick cf post  k0) (hR : rmX3_tick.frames + 1 ≤ R.frames ∧ 8 + (3 + 11) + rmX3_tick.locals ≤ R.locals) (hls : ls.size = nL) (hro : (rest.map fun v => v.category).sum ≤ 8) (hcs : cells ≤ R.cells ∧ slots ≤ R.slots) (hd : decode cc pc = .ok (.invokevirtual index, 3)) (kk : ∀ (r : Int32) (u : ka_T) (H1 : Heap) (locs1 : List Loc), post r u → Wo_ D cA cf ad A u z0 s H1 locs1 → W p l e R s m args below meth c H1 locs1 cells slots Q (F0 m (pc + 3) ls (.int r :: rest))) : W p l e R s m args below meth c H locs cells slots Q (F0 m pc ls (.ref (ad (0, 0)) :: rest)) :=
  kg_vi (cu := fun u => ce_l cA cf ad u z0) (As := []) S hw (q := (0, 0)) (c_X3_tick z0 k0  hq) wc_X3_tick wn_X3 hl wi_X3_tick (C := RX3) (T := TX3) (N := 9) (ci := 3) (fs := fx_0 cf ad k0 0) wse_X3_tick (km_0) rfl rfl (na := 0) (by decide +kernel) rfl rfl rfl hR hls rfl hro hcs hd kk
abbrev rmX3_waiter : Room := { frames := 2, cells := 0, slots := 0, locals := 45 }
set_option maxRecDepth 100000 in
set_option maxHeartbeats 4000000 in
theorem b_X3_waiter_24 {post : Int32 → ka_T → Prop} (S : CallFix p m c cX3_waiter 6 s args lw_gd RX3) (hr : meth.sig.returnType = some .int) (hk : meth.locks = false) : ∀ nf : Nat, ∀ (x1 : Int32) (x3 : Int32) (x4 : Int32) (x5 : Int32) (k0 : ka_T) (H : Heap) (locs : List Loc) (ls : Array Slot), lv_has ls 6 [(0, .ref (ad (0, 0))), (1, .int x1), (3, .int x3), (4, .int x4), (5, .int x5)] → Wo_ D cA cf ad A k0 z0 s H locs → q_X3_waiter_24 cf post nf x1 x3 x4 x5 k0 → W p l e rmX3_waiter s m args below meth c H locs 0 0 (MQ below (va_Qi post (fun u t => Wx_ D cA cf ad A u z0 t) A) args s 0 0 A) (F0 m 24 ls []) := by
  intro nf
  induction nf with
  | zero =>
    intro x1 x3 x4 x5 k0 H locs ls hl hw hq
    exact False.elim hq
  | succ nf ih =>
    intro x1 x3 x4 x5 k0 H locs ls hl hw hq
    refine lv_iload S.1 S.2.1 dX3_waiter_24 (lv_at hl 4 rfl) ?_
    refine lv_aload_n S.1 S.2.1 dX3_waiter_26 rfl (lv_at hl 0 rfl) ?_
    refine gf_300 S hw wf_X3_39 dX3_waiter_27 ?_
    refine an_1 S hw dX3_waiter_30 ?_
    refine lv_icmp_ge (tgt := 74) S.1 S.2.1 dX3_waiter_31 rfl (fun h1 => ?_) (fun h1 => ?_)
    · replace hq := hq.1 h1
      refine lv_iconst (v := (-1 : Int32)) S.1 S.2.1 dX3_waiter_74 (by decide) ?_
      exact kr_i (cu := fun u => ce_l cA cf ad u z0) S hr rfl hk hw hq dX3_waiter_75
    · replace hq := hq.2 h1
      refine lv_aload_n S.1 S.2.1 dX3_waiter_34 rfl (lv_at hl 0 rfl) ?_
      refine gf_300 S hw wf_X3_39 dX3_waiter_35 ?_
      refine lv_iload S.1 S.2.1 dX3_waiter_38 (lv_at hl 4 rfl) ?_
      obtain ⟨hi, hq⟩ := hq
      refine ar_1 S hw hi dX3_waiter_40 (fun t2 e2 ht2 => ?_)
      replace hq := hq _ e2 ht2
      refine lv_iload S.1 S.2.1 dX3_waiter_41 (lv_at hl 3 rfl) ?_
      refine lv_iload_n S.1 S.2.1 dX3_waiter_43 rfl (lv_at hl 1 rfl) ?_
      refine call_X2_isWaiting S hw wl_X3_140 ht2 hq ⟨Nat.le_of_ble_eq_true rfl, Nat.le_of_ble_eq_true rfl⟩ hl.1 (Nat.le_of_ble_eq_true rfl) ⟨Nat.zero_le _, Nat.zero_le _⟩ dX3_waiter_44 (fun r3 k3 H locs hq hw => ?_)
      refine lv_if_eq (tgt := 68) S.1 S.2.1 dX3_waiter_47 rfl (fun h4 => ?_) (fun h4 => ?_)
      · replace hq := hq.1 h4
        refine lv_iinc (k := 4) (v := (x5 + 1)) (lv' := [(5, .int (x5 + 1)), (0, .ref (ad (0, 0))), (1, .int x1), (3, .int x3), (4, .int x4)]) S.1 S.2.1 dX3_waiter_68 hl rfl (ii_1 _) (by decide) rfl (fun ls hl => ?_)
        refine lv_goto (tgt := 24) S.1 S.2.1 dX3_waiter_71 rfl ?_
        exact ih x1 x3 x4 (x5 + 1) k3 _ _ _ (lv_sub hl [1, 2, 3, 4, 0] rfl) hw hq
      · replace hq := hq.2 h4
        refine lv_aload_n S.1 S.2.1 dX3_waiter_50 rfl (lv_at hl 0 rfl) ?_
        refine lv_aload_n S.1 S.2.1 dX3_waiter_51 rfl (lv_at hl 0 rfl) ?_
        refine gf_300 S hw wf_X3_39 dX3_waiter_52 ?_
        refine lv_iload S.1 S.2.1 dX3_waiter_55 (lv_at hl 4 rfl) ?_
        obtain ⟨hi, hq⟩ := hq
        refine ar_1 S hw hi dX3_waiter_57 (fun t5 e5 ht5 => ?_)
        replace hq := hq _ e5 ht5
        refine call_X3_countBefore S hw wl_X3_144 ht5 hq ⟨Nat.le_of_ble_eq_true rfl, Nat.le_of_ble_eq_true rfl⟩ hl.1 (Nat.le_of_ble_eq_true rfl) ⟨Nat.zero_le _, Nat.zero_le _⟩ dX3_waiter_58 (fun r6 k6 H locs hq hw => ?_)
        refine lv_iload_n S.1 S.2.1 dX3_waiter_61 rfl (lv_at hl 2 rfl) ?_
        refine lv_icmp_ne (tgt := 68) S.1 S.2.1 dX3_waiter_62 rfl (fun h7 => ?_) (fun h7 => ?_)
        · replace hq := hq.1 h7
          refine lv_iinc (k := 4) (v := (x5 + 1)) (lv' := [(5, .int (x5 + 1)), (0, .ref (ad (0, 0))), (1, .int x1), (3, .int x3), (4, .int x4)]) S.1 S.2.1 dX3_waiter_68 hl rfl (ii_1 _) (by decide) rfl (fun ls hl => ?_)
          refine lv_goto (tgt := 24) S.1 S.2.1 dX3_waiter_71 rfl ?_
          exact ih x1 x3 x4 (x5 + 1) k6 _ _ _ (lv_sub hl [1, 2, 3, 4, 0] rfl) hw hq
        · replace hq := hq.2 h7
          refine lv_iload S.1 S.2.1 dX3_waiter_65 (lv_at hl 4 rfl) ?_
          exact kr_i (cu := fun u => ce_l cA cf ad u z0) S hr rfl hk hw hq dX3_waiter_67
set_option maxRecDepth 100000 in
set_option maxHeartbeats 4000000 in
theorem b_X3_waiter_0 {post : Int32 → ka_T → Prop} (S : CallFix p m c cX3_waiter 6 s args lw_gd RX3) (hr : meth.sig.returnType = some .int) (hk : meth.locks = false) : ∀ (x1 : Int32) (x2 : Int32) (x3 : Int32) (k0 : ka_T) (H : Heap) (locs : List Loc) (ls : Array Slot), lv_has ls 6 [(0, .ref (ad (0, 0))), (1, .int x1), (2, .int x2), (3, .int x3)] → Wo_ D cA cf ad A k0 z0 s H locs → q_X3_waiter cf post x1 x2 x3 k0 → W p l e rmX3_waiter s m args below meth c H locs 0 0 (MQ below (va_Qi post (fun u t => Wx_ D cA cf ad A u z0 t) A) args s 0 0 A) (F0 m 0 ls []) := by
  intro x1 x2 x3 k0 H locs ls hl hw hq
  refine lv_aload_n S.1 S.2.1 dX3_waiter_0 rfl (lv_at hl 0 rfl) ?_
  refine lv_iload_n S.1 S.2.1 dX3_waiter_1 rfl (lv_at hl 1 rfl) ?_
  refine call_X3_isQueue S hw wl_X3_133 hq ⟨Nat.le_of_ble_eq_true rfl, Nat.le_of_ble_eq_true rfl⟩ hl.1 (Nat.le_of_ble_eq_true rfl) ⟨Nat.zero_le _, Nat.zero_le _⟩ dX3_waiter_2 (fun r8 k8 H locs hq hw => ?_)
  refine lv_if_ne (tgt := 10) S.1 S.2.1 dX3_waiter_5 rfl (fun h9 => ?_) (fun h9 => ?_)
  · replace hq := hq.1 h9
    refine lv_iload_n S.1 S.2.1 dX3_waiter_10 rfl (lv_at hl 2 rfl) ?_
    refine lv_if_eq (tgt := 18) S.1 S.2.1 dX3_waiter_11 rfl (fun h10 => ?_) (fun h10 => ?_)
    · replace hq := hq.1 h10
      refine lv_iconst (v := (4 : Int32)) S.1 S.2.1 dX3_waiter_18 (by decide) ?_
      refine lv_istore (lv' := [(4, .int (4 : Int32)), (0, .ref (ad (0, 0))), (1, .int x1), (2, .int x2), (3, .int x3)]) S.1 S.2.1 dX3_waiter_19 hl (by decide) rfl (fun ls hl => ?_)
      refine lv_iconst (v := (0 : Int32)) S.1 S.2.1 dX3_waiter_21 (by decide) ?_
      refine lv_istore (lv' := [(5, .int (0 : Int32)), (4, .int (4 : Int32)), (0, .ref (ad (0, 0))), (1, .int x1), (2, .int x2), (3, .int x3)]) S.1 S.2.1 dX3_waiter_22 hl (by decide) rfl (fun ls hl => ?_)
      obtain ⟨nf9, hq⟩ := hq
      exact b_X3_waiter_24 S hr hk nf9 x1 x3 (4 : Int32) (0 : Int32) k8 _ _ _ (lv_sub hl [2, 3, 5, 1, 0] rfl) hw hq
    · replace hq := hq.2 h10
      refine lv_iconst (v := (3 : Int32)) S.1 S.2.1 dX3_waiter_14 (by decide) ?_
      refine lv_goto (tgt := 19) S.1 S.2.1 dX3_waiter_15 rfl ?_
      refine lv_istore (lv' := [(4, .int (3 : Int32)), (0, .ref (ad (0, 0))), (1, .int x1), (2, .int x2), (3, .int x3)]) S.1 S.2.1 dX3_waiter_19 hl (by decide) rfl (fun ls hl => ?_)
      refine lv_iconst (v := (0 : Int32)) S.1 S.2.1 dX3_waiter_21 (by decide) ?_
      refine lv_istore (lv' := [(5, .int (0 : Int32)), (4, .int (3 : Int32)), (0, .ref (ad (0, 0))), (1, .int x1), (2, .int x2), (3, .int x3)]) S.1 S.2.1 dX3_waiter_22 hl (by decide) rfl (fun ls hl => ?_)
      obtain ⟨nf9, hq⟩ := hq
      exact b_X3_waiter_24 S hr hk nf9 x1 x3 (3 : Int32) (0 : Int32) k8 _ _ _ (lv_sub hl [2, 3, 5, 1, 0] rfl) hw hq
  · replace hq := hq.2 h9
    refine lv_iconst (v := (-1 : Int32)) S.1 S.2.1 dX3_waiter_8 (by decide) ?_
    exact kr_i (cu := fun u => ce_l cA cf ad u z0) S hr rfl hk hw hq dX3_waiter_9
theorem c_X3_waiter (z0 k0 : ka_T) (x1 : Int32) (x2 : Int32) (x3 : Int32) {post : Int32 → ka_T → Prop} (hq : q_X3_waiter cf post x1 x2 x3 k0) : Met l yX3_waiter wsX3_waiter rmX3_waiter (va_Pc [.ref (ad (0, 0)), .int x1, .int x2, .int x3] (Wx_ D cA cf ad A k0 z0)) (va_Qi post (fun u t => Wx_ D cA cf ad A u z0 t) A) 0 0 A :=
  kp_met (by decide +kernel) [.ref (ad (0, 0)), .int x1, .int x2, .int x3] (Nat.le_of_ble_eq_true rfl) (fun p e s m args below meth c ls S hr hk hw hl => b_X3_waiter_0 S hr hk x1 x2 x3 k0 _ _ _ hl hw hq)
theorem call_X3_waiter {z0 k0 : ka_T} {x1 : Int32} {x2 : Int32} {x3 : Int32} {post : Int32 → ka_T → Prop} (S : CallFix p m c cc nL s args lw_gd own) (hw : Wo_ D cA cf ad A k0 z0 s H locs) {index : Nat} (hl : Cond.methodLink own index yX3_waiter ∈ lw_gd) (hq : q_X3_waiter cf post x1 x2 x3 k0) (hR : rmX3_waiter.frames + 1 ≤ R.frames ∧ 8 + (6 + 11) + rmX3_waiter.locals ≤ R.locals) (hls : ls.size = nL) (hro : (rest.map fun v => v.category).sum ≤ 8) (hcs : cells ≤ R.cells ∧ slots ≤ R.slots) (hd : decode cc pc = .ok (.invokevirtual index, 3)) (kk : ∀ (r : Int32) (u : ka_T) (H1 : Heap) (locs1 : List Loc), post r u → Wo_ D cA cf ad A u z0 s H1 locs1 → W p l e R s m args below meth c H1 locs1 cells slots Q (F0 m (pc + 3) ls (.int r :: rest))) : W p l e R s m args below meth c H locs cells slots Q (F0 m pc ls (.int x3 :: .int x2 :: .int x1 :: .ref (ad (0, 0)) :: rest)) :=
  kg_vi (cu := fun u => ce_l cA cf ad u z0) (As := [.int x1, .int x2, .int x3]) S hw (q := (0, 0)) (c_X3_waiter z0 k0 x1 x2 x3 hq) wc_X3_waiter wn_X3 hl wi_X3_waiter (C := RX3) (T := TX3) (N := 9) (ci := 3) (fs := fx_0 cf ad k0 0) wse_X3_waiter (km_0) rfl rfl (na := 3) (by decide +kernel) rfl rfl rfl hR hls rfl hro hcs hd kk
abbrev rmX3_why : Room := { frames := 1, cells := 0, slots := 0, locals := 21 }
set_option maxRecDepth 100000 in
set_option maxHeartbeats 4000000 in
theorem b_X3_why_0 {post : Int32 → ka_T → Prop} (S : CallFix p m c cX3_why 2 s args lw_gd RX3) (hr : meth.sig.returnType = some .int) (hk : meth.locks = false) : ∀ (x1 : Int32) (k0 : ka_T) (H : Heap) (locs : List Loc) (ls : Array Slot), lv_has ls 2 [(0, .ref (ad (0, 0))), (1, .int x1)] → Wo_ D cA cf ad A k0 z0 s H locs → q_X3_why cf post x1 k0 → W p l e rmX3_why s m args below meth c H locs 0 0 (MQ below (va_Qi post (fun u t => Wx_ D cA cf ad A u z0 t) A) args s 0 0 A) (F0 m 0 ls []) := by
  intro x1 k0 H locs ls hl hw hq
  refine lv_aload_n S.1 S.2.1 dX3_why_0 rfl (lv_at hl 0 rfl) ?_
  refine lv_iload_n S.1 S.2.1 dX3_why_1 rfl (lv_at hl 1 rfl) ?_
  refine call_X3_isTask S hw wl_X3_98 hq ⟨Nat.le_of_ble_eq_true rfl, Nat.le_of_ble_eq_true rfl⟩ hl.1 (Nat.le_of_ble_eq_true rfl) ⟨Nat.zero_le _, Nat.zero_le _⟩ dX3_why_2 (fun r1 k1 H locs hq hw => ?_)
  refine lv_if_eq (tgt := 20) S.1 S.2.1 dX3_why_5 rfl (fun h2 => ?_) (fun h2 => ?_)
  · replace hq := hq.1 h2
    refine lv_iconst (v := (-1 : Int32)) S.1 S.2.1 dX3_why_20 (by decide) ?_
    exact kr_i (cu := fun u => ce_l cA cf ad u z0) S hr rfl hk hw hq dX3_why_21
  · replace hq := hq.2 h2
    refine lv_aload_n S.1 S.2.1 dX3_why_8 rfl (lv_at hl 0 rfl) ?_
    refine gf_300 S hw wf_X3_39 dX3_why_9 ?_
    refine lv_iload_n S.1 S.2.1 dX3_why_12 rfl (lv_at hl 1 rfl) ?_
    obtain ⟨hi, hq⟩ := hq
    refine ar_1 S hw hi dX3_why_13 (fun t3 e3 ht3 => ?_)
    replace hq := hq _ e3 ht3
    refine gf_210 S hw ht3 wf_X3_153 dX3_why_14 ?_
    refine lv_goto (tgt := 21) S.1 S.2.1 dX3_why_17 rfl ?_
    exact kr_i (cu := fun u => ce_l cA cf ad u z0) S hr rfl hk hw hq dX3_why_21
theorem c_X3_why (z0 k0 : ka_T) (x1 : Int32) {post : Int32 → ka_T → Prop} (hq : q_X3_why cf post x1 k0) : Met l yX3_why wsX3_why rmX3_why (va_Pc [.ref (ad (0, 0)), .int x1] (Wx_ D cA cf ad A k0 z0)) (va_Qi post (fun u t => Wx_ D cA cf ad A u z0 t) A) 0 0 A :=
  kp_met (by decide +kernel) [.ref (ad (0, 0)), .int x1] (Nat.le_of_ble_eq_true rfl) (fun p e s m args below meth c ls S hr hk hw hl => b_X3_why_0 S hr hk x1 k0 _ _ _ hl hw hq)
theorem call_X3_why {z0 k0 : ka_T} {x1 : Int32} {post : Int32 → ka_T → Prop} (S : CallFix p m c cc nL s args lw_gd own) (hw : Wo_ D cA cf ad A k0 z0 s H locs) {index : Nat} (hl : Cond.methodLink own index yX3_why ∈ lw_gd) (hq : q_X3_why cf post x1 k0) (hR : rmX3_why.frames + 1 ≤ R.frames ∧ 8 + (2 + 11) + rmX3_why.locals ≤ R.locals) (hls : ls.size = nL) (hro : (rest.map fun v => v.category).sum ≤ 8) (hcs : cells ≤ R.cells ∧ slots ≤ R.slots) (hd : decode cc pc = .ok (.invokevirtual index, 3)) (kk : ∀ (r : Int32) (u : ka_T) (H1 : Heap) (locs1 : List Loc), post r u → Wo_ D cA cf ad A u z0 s H1 locs1 → W p l e R s m args below meth c H1 locs1 cells slots Q (F0 m (pc + 3) ls (.int r :: rest))) : W p l e R s m args below meth c H locs cells slots Q (F0 m pc ls (.int x1 :: .ref (ad (0, 0)) :: rest)) :=
  kg_vi (cu := fun u => ce_l cA cf ad u z0) (As := [.int x1]) S hw (q := (0, 0)) (c_X3_why z0 k0 x1 hq) wc_X3_why wn_X3 hl wi_X3_why (C := RX3) (T := TX3) (N := 9) (ci := 3) (fs := fx_0 cf ad k0 0) wse_X3_why (km_0) rfl rfl (na := 1) (by decide +kernel) rfl rfl rfl hR hls rfl hro hcs hd kk
abbrev rmX4_append : Room := { frames := 0, cells := 0, slots := 0, locals := 0 }
set_option maxRecDepth 100000 in
set_option maxHeartbeats 4000000 in
theorem b_X4_append_0 {post : ka_T → Prop} (S : CallFix p m c cX4_append 3 s args lw_gd RX4) (hr : meth.sig.returnType = none) (hk : meth.locks = false) : ∀ (x1 : Int32) (x2 : Int32) (k0 : ka_T) (H : Heap) (locs : List Loc) (ls : Array Slot), lv_has ls 3 [(0, .ref (ad (11, 0))), (1, .int x1), (2, .int x2)] → Wo_ D cA cf ad A z0 k0 s H locs → q_X4_append cf post x1 x2 k0 → W p l e rmX4_append s m args below meth c H locs 0 0 (MQ below (va_Qv post (fun u t => Wx_ D cA cf ad A z0 u t) A) args s 0 0 A) (F0 m 0 ls []) := by
  intro x1 x2 k0 H locs ls hl hw hq
  refine lv_aload_n S.1 S.2.1 dX4_append_0 rfl (lv_at hl 0 rfl) ?_
  refine gf_422 S hw wf_X4_55 dX4_append_1 ?_
  refine lv_bipush (v := (6 : Int32)) S.1 S.2.1 dX4_append_4 (by decide) ?_
  refine lv_iload_n S.1 S.2.1 dX4_append_6 rfl (lv_at hl 1 rfl) ?_
  refine lv_imul S.1 S.2.1 dX4_append_7 ?_
  refine lv_aload_n S.1 S.2.1 dX4_append_8 rfl (lv_at hl 0 rfl) ?_
  refine gf_421 S hw wf_X4_52 dX4_append_9 ?_
  refine lv_iload_n S.1 S.2.1 dX4_append_12 rfl (lv_at hl 1 rfl) ?_
  obtain ⟨hi, hq⟩ := hq
  refine al_26 S hw hi dX4_append_13 ?_
  refine lv_iadd S.1 S.2.1 dX4_append_14 ?_
  refine lv_iload_n S.1 S.2.1 dX4_append_15 rfl (lv_at hl 2 rfl) ?_
  obtain ⟨hi, hq⟩ := hq
  refine as_27 S hw hi dX4_append_16 (fun k1 H locs e1 hw => ?_)
  replace hq := hq _ e1
  refine lv_aload_n S.1 S.2.1 dX4_append_17 rfl (lv_at hl 0 rfl) ?_
  refine gf_421 S hw wf_X4_52 dX4_append_18 ?_
  refine lv_iload_n S.1 S.2.1 dX4_append_21 rfl (lv_at hl 1 rfl) ?_
  refine lv_dup2_11 S.1 S.2.1 dX4_append_22 rfl rfl ?_
  obtain ⟨hi, hq⟩ := hq
  refine al_26 S hw hi dX4_append_23 ?_
  refine lv_iconst (v := (1 : Int32)) S.1 S.2.1 dX4_append_24 (by decide) ?_
  refine lv_iadd S.1 S.2.1 dX4_append_25 ?_
  obtain ⟨hi, hq⟩ := hq
  refine as_26 S hw hi dX4_append_26 (fun k2 H locs e2 hw => ?_)
  replace hq := hq _ e2
  exact kr_v (cu := fun u => ce_l cA cf ad z0 u) S hr hk hw hq dX4_append_27
theorem c_X4_append (z0 k0 : ka_T) (x1 : Int32) (x2 : Int32) {post : ka_T → Prop} (hq : q_X4_append cf post x1 x2 k0) : Met l yX4_append wsX4_append rmX4_append (va_Pc [.ref (ad (11, 0)), .int x1, .int x2] (Wx_ D cA cf ad A z0 k0)) (va_Qv post (fun u t => Wx_ D cA cf ad A z0 u t) A) 0 0 A :=
  kp_met (by decide +kernel) [.ref (ad (11, 0)), .int x1, .int x2] (Nat.le_of_ble_eq_true rfl) (fun p e s m args below meth c ls S hr hk hw hl => b_X4_append_0 S hr hk x1 x2 k0 _ _ _ hl hw hq)
theorem call_X4_append {z0 k0 : ka_T} {x1 : Int32} {x2 : Int32} {post : ka_T → Prop} (S : CallFix p m c cc nL s args lw_gd own) (hw : Wo_ D cA cf ad A z0 k0 s H locs) {index : Nat} (hl : Cond.methodLink own index yX4_append ∈ lw_gd) (hq : q_X4_append cf post x1 x2 k0) (hR : rmX4_append.frames + 1 ≤ R.frames ∧ 8 + (3 + 11) + rmX4_append.locals ≤ R.locals) (hls : ls.size = nL) (hro : (rest.map fun v => v.category).sum ≤ 8) (hcs : cells ≤ R.cells ∧ slots ≤ R.slots) (hd : decode cc pc = .ok (.invokevirtual index, 3)) (kk : ∀ (u : ka_T) (H1 : Heap) (locs1 : List Loc), post u → Wo_ D cA cf ad A z0 u s H1 locs1 → W p l e R s m args below meth c H1 locs1 cells slots Q (F0 m (pc + 3) ls rest)) : W p l e R s m args below meth c H locs cells slots Q (F0 m pc ls (.int x2 :: .int x1 :: .ref (ad (11, 0)) :: rest)) :=
  kg_vv (cu := fun u => ce_l cA cf ad z0 u) (As := [.int x1, .int x2]) S hw (q := (11, 0)) (c_X4_append z0 k0 x1 x2 hq) wc_X4_append wn_X4 hl wi_X4_append (C := RX4) (T := TX4) (N := 27) (ci := 4) (fs := fx_11 cf ad k0 0) wse_X4_append (km_11) rfl rfl (na := 2) (by decide +kernel) rfl rfl rfl hR hls rfl hro hcs hd kk
abbrev rmX4_fall : Room := { frames := 0, cells := 0, slots := 0, locals := 0 }
set_option maxRecDepth 100000 in
set_option maxHeartbeats 4000000 in
theorem b_X4_fall_0 {post : ka_T → Prop} (S : CallFix p m c cX4_fall 2 s args lw_gd RX4) (hr : meth.sig.returnType = none) (hk : meth.locks = false) : ∀ (x1 : Int32) (k0 : ka_T) (H : Heap) (locs : List Loc) (ls : Array Slot), lv_has ls 2 [(0, .ref (ad (11, 0))), (1, .int x1)] → Wo_ D cA cf ad A z0 k0 s H locs → q_X4_fall cf post x1 k0 → W p l e rmX4_fall s m args below meth c H locs 0 0 (MQ below (va_Qv post (fun u t => Wx_ D cA cf ad A z0 u t) A) args s 0 0 A) (F0 m 0 ls []) := by
  intro x1 k0 H locs ls hl hw hq
  refine lv_aload_n S.1 S.2.1 dX4_fall_0 rfl (lv_at hl 0 rfl) ?_
  refine lv_aload_n S.1 S.2.1 dX4_fall_1 rfl (lv_at hl 0 rfl) ?_
  refine gf_426 S hw wf_X4_89 dX4_fall_2 ?_
  refine lv_if_ne (tgt := 12) S.1 S.2.1 dX4_fall_5 rfl (fun h1 => ?_) (fun h1 => ?_)
  · replace hq := hq.1 h1
    refine lv_aload_n S.1 S.2.1 dX4_fall_12 rfl (lv_at hl 0 rfl) ?_
    refine gf_426 S hw wf_X4_89 dX4_fall_13 ?_
    refine pf_426 S hw wf_X4_89 dX4_fall_16 (fun k2 H locs e2 hw => ?_)
    replace hq := hq _ e2
    exact kr_v (cu := fun u => ce_l cA cf ad z0 u) S hr hk hw hq dX4_fall_19
  · replace hq := hq.2 h1
    refine lv_iload_n S.1 S.2.1 dX4_fall_8 rfl (lv_at hl 1 rfl) ?_
    refine lv_goto (tgt := 16) S.1 S.2.1 dX4_fall_9 rfl ?_
    refine pf_426 S hw wf_X4_89 dX4_fall_16 (fun k3 H locs e3 hw => ?_)
    replace hq := hq _ e3
    exact kr_v (cu := fun u => ce_l cA cf ad z0 u) S hr hk hw hq dX4_fall_19
theorem c_X4_fall (z0 k0 : ka_T) (x1 : Int32) {post : ka_T → Prop} (hq : q_X4_fall cf post x1 k0) : Met l yX4_fall wsX4_fall rmX4_fall (va_Pc [.ref (ad (11, 0)), .int x1] (Wx_ D cA cf ad A z0 k0)) (va_Qv post (fun u t => Wx_ D cA cf ad A z0 u t) A) 0 0 A :=
  kp_met (by decide +kernel) [.ref (ad (11, 0)), .int x1] (Nat.le_of_ble_eq_true rfl) (fun p e s m args below meth c ls S hr hk hw hl => b_X4_fall_0 S hr hk x1 k0 _ _ _ hl hw hq)
theorem call_X4_fall {z0 k0 : ka_T} {x1 : Int32} {post : ka_T → Prop} (S : CallFix p m c cc nL s args lw_gd own) (hw : Wo_ D cA cf ad A z0 k0 s H locs) {index : Nat} (hl : Cond.methodLink own index yX4_fall ∈ lw_gd) (hq : q_X4_fall cf post x1 k0) (hR : rmX4_fall.frames + 1 ≤ R.frames ∧ 8 + (2 + 11) + rmX4_fall.locals ≤ R.locals) (hls : ls.size = nL) (hro : (rest.map fun v => v.category).sum ≤ 8) (hcs : cells ≤ R.cells ∧ slots ≤ R.slots) (hd : decode cc pc = .ok (.invokevirtual index, 3)) (kk : ∀ (u : ka_T) (H1 : Heap) (locs1 : List Loc), post u → Wo_ D cA cf ad A z0 u s H1 locs1 → W p l e R s m args below meth c H1 locs1 cells slots Q (F0 m (pc + 3) ls rest)) : W p l e R s m args below meth c H locs cells slots Q (F0 m pc ls (.int x1 :: .ref (ad (11, 0)) :: rest)) :=
  kg_vv (cu := fun u => ce_l cA cf ad z0 u) (As := [.int x1]) S hw (q := (11, 0)) (c_X4_fall z0 k0 x1 hq) wc_X4_fall wn_X4 hl wi_X4_fall (C := RX4) (T := TX4) (N := 27) (ci := 4) (fs := fx_11 cf ad k0 0) wse_X4_fall (km_11) rfl rfl (na := 1) (by decide +kernel) rfl rfl rfl hR hls rfl hro hcs hd kk
abbrev rmX4_take : Room := { frames := 1, cells := 0, slots := 0, locals := 21 }
set_option maxRecDepth 100000 in
set_option maxHeartbeats 4000000 in
theorem b_X4_take_17 {post : Int32 → ka_T → Prop} (S : CallFix p m c cX4_take 1 s args lw_gd RX4) (hr : meth.sig.returnType = some .int) (hk : meth.locks = false) : ∀ (k0 : ka_T) (H : Heap) (locs : List Loc) (ls : Array Slot), lv_has ls 1 [(0, .ref (ad (11, 0)))] → Wo_ D cA cf ad A z0 k0 s H locs → q_X4_take_17 cf post k0 → W p l e rmX4_take s m args below meth c H locs 0 0 (MQ below (va_Qi post (fun u t => Wx_ D cA cf ad A z0 u t) A) args s 0 0 A) (F0 m 17 ls []) := by
  intro k0 H locs ls hl hw hq
  refine lv_aload_n S.1 S.2.1 dX4_take_17 rfl (lv_at hl 0 rfl) ?_
  refine gf_426 S hw wf_X4_89 dX4_take_18 ?_
  refine lv_if_le (tgt := 26) S.1 S.2.1 dX4_take_21 rfl (fun h1 => ?_) (fun h1 => ?_)
  · replace hq := hq.1 h1
    refine lv_aload_n S.1 S.2.1 dX4_take_26 rfl (lv_at hl 0 rfl) ?_
    refine gf_412 S hw wf_X4_25 dX4_take_27 ?_
    refine lv_aload_n S.1 S.2.1 dX4_take_30 rfl (lv_at hl 0 rfl) ?_
    refine gf_425 S hw wf_X4_92 dX4_take_31 ?_
    refine lv_dup2_11 S.1 S.2.1 dX4_take_34 rfl rfl ?_
    obtain ⟨hi, hq⟩ := hq
    refine al_17 S hw hi dX4_take_35 ?_
    refine lv_iconst (v := (1 : Int32)) S.1 S.2.1 dX4_take_36 (by decide) ?_
    refine lv_isub S.1 S.2.1 dX4_take_37 ?_
    obtain ⟨hi, hq⟩ := hq
    refine as_17 S hw hi dX4_take_38 (fun k2 H locs e2 hw => ?_)
    replace hq := hq _ e2
    refine lv_aload_n S.1 S.2.1 dX4_take_39 rfl (lv_at hl 0 rfl) ?_
    refine gf_413 S hw wf_X4_28 dX4_take_40 ?_
    refine lv_bipush (v := (16 : Int32)) S.1 S.2.1 dX4_take_43 (by decide) ?_
    refine lv_aload_n S.1 S.2.1 dX4_take_45 rfl (lv_at hl 0 rfl) ?_
    refine gf_425 S hw wf_X4_92 dX4_take_46 ?_
    refine lv_imul S.1 S.2.1 dX4_take_49 ?_
    refine lv_aload_n S.1 S.2.1 dX4_take_50 rfl (lv_at hl 0 rfl) ?_
    refine gf_412 S hw wf_X4_25 dX4_take_51 ?_
    refine lv_aload_n S.1 S.2.1 dX4_take_54 rfl (lv_at hl 0 rfl) ?_
    refine gf_425 S hw wf_X4_92 dX4_take_55 ?_
    obtain ⟨hi, hq⟩ := hq
    refine al_17 S hw hi dX4_take_58 ?_
    refine lv_iadd S.1 S.2.1 dX4_take_59 ?_
    obtain ⟨hi, hq⟩ := hq
    refine al_18 S hw hi dX4_take_60 ?_
    exact kr_i (cu := fun u => ce_l cA cf ad z0 u) S hr rfl hk hw hq dX4_take_61
  · replace hq := hq.2 h1
    refine lv_iconst (v := (0 : Int32)) S.1 S.2.1 dX4_take_24 (by decide) ?_
    exact kr_i (cu := fun u => ce_l cA cf ad z0 u) S hr rfl hk hw hq dX4_take_25
set_option maxRecDepth 100000 in
set_option maxHeartbeats 4000000 in
theorem b_X4_take_0 {post : Int32 → ka_T → Prop} (S : CallFix p m c cX4_take 1 s args lw_gd RX4) (hr : meth.sig.returnType = some .int) (hk : meth.locks = false) : ∀ (k0 : ka_T) (H : Heap) (locs : List Loc) (ls : Array Slot), lv_has ls 1 [(0, .ref (ad (11, 0)))] → Wo_ D cA cf ad A z0 k0 s H locs → q_X4_take cf post k0 → W p l e rmX4_take s m args below meth c H locs 0 0 (MQ below (va_Qi post (fun u t => Wx_ D cA cf ad A z0 u t) A) args s 0 0 A) (F0 m 0 ls []) := by
  intro k0 H locs ls hl hw hq
  refine lv_aload_n S.1 S.2.1 dX4_take_0 rfl (lv_at hl 0 rfl) ?_
  refine gf_412 S hw wf_X4_25 dX4_take_1 ?_
  refine lv_aload_n S.1 S.2.1 dX4_take_4 rfl (lv_at hl 0 rfl) ?_
  refine gf_425 S hw wf_X4_92 dX4_take_5 ?_
  obtain ⟨hi, hq⟩ := hq
  refine al_17 S hw hi dX4_take_8 ?_
  refine lv_if_ne (tgt := 17) S.1 S.2.1 dX4_take_9 rfl (fun h3 => ?_) (fun h3 => ?_)
  · replace hq := hq.1 h3
    exact b_X4_take_17 S hr hk  k0 _ _ _ (lv_sub hl [0] rfl) hw hq
  · replace hq := hq.2 h3
    refine lv_aload_n S.1 S.2.1 dX4_take_12 rfl (lv_at hl 0 rfl) ?_
    refine lv_iconst (v := (1 : Int32)) S.1 S.2.1 dX4_take_13 (by decide) ?_
    refine call_X4_fall S hw wl_X4_95 hq ⟨Nat.le_of_ble_eq_true rfl, Nat.le_of_ble_eq_true rfl⟩ hl.1 (Nat.le_of_ble_eq_true rfl) ⟨Nat.zero_le _, Nat.zero_le _⟩ dX4_take_14 (fun k4 H locs hq hw => ?_)
    exact b_X4_take_17 S hr hk  k4 _ _ _ (lv_sub hl [0] rfl) hw hq
theorem c_X4_take (z0 k0 : ka_T) {post : Int32 → ka_T → Prop} (hq : q_X4_take cf post  k0) : Met l yX4_take wsX4_take rmX4_take (va_Pc [.ref (ad (11, 0))] (Wx_ D cA cf ad A z0 k0)) (va_Qi post (fun u t => Wx_ D cA cf ad A z0 u t) A) 0 0 A :=
  kp_met (by decide +kernel) [.ref (ad (11, 0))] (Nat.le_of_ble_eq_true rfl) (fun p e s m args below meth c ls S hr hk hw hl => b_X4_take_0 S hr hk  k0 _ _ _ hl hw hq)
theorem call_X4_take {z0 k0 : ka_T} {post : Int32 → ka_T → Prop} (S : CallFix p m c cc nL s args lw_gd own) (hw : Wo_ D cA cf ad A z0 k0 s H locs) {index : Nat} (hl : Cond.methodLink own index yX4_take ∈ lw_gd) (hq : q_X4_take cf post  k0) (hR : rmX4_take.frames + 1 ≤ R.frames ∧ 8 + (1 + 11) + rmX4_take.locals ≤ R.locals) (hls : ls.size = nL) (hro : (rest.map fun v => v.category).sum ≤ 8) (hcs : cells ≤ R.cells ∧ slots ≤ R.slots) (hd : decode cc pc = .ok (.invokevirtual index, 3)) (kk : ∀ (r : Int32) (u : ka_T) (H1 : Heap) (locs1 : List Loc), post r u → Wo_ D cA cf ad A z0 u s H1 locs1 → W p l e R s m args below meth c H1 locs1 cells slots Q (F0 m (pc + 3) ls (.int r :: rest))) : W p l e R s m args below meth c H locs cells slots Q (F0 m pc ls (.ref (ad (11, 0)) :: rest)) :=
  kg_vi (cu := fun u => ce_l cA cf ad z0 u) (As := []) S hw (q := (11, 0)) (c_X4_take z0 k0  hq) wc_X4_take wn_X4 hl wi_X4_take (C := RX4) (T := TX4) (N := 27) (ci := 4) (fs := fx_11 cf ad k0 0) wse_X4_take (km_11) rfl rfl (na := 0) (by decide +kernel) rfl rfl rfl hR hls rfl hro hcs hd kk
abbrev rmX4_give : Room := { frames := 0, cells := 0, slots := 0, locals := 0 }
set_option maxRecDepth 100000 in
set_option maxHeartbeats 4000000 in
theorem b_X4_give_0 {post : ka_T → Prop} (S : CallFix p m c cX4_give 3 s args lw_gd RX4) (hr : meth.sig.returnType = none) (hk : meth.locks = false) : ∀ (x1 : Int32) (x2 : Int32) (k0 : ka_T) (H : Heap) (locs : List Loc) (ls : Array Slot), lv_has ls 3 [(0, .ref (ad (11, 0))), (1, .int x1), (2, .int x2)] → Wo_ D cA cf ad A z0 k0 s H locs → q_X4_give cf post x1 x2 k0 → W p l e rmX4_give s m args below meth c H locs 0 0 (MQ below (va_Qv post (fun u t => Wx_ D cA cf ad A z0 u t) A) args s 0 0 A) (F0 m 0 ls []) := by
  intro x1 x2 k0 H locs ls hl hw hq
  refine lv_aload_n S.1 S.2.1 dX4_give_0 rfl (lv_at hl 0 rfl) ?_
  refine gf_413 S hw wf_X4_28 dX4_give_1 ?_
  refine lv_bipush (v := (16 : Int32)) S.1 S.2.1 dX4_give_4 (by decide) ?_
  refine lv_iload_n S.1 S.2.1 dX4_give_6 rfl (lv_at hl 1 rfl) ?_
  refine lv_imul S.1 S.2.1 dX4_give_7 ?_
  refine lv_aload_n S.1 S.2.1 dX4_give_8 rfl (lv_at hl 0 rfl) ?_
  refine gf_412 S hw wf_X4_25 dX4_give_9 ?_
  refine lv_iload_n S.1 S.2.1 dX4_give_12 rfl (lv_at hl 1 rfl) ?_
  obtain ⟨hi, hq⟩ := hq
  refine al_17 S hw hi dX4_give_13 ?_
  refine lv_iadd S.1 S.2.1 dX4_give_14 ?_
  refine lv_iload_n S.1 S.2.1 dX4_give_15 rfl (lv_at hl 2 rfl) ?_
  obtain ⟨hi, hq⟩ := hq
  refine as_18 S hw hi dX4_give_16 (fun k1 H locs e1 hw => ?_)
  replace hq := hq _ e1
  refine lv_aload_n S.1 S.2.1 dX4_give_17 rfl (lv_at hl 0 rfl) ?_
  refine gf_412 S hw wf_X4_25 dX4_give_18 ?_
  refine lv_iload_n S.1 S.2.1 dX4_give_21 rfl (lv_at hl 1 rfl) ?_
  refine lv_dup2_11 S.1 S.2.1 dX4_give_22 rfl rfl ?_
  obtain ⟨hi, hq⟩ := hq
  refine al_17 S hw hi dX4_give_23 ?_
  refine lv_iconst (v := (1 : Int32)) S.1 S.2.1 dX4_give_24 (by decide) ?_
  refine lv_iadd S.1 S.2.1 dX4_give_25 ?_
  obtain ⟨hi, hq⟩ := hq
  refine as_17 S hw hi dX4_give_26 (fun k2 H locs e2 hw => ?_)
  replace hq := hq _ e2
  exact kr_v (cu := fun u => ce_l cA cf ad z0 u) S hr hk hw hq dX4_give_27
theorem c_X4_give (z0 k0 : ka_T) (x1 : Int32) (x2 : Int32) {post : ka_T → Prop} (hq : q_X4_give cf post x1 x2 k0) : Met l yX4_give wsX4_give rmX4_give (va_Pc [.ref (ad (11, 0)), .int x1, .int x2] (Wx_ D cA cf ad A z0 k0)) (va_Qv post (fun u t => Wx_ D cA cf ad A z0 u t) A) 0 0 A :=
  kp_met (by decide +kernel) [.ref (ad (11, 0)), .int x1, .int x2] (Nat.le_of_ble_eq_true rfl) (fun p e s m args below meth c ls S hr hk hw hl => b_X4_give_0 S hr hk x1 x2 k0 _ _ _ hl hw hq)
theorem call_X4_give {z0 k0 : ka_T} {x1 : Int32} {x2 : Int32} {post : ka_T → Prop} (S : CallFix p m c cc nL s args lw_gd own) (hw : Wo_ D cA cf ad A z0 k0 s H locs) {index : Nat} (hl : Cond.methodLink own index yX4_give ∈ lw_gd) (hq : q_X4_give cf post x1 x2 k0) (hR : rmX4_give.frames + 1 ≤ R.frames ∧ 8 + (3 + 11) + rmX4_give.locals ≤ R.locals) (hls : ls.size = nL) (hro : (rest.map fun v => v.category).sum ≤ 8) (hcs : cells ≤ R.cells ∧ slots ≤ R.slots) (hd : decode cc pc = .ok (.invokevirtual index, 3)) (kk : ∀ (u : ka_T) (H1 : Heap) (locs1 : List Loc), post u → Wo_ D cA cf ad A z0 u s H1 locs1 → W p l e R s m args below meth c H1 locs1 cells slots Q (F0 m (pc + 3) ls rest)) : W p l e R s m args below meth c H locs cells slots Q (F0 m pc ls (.int x2 :: .int x1 :: .ref (ad (11, 0)) :: rest)) :=
  kg_vv (cu := fun u => ce_l cA cf ad z0 u) (As := [.int x1, .int x2]) S hw (q := (11, 0)) (c_X4_give z0 k0 x1 x2 hq) wc_X4_give wn_X4 hl wi_X4_give (C := RX4) (T := TX4) (N := 27) (ci := 4) (fs := fx_11 cf ad k0 0) wse_X4_give (km_11) rfl rfl (na := 2) (by decide +kernel) rfl rfl rfl hR hls rfl hro hcs hd kk
abbrev rmX4_put : Room := { frames := 1, cells := 0, slots := 0, locals := 22 }
set_option maxRecDepth 100000 in
set_option maxHeartbeats 4000000 in
theorem b_X4_put_0 {post : ka_T → Prop} (S : CallFix p m c cX4_put 2 s args lw_gd RX4) (hr : meth.sig.returnType = none) (hk : meth.locks = false) : ∀ (x1 : Int32) (k0 : ka_T) (H : Heap) (locs : List Loc) (ls : Array Slot), lv_has ls 2 [(0, .ref (ad (11, 0))), (1, .int x1)] → Wo_ D cA cf ad A z0 k0 s H locs → q_X4_put cf post x1 k0 → W p l e rmX4_put s m args below meth c H locs 0 0 (MQ below (va_Qv post (fun u t => Wx_ D cA cf ad A z0 u t) A) args s 0 0 A) (F0 m 0 ls []) := by
  intro x1 k0 H locs ls hl hw hq
  refine lv_aload_n S.1 S.2.1 dX4_put_0 rfl (lv_at hl 0 rfl) ?_
  refine gf_412 S hw wf_X4_25 dX4_put_1 ?_
  refine lv_aload_n S.1 S.2.1 dX4_put_4 rfl (lv_at hl 0 rfl) ?_
  refine gf_425 S hw wf_X4_92 dX4_put_5 ?_
  obtain ⟨hi, hq⟩ := hq
  refine al_17 S hw hi dX4_put_8 ?_
  refine lv_aload_n S.1 S.2.1 dX4_put_9 rfl (lv_at hl 0 rfl) ?_
  refine gf_401 S hw wf_X4_69 dX4_put_10 ?_
  refine lv_icmp_ne (tgt := 21) S.1 S.2.1 dX4_put_13 rfl (fun h1 => ?_) (fun h1 => ?_)
  · replace hq := hq.1 h1
    refine lv_aload_n S.1 S.2.1 dX4_put_21 rfl (lv_at hl 0 rfl) ?_
    refine gf_426 S hw wf_X4_89 dX4_put_22 ?_
    refine lv_if_ne (tgt := 37) S.1 S.2.1 dX4_put_25 rfl (fun h2 => ?_) (fun h2 => ?_)
    · replace hq := hq.1 h2
      exact kr_v (cu := fun u => ce_l cA cf ad z0 u) S hr hk hw hq dX4_put_37
    · replace hq := hq.2 h2
      refine lv_aload_n S.1 S.2.1 dX4_put_28 rfl (lv_at hl 0 rfl) ?_
      refine lv_aload_n S.1 S.2.1 dX4_put_29 rfl (lv_at hl 0 rfl) ?_
      refine gf_425 S hw wf_X4_92 dX4_put_30 ?_
      refine lv_iload_n S.1 S.2.1 dX4_put_33 rfl (lv_at hl 1 rfl) ?_
      refine call_X4_give S hw wl_X4_99 hq ⟨Nat.le_of_ble_eq_true rfl, Nat.le_of_ble_eq_true rfl⟩ hl.1 (Nat.le_of_ble_eq_true rfl) ⟨Nat.zero_le _, Nat.zero_le _⟩ dX4_put_34 (fun k3 H locs hq hw => ?_)
      exact kr_v (cu := fun u => ce_l cA cf ad z0 u) S hr hk hw hq dX4_put_37
  · replace hq := hq.2 h1
    refine lv_aload_n S.1 S.2.1 dX4_put_16 rfl (lv_at hl 0 rfl) ?_
    refine lv_iconst (v := (1 : Int32)) S.1 S.2.1 dX4_put_17 (by decide) ?_
    refine call_X4_fall S hw wl_X4_95 hq ⟨Nat.le_of_ble_eq_true rfl, Nat.le_of_ble_eq_true rfl⟩ hl.1 (Nat.le_of_ble_eq_true rfl) ⟨Nat.zero_le _, Nat.zero_le _⟩ dX4_put_18 (fun k4 H locs hq hw => ?_)
    refine lv_aload_n S.1 S.2.1 dX4_put_21 rfl (lv_at hl 0 rfl) ?_
    refine gf_426 S hw wf_X4_89 dX4_put_22 ?_
    refine lv_if_ne (tgt := 37) S.1 S.2.1 dX4_put_25 rfl (fun h5 => ?_) (fun h5 => ?_)
    · replace hq := hq.1 h5
      exact kr_v (cu := fun u => ce_l cA cf ad z0 u) S hr hk hw hq dX4_put_37
    · replace hq := hq.2 h5
      refine lv_aload_n S.1 S.2.1 dX4_put_28 rfl (lv_at hl 0 rfl) ?_
      refine lv_aload_n S.1 S.2.1 dX4_put_29 rfl (lv_at hl 0 rfl) ?_
      refine gf_425 S hw wf_X4_92 dX4_put_30 ?_
      refine lv_iload_n S.1 S.2.1 dX4_put_33 rfl (lv_at hl 1 rfl) ?_
      refine call_X4_give S hw wl_X4_99 hq ⟨Nat.le_of_ble_eq_true rfl, Nat.le_of_ble_eq_true rfl⟩ hl.1 (Nat.le_of_ble_eq_true rfl) ⟨Nat.zero_le _, Nat.zero_le _⟩ dX4_put_34 (fun k6 H locs hq hw => ?_)
      exact kr_v (cu := fun u => ce_l cA cf ad z0 u) S hr hk hw hq dX4_put_37
theorem c_X4_put (z0 k0 : ka_T) (x1 : Int32) {post : ka_T → Prop} (hq : q_X4_put cf post x1 k0) : Met l yX4_put wsX4_put rmX4_put (va_Pc [.ref (ad (11, 0)), .int x1] (Wx_ D cA cf ad A z0 k0)) (va_Qv post (fun u t => Wx_ D cA cf ad A z0 u t) A) 0 0 A :=
  kp_met (by decide +kernel) [.ref (ad (11, 0)), .int x1] (Nat.le_of_ble_eq_true rfl) (fun p e s m args below meth c ls S hr hk hw hl => b_X4_put_0 S hr hk x1 k0 _ _ _ hl hw hq)
theorem call_X4_put {z0 k0 : ka_T} {x1 : Int32} {post : ka_T → Prop} (S : CallFix p m c cc nL s args lw_gd own) (hw : Wo_ D cA cf ad A z0 k0 s H locs) {index : Nat} (hl : Cond.methodLink own index yX4_put ∈ lw_gd) (hq : q_X4_put cf post x1 k0) (hR : rmX4_put.frames + 1 ≤ R.frames ∧ 8 + (2 + 11) + rmX4_put.locals ≤ R.locals) (hls : ls.size = nL) (hro : (rest.map fun v => v.category).sum ≤ 8) (hcs : cells ≤ R.cells ∧ slots ≤ R.slots) (hd : decode cc pc = .ok (.invokevirtual index, 3)) (kk : ∀ (u : ka_T) (H1 : Heap) (locs1 : List Loc), post u → Wo_ D cA cf ad A z0 u s H1 locs1 → W p l e R s m args below meth c H1 locs1 cells slots Q (F0 m (pc + 3) ls rest)) : W p l e R s m args below meth c H locs cells slots Q (F0 m pc ls (.int x1 :: .ref (ad (11, 0)) :: rest)) :=
  kg_vv (cu := fun u => ce_l cA cf ad z0 u) (As := [.int x1]) S hw (q := (11, 0)) (c_X4_put z0 k0 x1 hq) wc_X4_put wn_X4 hl wi_X4_put (C := RX4) (T := TX4) (N := 27) (ci := 4) (fs := fx_11 cf ad k0 0) wse_X4_put (km_11) rfl rfl (na := 1) (by decide +kernel) rfl rfl rfl hR hls rfl hro hcs hd kk
abbrev rmX4_arithmetic : Room := { frames := 2, cells := 0, slots := 0, locals := 43 }
set_option maxRecDepth 100000 in
set_option maxHeartbeats 4000000 in
theorem b_X4_arithmetic_24 {post : ka_T → Prop} (S : CallFix p m c cX4_arithmetic 4 s args lw_gd RX4) (hr : meth.sig.returnType = none) (hk : meth.locks = false) : ∀ (x1 : Int32) (x2 : Int32) (x3 : Int32) (k0 : ka_T) (H : Heap) (locs : List Loc) (ls : Array Slot), lv_has ls 4 [(0, .ref (ad (11, 0))), (1, .int x1), (2, .int x2), (3, .int x3)] → Wo_ D cA cf ad A z0 k0 s H locs → q_X4_arithmetic_24 cf post x1 x2 x3 k0 → W p l e rmX4_arithmetic s m args below meth c H locs 0 0 (MQ below (va_Qv post (fun u t => Wx_ D cA cf ad A z0 u t) A) args s 0 0 A) (F0 m 24 ls []) := by
  intro x1 x2 x3 k0 H locs ls hl hw hq
  refine lv_aload_n S.1 S.2.1 dX4_arithmetic_24 rfl (lv_at hl 0 rfl) ?_
  refine gf_426 S hw wf_X4_89 dX4_arithmetic_25 ?_
  refine lv_if_ne (tgt := 71) S.1 S.2.1 dX4_arithmetic_28 rfl (fun h1 => ?_) (fun h1 => ?_)
  · replace hq := hq.1 h1
    exact kr_v (cu := fun u => ce_l cA cf ad z0 u) S hr hk hw hq dX4_arithmetic_71
  · replace hq := hq.2 h1
    refine lv_aload_n S.1 S.2.1 dX4_arithmetic_31 rfl (lv_at hl 0 rfl) ?_
    refine lv_iload_n S.1 S.2.1 dX4_arithmetic_32 rfl (lv_at hl 1 rfl) ?_
    refine lv_iconst (v := (2 : Int32)) S.1 S.2.1 dX4_arithmetic_33 (by decide) ?_
    refine lv_icmp_ne (tgt := 43) S.1 S.2.1 dX4_arithmetic_34 rfl (fun h2 => ?_) (fun h2 => ?_)
    · replace hq := hq.1 h2
      refine lv_iload_n S.1 S.2.1 dX4_arithmetic_43 rfl (lv_at hl 1 rfl) ?_
      refine lv_iconst (v := (3 : Int32)) S.1 S.2.1 dX4_arithmetic_44 (by decide) ?_
      refine lv_icmp_ne (tgt := 54) S.1 S.2.1 dX4_arithmetic_45 rfl (fun h3 => ?_) (fun h3 => ?_)
      · replace hq := hq.1 h3
        refine lv_iload_n S.1 S.2.1 dX4_arithmetic_54 rfl (lv_at hl 1 rfl) ?_
        refine lv_iconst (v := (4 : Int32)) S.1 S.2.1 dX4_arithmetic_55 (by decide) ?_
        refine lv_icmp_ne (tgt := 65) S.1 S.2.1 dX4_arithmetic_56 rfl (fun h4 => ?_) (fun h4 => ?_)
        · replace hq := hq.1 h4
          refine lv_iload_n S.1 S.2.1 dX4_arithmetic_65 rfl (lv_at hl 3 rfl) ?_
          refine lv_iload_n S.1 S.2.1 dX4_arithmetic_66 rfl (lv_at hl 2 rfl) ?_
          obtain ⟨hi, hq⟩ := hq
          refine lv_idiv S.1 S.2.1 dX4_arithmetic_67 hi ?_
          refine call_X4_put S hw wl_X4_115 hq ⟨Nat.le_of_ble_eq_true rfl, Nat.le_of_ble_eq_true rfl⟩ hl.1 (Nat.le_of_ble_eq_true rfl) ⟨Nat.zero_le _, Nat.zero_le _⟩ dX4_arithmetic_68 (fun k5 H locs hq hw => ?_)
          exact kr_v (cu := fun u => ce_l cA cf ad z0 u) S hr hk hw hq dX4_arithmetic_71
        · replace hq := hq.2 h4
          refine lv_iload_n S.1 S.2.1 dX4_arithmetic_59 rfl (lv_at hl 3 rfl) ?_
          refine lv_iload_n S.1 S.2.1 dX4_arithmetic_60 rfl (lv_at hl 2 rfl) ?_
          refine lv_imul S.1 S.2.1 dX4_arithmetic_61 ?_
          refine lv_goto (tgt := 68) S.1 S.2.1 dX4_arithmetic_62 rfl ?_
          refine call_X4_put S hw wl_X4_115 hq ⟨Nat.le_of_ble_eq_true rfl, Nat.le_of_ble_eq_true rfl⟩ hl.1 (Nat.le_of_ble_eq_true rfl) ⟨Nat.zero_le _, Nat.zero_le _⟩ dX4_arithmetic_68 (fun k6 H locs hq hw => ?_)
          exact kr_v (cu := fun u => ce_l cA cf ad z0 u) S hr hk hw hq dX4_arithmetic_71
      · replace hq := hq.2 h3
        refine lv_iload_n S.1 S.2.1 dX4_arithmetic_48 rfl (lv_at hl 3 rfl) ?_
        refine lv_iload_n S.1 S.2.1 dX4_arithmetic_49 rfl (lv_at hl 2 rfl) ?_
        refine lv_isub S.1 S.2.1 dX4_arithmetic_50 ?_
        refine lv_goto (tgt := 68) S.1 S.2.1 dX4_arithmetic_51 rfl ?_
        refine call_X4_put S hw wl_X4_115 hq ⟨Nat.le_of_ble_eq_true rfl, Nat.le_of_ble_eq_true rfl⟩ hl.1 (Nat.le_of_ble_eq_true rfl) ⟨Nat.zero_le _, Nat.zero_le _⟩ dX4_arithmetic_68 (fun k7 H locs hq hw => ?_)
        exact kr_v (cu := fun u => ce_l cA cf ad z0 u) S hr hk hw hq dX4_arithmetic_71
    · replace hq := hq.2 h2
      refine lv_iload_n S.1 S.2.1 dX4_arithmetic_37 rfl (lv_at hl 3 rfl) ?_
      refine lv_iload_n S.1 S.2.1 dX4_arithmetic_38 rfl (lv_at hl 2 rfl) ?_
      refine lv_iadd S.1 S.2.1 dX4_arithmetic_39 ?_
      refine lv_goto (tgt := 68) S.1 S.2.1 dX4_arithmetic_40 rfl ?_
      refine call_X4_put S hw wl_X4_115 hq ⟨Nat.le_of_ble_eq_true rfl, Nat.le_of_ble_eq_true rfl⟩ hl.1 (Nat.le_of_ble_eq_true rfl) ⟨Nat.zero_le _, Nat.zero_le _⟩ dX4_arithmetic_68 (fun k8 H locs hq hw => ?_)
      exact kr_v (cu := fun u => ce_l cA cf ad z0 u) S hr hk hw hq dX4_arithmetic_71
set_option maxRecDepth 100000 in
set_option maxHeartbeats 4000000 in
theorem b_X4_arithmetic_0 {post : ka_T → Prop} (S : CallFix p m c cX4_arithmetic 4 s args lw_gd RX4) (hr : meth.sig.returnType = none) (hk : meth.locks = false) : ∀ (x1 : Int32) (k0 : ka_T) (H : Heap) (locs : List Loc) (ls : Array Slot), lv_has ls 4 [(0, .ref (ad (11, 0))), (1, .int x1)] → Wo_ D cA cf ad A z0 k0 s H locs → q_X4_arithmetic cf post x1 k0 → W p l e rmX4_arithmetic s m args below meth c H locs 0 0 (MQ below (va_Qv post (fun u t => Wx_ D cA cf ad A z0 u t) A) args s 0 0 A) (F0 m 0 ls []) := by
  intro x1 k0 H locs ls hl hw hq
  refine lv_aload_n S.1 S.2.1 dX4_arithmetic_0 rfl (lv_at hl 0 rfl) ?_
  refine call_X4_take S hw wl_X4_106 hq ⟨Nat.le_of_ble_eq_true rfl, Nat.le_of_ble_eq_true rfl⟩ hl.1 (Nat.le_of_ble_eq_true rfl) ⟨Nat.zero_le _, Nat.zero_le _⟩ dX4_arithmetic_1 (fun r9 k9 H locs hq hw => ?_)
  refine lv_istore_n (lv' := [(2, .int r9), (0, .ref (ad (11, 0))), (1, .int x1)]) S.1 S.2.1 dX4_arithmetic_4 rfl hl (by decide) rfl (fun ls hl => ?_)
  refine lv_aload_n S.1 S.2.1 dX4_arithmetic_5 rfl (lv_at hl 1 rfl) ?_
  refine call_X4_take S hw wl_X4_106 hq ⟨Nat.le_of_ble_eq_true rfl, Nat.le_of_ble_eq_true rfl⟩ hl.1 (Nat.le_of_ble_eq_true rfl) ⟨Nat.zero_le _, Nat.zero_le _⟩ dX4_arithmetic_6 (fun r10 k10 H locs hq hw => ?_)
  refine lv_istore_n (lv' := [(3, .int r10), (2, .int r9), (0, .ref (ad (11, 0))), (1, .int x1)]) S.1 S.2.1 dX4_arithmetic_9 rfl hl (by decide) rfl (fun ls hl => ?_)
  refine lv_iload_n S.1 S.2.1 dX4_arithmetic_10 rfl (lv_at hl 3 rfl) ?_
  refine lv_iconst (v := (5 : Int32)) S.1 S.2.1 dX4_arithmetic_11 (by decide) ?_
  refine lv_icmp_ne (tgt := 24) S.1 S.2.1 dX4_arithmetic_12 rfl (fun h11 => ?_) (fun h11 => ?_)
  · replace hq := hq.1 h11
    exact b_X4_arithmetic_24 S hr hk x1 r9 r10 k10 _ _ _ (lv_sub hl [2, 3, 1, 0] rfl) hw hq
  · replace hq := hq.2 h11
    refine lv_iload_n S.1 S.2.1 dX4_arithmetic_15 rfl (lv_at hl 1 rfl) ?_
    refine lv_if_ne (tgt := 24) S.1 S.2.1 dX4_arithmetic_16 rfl (fun h12 => ?_) (fun h12 => ?_)
    · replace hq := hq.1 h12
      exact b_X4_arithmetic_24 S hr hk x1 r9 r10 k10 _ _ _ (lv_sub hl [2, 3, 1, 0] rfl) hw hq
    · replace hq := hq.2 h12
      refine lv_aload_n S.1 S.2.1 dX4_arithmetic_19 rfl (lv_at hl 2 rfl) ?_
      refine lv_iconst (v := (3 : Int32)) S.1 S.2.1 dX4_arithmetic_20 (by decide) ?_
      refine call_X4_fall S hw wl_X4_95 hq ⟨Nat.le_of_ble_eq_true rfl, Nat.le_of_ble_eq_true rfl⟩ hl.1 (Nat.le_of_ble_eq_true rfl) ⟨Nat.zero_le _, Nat.zero_le _⟩ dX4_arithmetic_21 (fun k13 H locs hq hw => ?_)
      exact b_X4_arithmetic_24 S hr hk x1 r9 r10 k13 _ _ _ (lv_sub hl [2, 3, 1, 0] rfl) hw hq
theorem c_X4_arithmetic (z0 k0 : ka_T) (x1 : Int32) {post : ka_T → Prop} (hq : q_X4_arithmetic cf post x1 k0) : Met l yX4_arithmetic wsX4_arithmetic rmX4_arithmetic (va_Pc [.ref (ad (11, 0)), .int x1] (Wx_ D cA cf ad A z0 k0)) (va_Qv post (fun u t => Wx_ D cA cf ad A z0 u t) A) 0 0 A :=
  kp_met (by decide +kernel) [.ref (ad (11, 0)), .int x1] (Nat.le_of_ble_eq_true rfl) (fun p e s m args below meth c ls S hr hk hw hl => b_X4_arithmetic_0 S hr hk x1 k0 _ _ _ hl hw hq)
theorem call_X4_arithmetic {z0 k0 : ka_T} {x1 : Int32} {post : ka_T → Prop} (S : CallFix p m c cc nL s args lw_gd own) (hw : Wo_ D cA cf ad A z0 k0 s H locs) {index : Nat} (hl : Cond.methodLink own index yX4_arithmetic ∈ lw_gd) (hq : q_X4_arithmetic cf post x1 k0) (hR : rmX4_arithmetic.frames + 1 ≤ R.frames ∧ 8 + (4 + 11) + rmX4_arithmetic.locals ≤ R.locals) (hls : ls.size = nL) (hro : (rest.map fun v => v.category).sum ≤ 8) (hcs : cells ≤ R.cells ∧ slots ≤ R.slots) (hd : decode cc pc = .ok (.invokevirtual index, 3)) (kk : ∀ (u : ka_T) (H1 : Heap) (locs1 : List Loc), post u → Wo_ D cA cf ad A z0 u s H1 locs1 → W p l e R s m args below meth c H1 locs1 cells slots Q (F0 m (pc + 3) ls rest)) : W p l e R s m args below meth c H locs cells slots Q (F0 m pc ls (.int x1 :: .ref (ad (11, 0)) :: rest)) :=
  kg_vv (cu := fun u => ce_l cA cf ad z0 u) (As := [.int x1]) S hw (q := (11, 0)) (c_X4_arithmetic z0 k0 x1 hq) wc_X4_arithmetic wn_X4 hl wi_X4_arithmetic (C := RX4) (T := TX4) (N := 27) (ci := 4) (fs := fx_11 cf ad k0 0) wse_X4_arithmetic (km_11) rfl rfl (na := 1) (by decide +kernel) rfl rfl rfl hR hls rfl hro hcs hd kk
end KW
