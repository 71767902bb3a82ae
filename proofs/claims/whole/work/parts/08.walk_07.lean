/-! printed by wip/whole/gen.py: the walks, contracts and calls of the methods -/
section KW
variable {p : Program} {l : Launch} {e : Env} {R : Room} {s : State} {m : MethodId} {args : Array Value} {below : List Frame} {meth : Method} {c : Code} {H : Heap} {locs : List Loc} {cells slots : Nat} {Q : State → Prop}
variable {cc : ByteArray} {nL pc : Nat} {ls : Array Slot} {rest : List Value} {own : String} {D : va_G} {A : Nat → Prop} {cA : Nat → ClassId} {cf : Nat → Nat} {ad : Nat × Nat → Nat} {z0 : ka_T}
abbrev rmX4_tick : Room := { frames := 1, cells := 0, slots := 0, locals := 27 }
set_option maxRecDepth 100000 in
set_option maxHeartbeats 4000000 in
theorem b_X4_tick_22 {post : Int32 → ka_T → Prop} (S : CallFix p m c cX4_tick 4 s args lw_gd RX4) (hr : meth.sig.returnType = some .int) (hk : meth.locks = false) : ∀ nf : Nat, ∀ (x1 : Int32) (x2 : Int32) (x3 : Int32) (k0 : ka_T) (H : Heap) (locs : List Loc) (ls : Array Slot), lv_has ls 4 [(0, .ref (ad (11, 0))), (1, .int x1), (2, .int x2), (3, .int x3)] → Wo_ D cA cf ad A z0 k0 s H locs → q_X4_tick_22 cf post nf x1 x2 x3 k0 → W p l e rmX4_tick s m args below meth c H locs 0 0 (MQ below (va_Qi post (fun u t => Wx_ D cA cf ad A z0 u t) A) args s 0 0 A) (F0 m 22 ls []) := by
  intro nf
  induction nf with
  | zero =>
    intro x1 x2 x3 k0 H locs ls hl hw hq
    exact False.elim hq
  | succ nf ih =>
    intro x1 x2 x3 k0 H locs ls hl hw hq
    refine lv_iload_n S.1 S.2.1 dX4_tick_22 rfl (lv_at hl 3 rfl) ?_
    refine lv_if_lt (tgt := 65) S.1 S.2.1 dX4_tick_23 rfl (fun h1 => ?_) (fun h1 => ?_)
    · replace hq := hq.1 h1
      refine lv_iload_n S.1 S.2.1 dX4_tick_65 rfl (lv_at hl 1 rfl) ?_
      exact kr_i (cu := fun u => ce_l cA cf ad z0 u) S hr rfl hk hw hq dX4_tick_66
    · replace hq := hq.2 h1
      refine lv_aload_n S.1 S.2.1 dX4_tick_26 rfl (lv_at hl 0 rfl) ?_
      refine gf_416 S hw wf_X4_37 dX4_tick_27 ?_
      refine lv_iload_n S.1 S.2.1 dX4_tick_30 rfl (lv_at hl 3 rfl) ?_
      obtain ⟨hi, hq⟩ := hq
      refine al_21 S hw hi dX4_tick_31 ?_
      refine lv_aload_n S.1 S.2.1 dX4_tick_32 rfl (lv_at hl 0 rfl) ?_
      refine gf_407 S hw wf_X4_121 dX4_tick_33 ?_
      refine lv_icmp_ne (tgt := 51) S.1 S.2.1 dX4_tick_36 rfl (fun h2 => ?_) (fun h2 => ?_)
      · replace hq := hq.1 h2
        refine lv_iinc (k := 2) (v := (x2 + 1)) (lv' := [(2, .int (x2 + 1)), (0, .ref (ad (11, 0))), (1, .int x1), (3, .int x3)]) S.1 S.2.1 dX4_tick_51 hl rfl (ii_1 _) (by decide) rfl (fun ls hl => ?_)
        refine lv_aload_n S.1 S.2.1 dX4_tick_54 rfl (lv_at hl 1 rfl) ?_
        refine lv_iconst (v := (2 : Int32)) S.1 S.2.1 dX4_tick_55 (by decide) ?_
        refine lv_iconst (v := (-1 : Int32)) S.1 S.2.1 dX4_tick_56 (by decide) ?_
        refine lv_iload_n S.1 S.2.1 dX4_tick_57 rfl (lv_at hl 0 rfl) ?_
        refine call_X4_inState S hw wl_X4_109 hq ⟨Nat.le_of_ble_eq_true rfl, Nat.le_of_ble_eq_true rfl⟩ hl.1 (Nat.le_of_ble_eq_true rfl) ⟨Nat.zero_le _, Nat.zero_le _⟩ dX4_tick_58 (fun r3 k3 H locs hq hw => ?_)
        refine lv_istore_n (lv' := [(3, .int r3), (2, .int (x2 + 1)), (0, .ref (ad (11, 0))), (1, .int x1)]) S.1 S.2.1 dX4_tick_61 rfl hl (by decide) rfl (fun ls hl => ?_)
        refine lv_goto (tgt := 22) S.1 S.2.1 dX4_tick_62 rfl ?_
        exact ih x1 (x2 + 1) r3 k3 _ _ _ (lv_sub hl [2, 3, 1, 0] rfl) hw hq
      · replace hq := hq.2 h2
        refine lv_aload_n S.1 S.2.1 dX4_tick_39 rfl (lv_at hl 0 rfl) ?_
        refine lv_iload_n S.1 S.2.1 dX4_tick_40 rfl (lv_at hl 3 rfl) ?_
        refine lv_iconst (v := (1 : Int32)) S.1 S.2.1 dX4_tick_41 (by decide) ?_
        refine call_X4_set S hw wl_X4_85 hq ⟨Nat.le_of_ble_eq_true rfl, Nat.le_of_ble_eq_true rfl⟩ hl.1 (Nat.le_of_ble_eq_true rfl) ⟨Nat.zero_le _, Nat.zero_le _⟩ dX4_tick_42 (fun k4 H locs hq hw => ?_)
        refine lv_iinc (k := 1) (v := (x1 + 1)) (lv' := [(1, .int (x1 + 1)), (0, .ref (ad (11, 0))), (2, .int x2), (3, .int x3)]) S.1 S.2.1 dX4_tick_45 hl rfl (ii_1 _) (by decide) rfl (fun ls hl => ?_)
        refine lv_goto (tgt := 54) S.1 S.2.1 dX4_tick_48 rfl ?_
        refine lv_aload_n S.1 S.2.1 dX4_tick_54 rfl (lv_at hl 1 rfl) ?_
        refine lv_iconst (v := (2 : Int32)) S.1 S.2.1 dX4_tick_55 (by decide) ?_
        refine lv_iconst (v := (-1 : Int32)) S.1 S.2.1 dX4_tick_56 (by decide) ?_
        refine lv_iload_n S.1 S.2.1 dX4_tick_57 rfl (lv_at hl 2 rfl) ?_
        refine call_X4_inState S hw wl_X4_109 hq ⟨Nat.le_of_ble_eq_true rfl, Nat.le_of_ble_eq_true rfl⟩ hl.1 (Nat.le_of_ble_eq_true rfl) ⟨Nat.zero_le _, Nat.zero_le _⟩ dX4_tick_58 (fun r5 k5 H locs hq hw => ?_)
        refine lv_istore_n (lv' := [(3, .int r5), (1, .int (x1 + 1)), (0, .ref (ad (11, 0))), (2, .int x2)]) S.1 S.2.1 dX4_tick_61 rfl hl (by decide) rfl (fun ls hl => ?_)
        refine lv_goto (tgt := 22) S.1 S.2.1 dX4_tick_62 rfl ?_
        exact ih (x1 + 1) x2 r5 k5 _ _ _ (lv_sub hl [2, 1, 3, 0] rfl) hw hq
set_option maxRecDepth 100000 in
set_option maxHeartbeats 4000000 in
theorem b_X4_tick_0 {post : Int32 → ka_T → Prop} (S : CallFix p m c cX4_tick 4 s args lw_gd RX4) (hr : meth.sig.returnType = some .int) (hk : meth.locks = false) : ∀ (k0 : ka_T) (H : Heap) (locs : List Loc) (ls : Array Slot), lv_has ls 4 [(0, .ref (ad (11, 0)))] → Wo_ D cA cf ad A z0 k0 s H locs → q_X4_tick cf post k0 → W p l e rmX4_tick s m args below meth c H locs 0 0 (MQ below (va_Qi post (fun u t => Wx_ D cA cf ad A z0 u t) A) args s 0 0 A) (F0 m 0 ls []) := by
  intro k0 H locs ls hl hw hq
  refine lv_aload_n S.1 S.2.1 dX4_tick_0 rfl (lv_at hl 0 rfl) ?_
  refine lv_dup S.1 S.2.1 dX4_tick_1 rfl ?_
  refine gf_407 S hw wf_X4_121 dX4_tick_2 ?_
  refine lv_iconst (v := (1 : Int32)) S.1 S.2.1 dX4_tick_5 (by decide) ?_
  refine lv_iadd S.1 S.2.1 dX4_tick_6 ?_
  refine pf_407 S hw wf_X4_121 dX4_tick_7 (fun k6 H locs e6 hw => ?_)
  replace hq := hq _ e6
  refine lv_iconst (v := (0 : Int32)) S.1 S.2.1 dX4_tick_10 (by decide) ?_
  refine lv_istore_n (lv' := [(1, .int (0 : Int32)), (0, .ref (ad (11, 0)))]) S.1 S.2.1 dX4_tick_11 rfl hl (by decide) rfl (fun ls hl => ?_)
  refine lv_iconst (v := (0 : Int32)) S.1 S.2.1 dX4_tick_12 (by decide) ?_
  refine lv_istore_n (lv' := [(2, .int (0 : Int32)), (1, .int (0 : Int32)), (0, .ref (ad (11, 0)))]) S.1 S.2.1 dX4_tick_13 rfl hl (by decide) rfl (fun ls hl => ?_)
  refine lv_aload_n S.1 S.2.1 dX4_tick_14 rfl (lv_at hl 2 rfl) ?_
  refine lv_iconst (v := (2 : Int32)) S.1 S.2.1 dX4_tick_15 (by decide) ?_
  refine lv_iconst (v := (-1 : Int32)) S.1 S.2.1 dX4_tick_16 (by decide) ?_
  refine lv_iconst (v := (0 : Int32)) S.1 S.2.1 dX4_tick_17 (by decide) ?_
  refine call_X4_inState S hw wl_X4_109 hq ⟨Nat.le_of_ble_eq_true rfl, Nat.le_of_ble_eq_true rfl⟩ hl.1 (Nat.le_of_ble_eq_true rfl) ⟨Nat.zero_le _, Nat.zero_le _⟩ dX4_tick_18 (fun r7 k7 H locs hq hw => ?_)
  refine lv_istore_n (lv' := [(3, .int r7), (2, .int (0 : Int32)), (1, .int (0 : Int32)), (0, .ref (ad (11, 0)))]) S.1 S.2.1 dX4_tick_21 rfl hl (by decide) rfl (fun ls hl => ?_)
  obtain ⟨nf9, hq⟩ := hq
  exact b_X4_tick_22 S hr hk nf9 (0 : Int32) (0 : Int32) r7 k7 _ _ _ (lv_sub hl [3, 2, 1, 0] rfl) hw hq
theorem c_X4_tick (z0 k0 : ka_T) {post : Int32 → ka_T → Prop} (hq : q_X4_tick cf post  k0) : Met l yX4_tick wsX4_tick rmX4_tick (va_Pc [.ref (ad (11, 0))] (Wx_ D cA cf ad A z0 k0)) (va_Qi post (fun u t => Wx_ D cA cf ad A z0 u t) A) 0 0 A :=
  kp_met (by decide +kernel) [.ref (ad (11, 0))] (Nat.le_of_ble_eq_true rfl) (fun p e s m args below meth c ls S hr hk hw hl => b_X4_tick_0 S hr hk  k0 _ _ _ hl hw hq)
theorem call_X4_tick {z0 k0 : ka_T} {post : Int32 → ka_T → Prop} (S : CallFix p m c cc nL s args lw_gd own) (hw : Wo_ D cA cf ad A z0 k0 s H locs) {index : Nat} (hl : Cond.methodLink own index yX4_tick ∈ lw_gd) (hq : q_X4_tick cf post  k0) (hR : rmX4_tick.frames + 1 ≤ R.frames ∧ 8 + (4 + 11) + rmX4_tick.locals ≤ R.locals) (hls : ls.size = nL) (hro : (rest.map fun v => v.category).sum ≤ 8) (hcs : cells ≤ R.cells ∧ slots ≤ R.slots) (hd : decode cc pc = .ok (.invokevirtual index, 3)) (kk : ∀ (r : Int32) (u : ka_T) (H1 : Heap) (locs1 : List Loc), post r u → Wo_ D cA cf ad A z0 u s H1 locs1 → W p l e R s m args below meth c H1 locs1 cells slots Q (F0 m (pc + 3) ls (.int r :: rest))) : W p l e R s m args below meth c H locs cells slots Q (F0 m pc ls (.ref (ad (11, 0)) :: rest)) :=
  kg_vi (cu := fun u => ce_l cA cf ad z0 u) (As := []) S hw (q := (11, 0)) (c_X4_tick z0 k0  hq) wc_X4_tick wn_X4 hl wi_X4_tick (C := RX4) (T := TX4) (N := 27) (ci := 4) (fs := fx_11 cf ad k0 0) wse_X4_tick (km_11) rfl rfl (na := 0) (by decide +kernel) rfl rfl rfl hR hls rfl hro hcs hd kk
abbrev rmX4_waiter : Room := { frames := 1, cells := 0, slots := 0, locals := 27 }
set_option maxRecDepth 100000 in
set_option maxHeartbeats 4000000 in
theorem b_X4_waiter_0 {post : Int32 → ka_T → Prop} (S : CallFix p m c cX4_waiter 4 s args lw_gd RX4) (hr : meth.sig.returnType = some .int) (hk : meth.locks = false) : ∀ (x1 : Int32) (x2 : Int32) (x3 : Int32) (k0 : ka_T) (H : Heap) (locs : List Loc) (ls : Array Slot), lv_has ls 4 [(0, .ref (ad (11, 0))), (1, .int x1), (2, .int x2), (3, .int x3)] → Wo_ D cA cf ad A z0 k0 s H locs → q_X4_waiter cf post x1 x2 x3 k0 → W p l e rmX4_waiter s m args below meth c H locs 0 0 (MQ below (va_Qi post (fun u t => Wx_ D cA cf ad A z0 u t) A) args s 0 0 A) (F0 m 0 ls []) := by
  intro x1 x2 x3 k0 H locs ls hl hw hq
  refine lv_iload_n S.1 S.2.1 dX4_waiter_0 rfl (lv_at hl 1 rfl) ?_
  refine lv_if_lt (tgt := 16) S.1 S.2.1 dX4_waiter_1 rfl (fun h1 => ?_) (fun h1 => ?_)
  · replace hq := hq.1 h1
    refine lv_iconst (v := (-1 : Int32)) S.1 S.2.1 dX4_waiter_16 (by decide) ?_
    refine lv_goto (tgt := 35) S.1 S.2.1 dX4_waiter_17 rfl ?_
    exact kr_i (cu := fun u => ce_l cA cf ad z0 u) S hr rfl hk hw hq dX4_waiter_35
  · replace hq := hq.2 h1
    refine lv_iload_n S.1 S.2.1 dX4_waiter_4 rfl (lv_at hl 1 rfl) ?_
    refine lv_aload_n S.1 S.2.1 dX4_waiter_5 rfl (lv_at hl 0 rfl) ?_
    refine gf_402 S hw wf_X4_72 dX4_waiter_6 ?_
    refine lv_icmp_ge (tgt := 16) S.1 S.2.1 dX4_waiter_9 rfl (fun h2 => ?_) (fun h2 => ?_)
    · replace hq := hq.1 h2
      refine lv_iconst (v := (-1 : Int32)) S.1 S.2.1 dX4_waiter_16 (by decide) ?_
      refine lv_goto (tgt := 35) S.1 S.2.1 dX4_waiter_17 rfl ?_
      exact kr_i (cu := fun u => ce_l cA cf ad z0 u) S hr rfl hk hw hq dX4_waiter_35
    · replace hq := hq.2 h2
      refine lv_iload_n S.1 S.2.1 dX4_waiter_12 rfl (lv_at hl 3 rfl) ?_
      refine lv_if_ge (tgt := 20) S.1 S.2.1 dX4_waiter_13 rfl (fun h3 => ?_) (fun h3 => ?_)
      · replace hq := hq.1 h3
        refine lv_aload_n S.1 S.2.1 dX4_waiter_20 rfl (lv_at hl 0 rfl) ?_
        refine lv_iload_n S.1 S.2.1 dX4_waiter_21 rfl (lv_at hl 2 rfl) ?_
        refine lv_if_eq (tgt := 29) S.1 S.2.1 dX4_waiter_22 rfl (fun h4 => ?_) (fun h4 => ?_)
        · replace hq := hq.1 h4
          refine lv_iconst (v := (4 : Int32)) S.1 S.2.1 dX4_waiter_29 (by decide) ?_
          refine lv_iload_n S.1 S.2.1 dX4_waiter_30 rfl (lv_at hl 1 rfl) ?_
          refine lv_iload_n S.1 S.2.1 dX4_waiter_31 rfl (lv_at hl 3 rfl) ?_
          refine call_X4_inState S hw wl_X4_109 hq ⟨Nat.le_of_ble_eq_true rfl, Nat.le_of_ble_eq_true rfl⟩ hl.1 (Nat.le_of_ble_eq_true rfl) ⟨Nat.zero_le _, Nat.zero_le _⟩ dX4_waiter_32 (fun r5 k5 H locs hq hw => ?_)
          exact kr_i (cu := fun u => ce_l cA cf ad z0 u) S hr rfl hk hw hq dX4_waiter_35
        · replace hq := hq.2 h4
          refine lv_iconst (v := (3 : Int32)) S.1 S.2.1 dX4_waiter_25 (by decide) ?_
          refine lv_goto (tgt := 30) S.1 S.2.1 dX4_waiter_26 rfl ?_
          refine lv_iload_n S.1 S.2.1 dX4_waiter_30 rfl (lv_at hl 1 rfl) ?_
          refine lv_iload_n S.1 S.2.1 dX4_waiter_31 rfl (lv_at hl 3 rfl) ?_
          refine call_X4_inState S hw wl_X4_109 hq ⟨Nat.le_of_ble_eq_true rfl, Nat.le_of_ble_eq_true rfl⟩ hl.1 (Nat.le_of_ble_eq_true rfl) ⟨Nat.zero_le _, Nat.zero_le _⟩ dX4_waiter_32 (fun r6 k6 H locs hq hw => ?_)
          exact kr_i (cu := fun u => ce_l cA cf ad z0 u) S hr rfl hk hw hq dX4_waiter_35
      · replace hq := hq.2 h3
        refine lv_iconst (v := (-1 : Int32)) S.1 S.2.1 dX4_waiter_16 (by decide) ?_
        refine lv_goto (tgt := 35) S.1 S.2.1 dX4_waiter_17 rfl ?_
        exact kr_i (cu := fun u => ce_l cA cf ad z0 u) S hr rfl hk hw hq dX4_waiter_35
theorem c_X4_waiter (z0 k0 : ka_T) (x1 : Int32) (x2 : Int32) (x3 : Int32) {post : Int32 → ka_T → Prop} (hq : q_X4_waiter cf post x1 x2 x3 k0) : Met l yX4_waiter wsX4_waiter rmX4_waiter (va_Pc [.ref (ad (11, 0)), .int x1, .int x2, .int x3] (Wx_ D cA cf ad A z0 k0)) (va_Qi post (fun u t => Wx_ D cA cf ad A z0 u t) A) 0 0 A :=
  kp_met (by decide +kernel) [.ref (ad (11, 0)), .int x1, .int x2, .int x3] (Nat.le_of_ble_eq_true rfl) (fun p e s m args below meth c ls S hr hk hw hl => b_X4_waiter_0 S hr hk x1 x2 x3 k0 _ _ _ hl hw hq)
theorem call_X4_waiter {z0 k0 : ka_T} {x1 : Int32} {x2 : Int32} {x3 : Int32} {post : Int32 → ka_T → Prop} (S : CallFix p m c cc nL s args lw_gd own) (hw : Wo_ D cA cf ad A z0 k0 s H locs) {index : Nat} (hl : Cond.methodLink own index yX4_waiter ∈ lw_gd) (hq : q_X4_waiter cf post x1 x2 x3 k0) (hR : rmX4_waiter.frames + 1 ≤ R.frames ∧ 8 + (4 + 11) + rmX4_waiter.locals ≤ R.locals) (hls : ls.size = nL) (hro : (rest.map fun v => v.category).sum ≤ 8) (hcs : cells ≤ R.cells ∧ slots ≤ R.slots) (hd : decode cc pc = .ok (.invokevirtual index, 3)) (kk : ∀ (r : Int32) (u : ka_T) (H1 : Heap) (locs1 : List Loc), post r u → Wo_ D cA cf ad A z0 u s H1 locs1 → W p l e R s m args below meth c H1 locs1 cells slots Q (F0 m (pc + 3) ls (.int r :: rest))) : W p l e R s m args below meth c H locs cells slots Q (F0 m pc ls (.int x3 :: .int x2 :: .int x1 :: .ref (ad (11, 0)) :: rest)) :=
  kg_vi (cu := fun u => ce_l cA cf ad z0 u) (As := [.int x1, .int x2, .int x3]) S hw (q := (11, 0)) (c_X4_waiter z0 k0 x1 x2 x3 hq) wc_X4_waiter wn_X4 hl wi_X4_waiter (C := RX4) (T := TX4) (N := 27) (ci := 4) (fs := fx_11 cf ad k0 0) wse_X4_waiter (km_11) rfl rfl (na := 3) (by decide +kernel) rfl rfl rfl hR hls rfl hro hcs hd kk
abbrev rmX4_why : Room := { frames := 0, cells := 0, slots := 0, locals := 0 }
set_option maxRecDepth 100000 in
set_option maxHeartbeats 4000000 in
theorem b_X4_why_0 {post : Int32 → ka_T → Prop} (S : CallFix p m c cX4_why 2 s args lw_gd RX4) (hr : meth.sig.returnType = some .int) (hk : meth.locks = false) : ∀ (x1 : Int32) (k0 : ka_T) (H : Heap) (locs : List Loc) (ls : Array Slot), lv_has ls 2 [(0, .ref (ad (11, 0))), (1, .int x1)] → Wo_ D cA cf ad A z0 k0 s H locs → q_X4_why cf post x1 k0 → W p l e rmX4_why s m args below meth c H locs 0 0 (MQ below (va_Qi post (fun u t => Wx_ D cA cf ad A z0 u t) A) args s 0 0 A) (F0 m 0 ls []) := by
  intro x1 k0 H locs ls hl hw hq
  refine lv_iload_n S.1 S.2.1 dX4_why_0 rfl (lv_at hl 1 rfl) ?_
  refine lv_if_lt (tgt := 12) S.1 S.2.1 dX4_why_1 rfl (fun h1 => ?_) (fun h1 => ?_)
  · replace hq := hq.1 h1
    refine lv_iconst (v := (-1 : Int32)) S.1 S.2.1 dX4_why_12 (by decide) ?_
    refine lv_goto (tgt := 22) S.1 S.2.1 dX4_why_13 rfl ?_
    exact kr_i (cu := fun u => ce_l cA cf ad z0 u) S hr rfl hk hw hq dX4_why_22
  · replace hq := hq.2 h1
    refine lv_iload_n S.1 S.2.1 dX4_why_4 rfl (lv_at hl 1 rfl) ?_
    refine lv_aload_n S.1 S.2.1 dX4_why_5 rfl (lv_at hl 0 rfl) ?_
    refine gf_400 S hw wf_X4_65 dX4_why_6 ?_
    refine lv_icmp_lt (tgt := 16) S.1 S.2.1 dX4_why_9 rfl (fun h2 => ?_) (fun h2 => ?_)
    · replace hq := hq.1 h2
      refine lv_aload_n S.1 S.2.1 dX4_why_16 rfl (lv_at hl 0 rfl) ?_
      refine gf_420 S hw wf_X4_49 dX4_why_17 ?_
      refine lv_iload_n S.1 S.2.1 dX4_why_20 rfl (lv_at hl 1 rfl) ?_
      obtain ⟨hi, hq⟩ := hq
      refine al_25 S hw hi dX4_why_21 ?_
      exact kr_i (cu := fun u => ce_l cA cf ad z0 u) S hr rfl hk hw hq dX4_why_22
    · replace hq := hq.2 h2
      refine lv_iconst (v := (-1 : Int32)) S.1 S.2.1 dX4_why_12 (by decide) ?_
      refine lv_goto (tgt := 22) S.1 S.2.1 dX4_why_13 rfl ?_
      exact kr_i (cu := fun u => ce_l cA cf ad z0 u) S hr rfl hk hw hq dX4_why_22
theorem c_X4_why (z0 k0 : ka_T) (x1 : Int32) {post : Int32 → ka_T → Prop} (hq : q_X4_why cf post x1 k0) : Met l yX4_why wsX4_why rmX4_why (va_Pc [.ref (ad (11, 0)), .int x1] (Wx_ D cA cf ad A z0 k0)) (va_Qi post (fun u t => Wx_ D cA cf ad A z0 u t) A) 0 0 A :=
  kp_met (by decide +kernel) [.ref (ad (11, 0)), .int x1] (Nat.le_of_ble_eq_true rfl) (fun p e s m args below meth c ls S hr hk hw hl => b_X4_why_0 S hr hk x1 k0 _ _ _ hl hw hq)
theorem call_X4_why {z0 k0 : ka_T} {x1 : Int32} {post : Int32 → ka_T → Prop} (S : CallFix p m c cc nL s args lw_gd own) (hw : Wo_ D cA cf ad A z0 k0 s H locs) {index : Nat} (hl : Cond.methodLink own index yX4_why ∈ lw_gd) (hq : q_X4_why cf post x1 k0) (hR : rmX4_why.frames + 1 ≤ R.frames ∧ 8 + (2 + 11) + rmX4_why.locals ≤ R.locals) (hls : ls.size = nL) (hro : (rest.map fun v => v.category).sum ≤ 8) (hcs : cells ≤ R.cells ∧ slots ≤ R.slots) (hd : decode cc pc = .ok (.invokevirtual index, 3)) (kk : ∀ (r : Int32) (u : ka_T) (H1 : Heap) (locs1 : List Loc), post r u → Wo_ D cA cf ad A z0 u s H1 locs1 → W p l e R s m args below meth c H1 locs1 cells slots Q (F0 m (pc + 3) ls (.int r :: rest))) : W p l e R s m args below meth c H locs cells slots Q (F0 m pc ls (.int x1 :: .ref (ad (11, 0)) :: rest)) :=
  kg_vi (cu := fun u => ce_l cA cf ad z0 u) (As := [.int x1]) S hw (q := (11, 0)) (c_X4_why z0 k0 x1 hq) wc_X4_why wn_X4 hl wi_X4_why (C := RX4) (T := TX4) (N := 27) (ci := 4) (fs := fx_11 cf ad k0 0) wse_X4_why (km_11) rfl rfl (na := 1) (by decide +kernel) rfl rfl rfl hR hls rfl hro hcs hd kk
end KW
