/-! printed by wip/whole/gen.py: the walks, contracts and calls of the methods -/
section KW
variable {p : Program} {l : Launch} {e : Env} {R : Room} {s : State} {m : MethodId} {args : Array Value} {below : List Frame} {meth : Method} {c : Code} {H : Heap} {locs : List Loc} {cells slots : Nat} {Q : State → Prop}
variable {cc : ByteArray} {nL pc : Nat} {ls : Array Slot} {rest : List Value} {own : String} {D : va_G} {A : Nat → Prop} {cA : Nat → ClassId} {cf : Nat → Nat} {ad : Nat × Nat → Nat} {z0 : ka_T}
abbrev rmX4_next : Room := { frames := 0, cells := 0, slots := 0, locals := 0 }
set_option maxRecDepth 100000 in
set_option maxHeartbeats 4000000 in
theorem b_X4_next_76 {post : Int32 → ka_T → Prop} {kh_4 : Int32 → Int32 → ka_T → Prop} (hkh_4 : ∀ (x1 : Int32) (x2 : Int32) (k0 : ka_T) (H : Heap) (locs : List Loc) (ls : Array Slot), lv_has ls 4 [(0, .ref (ad (11, 0))), (1, .int x1), (2, .int x2)] → Wo_ D cA cf ad A z0 k0 s H locs → kh_4 x1 x2 k0 → W p l e rmX4_next s m args below meth c H locs 0 0 (MQ below (va_Qi post (fun u t => Wx_ D cA cf ad A z0 u t) A) args s 0 0 A) (F0 m 4 ls [])) (S : CallFix p m c cX4_next 4 s args lw_gd RX4) (hr : meth.sig.returnType = some .int) (hk : meth.locks = false) : ∀ (x1 : Int32) (x2 : Int32) (y0 : Int32) (k0 : ka_T) (H : Heap) (locs : List Loc) (ls : Array Slot), lv_has ls 4 [(0, .ref (ad (11, 0))), (1, .int x1), (2, .int x2)] → Wo_ D cA cf ad A z0 k0 s H locs → q_X4_next_76 cf kh_4 post x1 x2 y0 k0 → W p l e rmX4_next s m args below meth c H locs 0 0 (MQ below (va_Qi post (fun u t => Wx_ D cA cf ad A z0 u t) A) args s 0 0 A) (F0 m 76 ls [.int y0]) := by
  intro x1 x2 y0 k0 H locs ls hl hw hq
  refine lv_istore_n (lv' := [(3, .int y0), (0, .ref (ad (11, 0))), (1, .int x1), (2, .int x2)]) S.1 S.2.1 dX4_next_76 rfl hl (by decide) rfl (fun ls hl => ?_)
  refine lv_iload_n S.1 S.2.1 dX4_next_77 rfl (lv_at hl 0 rfl) ?_
  refine lv_if_eq (tgt := 85) S.1 S.2.1 dX4_next_78 rfl (fun h1 => ?_) (fun h1 => ?_)
  · replace hq := hq.1 h1
    refine lv_iload_n S.1 S.2.1 dX4_next_85 rfl (lv_at hl 2 rfl) ?_
    refine lv_istore_n (lv' := [(1, .int x1), (3, .int y0), (0, .ref (ad (11, 0))), (2, .int x2)]) S.1 S.2.1 dX4_next_86 rfl hl (by decide) rfl (fun ls hl => ?_)
    refine lv_iinc (k := 3) (v := (x2 + 1)) (lv' := [(2, .int (x2 + 1)), (1, .int x1), (3, .int y0), (0, .ref (ad (11, 0)))]) S.1 S.2.1 dX4_next_87 hl rfl (ii_1 _) (by decide) rfl (fun ls hl => ?_)
    refine lv_goto (tgt := 4) S.1 S.2.1 dX4_next_90 rfl ?_
    exact hkh_4 x1 (x2 + 1) k0 _ _ _ (lv_sub hl [3, 1, 0] rfl) hw hq
  · replace hq := hq.2 h1
    refine lv_iload_n S.1 S.2.1 dX4_next_81 rfl (lv_at hl 3 rfl) ?_
    refine lv_goto (tgt := 86) S.1 S.2.1 dX4_next_82 rfl ?_
    refine lv_istore_n (lv' := [(1, .int x2), (3, .int y0), (0, .ref (ad (11, 0))), (2, .int x2)]) S.1 S.2.1 dX4_next_86 rfl hl (by decide) rfl (fun ls hl => ?_)
    refine lv_iinc (k := 3) (v := (x2 + 1)) (lv' := [(2, .int (x2 + 1)), (1, .int x2), (3, .int y0), (0, .ref (ad (11, 0)))]) S.1 S.2.1 dX4_next_87 hl rfl (ii_1 _) (by decide) rfl (fun ls hl => ?_)
    refine lv_goto (tgt := 4) S.1 S.2.1 dX4_next_90 rfl ?_
    exact hkh_4 x2 (x2 + 1) k0 _ _ _ (lv_sub hl [3, 1, 0] rfl) hw hq
set_option maxRecDepth 100000 in
set_option maxHeartbeats 4000000 in
theorem b_X4_next_4 {post : Int32 → ka_T → Prop} (S : CallFix p m c cX4_next 4 s args lw_gd RX4) (hr : meth.sig.returnType = some .int) (hk : meth.locks = false) : ∀ nf : Nat, ∀ (x1 : Int32) (x2 : Int32) (k0 : ka_T) (H : Heap) (locs : List Loc) (ls : Array Slot), lv_has ls 4 [(0, .ref (ad (11, 0))), (1, .int x1), (2, .int x2)] → Wo_ D cA cf ad A z0 k0 s H locs → q_X4_next_4 cf post nf x1 x2 k0 → W p l e rmX4_next s m args below meth c H locs 0 0 (MQ below (va_Qi post (fun u t => Wx_ D cA cf ad A z0 u t) A) args s 0 0 A) (F0 m 4 ls []) := by
  intro nf
  induction nf with
  | zero =>
    intro x1 x2 k0 H locs ls hl hw hq
    exact False.elim hq
  | succ nf ih =>
    intro x1 x2 k0 H locs ls hl hw hq
    refine lv_iload_n S.1 S.2.1 dX4_next_4 rfl (lv_at hl 2 rfl) ?_
    refine lv_aload_n S.1 S.2.1 dX4_next_5 rfl (lv_at hl 0 rfl) ?_
    refine gf_400 S hw wf_X4_65 dX4_next_6 ?_
    refine lv_icmp_ge (tgt := 93) S.1 S.2.1 dX4_next_9 rfl (fun h2 => ?_) (fun h2 => ?_)
    · replace hq := hq.1 h2
      refine lv_iload_n S.1 S.2.1 dX4_next_93 rfl (lv_at hl 1 rfl) ?_
      exact kr_i (cu := fun u => ce_l cA cf ad z0 u) S hr rfl hk hw hq dX4_next_94
    · replace hq := hq.2 h2
      refine lv_aload_n S.1 S.2.1 dX4_next_12 rfl (lv_at hl 0 rfl) ?_
      refine gf_409 S hw wf_X4_16 dX4_next_13 ?_
      refine lv_iload_n S.1 S.2.1 dX4_next_16 rfl (lv_at hl 2 rfl) ?_
      obtain ⟨hi, hq⟩ := hq
      refine al_14 S hw hi dX4_next_17 ?_
      refine lv_iconst (v := (1 : Int32)) S.1 S.2.1 dX4_next_18 (by decide) ?_
      refine lv_icmp_ne (tgt := 75) S.1 S.2.1 dX4_next_19 rfl (fun h3 => ?_) (fun h3 => ?_)
      · replace hq := hq.1 h3
        refine lv_iconst (v := (0 : Int32)) S.1 S.2.1 dX4_next_75 (by decide) ?_
        exact b_X4_next_76 ih S hr hk x1 x2 (0 : Int32) k0 _ _ _ (lv_sub hl [0, 1, 2] rfl) hw hq
      · replace hq := hq.2 h3
        refine lv_iload_n S.1 S.2.1 dX4_next_22 rfl (lv_at hl 1 rfl) ?_
        refine lv_if_lt (tgt := 71) S.1 S.2.1 dX4_next_23 rfl (fun h4 => ?_) (fun h4 => ?_)
        · replace hq := hq.1 h4
          refine lv_iconst (v := (1 : Int32)) S.1 S.2.1 dX4_next_71 (by decide) ?_
          refine lv_goto (tgt := 76) S.1 S.2.1 dX4_next_72 rfl ?_
          exact b_X4_next_76 ih S hr hk x1 x2 (1 : Int32) k0 _ _ _ (lv_sub hl [0, 1, 2] rfl) hw hq
        · replace hq := hq.2 h4
          refine lv_aload_n S.1 S.2.1 dX4_next_26 rfl (lv_at hl 0 rfl) ?_
          refine gf_410 S hw wf_X4_19 dX4_next_27 ?_
          refine lv_iload_n S.1 S.2.1 dX4_next_30 rfl (lv_at hl 2 rfl) ?_
          obtain ⟨hi, hq⟩ := hq
          refine al_15 S hw hi dX4_next_31 ?_
          refine lv_aload_n S.1 S.2.1 dX4_next_32 rfl (lv_at hl 0 rfl) ?_
          refine gf_410 S hw wf_X4_19 dX4_next_33 ?_
          refine lv_iload_n S.1 S.2.1 dX4_next_36 rfl (lv_at hl 1 rfl) ?_
          obtain ⟨hi, hq⟩ := hq
          refine al_15 S hw hi dX4_next_37 ?_
          refine lv_icmp_gt (tgt := 71) S.1 S.2.1 dX4_next_38 rfl (fun h5 => ?_) (fun h5 => ?_)
          · replace hq := hq.1 h5
            refine lv_iconst (v := (1 : Int32)) S.1 S.2.1 dX4_next_71 (by decide) ?_
            refine lv_goto (tgt := 76) S.1 S.2.1 dX4_next_72 rfl ?_
            exact b_X4_next_76 ih S hr hk x1 x2 (1 : Int32) k0 _ _ _ (lv_sub hl [0, 1, 2] rfl) hw hq
          · replace hq := hq.2 h5
            refine lv_aload_n S.1 S.2.1 dX4_next_41 rfl (lv_at hl 0 rfl) ?_
            refine gf_410 S hw wf_X4_19 dX4_next_42 ?_
            refine lv_iload_n S.1 S.2.1 dX4_next_45 rfl (lv_at hl 2 rfl) ?_
            obtain ⟨hi, hq⟩ := hq
            refine al_15 S hw hi dX4_next_46 ?_
            refine lv_aload_n S.1 S.2.1 dX4_next_47 rfl (lv_at hl 0 rfl) ?_
            refine gf_410 S hw wf_X4_19 dX4_next_48 ?_
            refine lv_iload_n S.1 S.2.1 dX4_next_51 rfl (lv_at hl 1 rfl) ?_
            obtain ⟨hi, hq⟩ := hq
            refine al_15 S hw hi dX4_next_52 ?_
            refine lv_icmp_ne (tgt := 75) S.1 S.2.1 dX4_next_53 rfl (fun h6 => ?_) (fun h6 => ?_)
            · replace hq := hq.1 h6
              refine lv_iconst (v := (0 : Int32)) S.1 S.2.1 dX4_next_75 (by decide) ?_
              exact b_X4_next_76 ih S hr hk x1 x2 (0 : Int32) k0 _ _ _ (lv_sub hl [0, 1, 2] rfl) hw hq
            · replace hq := hq.2 h6
              refine lv_aload_n S.1 S.2.1 dX4_next_56 rfl (lv_at hl 0 rfl) ?_
              refine gf_419 S hw wf_X4_46 dX4_next_57 ?_
              refine lv_iload_n S.1 S.2.1 dX4_next_60 rfl (lv_at hl 2 rfl) ?_
              obtain ⟨hi, hq⟩ := hq
              refine al_24 S hw hi dX4_next_61 ?_
              refine lv_aload_n S.1 S.2.1 dX4_next_62 rfl (lv_at hl 0 rfl) ?_
              refine gf_419 S hw wf_X4_46 dX4_next_63 ?_
              refine lv_iload_n S.1 S.2.1 dX4_next_66 rfl (lv_at hl 1 rfl) ?_
              obtain ⟨hi, hq⟩ := hq
              refine al_24 S hw hi dX4_next_67 ?_
              refine lv_icmp_ge (tgt := 75) S.1 S.2.1 dX4_next_68 rfl (fun h7 => ?_) (fun h7 => ?_)
              · replace hq := hq.1 h7
                refine lv_iconst (v := (0 : Int32)) S.1 S.2.1 dX4_next_75 (by decide) ?_
                exact b_X4_next_76 ih S hr hk x1 x2 (0 : Int32) k0 _ _ _ (lv_sub hl [0, 1, 2] rfl) hw hq
              · replace hq := hq.2 h7
                refine lv_iconst (v := (1 : Int32)) S.1 S.2.1 dX4_next_71 (by decide) ?_
                refine lv_goto (tgt := 76) S.1 S.2.1 dX4_next_72 rfl ?_
                exact b_X4_next_76 ih S hr hk x1 x2 (1 : Int32) k0 _ _ _ (lv_sub hl [0, 1, 2] rfl) hw hq
set_option maxRecDepth 100000 in
set_option maxHeartbeats 4000000 in
theorem b_X4_next_0 {post : Int32 → ka_T → Prop} (S : CallFix p m c cX4_next 4 s args lw_gd RX4) (hr : meth.sig.returnType = some .int) (hk : meth.locks = false) : ∀ (k0 : ka_T) (H : Heap) (locs : List Loc) (ls : Array Slot), lv_has ls 4 [(0, .ref (ad (11, 0)))] → Wo_ D cA cf ad A z0 k0 s H locs → q_X4_next cf post k0 → W p l e rmX4_next s m args below meth c H locs 0 0 (MQ below (va_Qi post (fun u t => Wx_ D cA cf ad A z0 u t) A) args s 0 0 A) (F0 m 0 ls []) := by
  intro k0 H locs ls hl hw hq
  refine lv_iconst (v := (-1 : Int32)) S.1 S.2.1 dX4_next_0 (by decide) ?_
  refine lv_istore_n (lv' := [(1, .int (-1 : Int32)), (0, .ref (ad (11, 0)))]) S.1 S.2.1 dX4_next_1 rfl hl (by decide) rfl (fun ls hl => ?_)
  refine lv_iconst (v := (0 : Int32)) S.1 S.2.1 dX4_next_2 (by decide) ?_
  refine lv_istore_n (lv' := [(2, .int (0 : Int32)), (1, .int (-1 : Int32)), (0, .ref (ad (11, 0)))]) S.1 S.2.1 dX4_next_3 rfl hl (by decide) rfl (fun ls hl => ?_)
  obtain ⟨nf9, hq⟩ := hq
  exact b_X4_next_4 S hr hk nf9 (-1 : Int32) (0 : Int32) k0 _ _ _ (lv_sub hl [2, 1, 0] rfl) hw hq
theorem c_X4_next (z0 k0 : ka_T) {post : Int32 → ka_T → Prop} (hq : q_X4_next cf post  k0) : Met l yX4_next wsX4_next rmX4_next (va_Pc [.ref (ad (11, 0))] (Wx_ D cA cf ad A z0 k0)) (va_Qi post (fun u t => Wx_ D cA cf ad A z0 u t) A) 0 0 A :=
  kp_met (by decide +kernel) [.ref (ad (11, 0))] (Nat.le_of_ble_eq_true rfl) (fun p e s m args below meth c ls S hr hk hw hl => b_X4_next_0 S hr hk  k0 _ _ _ hl hw hq)
theorem call_X4_next {z0 k0 : ka_T} {post : Int32 → ka_T → Prop} (S : CallFix p m c cc nL s args lw_gd own) (hw : Wo_ D cA cf ad A z0 k0 s H locs) {index : Nat} (hl : Cond.methodLink own index yX4_next ∈ lw_gd) (hq : q_X4_next cf post  k0) (hR : rmX4_next.frames + 1 ≤ R.frames ∧ 8 + (4 + 11) + rmX4_next.locals ≤ R.locals) (hls : ls.size = nL) (hro : (rest.map fun v => v.category).sum ≤ 8) (hcs : cells ≤ R.cells ∧ slots ≤ R.slots) (hd : decode cc pc = .ok (.invokevirtual index, 3)) (kk : ∀ (r : Int32) (u : ka_T) (H1 : Heap) (locs1 : List Loc), post r u → Wo_ D cA cf ad A z0 u s H1 locs1 → W p l e R s m args below meth c H1 locs1 cells slots Q (F0 m (pc + 3) ls (.int r :: rest))) : W p l e R s m args below meth c H locs cells slots Q (F0 m pc ls (.ref (ad (11, 0)) :: rest)) :=
  kg_vi (cu := fun u => ce_l cA cf ad z0 u) (As := []) S hw (q := (11, 0)) (c_X4_next z0 k0  hq) wc_X4_next wn_X4 hl wi_X4_next (C := RX4) (T := TX4) (N := 27) (ci := 4) (fs := fx_11 cf ad k0 0) wse_X4_next (km_11) rfl rfl (na := 0) (by decide +kernel) rfl rfl rfl hR hls rfl hro hcs hd kk
abbrev rmX4_noQueue : Room := { frames := 1, cells := 0, slots := 0, locals := 21 }
set_option maxRecDepth 100000 in
set_option maxHeartbeats 4000000 in
theorem b_X4_noQueue_0 {post : Int32 → ka_T → Prop} (S : CallFix p m c cX4_noQueue 2 s args lw_gd RX4) (hr : meth.sig.returnType = some .boolean) (hk : meth.locks = false) : ∀ (x1 : Int32) (k0 : ka_T) (H : Heap) (locs : List Loc) (ls : Array Slot), lv_has ls 2 [(0, .ref (ad (11, 0))), (1, .int x1)] → Wo_ D cA cf ad A z0 k0 s H locs → q_X4_noQueue cf post x1 k0 → W p l e rmX4_noQueue s m args below meth c H locs 0 0 (MQ below (va_Qi post (fun u t => Wx_ D cA cf ad A z0 u t) A) args s 0 0 A) (F0 m 0 ls []) := by
  intro x1 k0 H locs ls hl hw hq
  refine lv_iload_n S.1 S.2.1 dX4_noQueue_0 rfl (lv_at hl 1 rfl) ?_
  refine lv_if_lt (tgt := 12) S.1 S.2.1 dX4_noQueue_1 rfl (fun h1 => ?_) (fun h1 => ?_)
  · replace hq := hq.1 h1
    refine lv_aload_n S.1 S.2.1 dX4_noQueue_12 rfl (lv_at hl 0 rfl) ?_
    refine lv_bipush (v := (6 : Int32)) S.1 S.2.1 dX4_noQueue_13 (by decide) ?_
    refine call_X4_fall S hw wl_X4_95 hq ⟨Nat.le_of_ble_eq_true rfl, Nat.le_of_ble_eq_true rfl⟩ hl.1 (Nat.le_of_ble_eq_true rfl) ⟨Nat.zero_le _, Nat.zero_le _⟩ dX4_noQueue_15 (fun k2 H locs hq hw => ?_)
    refine lv_aload_n S.1 S.2.1 dX4_noQueue_18 rfl (lv_at hl 0 rfl) ?_
    refine gf_426 S hw wf_X4_89 dX4_noQueue_19 ?_
    refine lv_if_le (tgt := 29) S.1 S.2.1 dX4_noQueue_22 rfl (fun h3 => ?_) (fun h3 => ?_)
    · replace hq := hq.1 h3
      refine lv_iconst (v := (0 : Int32)) S.1 S.2.1 dX4_noQueue_29 (by decide) ?_
      exact kr_i (cu := fun u => ce_l cA cf ad z0 u) S hr (by decide) hk hw hq dX4_noQueue_30
    · replace hq := hq.2 h3
      refine lv_iconst (v := (1 : Int32)) S.1 S.2.1 dX4_noQueue_25 (by decide) ?_
      refine lv_goto (tgt := 30) S.1 S.2.1 dX4_noQueue_26 rfl ?_
      exact kr_i (cu := fun u => ce_l cA cf ad z0 u) S hr (by decide) hk hw hq dX4_noQueue_30
  · replace hq := hq.2 h1
    refine lv_iload_n S.1 S.2.1 dX4_noQueue_4 rfl (lv_at hl 1 rfl) ?_
    refine lv_aload_n S.1 S.2.1 dX4_noQueue_5 rfl (lv_at hl 0 rfl) ?_
    refine gf_402 S hw wf_X4_72 dX4_noQueue_6 ?_
    refine lv_icmp_lt (tgt := 18) S.1 S.2.1 dX4_noQueue_9 rfl (fun h4 => ?_) (fun h4 => ?_)
    · replace hq := hq.1 h4
      refine lv_aload_n S.1 S.2.1 dX4_noQueue_18 rfl (lv_at hl 0 rfl) ?_
      refine gf_426 S hw wf_X4_89 dX4_noQueue_19 ?_
      refine lv_if_le (tgt := 29) S.1 S.2.1 dX4_noQueue_22 rfl (fun h5 => ?_) (fun h5 => ?_)
      · replace hq := hq.1 h5
        refine lv_iconst (v := (0 : Int32)) S.1 S.2.1 dX4_noQueue_29 (by decide) ?_
        exact kr_i (cu := fun u => ce_l cA cf ad z0 u) S hr (by decide) hk hw hq dX4_noQueue_30
      · replace hq := hq.2 h5
        refine lv_iconst (v := (1 : Int32)) S.1 S.2.1 dX4_noQueue_25 (by decide) ?_
        refine lv_goto (tgt := 30) S.1 S.2.1 dX4_noQueue_26 rfl ?_
        exact kr_i (cu := fun u => ce_l cA cf ad z0 u) S hr (by decide) hk hw hq dX4_noQueue_30
    · replace hq := hq.2 h4
      refine lv_aload_n S.1 S.2.1 dX4_noQueue_12 rfl (lv_at hl 0 rfl) ?_
      refine lv_bipush (v := (6 : Int32)) S.1 S.2.1 dX4_noQueue_13 (by decide) ?_
      refine call_X4_fall S hw wl_X4_95 hq ⟨Nat.le_of_ble_eq_true rfl, Nat.le_of_ble_eq_true rfl⟩ hl.1 (Nat.le_of_ble_eq_true rfl) ⟨Nat.zero_le _, Nat.zero_le _⟩ dX4_noQueue_15 (fun k6 H locs hq hw => ?_)
      refine lv_aload_n S.1 S.2.1 dX4_noQueue_18 rfl (lv_at hl 0 rfl) ?_
      refine gf_426 S hw wf_X4_89 dX4_noQueue_19 ?_
      refine lv_if_le (tgt := 29) S.1 S.2.1 dX4_noQueue_22 rfl (fun h7 => ?_) (fun h7 => ?_)
      · replace hq := hq.1 h7
        refine lv_iconst (v := (0 : Int32)) S.1 S.2.1 dX4_noQueue_29 (by decide) ?_
        exact kr_i (cu := fun u => ce_l cA cf ad z0 u) S hr (by decide) hk hw hq dX4_noQueue_30
      · replace hq := hq.2 h7
        refine lv_iconst (v := (1 : Int32)) S.1 S.2.1 dX4_noQueue_25 (by decide) ?_
        refine lv_goto (tgt := 30) S.1 S.2.1 dX4_noQueue_26 rfl ?_
        exact kr_i (cu := fun u => ce_l cA cf ad z0 u) S hr (by decide) hk hw hq dX4_noQueue_30
theorem c_X4_noQueue (z0 k0 : ka_T) (x1 : Int32) {post : Int32 → ka_T → Prop} (hq : q_X4_noQueue cf post x1 k0) : Met l yX4_noQueue wsX4_noQueue rmX4_noQueue (va_Pc [.ref (ad (11, 0)), .int x1] (Wx_ D cA cf ad A z0 k0)) (va_Qi post (fun u t => Wx_ D cA cf ad A z0 u t) A) 0 0 A :=
  kp_met (by decide +kernel) [.ref (ad (11, 0)), .int x1] (Nat.le_of_ble_eq_true rfl) (fun p e s m args below meth c ls S hr hk hw hl => b_X4_noQueue_0 S hr hk x1 k0 _ _ _ hl hw hq)
theorem call_X4_noQueue {z0 k0 : ka_T} {x1 : Int32} {post : Int32 → ka_T → Prop} (S : CallFix p m c cc nL s args lw_gd own) (hw : Wo_ D cA cf ad A z0 k0 s H locs) {index : Nat} (hl : Cond.methodLink own index yX4_noQueue ∈ lw_gd) (hq : q_X4_noQueue cf post x1 k0) (hR : rmX4_noQueue.frames + 1 ≤ R.frames ∧ 8 + (2 + 11) + rmX4_noQueue.locals ≤ R.locals) (hls : ls.size = nL) (hro : (rest.map fun v => v.category).sum ≤ 8) (hcs : cells ≤ R.cells ∧ slots ≤ R.slots) (hd : decode cc pc = .ok (.invokevirtual index, 3)) (kk : ∀ (r : Int32) (u : ka_T) (H1 : Heap) (locs1 : List Loc), post r u → Wo_ D cA cf ad A z0 u s H1 locs1 → W p l e R s m args below meth c H1 locs1 cells slots Q (F0 m (pc + 3) ls (.int r :: rest))) : W p l e R s m args below meth c H locs cells slots Q (F0 m pc ls (.int x1 :: .ref (ad (11, 0)) :: rest)) :=
  kg_vi (cu := fun u => ce_l cA cf ad z0 u) (As := [.int x1]) S hw (q := (11, 0)) (c_X4_noQueue z0 k0 x1 hq) wc_X4_noQueue wn_X4 hl wi_X4_noQueue (C := RX4) (T := TX4) (N := 27) (ci := 4) (fs := fx_11 cf ad k0 0) wse_X4_noQueue (km_11) rfl rfl (na := 1) (by decide +kernel) rfl rfl rfl hR hls rfl hro hcs hd kk
abbrev rmX4_out : Room := { frames := 0, cells := 0, slots := 0, locals := 0 }
set_option maxRecDepth 100000 in
set_option maxHeartbeats 4000000 in
theorem b_X4_out_0 {post : Int32 → ka_T → Prop} (S : CallFix p m c cX4_out 2 s args lw_gd RX4) (hr : meth.sig.returnType = some .int) (hk : meth.locks = false) : ∀ (x1 : Int32) (k0 : ka_T) (H : Heap) (locs : List Loc) (ls : Array Slot), lv_has ls 2 [(0, .ref (ad (11, 0))), (1, .int x1)] → Wo_ D cA cf ad A z0 k0 s H locs → q_X4_out cf post x1 k0 → W p l e rmX4_out s m args below meth c H locs 0 0 (MQ below (va_Qi post (fun u t => Wx_ D cA cf ad A z0 u t) A) args s 0 0 A) (F0 m 0 ls []) := by
  intro x1 k0 H locs ls hl hw hq
  refine lv_iload_n S.1 S.2.1 dX4_out_0 rfl (lv_at hl 1 rfl) ?_
  refine lv_if_lt (tgt := 18) S.1 S.2.1 dX4_out_1 rfl (fun h1 => ?_) (fun h1 => ?_)
  · replace hq := hq.1 h1
    refine lv_ldc S.1 S.2.1 S.2.2.2.1 (S.2.2.2.2 _ wv_X4_174) dX4_out_18 ?_
    refine lv_goto (tgt := 39) S.1 S.2.1 dX4_out_20 rfl ?_
    exact kr_i (cu := fun u => ce_l cA cf ad z0 u) S hr rfl hk hw hq dX4_out_39
  · replace hq := hq.2 h1
    refine lv_iload_n S.1 S.2.1 dX4_out_4 rfl (lv_at hl 1 rfl) ?_
    refine lv_bipush (v := (31 : Int32)) S.1 S.2.1 dX4_out_5 (by decide) ?_
    refine lv_icmp_gt (tgt := 18) S.1 S.2.1 dX4_out_7 rfl (fun h2 => ?_) (fun h2 => ?_)
    · replace hq := hq.1 h2
      refine lv_ldc S.1 S.2.1 S.2.2.2.1 (S.2.2.2.2 _ wv_X4_174) dX4_out_18 ?_
      refine lv_goto (tgt := 39) S.1 S.2.1 dX4_out_20 rfl ?_
      exact kr_i (cu := fun u => ce_l cA cf ad z0 u) S hr rfl hk hw hq dX4_out_39
    · replace hq := hq.2 h2
      refine lv_iload_n S.1 S.2.1 dX4_out_10 rfl (lv_at hl 1 rfl) ?_
      refine lv_aload_n S.1 S.2.1 dX4_out_11 rfl (lv_at hl 0 rfl) ?_
      refine gf_423 S hw wf_X4_127 dX4_out_12 ?_
      refine lv_icmp_lt (tgt := 23) S.1 S.2.1 dX4_out_15 rfl (fun h3 => ?_) (fun h3 => ?_)
      · replace hq := hq.1 h3
        refine lv_aload_n S.1 S.2.1 dX4_out_23 rfl (lv_at hl 0 rfl) ?_
        refine gf_424 S hw wf_X4_58 dX4_out_24 ?_
        refine lv_aload_n S.1 S.2.1 dX4_out_27 rfl (lv_at hl 0 rfl) ?_
        refine gf_423 S hw wf_X4_127 dX4_out_28 ?_
        refine lv_iconst (v := (1 : Int32)) S.1 S.2.1 dX4_out_31 (by decide) ?_
        refine lv_isub S.1 S.2.1 dX4_out_32 ?_
        refine lv_iload_n S.1 S.2.1 dX4_out_33 rfl (lv_at hl 1 rfl) ?_
        refine lv_isub S.1 S.2.1 dX4_out_34 ?_
        refine lv_bipush (v := (32 : Int32)) S.1 S.2.1 dX4_out_35 (by decide) ?_
        refine lv_irem S.1 S.2.1 dX4_out_37 (by decide) ?_
        obtain ⟨hi, hq⟩ := hq
        refine al_28 S hw hi dX4_out_38 ?_
        exact kr_i (cu := fun u => ce_l cA cf ad z0 u) S hr rfl hk hw hq dX4_out_39
      · replace hq := hq.2 h3
        refine lv_ldc S.1 S.2.1 S.2.2.2.1 (S.2.2.2.2 _ wv_X4_174) dX4_out_18 ?_
        refine lv_goto (tgt := 39) S.1 S.2.1 dX4_out_20 rfl ?_
        exact kr_i (cu := fun u => ce_l cA cf ad z0 u) S hr rfl hk hw hq dX4_out_39
theorem c_X4_out (z0 k0 : ka_T) (x1 : Int32) {post : Int32 → ka_T → Prop} (hq : q_X4_out cf post x1 k0) : Met l yX4_out wsX4_out rmX4_out (va_Pc [.ref (ad (11, 0)), .int x1] (Wx_ D cA cf ad A z0 k0)) (va_Qi post (fun u t => Wx_ D cA cf ad A z0 u t) A) 0 0 A :=
  kp_met (by decide +kernel) [.ref (ad (11, 0)), .int x1] (Nat.le_of_ble_eq_true rfl) (fun p e s m args below meth c ls S hr hk hw hl => b_X4_out_0 S hr hk x1 k0 _ _ _ hl hw hq)
theorem call_X4_out {z0 k0 : ka_T} {x1 : Int32} {post : Int32 → ka_T → Prop} (S : CallFix p m c cc nL s args lw_gd own) (hw : Wo_ D cA cf ad A z0 k0 s H locs) {index : Nat} (hl : Cond.methodLink own index yX4_out ∈ lw_gd) (hq : q_X4_out cf post x1 k0) (hR : rmX4_out.frames + 1 ≤ R.frames ∧ 8 + (2 + 11) + rmX4_out.locals ≤ R.locals) (hls : ls.size = nL) (hro : (rest.map fun v => v.category).sum ≤ 8) (hcs : cells ≤ R.cells ∧ slots ≤ R.slots) (hd : decode cc pc = .ok (.invokevirtual index, 3)) (kk : ∀ (r : Int32) (u : ka_T) (H1 : Heap) (locs1 : List Loc), post r u → Wo_ D cA cf ad A z0 u s H1 locs1 → W p l e R s m args below meth c H1 locs1 cells slots Q (F0 m (pc + 3) ls (.int r :: rest))) : W p l e R s m args below meth c H locs cells slots Q (F0 m pc ls (.int x1 :: .ref (ad (11, 0)) :: rest)) :=
  kg_vi (cu := fun u => ce_l cA cf ad z0 u) (As := [.int x1]) S hw (q := (11, 0)) (c_X4_out z0 k0 x1 hq) wc_X4_out wn_X4 hl wi_X4_out (C := RX4) (T := TX4) (N := 27) (ci := 4) (fs := fx_11 cf ad k0 0) wse_X4_out (km_11) rfl rfl (na := 1) (by decide +kernel) rfl rfl rfl hR hls rfl hro hcs hd kk
abbrev rmX4_send : Room := { frames := 2, cells := 0, slots := 0, locals := 42 }
set_option maxRecDepth 100000 in
set_option maxHeartbeats 4000000 in
theorem b_X4_send_0 {post : ka_T → Prop} (S : CallFix p m c cX4_send 4 s args lw_gd RX4) (hr : meth.sig.returnType = none) (hk : meth.locks = false) : ∀ (x1 : Int32) (k0 : ka_T) (H : Heap) (locs : List Loc) (ls : Array Slot), lv_has ls 4 [(0, .ref (ad (11, 0))), (1, .int x1)] → Wo_ D cA cf ad A z0 k0 s H locs → q_X4_send cf post x1 k0 → W p l e rmX4_send s m args below meth c H locs 0 0 (MQ below (va_Qv post (fun u t => Wx_ D cA cf ad A z0 u t) A) args s 0 0 A) (F0 m 0 ls []) := by
  intro x1 k0 H locs ls hl hw hq
  refine lv_aload_n S.1 S.2.1 dX4_send_0 rfl (lv_at hl 0 rfl) ?_
  refine lv_iload_n S.1 S.2.1 dX4_send_1 rfl (lv_at hl 1 rfl) ?_
  refine call_X4_noQueue S hw wl_X4_102 hq ⟨Nat.le_of_ble_eq_true rfl, Nat.le_of_ble_eq_true rfl⟩ hl.1 (Nat.le_of_ble_eq_true rfl) ⟨Nat.zero_le _, Nat.zero_le _⟩ dX4_send_2 (fun r1 k1 H locs hq hw => ?_)
  refine lv_if_eq (tgt := 9) S.1 S.2.1 dX4_send_5 rfl (fun h2 => ?_) (fun h2 => ?_)
  · replace hq := hq.1 h2
    refine lv_aload_n S.1 S.2.1 dX4_send_9 rfl (lv_at hl 0 rfl) ?_
    refine call_X4_take S hw wl_X4_106 hq ⟨Nat.le_of_ble_eq_true rfl, Nat.le_of_ble_eq_true rfl⟩ hl.1 (Nat.le_of_ble_eq_true rfl) ⟨Nat.zero_le _, Nat.zero_le _⟩ dX4_send_10 (fun r3 k3 H locs hq hw => ?_)
    refine lv_istore_n (lv' := [(2, .int r3), (0, .ref (ad (11, 0))), (1, .int x1)]) S.1 S.2.1 dX4_send_13 rfl hl (by decide) rfl (fun ls hl => ?_)
    refine lv_aload_n S.1 S.2.1 dX4_send_14 rfl (lv_at hl 1 rfl) ?_
    refine gf_426 S hw wf_X4_89 dX4_send_15 ?_
    refine lv_if_le (tgt := 22) S.1 S.2.1 dX4_send_18 rfl (fun h4 => ?_) (fun h4 => ?_)
    · replace hq := hq.1 h4
      refine lv_aload_n S.1 S.2.1 dX4_send_22 rfl (lv_at hl 1 rfl) ?_
      refine lv_iconst (v := (4 : Int32)) S.1 S.2.1 dX4_send_23 (by decide) ?_
      refine lv_iload_n S.1 S.2.1 dX4_send_24 rfl (lv_at hl 2 rfl) ?_
      refine lv_iconst (v := (0 : Int32)) S.1 S.2.1 dX4_send_25 (by decide) ?_
      refine call_X4_inState S hw wl_X4_109 hq ⟨Nat.le_of_ble_eq_true rfl, Nat.le_of_ble_eq_true rfl⟩ hl.1 (Nat.le_of_ble_eq_true rfl) ⟨Nat.zero_le _, Nat.zero_le _⟩ dX4_send_26 (fun r5 k5 H locs hq hw => ?_)
      refine lv_istore_n (lv' := [(3, .int r5), (2, .int r3), (0, .ref (ad (11, 0))), (1, .int x1)]) S.1 S.2.1 dX4_send_29 rfl hl (by decide) rfl (fun ls hl => ?_)
      refine lv_iload_n S.1 S.2.1 dX4_send_30 rfl (lv_at hl 0 rfl) ?_
      refine lv_if_lt (tgt := 49) S.1 S.2.1 dX4_send_31 rfl (fun h6 => ?_) (fun h6 => ?_)
      · replace hq := hq.1 h6
        refine lv_aload_n S.1 S.2.1 dX4_send_49 rfl (lv_at hl 2 rfl) ?_
        refine gf_421 S hw wf_X4_52 dX4_send_50 ?_
        refine lv_iload_n S.1 S.2.1 dX4_send_53 rfl (lv_at hl 3 rfl) ?_
        obtain ⟨hi, hq⟩ := hq
        refine al_26 S hw hi dX4_send_54 ?_
        refine lv_aload_n S.1 S.2.1 dX4_send_55 rfl (lv_at hl 2 rfl) ?_
        refine gf_403 S hw wf_X4_75 dX4_send_56 ?_
        refine lv_icmp_ge (tgt := 71) S.1 S.2.1 dX4_send_59 rfl (fun h7 => ?_) (fun h7 => ?_)
        · replace hq := hq.1 h7
          refine lv_aload_n S.1 S.2.1 dX4_send_71 rfl (lv_at hl 2 rfl) ?_
          refine gf_418 S hw wf_X4_43 dX4_send_72 ?_
          refine lv_aload_n S.1 S.2.1 dX4_send_75 rfl (lv_at hl 2 rfl) ?_
          refine gf_425 S hw wf_X4_92 dX4_send_76 ?_
          refine lv_iload_n S.1 S.2.1 dX4_send_79 rfl (lv_at hl 1 rfl) ?_
          obtain ⟨hi, hq⟩ := hq
          refine as_23 S hw hi dX4_send_80 (fun k8 H locs e8 hw => ?_)
          replace hq := hq _ e8
          refine lv_aload_n S.1 S.2.1 dX4_send_81 rfl (lv_at hl 2 rfl) ?_
          refine gf_417 S hw wf_X4_40 dX4_send_82 ?_
          refine lv_aload_n S.1 S.2.1 dX4_send_85 rfl (lv_at hl 2 rfl) ?_
          refine gf_425 S hw wf_X4_92 dX4_send_86 ?_
          refine lv_iload_n S.1 S.2.1 dX4_send_89 rfl (lv_at hl 3 rfl) ?_
          obtain ⟨hi, hq⟩ := hq
          refine as_22 S hw hi dX4_send_90 (fun k9 H locs e9 hw => ?_)
          replace hq := hq _ e9
          refine lv_aload_n S.1 S.2.1 dX4_send_91 rfl (lv_at hl 2 rfl) ?_
          refine lv_aload_n S.1 S.2.1 dX4_send_92 rfl (lv_at hl 2 rfl) ?_
          refine gf_425 S hw wf_X4_92 dX4_send_93 ?_
          refine lv_iconst (v := (3 : Int32)) S.1 S.2.1 dX4_send_96 (by decide) ?_
          refine call_X4_set S hw wl_X4_85 hq ⟨Nat.le_of_ble_eq_true rfl, Nat.le_of_ble_eq_true rfl⟩ hl.1 (Nat.le_of_ble_eq_true rfl) ⟨Nat.zero_le _, Nat.zero_le _⟩ dX4_send_97 (fun k10 H locs hq hw => ?_)
          exact kr_v (cu := fun u => ce_l cA cf ad z0 u) S hr hk hw hq dX4_send_100
        · replace hq := hq.2 h7
          refine lv_aload_n S.1 S.2.1 dX4_send_62 rfl (lv_at hl 2 rfl) ?_
          refine lv_iload_n S.1 S.2.1 dX4_send_63 rfl (lv_at hl 3 rfl) ?_
          refine lv_iload_n S.1 S.2.1 dX4_send_64 rfl (lv_at hl 1 rfl) ?_
          refine call_X4_append S hw wl_X4_112 hq ⟨Nat.le_of_ble_eq_true rfl, Nat.le_of_ble_eq_true rfl⟩ hl.1 (Nat.le_of_ble_eq_true rfl) ⟨Nat.zero_le _, Nat.zero_le _⟩ dX4_send_65 (fun k11 H locs hq hw => ?_)
          refine lv_goto (tgt := 100) S.1 S.2.1 dX4_send_68 rfl ?_
          exact kr_v (cu := fun u => ce_l cA cf ad z0 u) S hr hk hw hq dX4_send_100
      · replace hq := hq.2 h6
        refine lv_aload_n S.1 S.2.1 dX4_send_34 rfl (lv_at hl 2 rfl) ?_
        refine lv_iload_n S.1 S.2.1 dX4_send_35 rfl (lv_at hl 0 rfl) ?_
        refine lv_iload_n S.1 S.2.1 dX4_send_36 rfl (lv_at hl 1 rfl) ?_
        refine call_X4_give S hw wl_X4_99 hq ⟨Nat.le_of_ble_eq_true rfl, Nat.le_of_ble_eq_true rfl⟩ hl.1 (Nat.le_of_ble_eq_true rfl) ⟨Nat.zero_le _, Nat.zero_le _⟩ dX4_send_37 (fun k12 H locs hq hw => ?_)
        refine lv_aload_n S.1 S.2.1 dX4_send_40 rfl (lv_at hl 2 rfl) ?_
        refine lv_iload_n S.1 S.2.1 dX4_send_41 rfl (lv_at hl 0 rfl) ?_
        refine lv_iconst (v := (1 : Int32)) S.1 S.2.1 dX4_send_42 (by decide) ?_
        refine call_X4_set S hw wl_X4_85 hq ⟨Nat.le_of_ble_eq_true rfl, Nat.le_of_ble_eq_true rfl⟩ hl.1 (Nat.le_of_ble_eq_true rfl) ⟨Nat.zero_le _, Nat.zero_le _⟩ dX4_send_43 (fun k13 H locs hq hw => ?_)
        refine lv_goto (tgt := 100) S.1 S.2.1 dX4_send_46 rfl ?_
        exact kr_v (cu := fun u => ce_l cA cf ad z0 u) S hr hk hw hq dX4_send_100
    · replace hq := hq.2 h4
      exact kr_v (cu := fun u => ce_l cA cf ad z0 u) S hr hk hw hq dX4_send_21
  · replace hq := hq.2 h2
    exact kr_v (cu := fun u => ce_l cA cf ad z0 u) S hr hk hw hq dX4_send_8
theorem c_X4_send (z0 k0 : ka_T) (x1 : Int32) {post : ka_T → Prop} (hq : q_X4_send cf post x1 k0) : Met l yX4_send wsX4_send rmX4_send (va_Pc [.ref (ad (11, 0)), .int x1] (Wx_ D cA cf ad A z0 k0)) (va_Qv post (fun u t => Wx_ D cA cf ad A z0 u t) A) 0 0 A :=
  kp_met (by decide +kernel) [.ref (ad (11, 0)), .int x1] (Nat.le_of_ble_eq_true rfl) (fun p e s m args below meth c ls S hr hk hw hl => b_X4_send_0 S hr hk x1 k0 _ _ _ hl hw hq)
theorem call_X4_send {z0 k0 : ka_T} {x1 : Int32} {post : ka_T → Prop} (S : CallFix p m c cc nL s args lw_gd own) (hw : Wo_ D cA cf ad A z0 k0 s H locs) {index : Nat} (hl : Cond.methodLink own index yX4_send ∈ lw_gd) (hq : q_X4_send cf post x1 k0) (hR : rmX4_send.frames + 1 ≤ R.frames ∧ 8 + (4 + 11) + rmX4_send.locals ≤ R.locals) (hls : ls.size = nL) (hro : (rest.map fun v => v.category).sum ≤ 8) (hcs : cells ≤ R.cells ∧ slots ≤ R.slots) (hd : decode cc pc = .ok (.invokevirtual index, 3)) (kk : ∀ (u : ka_T) (H1 : Heap) (locs1 : List Loc), post u → Wo_ D cA cf ad A z0 u s H1 locs1 → W p l e R s m args below meth c H1 locs1 cells slots Q (F0 m (pc + 3) ls rest)) : W p l e R s m args below meth c H locs cells slots Q (F0 m pc ls (.int x1 :: .ref (ad (11, 0)) :: rest)) :=
  kg_vv (cu := fun u => ce_l cA cf ad z0 u) (As := [.int x1]) S hw (q := (11, 0)) (c_X4_send z0 k0 x1 hq) wc_X4_send wn_X4 hl wi_X4_send (C := RX4) (T := TX4) (N := 27) (ci := 4) (fs := fx_11 cf ad k0 0) wse_X4_send (km_11) rfl rfl (na := 1) (by decide +kernel) rfl rfl rfl hR hls rfl hro hcs hd kk
abbrev rmX4_receive : Room := { frames := 2, cells := 0, slots := 0, locals := 43 }
set_option maxRecDepth 100000 in
set_option maxHeartbeats 4000000 in
theorem b_X4_receive_67 {post : ka_T → Prop} (S : CallFix p m c cX4_receive 3 s args lw_gd RX4) (hr : meth.sig.returnType = none) (hk : meth.locks = false) : ∀ nf : Nat, ∀ (x1 : Int32) (x2 : Int32) (k0 : ka_T) (H : Heap) (locs : List Loc) (ls : Array Slot), lv_has ls 3 [(0, .ref (ad (11, 0))), (1, .int x1), (2, .int x2)] → Wo_ D cA cf ad A z0 k0 s H locs → q_X4_receive_67 cf post nf x1 x2 k0 → W p l e rmX4_receive s m args below meth c H locs 0 0 (MQ below (va_Qv post (fun u t => Wx_ D cA cf ad A z0 u t) A) args s 0 0 A) (F0 m 67 ls []) := by
  intro nf
  induction nf with
  | zero =>
    intro x1 x2 k0 H locs ls hl hw hq
    exact False.elim hq
  | succ nf ih =>
    intro x1 x2 k0 H locs ls hl hw hq
    refine lv_iload_n S.1 S.2.1 dX4_receive_67 rfl (lv_at hl 2 rfl) ?_
    refine lv_aload_n S.1 S.2.1 dX4_receive_68 rfl (lv_at hl 0 rfl) ?_
    refine gf_421 S hw wf_X4_52 dX4_receive_69 ?_
    refine lv_iload_n S.1 S.2.1 dX4_receive_72 rfl (lv_at hl 1 rfl) ?_
    obtain ⟨hi, hq⟩ := hq
    refine al_26 S hw hi dX4_receive_73 ?_
    refine lv_icmp_ge (tgt := 107) S.1 S.2.1 dX4_receive_74 rfl (fun h1 => ?_) (fun h1 => ?_)
    · replace hq := hq.1 h1
      refine lv_aload_n S.1 S.2.1 dX4_receive_107 rfl (lv_at hl 0 rfl) ?_
      refine lv_iconst (v := (3 : Int32)) S.1 S.2.1 dX4_receive_108 (by decide) ?_
      refine lv_iload_n S.1 S.2.1 dX4_receive_109 rfl (lv_at hl 1 rfl) ?_
      refine lv_iconst (v := (0 : Int32)) S.1 S.2.1 dX4_receive_110 (by decide) ?_
      refine call_X4_inState S hw wl_X4_109 hq ⟨Nat.le_of_ble_eq_true rfl, Nat.le_of_ble_eq_true rfl⟩ hl.1 (Nat.le_of_ble_eq_true rfl) ⟨Nat.zero_le _, Nat.zero_le _⟩ dX4_receive_111 (fun r2 k2 H locs hq hw => ?_)
      refine lv_istore_n (lv' := [(2, .int r2), (0, .ref (ad (11, 0))), (1, .int x1)]) S.1 S.2.1 dX4_receive_114 rfl hl (by decide) rfl (fun ls hl => ?_)
      refine lv_iload_n S.1 S.2.1 dX4_receive_115 rfl (lv_at hl 0 rfl) ?_
      refine lv_if_lt (tgt := 136) S.1 S.2.1 dX4_receive_116 rfl (fun h3 => ?_) (fun h3 => ?_)
      · replace hq := hq.1 h3
        refine lv_goto (tgt := 158) S.1 S.2.1 dX4_receive_136 rfl ?_
        exact kr_v (cu := fun u => ce_l cA cf ad z0 u) S hr hk hw hq dX4_receive_158
      · replace hq := hq.2 h3
        refine lv_aload_n S.1 S.2.1 dX4_receive_119 rfl (lv_at hl 1 rfl) ?_
        refine lv_iload_n S.1 S.2.1 dX4_receive_120 rfl (lv_at hl 2 rfl) ?_
        refine lv_aload_n S.1 S.2.1 dX4_receive_121 rfl (lv_at hl 1 rfl) ?_
        refine gf_418 S hw wf_X4_43 dX4_receive_122 ?_
        refine lv_iload_n S.1 S.2.1 dX4_receive_125 rfl (lv_at hl 0 rfl) ?_
        obtain ⟨hi, hq⟩ := hq
        refine al_23 S hw hi dX4_receive_126 ?_
        refine call_X4_append S hw wl_X4_112 hq ⟨Nat.le_of_ble_eq_true rfl, Nat.le_of_ble_eq_true rfl⟩ hl.1 (Nat.le_of_ble_eq_true rfl) ⟨Nat.zero_le _, Nat.zero_le _⟩ dX4_receive_127 (fun k4 H locs hq hw => ?_)
        refine lv_aload_n S.1 S.2.1 dX4_receive_130 rfl (lv_at hl 1 rfl) ?_
        refine lv_iload_n S.1 S.2.1 dX4_receive_131 rfl (lv_at hl 0 rfl) ?_
        refine lv_iconst (v := (1 : Int32)) S.1 S.2.1 dX4_receive_132 (by decide) ?_
        refine call_X4_set S hw wl_X4_85 hq ⟨Nat.le_of_ble_eq_true rfl, Nat.le_of_ble_eq_true rfl⟩ hl.1 (Nat.le_of_ble_eq_true rfl) ⟨Nat.zero_le _, Nat.zero_le _⟩ dX4_receive_133 (fun k5 H locs hq hw => ?_)
        refine lv_goto (tgt := 158) S.1 S.2.1 dX4_receive_136 rfl ?_
        exact kr_v (cu := fun u => ce_l cA cf ad z0 u) S hr hk hw hq dX4_receive_158
    · replace hq := hq.2 h1
      refine lv_aload_n S.1 S.2.1 dX4_receive_77 rfl (lv_at hl 0 rfl) ?_
      refine gf_422 S hw wf_X4_55 dX4_receive_78 ?_
      refine lv_bipush (v := (6 : Int32)) S.1 S.2.1 dX4_receive_81 (by decide) ?_
      refine lv_iload_n S.1 S.2.1 dX4_receive_83 rfl (lv_at hl 1 rfl) ?_
      refine lv_imul S.1 S.2.1 dX4_receive_84 ?_
      refine lv_iload_n S.1 S.2.1 dX4_receive_85 rfl (lv_at hl 2 rfl) ?_
      refine lv_iadd S.1 S.2.1 dX4_receive_86 ?_
      refine lv_aload_n S.1 S.2.1 dX4_receive_87 rfl (lv_at hl 0 rfl) ?_
      refine gf_422 S hw wf_X4_55 dX4_receive_88 ?_
      refine lv_bipush (v := (6 : Int32)) S.1 S.2.1 dX4_receive_91 (by decide) ?_
      refine lv_iload_n S.1 S.2.1 dX4_receive_93 rfl (lv_at hl 1 rfl) ?_
      refine lv_imul S.1 S.2.1 dX4_receive_94 ?_
      refine lv_iload_n S.1 S.2.1 dX4_receive_95 rfl (lv_at hl 2 rfl) ?_
      refine lv_iadd S.1 S.2.1 dX4_receive_96 ?_
      refine lv_iconst (v := (1 : Int32)) S.1 S.2.1 dX4_receive_97 (by decide) ?_
      refine lv_iadd S.1 S.2.1 dX4_receive_98 ?_
      obtain ⟨hi, hq⟩ := hq
      refine al_27 S hw hi dX4_receive_99 ?_
      obtain ⟨hi, hq⟩ := hq
      refine as_27 S hw hi dX4_receive_100 (fun k6 H locs e6 hw => ?_)
      replace hq := hq _ e6
      refine lv_iinc (k := 2) (v := (x2 + 1)) (lv' := [(2, .int (x2 + 1)), (0, .ref (ad (11, 0))), (1, .int x1)]) S.1 S.2.1 dX4_receive_101 hl rfl (ii_1 _) (by decide) rfl (fun ls hl => ?_)
      refine lv_goto (tgt := 67) S.1 S.2.1 dX4_receive_104 rfl ?_
      exact ih x1 (x2 + 1) k6 _ _ _ (lv_sub hl [1, 2, 0] rfl) hw hq
set_option maxRecDepth 100000 in
set_option maxHeartbeats 4000000 in
theorem b_X4_receive_0 {post : ka_T → Prop} (S : CallFix p m c cX4_receive 3 s args lw_gd RX4) (hr : meth.sig.returnType = none) (hk : meth.locks = false) : ∀ (x1 : Int32) (k0 : ka_T) (H : Heap) (locs : List Loc) (ls : Array Slot), lv_has ls 3 [(0, .ref (ad (11, 0))), (1, .int x1)] → Wo_ D cA cf ad A z0 k0 s H locs → q_X4_receive cf post x1 k0 → W p l e rmX4_receive s m args below meth c H locs 0 0 (MQ below (va_Qv post (fun u t => Wx_ D cA cf ad A z0 u t) A) args s 0 0 A) (F0 m 0 ls []) := by
  intro x1 k0 H locs ls hl hw hq
  refine lv_aload_n S.1 S.2.1 dX4_receive_0 rfl (lv_at hl 0 rfl) ?_
  refine lv_iload_n S.1 S.2.1 dX4_receive_1 rfl (lv_at hl 1 rfl) ?_
  refine call_X4_noQueue S hw wl_X4_102 hq ⟨Nat.le_of_ble_eq_true rfl, Nat.le_of_ble_eq_true rfl⟩ hl.1 (Nat.le_of_ble_eq_true rfl) ⟨Nat.zero_le _, Nat.zero_le _⟩ dX4_receive_2 (fun r7 k7 H locs hq hw => ?_)
  refine lv_if_eq (tgt := 9) S.1 S.2.1 dX4_receive_5 rfl (fun h8 => ?_) (fun h8 => ?_)
  · replace hq := hq.1 h8
    refine lv_aload_n S.1 S.2.1 dX4_receive_9 rfl (lv_at hl 0 rfl) ?_
    refine gf_412 S hw wf_X4_25 dX4_receive_10 ?_
    refine lv_aload_n S.1 S.2.1 dX4_receive_13 rfl (lv_at hl 0 rfl) ?_
    refine gf_425 S hw wf_X4_92 dX4_receive_14 ?_
    obtain ⟨hi, hq⟩ := hq
    refine al_17 S hw hi dX4_receive_17 ?_
    refine lv_aload_n S.1 S.2.1 dX4_receive_18 rfl (lv_at hl 0 rfl) ?_
    refine gf_401 S hw wf_X4_69 dX4_receive_19 ?_
    refine lv_icmp_ne (tgt := 33) S.1 S.2.1 dX4_receive_22 rfl (fun h9 => ?_) (fun h9 => ?_)
    · replace hq := hq.1 h9
      refine lv_aload_n S.1 S.2.1 dX4_receive_33 rfl (lv_at hl 0 rfl) ?_
      refine gf_421 S hw wf_X4_52 dX4_receive_34 ?_
      refine lv_iload_n S.1 S.2.1 dX4_receive_37 rfl (lv_at hl 1 rfl) ?_
      obtain ⟨hi, hq⟩ := hq
      refine al_26 S hw hi dX4_receive_38 ?_
      refine lv_if_le (tgt := 139) S.1 S.2.1 dX4_receive_39 rfl (fun h10 => ?_) (fun h10 => ?_)
      · replace hq := hq.1 h10
        refine lv_aload_n S.1 S.2.1 dX4_receive_139 rfl (lv_at hl 0 rfl) ?_
        refine gf_417 S hw wf_X4_40 dX4_receive_140 ?_
        refine lv_aload_n S.1 S.2.1 dX4_receive_143 rfl (lv_at hl 0 rfl) ?_
        refine gf_425 S hw wf_X4_92 dX4_receive_144 ?_
        refine lv_iload_n S.1 S.2.1 dX4_receive_147 rfl (lv_at hl 1 rfl) ?_
        obtain ⟨hi, hq⟩ := hq
        refine as_22 S hw hi dX4_receive_148 (fun k11 H locs e11 hw => ?_)
        replace hq := hq _ e11
        refine lv_aload_n S.1 S.2.1 dX4_receive_149 rfl (lv_at hl 0 rfl) ?_
        refine lv_aload_n S.1 S.2.1 dX4_receive_150 rfl (lv_at hl 0 rfl) ?_
        refine gf_425 S hw wf_X4_92 dX4_receive_151 ?_
        refine lv_iconst (v := (4 : Int32)) S.1 S.2.1 dX4_receive_154 (by decide) ?_
        refine call_X4_set S hw wl_X4_85 hq ⟨Nat.le_of_ble_eq_true rfl, Nat.le_of_ble_eq_true rfl⟩ hl.1 (Nat.le_of_ble_eq_true rfl) ⟨Nat.zero_le _, Nat.zero_le _⟩ dX4_receive_155 (fun k12 H locs hq hw => ?_)
        exact kr_v (cu := fun u => ce_l cA cf ad z0 u) S hr hk hw hq dX4_receive_158
      · replace hq := hq.2 h10
        refine lv_aload_n S.1 S.2.1 dX4_receive_42 rfl (lv_at hl 0 rfl) ?_
        refine lv_aload_n S.1 S.2.1 dX4_receive_43 rfl (lv_at hl 0 rfl) ?_
        refine gf_422 S hw wf_X4_55 dX4_receive_44 ?_
        refine lv_bipush (v := (6 : Int32)) S.1 S.2.1 dX4_receive_47 (by decide) ?_
        refine lv_iload_n S.1 S.2.1 dX4_receive_49 rfl (lv_at hl 1 rfl) ?_
        refine lv_imul S.1 S.2.1 dX4_receive_50 ?_
        obtain ⟨hi, hq⟩ := hq
        refine al_27 S hw hi dX4_receive_51 ?_
        refine call_X4_put S hw wl_X4_115 hq ⟨Nat.le_of_ble_eq_true rfl, Nat.le_of_ble_eq_true rfl⟩ hl.1 (Nat.le_of_ble_eq_true rfl) ⟨Nat.zero_le _, Nat.zero_le _⟩ dX4_receive_52 (fun k13 H locs hq hw => ?_)
        refine lv_aload_n S.1 S.2.1 dX4_receive_55 rfl (lv_at hl 0 rfl) ?_
        refine gf_421 S hw wf_X4_52 dX4_receive_56 ?_
        refine lv_iload_n S.1 S.2.1 dX4_receive_59 rfl (lv_at hl 1 rfl) ?_
        refine lv_dup2_11 S.1 S.2.1 dX4_receive_60 rfl rfl ?_
        obtain ⟨hi, hq⟩ := hq
        refine al_26 S hw hi dX4_receive_61 ?_
        refine lv_iconst (v := (1 : Int32)) S.1 S.2.1 dX4_receive_62 (by decide) ?_
        refine lv_isub S.1 S.2.1 dX4_receive_63 ?_
        obtain ⟨hi, hq⟩ := hq
        refine as_26 S hw hi dX4_receive_64 (fun k14 H locs e14 hw => ?_)
        replace hq := hq _ e14
        refine lv_iconst (v := (0 : Int32)) S.1 S.2.1 dX4_receive_65 (by decide) ?_
        refine lv_istore_n (lv' := [(2, .int (0 : Int32)), (0, .ref (ad (11, 0))), (1, .int x1)]) S.1 S.2.1 dX4_receive_66 rfl hl (by decide) rfl (fun ls hl => ?_)
        obtain ⟨nf9, hq⟩ := hq
        exact b_X4_receive_67 S hr hk nf9 x1 (0 : Int32) k14 _ _ _ (lv_sub hl [1, 2, 0] rfl) hw hq
    · replace hq := hq.2 h9
      refine lv_aload_n S.1 S.2.1 dX4_receive_25 rfl (lv_at hl 0 rfl) ?_
      refine lv_iconst (v := (1 : Int32)) S.1 S.2.1 dX4_receive_26 (by decide) ?_
      refine call_X4_fall S hw wl_X4_95 hq ⟨Nat.le_of_ble_eq_true rfl, Nat.le_of_ble_eq_true rfl⟩ hl.1 (Nat.le_of_ble_eq_true rfl) ⟨Nat.zero_le _, Nat.zero_le _⟩ dX4_receive_27 (fun k15 H locs hq hw => ?_)
      refine lv_goto (tgt := 158) S.1 S.2.1 dX4_receive_30 rfl ?_
      exact kr_v (cu := fun u => ce_l cA cf ad z0 u) S hr hk hw hq dX4_receive_158
  · replace hq := hq.2 h8
    exact kr_v (cu := fun u => ce_l cA cf ad z0 u) S hr hk hw hq dX4_receive_8
theorem c_X4_receive (z0 k0 : ka_T) (x1 : Int32) {post : ka_T → Prop} (hq : q_X4_receive cf post x1 k0) : Met l yX4_receive wsX4_receive rmX4_receive (va_Pc [.ref (ad (11, 0)), .int x1] (Wx_ D cA cf ad A z0 k0)) (va_Qv post (fun u t => Wx_ D cA cf ad A z0 u t) A) 0 0 A :=
  kp_met (by decide +kernel) [.ref (ad (11, 0)), .int x1] (Nat.le_of_ble_eq_true rfl) (fun p e s m args below meth c ls S hr hk hw hl => b_X4_receive_0 S hr hk x1 k0 _ _ _ hl hw hq)
theorem call_X4_receive {z0 k0 : ka_T} {x1 : Int32} {post : ka_T → Prop} (S : CallFix p m c cc nL s args lw_gd own) (hw : Wo_ D cA cf ad A z0 k0 s H locs) {index : Nat} (hl : Cond.methodLink own index yX4_receive ∈ lw_gd) (hq : q_X4_receive cf post x1 k0) (hR : rmX4_receive.frames + 1 ≤ R.frames ∧ 8 + (3 + 11) + rmX4_receive.locals ≤ R.locals) (hls : ls.size = nL) (hro : (rest.map fun v => v.category).sum ≤ 8) (hcs : cells ≤ R.cells ∧ slots ≤ R.slots) (hd : decode cc pc = .ok (.invokevirtual index, 3)) (kk : ∀ (u : ka_T) (H1 : Heap) (locs1 : List Loc), post u → Wo_ D cA cf ad A z0 u s H1 locs1 → W p l e R s m args below meth c H1 locs1 cells slots Q (F0 m (pc + 3) ls rest)) : W p l e R s m args below meth c H locs cells slots Q (F0 m pc ls (.int x1 :: .ref (ad (11, 0)) :: rest)) :=
  kg_vv (cu := fun u => ce_l cA cf ad z0 u) (As := [.int x1]) S hw (q := (11, 0)) (c_X4_receive z0 k0 x1 hq) wc_X4_receive wn_X4 hl wi_X4_receive (C := RX4) (T := TX4) (N := 27) (ci := 4) (fs := fx_11 cf ad k0 0) wse_X4_receive (km_11) rfl rfl (na := 1) (by decide +kernel) rfl rfl rfl hR hls rfl hro hcs hd kk
abbrev rmX4_stackOp : Room := { frames := 2, cells := 0, slots := 0, locals := 43 }
set_option maxRecDepth 100000 in
set_option maxHeartbeats 4000000 in
theorem b_X4_stackOp_46 {post : ka_T → Prop} (S : CallFix p m c cX4_stackOp 5 s args lw_gd RX4) (hr : meth.sig.returnType = none) (hk : meth.locks = false) : ∀ (x1 : Int32) (x2 : Int32) (x3 : Int32) (y0 : Int32) (k0 : ka_T) (H : Heap) (locs : List Loc) (ls : Array Slot), lv_has ls 5 [(0, .ref (ad (11, 0))), (1, .int x1), (2, .int x2), (3, .int x3)] → Wo_ D cA cf ad A z0 k0 s H locs → q_X4_stackOp_46 cf post x1 x2 x3 y0 k0 → W p l e rmX4_stackOp s m args below meth c H locs 0 0 (MQ below (va_Qv post (fun u t => Wx_ D cA cf ad A z0 u t) A) args s 0 0 A) (F0 m 46 ls [.int y0]) := by
  intro x1 x2 x3 y0 k0 H locs ls hl hw hq
  refine lv_istore (lv' := [(4, .int y0), (0, .ref (ad (11, 0))), (1, .int x1), (2, .int x2), (3, .int x3)]) S.1 S.2.1 dX4_stackOp_46 hl (by decide) rfl (fun ls hl => ?_)
  refine lv_iload_n S.1 S.2.1 dX4_stackOp_48 rfl (lv_at hl 2 rfl) ?_
  by_cases h1_0 : x1 = (1 : Int32)
  · replace hq := hq.1 h1_0
    refine lv_lookup (off := 59) (tgt := 108) S.1 S.2.1 dX4_stackOp_49 (by decide) (by rw [h1_0]; rfl) rfl ?_
    refine lv_aload_n S.1 S.2.1 dX4_stackOp_108 rfl (lv_at hl 1 rfl) ?_
    refine lv_iload_n S.1 S.2.1 dX4_stackOp_109 rfl (lv_at hl 3 rfl) ?_
    refine call_X4_put S hw wl_X4_115 hq ⟨Nat.le_of_ble_eq_true rfl, Nat.le_of_ble_eq_true rfl⟩ hl.1 (Nat.le_of_ble_eq_true rfl) ⟨Nat.zero_le _, Nat.zero_le _⟩ dX4_stackOp_110 (fun k2 H locs hq hw => ?_)
    refine lv_goto (tgt := 183) S.1 S.2.1 dX4_stackOp_113 rfl ?_
    exact kr_v (cu := fun u => ce_l cA cf ad z0 u) S hr hk hw hq dX4_stackOp_183
  · by_cases h1_1 : x1 = (6 : Int32)
    · replace hq := hq.2.1 h1_1
      refine lv_lookup (off := 67) (tgt := 116) S.1 S.2.1 dX4_stackOp_49 (by decide) (by rw [h1_1]; rfl) rfl ?_
      refine lv_aload_n S.1 S.2.1 dX4_stackOp_116 rfl (lv_at hl 1 rfl) ?_
      refine lv_iload_n S.1 S.2.1 dX4_stackOp_117 rfl (lv_at hl 4 rfl) ?_
      refine call_X4_put S hw wl_X4_115 hq ⟨Nat.le_of_ble_eq_true rfl, Nat.le_of_ble_eq_true rfl⟩ hl.1 (Nat.le_of_ble_eq_true rfl) ⟨Nat.zero_le _, Nat.zero_le _⟩ dX4_stackOp_118 (fun k3 H locs hq hw => ?_)
      refine lv_aload_n S.1 S.2.1 dX4_stackOp_121 rfl (lv_at hl 1 rfl) ?_
      refine lv_iload_n S.1 S.2.1 dX4_stackOp_122 rfl (lv_at hl 4 rfl) ?_
      refine call_X4_put S hw wl_X4_115 hq ⟨Nat.le_of_ble_eq_true rfl, Nat.le_of_ble_eq_true rfl⟩ hl.1 (Nat.le_of_ble_eq_true rfl) ⟨Nat.zero_le _, Nat.zero_le _⟩ dX4_stackOp_123 (fun k4 H locs hq hw => ?_)
      refine lv_goto (tgt := 183) S.1 S.2.1 dX4_stackOp_126 rfl ?_
      exact kr_v (cu := fun u => ce_l cA cf ad z0 u) S hr hk hw hq dX4_stackOp_183
    · by_cases h1_2 : x1 = (8 : Int32)
      · replace hq := hq.2.2.1 h1_2
        refine lv_lookup (off := 80) (tgt := 129) S.1 S.2.1 dX4_stackOp_49 (by decide) (by rw [h1_2]; rfl) rfl ?_
        refine lv_aload_n S.1 S.2.1 dX4_stackOp_129 rfl (lv_at hl 1 rfl) ?_
        refine lv_iload_n S.1 S.2.1 dX4_stackOp_130 rfl (lv_at hl 4 rfl) ?_
        refine call_X4_put S hw wl_X4_115 hq ⟨Nat.le_of_ble_eq_true rfl, Nat.le_of_ble_eq_true rfl⟩ hl.1 (Nat.le_of_ble_eq_true rfl) ⟨Nat.zero_le _, Nat.zero_le _⟩ dX4_stackOp_131 (fun k5 H locs hq hw => ?_)
        refine lv_aload_n S.1 S.2.1 dX4_stackOp_134 rfl (lv_at hl 1 rfl) ?_
        refine lv_iload S.1 S.2.1 dX4_stackOp_135 (lv_at hl 0 rfl) ?_
        refine call_X4_put S hw wl_X4_115 hq ⟨Nat.le_of_ble_eq_true rfl, Nat.le_of_ble_eq_true rfl⟩ hl.1 (Nat.le_of_ble_eq_true rfl) ⟨Nat.zero_le _, Nat.zero_le _⟩ dX4_stackOp_137 (fun k6 H locs hq hw => ?_)
        refine lv_goto (tgt := 183) S.1 S.2.1 dX4_stackOp_140 rfl ?_
        exact kr_v (cu := fun u => ce_l cA cf ad z0 u) S hr hk hw hq dX4_stackOp_183
      · by_cases h1_3 : x1 = (19 : Int32)
        · replace hq := hq.2.2.2.1 h1_3
          refine lv_lookup (off := 94) (tgt := 143) S.1 S.2.1 dX4_stackOp_49 (by decide) (by rw [h1_3]; rfl) rfl ?_
          refine lv_aload_n S.1 S.2.1 dX4_stackOp_143 rfl (lv_at hl 1 rfl) ?_
          refine lv_iload S.1 S.2.1 dX4_stackOp_144 (lv_at hl 0 rfl) ?_
          refine lv_iload_n S.1 S.2.1 dX4_stackOp_146 rfl (lv_at hl 4 rfl) ?_
          refine lv_icmp_ge (tgt := 154) S.1 S.2.1 dX4_stackOp_147 rfl (fun h7 => ?_) (fun h7 => ?_)
          · replace hq := hq.1 h7
            refine lv_iconst (v := (0 : Int32)) S.1 S.2.1 dX4_stackOp_154 (by decide) ?_
            refine call_X4_put S hw wl_X4_115 hq ⟨Nat.le_of_ble_eq_true rfl, Nat.le_of_ble_eq_true rfl⟩ hl.1 (Nat.le_of_ble_eq_true rfl) ⟨Nat.zero_le _, Nat.zero_le _⟩ dX4_stackOp_155 (fun k8 H locs hq hw => ?_)
            refine lv_goto (tgt := 183) S.1 S.2.1 dX4_stackOp_158 rfl ?_
            exact kr_v (cu := fun u => ce_l cA cf ad z0 u) S hr hk hw hq dX4_stackOp_183
          · replace hq := hq.2 h7
            refine lv_iconst (v := (1 : Int32)) S.1 S.2.1 dX4_stackOp_150 (by decide) ?_
            refine lv_goto (tgt := 155) S.1 S.2.1 dX4_stackOp_151 rfl ?_
            refine call_X4_put S hw wl_X4_115 hq ⟨Nat.le_of_ble_eq_true rfl, Nat.le_of_ble_eq_true rfl⟩ hl.1 (Nat.le_of_ble_eq_true rfl) ⟨Nat.zero_le _, Nat.zero_le _⟩ dX4_stackOp_155 (fun k9 H locs hq hw => ?_)
            refine lv_goto (tgt := 183) S.1 S.2.1 dX4_stackOp_158 rfl ?_
            exact kr_v (cu := fun u => ce_l cA cf ad z0 u) S hr hk hw hq dX4_stackOp_183
        · by_cases h1_4 : x1 = (23 : Int32)
          · replace hq := hq.2.2.2.2.1 h1_4
            refine lv_lookup (off := 112) (tgt := 161) S.1 S.2.1 dX4_stackOp_49 (by decide) (by rw [h1_4]; rfl) rfl ?_
            refine lv_aload_n S.1 S.2.1 dX4_stackOp_161 rfl (lv_at hl 1 rfl) ?_
            refine lv_aload_n S.1 S.2.1 dX4_stackOp_162 rfl (lv_at hl 1 rfl) ?_
            refine gf_425 S hw wf_X4_92 dX4_stackOp_163 ?_
            refine call_X4_put S hw wl_X4_115 hq ⟨Nat.le_of_ble_eq_true rfl, Nat.le_of_ble_eq_true rfl⟩ hl.1 (Nat.le_of_ble_eq_true rfl) ⟨Nat.zero_le _, Nat.zero_le _⟩ dX4_stackOp_166 (fun k10 H locs hq hw => ?_)
            refine lv_goto (tgt := 183) S.1 S.2.1 dX4_stackOp_169 rfl ?_
            exact kr_v (cu := fun u => ce_l cA cf ad z0 u) S hr hk hw hq dX4_stackOp_183
          · by_cases h1_5 : x1 = (24 : Int32)
            · replace hq := hq.2.2.2.2.2.1 h1_5
              refine lv_lookup (off := 123) (tgt := 172) S.1 S.2.1 dX4_stackOp_49 (by decide) (by rw [h1_5]; rfl) rfl ?_
              refine lv_aload_n S.1 S.2.1 dX4_stackOp_172 rfl (lv_at hl 1 rfl) ?_
              refine lv_aload_n S.1 S.2.1 dX4_stackOp_173 rfl (lv_at hl 1 rfl) ?_
              refine gf_407 S hw wf_X4_121 dX4_stackOp_174 ?_
              refine call_X4_put S hw wl_X4_115 hq ⟨Nat.le_of_ble_eq_true rfl, Nat.le_of_ble_eq_true rfl⟩ hl.1 (Nat.le_of_ble_eq_true rfl) ⟨Nat.zero_le _, Nat.zero_le _⟩ dX4_stackOp_177 (fun k11 H locs hq hw => ?_)
              refine lv_goto (tgt := 183) S.1 S.2.1 dX4_stackOp_180 rfl ?_
              exact kr_v (cu := fun u => ce_l cA cf ad z0 u) S hr hk hw hq dX4_stackOp_183
            · replace hq := hq.2.2.2.2.2.2 h1_0 h1_1 h1_2 h1_3 h1_4 h1_5
              refine lv_lookup (off := 134) (tgt := 183) S.1 S.2.1 dX4_stackOp_49 (by decide) (by
                  show Op.lookupswitch.offset [(1, 59), (6, 67), (8, 80), (19, 94), (23, 112), (24, 123)] _ _ = _
                  rw [lv_osw h1_0 (by decide), lv_osw h1_1 (by decide), lv_osw h1_2 (by decide), lv_osw h1_3 (by decide), lv_osw h1_4 (by decide), lv_osw h1_5 (by decide)]; rfl) rfl ?_
              exact kr_v (cu := fun u => ce_l cA cf ad z0 u) S hr hk hw hq dX4_stackOp_183
set_option maxRecDepth 100000 in
set_option maxHeartbeats 4000000 in
theorem b_X4_stackOp_25 {post : ka_T → Prop} (S : CallFix p m c cX4_stackOp 5 s args lw_gd RX4) (hr : meth.sig.returnType = none) (hk : meth.locks = false) : ∀ (x1 : Int32) (x2 : Int32) (y0 : Int32) (k0 : ka_T) (H : Heap) (locs : List Loc) (ls : Array Slot), lv_has ls 5 [(0, .ref (ad (11, 0))), (1, .int x1), (2, .int x2)] → Wo_ D cA cf ad A z0 k0 s H locs → q_X4_stackOp_25 cf post x1 x2 y0 k0 → W p l e rmX4_stackOp s m args below meth c H locs 0 0 (MQ below (va_Qv post (fun u t => Wx_ D cA cf ad A z0 u t) A) args s 0 0 A) (F0 m 25 ls [.int y0]) := by
  intro x1 x2 y0 k0 H locs ls hl hw hq
  refine lv_istore_n (lv' := [(3, .int y0), (0, .ref (ad (11, 0))), (1, .int x1), (2, .int x2)]) S.1 S.2.1 dX4_stackOp_25 rfl hl (by decide) rfl (fun ls hl => ?_)
  refine lv_iload_n S.1 S.2.1 dX4_stackOp_26 rfl (lv_at hl 2 rfl) ?_
  refine lv_bipush (v := (8 : Int32)) S.1 S.2.1 dX4_stackOp_27 (by decide) ?_
  refine lv_icmp_eq (tgt := 38) S.1 S.2.1 dX4_stackOp_29 rfl (fun h12 => ?_) (fun h12 => ?_)
  · replace hq := hq.1 h12
    refine lv_aload_n S.1 S.2.1 dX4_stackOp_38 rfl (lv_at hl 1 rfl) ?_
    refine call_X4_take S hw wl_X4_106 hq ⟨Nat.le_of_ble_eq_true rfl, Nat.le_of_ble_eq_true rfl⟩ hl.1 (Nat.le_of_ble_eq_true rfl) ⟨Nat.zero_le _, Nat.zero_le _⟩ dX4_stackOp_39 (fun r13 k13 H locs hq hw => ?_)
    refine lv_goto (tgt := 46) S.1 S.2.1 dX4_stackOp_42 rfl ?_
    exact b_X4_stackOp_46 S hr hk x1 x2 y0 r13 k13 _ _ _ (lv_sub hl [1, 2, 3, 0] rfl) hw hq
  · replace hq := hq.2 h12
    refine lv_iload_n S.1 S.2.1 dX4_stackOp_32 rfl (lv_at hl 2 rfl) ?_
    refine lv_bipush (v := (19 : Int32)) S.1 S.2.1 dX4_stackOp_33 (by decide) ?_
    refine lv_icmp_ne (tgt := 45) S.1 S.2.1 dX4_stackOp_35 rfl (fun h14 => ?_) (fun h14 => ?_)
    · replace hq := hq.1 h14
      refine lv_iconst (v := (0 : Int32)) S.1 S.2.1 dX4_stackOp_45 (by decide) ?_
      exact b_X4_stackOp_46 S hr hk x1 x2 y0 (0 : Int32) k0 _ _ _ (lv_sub hl [1, 2, 3, 0] rfl) hw hq
    · replace hq := hq.2 h14
      refine lv_aload_n S.1 S.2.1 dX4_stackOp_38 rfl (lv_at hl 1 rfl) ?_
      refine call_X4_take S hw wl_X4_106 hq ⟨Nat.le_of_ble_eq_true rfl, Nat.le_of_ble_eq_true rfl⟩ hl.1 (Nat.le_of_ble_eq_true rfl) ⟨Nat.zero_le _, Nat.zero_le _⟩ dX4_stackOp_39 (fun r15 k15 H locs hq hw => ?_)
      refine lv_goto (tgt := 46) S.1 S.2.1 dX4_stackOp_42 rfl ?_
      exact b_X4_stackOp_46 S hr hk x1 x2 y0 r15 k15 _ _ _ (lv_sub hl [1, 2, 3, 0] rfl) hw hq
set_option maxRecDepth 100000 in
set_option maxHeartbeats 4000000 in
theorem b_X4_stackOp_0 {post : ka_T → Prop} (S : CallFix p m c cX4_stackOp 5 s args lw_gd RX4) (hr : meth.sig.returnType = none) (hk : meth.locks = false) : ∀ (x1 : Int32) (x2 : Int32) (k0 : ka_T) (H : Heap) (locs : List Loc) (ls : Array Slot), lv_has ls 5 [(0, .ref (ad (11, 0))), (1, .int x1), (2, .int x2)] → Wo_ D cA cf ad A z0 k0 s H locs → q_X4_stackOp cf post x1 x2 k0 → W p l e rmX4_stackOp s m args below meth c H locs 0 0 (MQ below (va_Qv post (fun u t => Wx_ D cA cf ad A z0 u t) A) args s 0 0 A) (F0 m 0 ls []) := by
  intro x1 x2 k0 H locs ls hl hw hq
  refine lv_iload_n S.1 S.2.1 dX4_stackOp_0 rfl (lv_at hl 1 rfl) ?_
  refine lv_iconst (v := (1 : Int32)) S.1 S.2.1 dX4_stackOp_1 (by decide) ?_
  refine lv_icmp_eq (tgt := 17) S.1 S.2.1 dX4_stackOp_2 rfl (fun h16 => ?_) (fun h16 => ?_)
  · replace hq := hq.1 h16
    refine lv_iconst (v := (0 : Int32)) S.1 S.2.1 dX4_stackOp_17 (by decide) ?_
    refine lv_goto (tgt := 25) S.1 S.2.1 dX4_stackOp_18 rfl ?_
    exact b_X4_stackOp_25 S hr hk x1 x2 (0 : Int32) k0 _ _ _ (lv_sub hl [0, 1, 2] rfl) hw hq
  · replace hq := hq.2 h16
    refine lv_iload_n S.1 S.2.1 dX4_stackOp_5 rfl (lv_at hl 1 rfl) ?_
    refine lv_bipush (v := (23 : Int32)) S.1 S.2.1 dX4_stackOp_6 (by decide) ?_
    refine lv_icmp_eq (tgt := 17) S.1 S.2.1 dX4_stackOp_8 rfl (fun h17 => ?_) (fun h17 => ?_)
    · replace hq := hq.1 h17
      refine lv_iconst (v := (0 : Int32)) S.1 S.2.1 dX4_stackOp_17 (by decide) ?_
      refine lv_goto (tgt := 25) S.1 S.2.1 dX4_stackOp_18 rfl ?_
      exact b_X4_stackOp_25 S hr hk x1 x2 (0 : Int32) k0 _ _ _ (lv_sub hl [0, 1, 2] rfl) hw hq
    · replace hq := hq.2 h17
      refine lv_iload_n S.1 S.2.1 dX4_stackOp_11 rfl (lv_at hl 1 rfl) ?_
      refine lv_bipush (v := (24 : Int32)) S.1 S.2.1 dX4_stackOp_12 (by decide) ?_
      refine lv_icmp_ne (tgt := 21) S.1 S.2.1 dX4_stackOp_14 rfl (fun h18 => ?_) (fun h18 => ?_)
      · replace hq := hq.1 h18
        refine lv_aload_n S.1 S.2.1 dX4_stackOp_21 rfl (lv_at hl 0 rfl) ?_
        refine call_X4_take S hw wl_X4_106 hq ⟨Nat.le_of_ble_eq_true rfl, Nat.le_of_ble_eq_true rfl⟩ hl.1 (Nat.le_of_ble_eq_true rfl) ⟨Nat.zero_le _, Nat.zero_le _⟩ dX4_stackOp_22 (fun r19 k19 H locs hq hw => ?_)
        exact b_X4_stackOp_25 S hr hk x1 x2 r19 k19 _ _ _ (lv_sub hl [0, 1, 2] rfl) hw hq
      · replace hq := hq.2 h18
        refine lv_iconst (v := (0 : Int32)) S.1 S.2.1 dX4_stackOp_17 (by decide) ?_
        refine lv_goto (tgt := 25) S.1 S.2.1 dX4_stackOp_18 rfl ?_
        exact b_X4_stackOp_25 S hr hk x1 x2 (0 : Int32) k0 _ _ _ (lv_sub hl [0, 1, 2] rfl) hw hq
theorem c_X4_stackOp (z0 k0 : ka_T) (x1 : Int32) (x2 : Int32) {post : ka_T → Prop} (hq : q_X4_stackOp cf post x1 x2 k0) : Met l yX4_stackOp wsX4_stackOp rmX4_stackOp (va_Pc [.ref (ad (11, 0)), .int x1, .int x2] (Wx_ D cA cf ad A z0 k0)) (va_Qv post (fun u t => Wx_ D cA cf ad A z0 u t) A) 0 0 A :=
  kp_met (by decide +kernel) [.ref (ad (11, 0)), .int x1, .int x2] (Nat.le_of_ble_eq_true rfl) (fun p e s m args below meth c ls S hr hk hw hl => b_X4_stackOp_0 S hr hk x1 x2 k0 _ _ _ hl hw hq)
theorem call_X4_stackOp {z0 k0 : ka_T} {x1 : Int32} {x2 : Int32} {post : ka_T → Prop} (S : CallFix p m c cc nL s args lw_gd own) (hw : Wo_ D cA cf ad A z0 k0 s H locs) {index : Nat} (hl : Cond.methodLink own index yX4_stackOp ∈ lw_gd) (hq : q_X4_stackOp cf post x1 x2 k0) (hR : rmX4_stackOp.frames + 1 ≤ R.frames ∧ 8 + (5 + 11) + rmX4_stackOp.locals ≤ R.locals) (hls : ls.size = nL) (hro : (rest.map fun v => v.category).sum ≤ 8) (hcs : cells ≤ R.cells ∧ slots ≤ R.slots) (hd : decode cc pc = .ok (.invokevirtual index, 3)) (kk : ∀ (u : ka_T) (H1 : Heap) (locs1 : List Loc), post u → Wo_ D cA cf ad A z0 u s H1 locs1 → W p l e R s m args below meth c H1 locs1 cells slots Q (F0 m (pc + 3) ls rest)) : W p l e R s m args below meth c H locs cells slots Q (F0 m pc ls (.int x2 :: .int x1 :: .ref (ad (11, 0)) :: rest)) :=
  kg_vv (cu := fun u => ce_l cA cf ad z0 u) (As := [.int x1, .int x2]) S hw (q := (11, 0)) (c_X4_stackOp z0 k0 x1 x2 hq) wc_X4_stackOp wn_X4 hl wi_X4_stackOp (C := RX4) (T := TX4) (N := 27) (ci := 4) (fs := fx_11 cf ad k0 0) wse_X4_stackOp (km_11) rfl rfl (na := 2) (by decide +kernel) rfl rfl rfl hR hls rfl hro hcs hd kk
abbrev rmX4_taskOp : Room := { frames := 2, cells := 0, slots := 0, locals := 45 }
set_option maxRecDepth 100000 in
set_option maxHeartbeats 4000000 in
theorem b_X4_taskOp_220 {post : ka_T → Prop} (S : CallFix p m c cX4_taskOp 5 s args lw_gd RX4) (hr : meth.sig.returnType = none) (hk : meth.locks = false) : ∀ (x4 : Int32) (k0 : ka_T) (H : Heap) (locs : List Loc) (ls : Array Slot), lv_has ls 5 [(0, .ref (ad (11, 0))), (4, .int x4)] → Wo_ D cA cf ad A z0 k0 s H locs → q_X4_taskOp_220 cf post x4 k0 → W p l e rmX4_taskOp s m args below meth c H locs 0 0 (MQ below (va_Qv post (fun u t => Wx_ D cA cf ad A z0 u t) A) args s 0 0 A) (F0 m 220 ls []) := by
  intro x4 k0 H locs ls hl hw hq
  refine lv_aload_n S.1 S.2.1 dX4_taskOp_220 rfl (lv_at hl 0 rfl) ?_
  refine gf_409 S hw wf_X4_16 dX4_taskOp_221 ?_
  refine lv_aload_n S.1 S.2.1 dX4_taskOp_224 rfl (lv_at hl 0 rfl) ?_
  refine gf_425 S hw wf_X4_92 dX4_taskOp_225 ?_
  obtain ⟨hi, hq⟩ := hq
  refine al_14 S hw hi dX4_taskOp_228 ?_
  refine lv_if_le (tgt := 246) S.1 S.2.1 dX4_taskOp_229 rfl (fun h1 => ?_) (fun h1 => ?_)
  · replace hq := hq.1 h1
    exact kr_v (cu := fun u => ce_l cA cf ad z0 u) S hr hk hw hq dX4_taskOp_246
  · replace hq := hq.2 h1
    refine lv_aload_n S.1 S.2.1 dX4_taskOp_232 rfl (lv_at hl 0 rfl) ?_
    refine lv_iload S.1 S.2.1 dX4_taskOp_233 (lv_at hl 1 rfl) ?_
    refine lv_if_eq (tgt := 242) S.1 S.2.1 dX4_taskOp_235 rfl (fun h2 => ?_) (fun h2 => ?_)
    · replace hq := hq.1 h2
      refine lv_iconst (v := (0 : Int32)) S.1 S.2.1 dX4_taskOp_242 (by decide) ?_
      refine call_X4_put S hw wl_X4_115 hq ⟨Nat.le_of_ble_eq_true rfl, Nat.le_of_ble_eq_true rfl⟩ hl.1 (Nat.le_of_ble_eq_true rfl) ⟨Nat.zero_le _, Nat.zero_le _⟩ dX4_taskOp_243 (fun k3 H locs hq hw => ?_)
      exact kr_v (cu := fun u => ce_l cA cf ad z0 u) S hr hk hw hq dX4_taskOp_246
    · replace hq := hq.2 h2
      refine lv_iconst (v := (1 : Int32)) S.1 S.2.1 dX4_taskOp_238 (by decide) ?_
      refine lv_goto (tgt := 243) S.1 S.2.1 dX4_taskOp_239 rfl ?_
      refine call_X4_put S hw wl_X4_115 hq ⟨Nat.le_of_ble_eq_true rfl, Nat.le_of_ble_eq_true rfl⟩ hl.1 (Nat.le_of_ble_eq_true rfl) ⟨Nat.zero_le _, Nat.zero_le _⟩ dX4_taskOp_243 (fun k4 H locs hq hw => ?_)
      exact kr_v (cu := fun u => ce_l cA cf ad z0 u) S hr hk hw hq dX4_taskOp_246
set_option maxRecDepth 100000 in
set_option maxHeartbeats 4000000 in
theorem b_X4_taskOp_38 {post : ka_T → Prop} (S : CallFix p m c cX4_taskOp 5 s args lw_gd RX4) (hr : meth.sig.returnType = none) (hk : meth.locks = false) : ∀ (x1 : Int32) (x2 : Int32) (y0 : Int32) (k0 : ka_T) (H : Heap) (locs : List Loc) (ls : Array Slot), lv_has ls 5 [(0, .ref (ad (11, 0))), (1, .int x1), (2, .int x2)] → Wo_ D cA cf ad A z0 k0 s H locs → q_X4_taskOp_38 cf post x1 x2 y0 k0 → W p l e rmX4_taskOp s m args below meth c H locs 0 0 (MQ below (va_Qv post (fun u t => Wx_ D cA cf ad A z0 u t) A) args s 0 0 A) (F0 m 38 ls [.int y0]) := by
  intro x1 x2 y0 k0 H locs ls hl hw hq
  refine lv_istore_n (lv' := [(3, .int y0), (0, .ref (ad (11, 0))), (1, .int x1), (2, .int x2)]) S.1 S.2.1 dX4_taskOp_38 rfl hl (by decide) rfl (fun ls hl => ?_)
  refine lv_aload_n S.1 S.2.1 dX4_taskOp_39 rfl (lv_at hl 1 rfl) ?_
  refine gf_426 S hw wf_X4_89 dX4_taskOp_40 ?_
  refine lv_if_le (tgt := 47) S.1 S.2.1 dX4_taskOp_43 rfl (fun h5 => ?_) (fun h5 => ?_)
  · replace hq := hq.1 h5
    refine lv_iload_n S.1 S.2.1 dX4_taskOp_47 rfl (lv_at hl 2 rfl) ?_
    by_cases h6_0 : x1 = (15 : Int32)
    · replace hq := hq.1 h6_0
      refine lv_tableIn (off := 40) (tgt := 88) S.1 S.2.1 dX4_taskOp_48 (by rw [h6_0]; decide) (by rw [h6_0]; decide) (by rw [h6_0]; rfl) rfl ?_
      refine lv_aload_n S.1 S.2.1 dX4_taskOp_88 rfl (lv_at hl 1 rfl) ?_
      refine gf_424 S hw wf_X4_58 dX4_taskOp_89 ?_
      refine lv_aload_n S.1 S.2.1 dX4_taskOp_92 rfl (lv_at hl 1 rfl) ?_
      refine gf_423 S hw wf_X4_127 dX4_taskOp_93 ?_
      refine lv_bipush (v := (32 : Int32)) S.1 S.2.1 dX4_taskOp_96 (by decide) ?_
      refine lv_irem S.1 S.2.1 dX4_taskOp_98 (by decide) ?_
      refine lv_iload_n S.1 S.2.1 dX4_taskOp_99 rfl (lv_at hl 0 rfl) ?_
      obtain ⟨hi, hq⟩ := hq
      refine as_28 S hw hi dX4_taskOp_100 (fun k7 H locs e7 hw => ?_)
      replace hq := hq _ e7
      refine lv_aload_n S.1 S.2.1 dX4_taskOp_101 rfl (lv_at hl 1 rfl) ?_
      refine lv_dup S.1 S.2.1 dX4_taskOp_102 rfl ?_
      refine gf_423 S hw wf_X4_127 dX4_taskOp_103 ?_
      refine lv_iconst (v := (1 : Int32)) S.1 S.2.1 dX4_taskOp_106 (by decide) ?_
      refine lv_iadd S.1 S.2.1 dX4_taskOp_107 ?_
      refine pf_423 S hw wf_X4_127 dX4_taskOp_108 (fun k8 H locs e8 hw => ?_)
      replace hq := hq _ e8
      refine lv_goto (tgt := 246) S.1 S.2.1 dX4_taskOp_111 rfl ?_
      exact kr_v (cu := fun u => ce_l cA cf ad z0 u) S hr hk hw hq dX4_taskOp_246
    · by_cases h6_1 : x1 = (16 : Int32)
      · replace hq := hq.2.1 h6_1
        refine lv_tableIn (off := 66) (tgt := 114) S.1 S.2.1 dX4_taskOp_48 (by rw [h6_1]; decide) (by rw [h6_1]; decide) (by rw [h6_1]; rfl) rfl ?_
        refine lv_aload_n S.1 S.2.1 dX4_taskOp_114 rfl (lv_at hl 1 rfl) ?_
        refine lv_aload_n S.1 S.2.1 dX4_taskOp_115 rfl (lv_at hl 1 rfl) ?_
        refine gf_425 S hw wf_X4_92 dX4_taskOp_116 ?_
        refine lv_iconst (v := (1 : Int32)) S.1 S.2.1 dX4_taskOp_119 (by decide) ?_
        refine call_X4_set S hw wl_X4_85 hq ⟨Nat.le_of_ble_eq_true rfl, Nat.le_of_ble_eq_true rfl⟩ hl.1 (Nat.le_of_ble_eq_true rfl) ⟨Nat.zero_le _, Nat.zero_le _⟩ dX4_taskOp_120 (fun k9 H locs hq hw => ?_)
        refine lv_goto (tgt := 246) S.1 S.2.1 dX4_taskOp_123 rfl ?_
        exact kr_v (cu := fun u => ce_l cA cf ad z0 u) S hr hk hw hq dX4_taskOp_246
      · by_cases h6_2 : x1 = (17 : Int32)
        · replace hq := hq.2.2.1 h6_2
          refine lv_tableIn (off := 78) (tgt := 126) S.1 S.2.1 dX4_taskOp_48 (by rw [h6_2]; decide) (by rw [h6_2]; decide) (by rw [h6_2]; rfl) rfl ?_
          refine lv_aload_n S.1 S.2.1 dX4_taskOp_126 rfl (lv_at hl 1 rfl) ?_
          refine gf_410 S hw wf_X4_19 dX4_taskOp_127 ?_
          refine lv_aload_n S.1 S.2.1 dX4_taskOp_130 rfl (lv_at hl 1 rfl) ?_
          refine gf_425 S hw wf_X4_92 dX4_taskOp_131 ?_
          refine lv_iload_n S.1 S.2.1 dX4_taskOp_134 rfl (lv_at hl 3 rfl) ?_
          refine lv_bipush (v := (7 : Int32)) S.1 S.2.1 dX4_taskOp_135 (by decide) ?_
          refine lv_iand S.1 S.2.1 dX4_taskOp_137 ?_
          obtain ⟨hi, hq⟩ := hq
          refine as_15 S hw hi dX4_taskOp_138 (fun k10 H locs e10 hw => ?_)
          replace hq := hq _ e10
          refine lv_goto (tgt := 246) S.1 S.2.1 dX4_taskOp_139 rfl ?_
          exact kr_v (cu := fun u => ce_l cA cf ad z0 u) S hr hk hw hq dX4_taskOp_246
        · by_cases h6_3 : x1 = (18 : Int32)
          · replace hq := hq.2.2.2.1 h6_3
            refine lv_tableIn (off := 94) (tgt := 142) S.1 S.2.1 dX4_taskOp_48 (by rw [h6_3]; decide) (by rw [h6_3]; decide) (by rw [h6_3]; rfl) rfl ?_
            refine lv_aload_n S.1 S.2.1 dX4_taskOp_142 rfl (lv_at hl 1 rfl) ?_
            refine lv_aload_n S.1 S.2.1 dX4_taskOp_143 rfl (lv_at hl 1 rfl) ?_
            refine lv_iload_n S.1 S.2.1 dX4_taskOp_144 rfl (lv_at hl 3 rfl) ?_
            refine lv_iload_n S.1 S.2.1 dX4_taskOp_145 rfl (lv_at hl 0 rfl) ?_
            refine lv_bipush (v := (7 : Int32)) S.1 S.2.1 dX4_taskOp_146 (by decide) ?_
            refine lv_iand S.1 S.2.1 dX4_taskOp_148 ?_
            refine call_X4_begin S hw wl_X4_130 hq ⟨Nat.le_of_ble_eq_true rfl, Nat.le_of_ble_eq_true rfl⟩ hl.1 (Nat.le_of_ble_eq_true rfl) ⟨Nat.zero_le _, Nat.zero_le _⟩ dX4_taskOp_149 (fun r11 k11 H locs hq hw => ?_)
            refine call_X4_put S hw wl_X4_115 hq ⟨Nat.le_of_ble_eq_true rfl, Nat.le_of_ble_eq_true rfl⟩ hl.1 (Nat.le_of_ble_eq_true rfl) ⟨Nat.zero_le _, Nat.zero_le _⟩ dX4_taskOp_152 (fun k12 H locs hq hw => ?_)
            refine lv_goto (tgt := 246) S.1 S.2.1 dX4_taskOp_155 rfl ?_
            exact kr_v (cu := fun u => ce_l cA cf ad z0 u) S hr hk hw hq dX4_taskOp_246
          · by_cases h6_4 : x1 = (20 : Int32)
            · replace hq := hq.2.2.2.2.1 h6_4
              refine lv_tableIn (off := 110) (tgt := 158) S.1 S.2.1 dX4_taskOp_48 (by rw [h6_4]; decide) (by rw [h6_4]; decide) (by rw [h6_4]; rfl) rfl ?_
              refine lv_iload_n S.1 S.2.1 dX4_taskOp_158 rfl (lv_at hl 0 rfl) ?_
              refine lv_if_le (tgt := 246) S.1 S.2.1 dX4_taskOp_159 rfl (fun h13 => ?_) (fun h13 => ?_)
              · replace hq := hq.1 h13
                exact kr_v (cu := fun u => ce_l cA cf ad z0 u) S hr hk hw hq dX4_taskOp_246
              · replace hq := hq.2 h13
                refine lv_aload_n S.1 S.2.1 dX4_taskOp_162 rfl (lv_at hl 1 rfl) ?_
                refine gf_416 S hw wf_X4_37 dX4_taskOp_163 ?_
                refine lv_aload_n S.1 S.2.1 dX4_taskOp_166 rfl (lv_at hl 1 rfl) ?_
                refine gf_425 S hw wf_X4_92 dX4_taskOp_167 ?_
                refine lv_aload_n S.1 S.2.1 dX4_taskOp_170 rfl (lv_at hl 1 rfl) ?_
                refine gf_407 S hw wf_X4_121 dX4_taskOp_171 ?_
                refine lv_iload_n S.1 S.2.1 dX4_taskOp_174 rfl (lv_at hl 0 rfl) ?_
                refine lv_sipush (v := (1000 : Int32)) S.1 S.2.1 dX4_taskOp_175 (by decide) ?_
                refine lv_icmp_ge (tgt := 185) S.1 S.2.1 dX4_taskOp_178 rfl (fun h14 => ?_) (fun h14 => ?_)
                · replace hq := hq.1 h14
                  refine lv_sipush (v := (1000 : Int32)) S.1 S.2.1 dX4_taskOp_185 (by decide) ?_
                  refine lv_iadd S.1 S.2.1 dX4_taskOp_188 ?_
                  obtain ⟨hi, hq⟩ := hq
                  refine as_21 S hw hi dX4_taskOp_189 (fun k15 H locs e15 hw => ?_)
                  replace hq := hq _ e15
                  refine lv_aload_n S.1 S.2.1 dX4_taskOp_190 rfl (lv_at hl 1 rfl) ?_
                  refine lv_aload_n S.1 S.2.1 dX4_taskOp_191 rfl (lv_at hl 1 rfl) ?_
                  refine gf_425 S hw wf_X4_92 dX4_taskOp_192 ?_
                  refine lv_iconst (v := (2 : Int32)) S.1 S.2.1 dX4_taskOp_195 (by decide) ?_
                  refine call_X4_set S hw wl_X4_85 hq ⟨Nat.le_of_ble_eq_true rfl, Nat.le_of_ble_eq_true rfl⟩ hl.1 (Nat.le_of_ble_eq_true rfl) ⟨Nat.zero_le _, Nat.zero_le _⟩ dX4_taskOp_196 (fun k16 H locs hq hw => ?_)
                  refine lv_goto (tgt := 246) S.1 S.2.1 dX4_taskOp_199 rfl ?_
                  exact kr_v (cu := fun u => ce_l cA cf ad z0 u) S hr hk hw hq dX4_taskOp_246
                · replace hq := hq.2 h14
                  refine lv_iload_n S.1 S.2.1 dX4_taskOp_181 rfl (lv_at hl 0 rfl) ?_
                  refine lv_goto (tgt := 188) S.1 S.2.1 dX4_taskOp_182 rfl ?_
                  refine lv_iadd S.1 S.2.1 dX4_taskOp_188 ?_
                  obtain ⟨hi, hq⟩ := hq
                  refine as_21 S hw hi dX4_taskOp_189 (fun k17 H locs e17 hw => ?_)
                  replace hq := hq _ e17
                  refine lv_aload_n S.1 S.2.1 dX4_taskOp_190 rfl (lv_at hl 1 rfl) ?_
                  refine lv_aload_n S.1 S.2.1 dX4_taskOp_191 rfl (lv_at hl 1 rfl) ?_
                  refine gf_425 S hw wf_X4_92 dX4_taskOp_192 ?_
                  refine lv_iconst (v := (2 : Int32)) S.1 S.2.1 dX4_taskOp_195 (by decide) ?_
                  refine call_X4_set S hw wl_X4_85 hq ⟨Nat.le_of_ble_eq_true rfl, Nat.le_of_ble_eq_true rfl⟩ hl.1 (Nat.le_of_ble_eq_true rfl) ⟨Nat.zero_le _, Nat.zero_le _⟩ dX4_taskOp_196 (fun k18 H locs hq hw => ?_)
                  refine lv_goto (tgt := 246) S.1 S.2.1 dX4_taskOp_199 rfl ?_
                  exact kr_v (cu := fun u => ce_l cA cf ad z0 u) S hr hk hw hq dX4_taskOp_246
            · replace hq := hq.2.2.2.2.2 h6_0 h6_1 h6_2 h6_3 h6_4
              refine kg_tab (tgt := 202) S dX4_taskOp_48 (by
                  by_cases g6_0 : x1 = (19 : Int32)
                  · exact Or.inr ⟨by rw [g6_0]; decide, by rw [g6_0]; decide, by rw [g6_0]; rfl⟩
                  have a0 := i32_ne (n := 15) (by decide) h6_0
                  have a1 := i32_ne (n := 16) (by decide) h6_1
                  have a2 := i32_ne (n := 17) (by decide) h6_2
                  have a3 := i32_ne (n := 18) (by decide) h6_3
                  have a4 := i32_ne (n := 20) (by decide) h6_4
                  have b0 := i32_ne (n := 19) (by decide) g6_0
                  left; omega
                ) rfl ?_
              refine lv_aload_n S.1 S.2.1 dX4_taskOp_202 rfl (lv_at hl 1 rfl) ?_
              refine lv_iload_n S.1 S.2.1 dX4_taskOp_203 rfl (lv_at hl 0 rfl) ?_
              refine call_X4_isLive S hw wl_X4_134 hq ⟨Nat.le_of_ble_eq_true rfl, Nat.le_of_ble_eq_true rfl⟩ hl.1 (Nat.le_of_ble_eq_true rfl) ⟨Nat.zero_le _, Nat.zero_le _⟩ dX4_taskOp_204 (fun r19 k19 H locs hq hw => ?_)
              refine lv_istore (lv' := [(4, .int r19), (3, .int y0), (0, .ref (ad (11, 0))), (1, .int x1), (2, .int x2)]) S.1 S.2.1 dX4_taskOp_207 hl (by decide) rfl (fun ls hl => ?_)
              refine lv_iload S.1 S.2.1 dX4_taskOp_209 (lv_at hl 0 rfl) ?_
              refine lv_if_eq (tgt := 220) S.1 S.2.1 dX4_taskOp_211 rfl (fun h20 => ?_) (fun h20 => ?_)
              · replace hq := hq.1 h20
                exact b_X4_taskOp_220 S hr hk r19 k19 _ _ _ (lv_sub hl [2, 0] rfl) hw hq
              · replace hq := hq.2 h20
                refine lv_aload_n S.1 S.2.1 dX4_taskOp_214 rfl (lv_at hl 2 rfl) ?_
                refine lv_iload_n S.1 S.2.1 dX4_taskOp_215 rfl (lv_at hl 1 rfl) ?_
                refine lv_iconst (v := (2 : Int32)) S.1 S.2.1 dX4_taskOp_216 (by decide) ?_
                refine call_X4_end S hw wl_X4_137 hq ⟨Nat.le_of_ble_eq_true rfl, Nat.le_of_ble_eq_true rfl⟩ hl.1 (Nat.le_of_ble_eq_true rfl) ⟨Nat.zero_le _, Nat.zero_le _⟩ dX4_taskOp_217 (fun k21 H locs hq hw => ?_)
                exact b_X4_taskOp_220 S hr hk r19 k21 _ _ _ (lv_sub hl [2, 0] rfl) hw hq
  · replace hq := hq.2 h5
    exact kr_v (cu := fun u => ce_l cA cf ad z0 u) S hr hk hw hq dX4_taskOp_46
set_option maxRecDepth 100000 in
set_option maxHeartbeats 4000000 in
theorem b_X4_taskOp_18 {post : ka_T → Prop} (S : CallFix p m c cX4_taskOp 5 s args lw_gd RX4) (hr : meth.sig.returnType = none) (hk : meth.locks = false) : ∀ (x1 : Int32) (x2 : Int32) (k0 : ka_T) (H : Heap) (locs : List Loc) (ls : Array Slot), lv_has ls 5 [(0, .ref (ad (11, 0))), (1, .int x1), (2, .int x2)] → Wo_ D cA cf ad A z0 k0 s H locs → q_X4_taskOp_18 cf post x1 x2 k0 → W p l e rmX4_taskOp s m args below meth c H locs 0 0 (MQ below (va_Qv post (fun u t => Wx_ D cA cf ad A z0 u t) A) args s 0 0 A) (F0 m 18 ls []) := by
  intro x1 x2 k0 H locs ls hl hw hq
  refine lv_iload_n S.1 S.2.1 dX4_taskOp_18 rfl (lv_at hl 1 rfl) ?_
  refine lv_bipush (v := (16 : Int32)) S.1 S.2.1 dX4_taskOp_19 (by decide) ?_
  refine lv_icmp_eq (tgt := 30) S.1 S.2.1 dX4_taskOp_21 rfl (fun h22 => ?_) (fun h22 => ?_)
  · replace hq := hq.1 h22
    refine lv_iconst (v := (0 : Int32)) S.1 S.2.1 dX4_taskOp_30 (by decide) ?_
    refine lv_goto (tgt := 38) S.1 S.2.1 dX4_taskOp_31 rfl ?_
    exact b_X4_taskOp_38 S hr hk x1 x2 (0 : Int32) k0 _ _ _ (lv_sub hl [0, 1, 2] rfl) hw hq
  · replace hq := hq.2 h22
    refine lv_iload_n S.1 S.2.1 dX4_taskOp_24 rfl (lv_at hl 1 rfl) ?_
    refine lv_bipush (v := (17 : Int32)) S.1 S.2.1 dX4_taskOp_25 (by decide) ?_
    refine lv_icmp_ne (tgt := 34) S.1 S.2.1 dX4_taskOp_27 rfl (fun h23 => ?_) (fun h23 => ?_)
    · replace hq := hq.1 h23
      refine lv_aload_n S.1 S.2.1 dX4_taskOp_34 rfl (lv_at hl 0 rfl) ?_
      refine call_X4_take S hw wl_X4_106 hq ⟨Nat.le_of_ble_eq_true rfl, Nat.le_of_ble_eq_true rfl⟩ hl.1 (Nat.le_of_ble_eq_true rfl) ⟨Nat.zero_le _, Nat.zero_le _⟩ dX4_taskOp_35 (fun r24 k24 H locs hq hw => ?_)
      exact b_X4_taskOp_38 S hr hk x1 x2 r24 k24 _ _ _ (lv_sub hl [0, 1, 2] rfl) hw hq
    · replace hq := hq.2 h23
      refine lv_iconst (v := (0 : Int32)) S.1 S.2.1 dX4_taskOp_30 (by decide) ?_
      refine lv_goto (tgt := 38) S.1 S.2.1 dX4_taskOp_31 rfl ?_
      exact b_X4_taskOp_38 S hr hk x1 x2 (0 : Int32) k0 _ _ _ (lv_sub hl [0, 1, 2] rfl) hw hq
set_option maxRecDepth 100000 in
set_option maxHeartbeats 4000000 in
theorem b_X4_taskOp_0 {post : ka_T → Prop} (S : CallFix p m c cX4_taskOp 5 s args lw_gd RX4) (hr : meth.sig.returnType = none) (hk : meth.locks = false) : ∀ (x1 : Int32) (x2 : Int32) (k0 : ka_T) (H : Heap) (locs : List Loc) (ls : Array Slot), lv_has ls 5 [(0, .ref (ad (11, 0))), (1, .int x1), (2, .int x2)] → Wo_ D cA cf ad A z0 k0 s H locs → q_X4_taskOp cf post x1 x2 k0 → W p l e rmX4_taskOp s m args below meth c H locs 0 0 (MQ below (va_Qv post (fun u t => Wx_ D cA cf ad A z0 u t) A) args s 0 0 A) (F0 m 0 ls []) := by
  intro x1 x2 k0 H locs ls hl hw hq
  refine lv_iload_n S.1 S.2.1 dX4_taskOp_0 rfl (lv_at hl 1 rfl) ?_
  refine lv_bipush (v := (18 : Int32)) S.1 S.2.1 dX4_taskOp_1 (by decide) ?_
  refine lv_icmp_ne (tgt := 18) S.1 S.2.1 dX4_taskOp_3 rfl (fun h25 => ?_) (fun h25 => ?_)
  · replace hq := hq.1 h25
    exact b_X4_taskOp_18 S hr hk x1 x2 k0 _ _ _ (lv_sub hl [0, 1, 2] rfl) hw hq
  · replace hq := hq.2 h25
    refine lv_iload_n S.1 S.2.1 dX4_taskOp_6 rfl (lv_at hl 2 rfl) ?_
    refine call_X4_isPlace S hw wl_X4_118 hq ⟨Nat.le_of_ble_eq_true rfl, Nat.le_of_ble_eq_true rfl⟩ hl.1 (Nat.le_of_ble_eq_true rfl) ⟨Nat.zero_le _, Nat.zero_le _⟩ dX4_taskOp_7 (fun r26 k26 H locs hq hw => ?_)
    refine lv_if_ne (tgt := 18) S.1 S.2.1 dX4_taskOp_10 rfl (fun h27 => ?_) (fun h27 => ?_)
    · replace hq := hq.1 h27
      exact b_X4_taskOp_18 S hr hk x1 x2 k26 _ _ _ (lv_sub hl [0, 1, 2] rfl) hw hq
    · replace hq := hq.2 h27
      refine lv_aload_n S.1 S.2.1 dX4_taskOp_13 rfl (lv_at hl 0 rfl) ?_
      refine lv_iconst (v := (2 : Int32)) S.1 S.2.1 dX4_taskOp_14 (by decide) ?_
      refine call_X4_fall S hw wl_X4_95 hq ⟨Nat.le_of_ble_eq_true rfl, Nat.le_of_ble_eq_true rfl⟩ hl.1 (Nat.le_of_ble_eq_true rfl) ⟨Nat.zero_le _, Nat.zero_le _⟩ dX4_taskOp_15 (fun k28 H locs hq hw => ?_)
      exact b_X4_taskOp_18 S hr hk x1 x2 k28 _ _ _ (lv_sub hl [0, 1, 2] rfl) hw hq
theorem c_X4_taskOp (z0 k0 : ka_T) (x1 : Int32) (x2 : Int32) {post : ka_T → Prop} (hq : q_X4_taskOp cf post x1 x2 k0) : Met l yX4_taskOp wsX4_taskOp rmX4_taskOp (va_Pc [.ref (ad (11, 0)), .int x1, .int x2] (Wx_ D cA cf ad A z0 k0)) (va_Qv post (fun u t => Wx_ D cA cf ad A z0 u t) A) 0 0 A :=
  kp_met (by decide +kernel) [.ref (ad (11, 0)), .int x1, .int x2] (Nat.le_of_ble_eq_true rfl) (fun p e s m args below meth c ls S hr hk hw hl => b_X4_taskOp_0 S hr hk x1 x2 k0 _ _ _ hl hw hq)
theorem call_X4_taskOp {z0 k0 : ka_T} {x1 : Int32} {x2 : Int32} {post : ka_T → Prop} (S : CallFix p m c cc nL s args lw_gd own) (hw : Wo_ D cA cf ad A z0 k0 s H locs) {index : Nat} (hl : Cond.methodLink own index yX4_taskOp ∈ lw_gd) (hq : q_X4_taskOp cf post x1 x2 k0) (hR : rmX4_taskOp.frames + 1 ≤ R.frames ∧ 8 + (5 + 11) + rmX4_taskOp.locals ≤ R.locals) (hls : ls.size = nL) (hro : (rest.map fun v => v.category).sum ≤ 8) (hcs : cells ≤ R.cells ∧ slots ≤ R.slots) (hd : decode cc pc = .ok (.invokevirtual index, 3)) (kk : ∀ (u : ka_T) (H1 : Heap) (locs1 : List Loc), post u → Wo_ D cA cf ad A z0 u s H1 locs1 → W p l e R s m args below meth c H1 locs1 cells slots Q (F0 m (pc + 3) ls rest)) : W p l e R s m args below meth c H locs cells slots Q (F0 m pc ls (.int x2 :: .int x1 :: .ref (ad (11, 0)) :: rest)) :=
  kg_vv (cu := fun u => ce_l cA cf ad z0 u) (As := [.int x1, .int x2]) S hw (q := (11, 0)) (c_X4_taskOp z0 k0 x1 x2 hq) wc_X4_taskOp wn_X4 hl wi_X4_taskOp (C := RX4) (T := TX4) (N := 27) (ci := 4) (fs := fx_11 cf ad k0 0) wse_X4_taskOp (km_11) rfl rfl (na := 2) (by decide +kernel) rfl rfl rfl hR hls rfl hro hcs hd kk
end KW
