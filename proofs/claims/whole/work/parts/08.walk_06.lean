/-! printed by wip/whole/gen.py: the walks, contracts and calls of the methods -/
section KW
variable {p : Program} {l : Launch} {e : Env} {R : Room} {s : State} {m : MethodId} {args : Array Value} {below : List Frame} {meth : Method} {c : Code} {H : Heap} {locs : List Loc} {cells slots : Nat} {Q : State → Prop}
variable {cc : ByteArray} {nL pc : Nat} {ls : Array Slot} {rest : List Value} {own : String} {D : va_G} {A : Nat → Prop} {cA : Nat → ClassId} {cf : Nat → Nat} {ad : Nat × Nat → Nat} {z0 : ka_T}
abbrev rmX4_perform : Room := { frames := 3, cells := 0, slots := 0, locals := 69 }
set_option maxRecDepth 100000 in
set_option maxHeartbeats 4000000 in
theorem b_X4_perform_59 {post : ka_T → Prop} (S : CallFix p m c cX4_perform 3 s args lw_gd RX4) (hr : meth.sig.returnType = none) (hk : meth.locks = false) : ∀ (x1 : Int32) (x2 : Int32) (k0 : ka_T) (H : Heap) (locs : List Loc) (ls : Array Slot), lv_has ls 3 [(0, .ref (ad (11, 0))), (1, .int x1), (2, .int x2)] → Wo_ D cA cf ad A z0 k0 s H locs → q_X4_perform_59 cf post x1 x2 k0 → W p l e rmX4_perform s m args below meth c H locs 0 0 (MQ below (va_Qv post (fun u t => Wx_ D cA cf ad A z0 u t) A) args s 0 0 A) (F0 m 59 ls []) := by
  intro x1 x2 k0 H locs ls hl hw hq
  refine lv_iload_n S.1 S.2.1 dX4_perform_59 rfl (lv_at hl 1 rfl) ?_
  refine lv_bipush (v := (21 : Int32)) S.1 S.2.1 dX4_perform_60 (by decide) ?_
  refine lv_icmp_ne (tgt := 73) S.1 S.2.1 dX4_perform_62 rfl (fun h1 => ?_) (fun h1 => ?_)
  · replace hq := hq.1 h1
    refine lv_iload_n S.1 S.2.1 dX4_perform_73 rfl (lv_at hl 1 rfl) ?_
    refine lv_bipush (v := (22 : Int32)) S.1 S.2.1 dX4_perform_74 (by decide) ?_
    refine lv_icmp_ne (tgt := 87) S.1 S.2.1 dX4_perform_76 rfl (fun h2 => ?_) (fun h2 => ?_)
    · replace hq := hq.1 h2
      refine lv_iload_n S.1 S.2.1 dX4_perform_87 rfl (lv_at hl 1 rfl) ?_
      refine lv_if_ne (tgt := 103) S.1 S.2.1 dX4_perform_88 rfl (fun h3 => ?_) (fun h3 => ?_)
      · replace hq := hq.1 h3
        refine lv_iload_n S.1 S.2.1 dX4_perform_103 rfl (lv_at hl 1 rfl) ?_
        refine lv_bipush (v := (25 : Int32)) S.1 S.2.1 dX4_perform_104 (by decide) ?_
        refine lv_icmp_le (tgt := 117) S.1 S.2.1 dX4_perform_106 rfl (fun h4 => ?_) (fun h4 => ?_)
        · replace hq := hq.1 h4
          refine lv_iload_n S.1 S.2.1 dX4_perform_117 rfl (lv_at hl 1 rfl) ?_
          refine lv_iconst (v := (1 : Int32)) S.1 S.2.1 dX4_perform_118 (by decide) ?_
          refine lv_icmp_eq (tgt := 158) S.1 S.2.1 dX4_perform_119 rfl (fun h5 => ?_) (fun h5 => ?_)
          · replace hq := hq.1 h5
            refine lv_aload_n S.1 S.2.1 dX4_perform_158 rfl (lv_at hl 0 rfl) ?_
            refine lv_iload_n S.1 S.2.1 dX4_perform_159 rfl (lv_at hl 1 rfl) ?_
            refine lv_iload_n S.1 S.2.1 dX4_perform_160 rfl (lv_at hl 2 rfl) ?_
            refine call_X4_stackOp S hw wl_X4_155 hq ⟨Nat.le_of_ble_eq_true rfl, Nat.le_of_ble_eq_true rfl⟩ hl.1 (Nat.le_of_ble_eq_true rfl) ⟨Nat.zero_le _, Nat.zero_le _⟩ dX4_perform_161 (fun k6 H locs hq hw => ?_)
            refine lv_goto (tgt := 173) S.1 S.2.1 dX4_perform_164 rfl ?_
            exact kr_v (cu := fun u => ce_l cA cf ad z0 u) S hr hk hw hq dX4_perform_173
          · replace hq := hq.2 h5
            refine lv_iload_n S.1 S.2.1 dX4_perform_122 rfl (lv_at hl 1 rfl) ?_
            refine lv_bipush (v := (6 : Int32)) S.1 S.2.1 dX4_perform_123 (by decide) ?_
            refine lv_icmp_eq (tgt := 158) S.1 S.2.1 dX4_perform_125 rfl (fun h7 => ?_) (fun h7 => ?_)
            · replace hq := hq.1 h7
              refine lv_aload_n S.1 S.2.1 dX4_perform_158 rfl (lv_at hl 0 rfl) ?_
              refine lv_iload_n S.1 S.2.1 dX4_perform_159 rfl (lv_at hl 1 rfl) ?_
              refine lv_iload_n S.1 S.2.1 dX4_perform_160 rfl (lv_at hl 2 rfl) ?_
              refine call_X4_stackOp S hw wl_X4_155 hq ⟨Nat.le_of_ble_eq_true rfl, Nat.le_of_ble_eq_true rfl⟩ hl.1 (Nat.le_of_ble_eq_true rfl) ⟨Nat.zero_le _, Nat.zero_le _⟩ dX4_perform_161 (fun k8 H locs hq hw => ?_)
              refine lv_goto (tgt := 173) S.1 S.2.1 dX4_perform_164 rfl ?_
              exact kr_v (cu := fun u => ce_l cA cf ad z0 u) S hr hk hw hq dX4_perform_173
            · replace hq := hq.2 h7
              refine lv_iload_n S.1 S.2.1 dX4_perform_128 rfl (lv_at hl 1 rfl) ?_
              refine lv_bipush (v := (7 : Int32)) S.1 S.2.1 dX4_perform_129 (by decide) ?_
              refine lv_icmp_eq (tgt := 158) S.1 S.2.1 dX4_perform_131 rfl (fun h9 => ?_) (fun h9 => ?_)
              · replace hq := hq.1 h9
                refine lv_aload_n S.1 S.2.1 dX4_perform_158 rfl (lv_at hl 0 rfl) ?_
                refine lv_iload_n S.1 S.2.1 dX4_perform_159 rfl (lv_at hl 1 rfl) ?_
                refine lv_iload_n S.1 S.2.1 dX4_perform_160 rfl (lv_at hl 2 rfl) ?_
                refine call_X4_stackOp S hw wl_X4_155 hq ⟨Nat.le_of_ble_eq_true rfl, Nat.le_of_ble_eq_true rfl⟩ hl.1 (Nat.le_of_ble_eq_true rfl) ⟨Nat.zero_le _, Nat.zero_le _⟩ dX4_perform_161 (fun k10 H locs hq hw => ?_)
                refine lv_goto (tgt := 173) S.1 S.2.1 dX4_perform_164 rfl ?_
                exact kr_v (cu := fun u => ce_l cA cf ad z0 u) S hr hk hw hq dX4_perform_173
              · replace hq := hq.2 h9
                refine lv_iload_n S.1 S.2.1 dX4_perform_134 rfl (lv_at hl 1 rfl) ?_
                refine lv_bipush (v := (8 : Int32)) S.1 S.2.1 dX4_perform_135 (by decide) ?_
                refine lv_icmp_eq (tgt := 158) S.1 S.2.1 dX4_perform_137 rfl (fun h11 => ?_) (fun h11 => ?_)
                · replace hq := hq.1 h11
                  refine lv_aload_n S.1 S.2.1 dX4_perform_158 rfl (lv_at hl 0 rfl) ?_
                  refine lv_iload_n S.1 S.2.1 dX4_perform_159 rfl (lv_at hl 1 rfl) ?_
                  refine lv_iload_n S.1 S.2.1 dX4_perform_160 rfl (lv_at hl 2 rfl) ?_
                  refine call_X4_stackOp S hw wl_X4_155 hq ⟨Nat.le_of_ble_eq_true rfl, Nat.le_of_ble_eq_true rfl⟩ hl.1 (Nat.le_of_ble_eq_true rfl) ⟨Nat.zero_le _, Nat.zero_le _⟩ dX4_perform_161 (fun k12 H locs hq hw => ?_)
                  refine lv_goto (tgt := 173) S.1 S.2.1 dX4_perform_164 rfl ?_
                  exact kr_v (cu := fun u => ce_l cA cf ad z0 u) S hr hk hw hq dX4_perform_173
                · replace hq := hq.2 h11
                  refine lv_iload_n S.1 S.2.1 dX4_perform_140 rfl (lv_at hl 1 rfl) ?_
                  refine lv_bipush (v := (19 : Int32)) S.1 S.2.1 dX4_perform_141 (by decide) ?_
                  refine lv_icmp_eq (tgt := 158) S.1 S.2.1 dX4_perform_143 rfl (fun h13 => ?_) (fun h13 => ?_)
                  · replace hq := hq.1 h13
                    refine lv_aload_n S.1 S.2.1 dX4_perform_158 rfl (lv_at hl 0 rfl) ?_
                    refine lv_iload_n S.1 S.2.1 dX4_perform_159 rfl (lv_at hl 1 rfl) ?_
                    refine lv_iload_n S.1 S.2.1 dX4_perform_160 rfl (lv_at hl 2 rfl) ?_
                    refine call_X4_stackOp S hw wl_X4_155 hq ⟨Nat.le_of_ble_eq_true rfl, Nat.le_of_ble_eq_true rfl⟩ hl.1 (Nat.le_of_ble_eq_true rfl) ⟨Nat.zero_le _, Nat.zero_le _⟩ dX4_perform_161 (fun k14 H locs hq hw => ?_)
                    refine lv_goto (tgt := 173) S.1 S.2.1 dX4_perform_164 rfl ?_
                    exact kr_v (cu := fun u => ce_l cA cf ad z0 u) S hr hk hw hq dX4_perform_173
                  · replace hq := hq.2 h13
                    refine lv_iload_n S.1 S.2.1 dX4_perform_146 rfl (lv_at hl 1 rfl) ?_
                    refine lv_bipush (v := (23 : Int32)) S.1 S.2.1 dX4_perform_147 (by decide) ?_
                    refine lv_icmp_eq (tgt := 158) S.1 S.2.1 dX4_perform_149 rfl (fun h15 => ?_) (fun h15 => ?_)
                    · replace hq := hq.1 h15
                      refine lv_aload_n S.1 S.2.1 dX4_perform_158 rfl (lv_at hl 0 rfl) ?_
                      refine lv_iload_n S.1 S.2.1 dX4_perform_159 rfl (lv_at hl 1 rfl) ?_
                      refine lv_iload_n S.1 S.2.1 dX4_perform_160 rfl (lv_at hl 2 rfl) ?_
                      refine call_X4_stackOp S hw wl_X4_155 hq ⟨Nat.le_of_ble_eq_true rfl, Nat.le_of_ble_eq_true rfl⟩ hl.1 (Nat.le_of_ble_eq_true rfl) ⟨Nat.zero_le _, Nat.zero_le _⟩ dX4_perform_161 (fun k16 H locs hq hw => ?_)
                      refine lv_goto (tgt := 173) S.1 S.2.1 dX4_perform_164 rfl ?_
                      exact kr_v (cu := fun u => ce_l cA cf ad z0 u) S hr hk hw hq dX4_perform_173
                    · replace hq := hq.2 h15
                      refine lv_iload_n S.1 S.2.1 dX4_perform_152 rfl (lv_at hl 1 rfl) ?_
                      refine lv_bipush (v := (24 : Int32)) S.1 S.2.1 dX4_perform_153 (by decide) ?_
                      refine lv_icmp_ne (tgt := 167) S.1 S.2.1 dX4_perform_155 rfl (fun h17 => ?_) (fun h17 => ?_)
                      · replace hq := hq.1 h17
                        refine lv_aload_n S.1 S.2.1 dX4_perform_167 rfl (lv_at hl 0 rfl) ?_
                        refine lv_iload_n S.1 S.2.1 dX4_perform_168 rfl (lv_at hl 1 rfl) ?_
                        refine lv_iload_n S.1 S.2.1 dX4_perform_169 rfl (lv_at hl 2 rfl) ?_
                        refine call_X4_taskOp S hw wl_X4_158 hq ⟨Nat.le_of_ble_eq_true rfl, Nat.le_of_ble_eq_true rfl⟩ hl.1 (Nat.le_of_ble_eq_true rfl) ⟨Nat.zero_le _, Nat.zero_le _⟩ dX4_perform_170 (fun k18 H locs hq hw => ?_)
                        exact kr_v (cu := fun u => ce_l cA cf ad z0 u) S hr hk hw hq dX4_perform_173
                      · replace hq := hq.2 h17
                        refine lv_aload_n S.1 S.2.1 dX4_perform_158 rfl (lv_at hl 0 rfl) ?_
                        refine lv_iload_n S.1 S.2.1 dX4_perform_159 rfl (lv_at hl 1 rfl) ?_
                        refine lv_iload_n S.1 S.2.1 dX4_perform_160 rfl (lv_at hl 2 rfl) ?_
                        refine call_X4_stackOp S hw wl_X4_155 hq ⟨Nat.le_of_ble_eq_true rfl, Nat.le_of_ble_eq_true rfl⟩ hl.1 (Nat.le_of_ble_eq_true rfl) ⟨Nat.zero_le _, Nat.zero_le _⟩ dX4_perform_161 (fun k19 H locs hq hw => ?_)
                        refine lv_goto (tgt := 173) S.1 S.2.1 dX4_perform_164 rfl ?_
                        exact kr_v (cu := fun u => ce_l cA cf ad z0 u) S hr hk hw hq dX4_perform_173
        · replace hq := hq.2 h4
          refine lv_aload_n S.1 S.2.1 dX4_perform_109 rfl (lv_at hl 0 rfl) ?_
          refine lv_iconst (v := (4 : Int32)) S.1 S.2.1 dX4_perform_110 (by decide) ?_
          refine call_X4_fall S hw wl_X4_95 hq ⟨Nat.le_of_ble_eq_true rfl, Nat.le_of_ble_eq_true rfl⟩ hl.1 (Nat.le_of_ble_eq_true rfl) ⟨Nat.zero_le _, Nat.zero_le _⟩ dX4_perform_111 (fun k20 H locs hq hw => ?_)
          refine lv_goto (tgt := 173) S.1 S.2.1 dX4_perform_114 rfl ?_
          exact kr_v (cu := fun u => ce_l cA cf ad z0 u) S hr hk hw hq dX4_perform_173
      · replace hq := hq.2 h3
        refine lv_aload_n S.1 S.2.1 dX4_perform_91 rfl (lv_at hl 0 rfl) ?_
        refine lv_aload_n S.1 S.2.1 dX4_perform_92 rfl (lv_at hl 0 rfl) ?_
        refine gf_425 S hw wf_X4_92 dX4_perform_93 ?_
        refine lv_iconst (v := (1 : Int32)) S.1 S.2.1 dX4_perform_96 (by decide) ?_
        refine call_X4_end S hw wl_X4_137 hq ⟨Nat.le_of_ble_eq_true rfl, Nat.le_of_ble_eq_true rfl⟩ hl.1 (Nat.le_of_ble_eq_true rfl) ⟨Nat.zero_le _, Nat.zero_le _⟩ dX4_perform_97 (fun k21 H locs hq hw => ?_)
        refine lv_goto (tgt := 173) S.1 S.2.1 dX4_perform_100 rfl ?_
        exact kr_v (cu := fun u => ce_l cA cf ad z0 u) S hr hk hw hq dX4_perform_173
    · replace hq := hq.2 h2
      refine lv_aload_n S.1 S.2.1 dX4_perform_79 rfl (lv_at hl 0 rfl) ?_
      refine lv_iload_n S.1 S.2.1 dX4_perform_80 rfl (lv_at hl 2 rfl) ?_
      refine call_X4_receive S hw wl_X4_152 hq ⟨Nat.le_of_ble_eq_true rfl, Nat.le_of_ble_eq_true rfl⟩ hl.1 (Nat.le_of_ble_eq_true rfl) ⟨Nat.zero_le _, Nat.zero_le _⟩ dX4_perform_81 (fun k22 H locs hq hw => ?_)
      refine lv_goto (tgt := 173) S.1 S.2.1 dX4_perform_84 rfl ?_
      exact kr_v (cu := fun u => ce_l cA cf ad z0 u) S hr hk hw hq dX4_perform_173
  · replace hq := hq.2 h1
    refine lv_aload_n S.1 S.2.1 dX4_perform_65 rfl (lv_at hl 0 rfl) ?_
    refine lv_iload_n S.1 S.2.1 dX4_perform_66 rfl (lv_at hl 2 rfl) ?_
    refine call_X4_send S hw wl_X4_149 hq ⟨Nat.le_of_ble_eq_true rfl, Nat.le_of_ble_eq_true rfl⟩ hl.1 (Nat.le_of_ble_eq_true rfl) ⟨Nat.zero_le _, Nat.zero_le _⟩ dX4_perform_67 (fun k23 H locs hq hw => ?_)
    refine lv_goto (tgt := 173) S.1 S.2.1 dX4_perform_70 rfl ?_
    exact kr_v (cu := fun u => ce_l cA cf ad z0 u) S hr hk hw hq dX4_perform_173
set_option maxRecDepth 100000 in
set_option maxHeartbeats 4000000 in
theorem b_X4_perform_18 {post : ka_T → Prop} (S : CallFix p m c cX4_perform 3 s args lw_gd RX4) (hr : meth.sig.returnType = none) (hk : meth.locks = false) : ∀ (x1 : Int32) (x2 : Int32) (k0 : ka_T) (H : Heap) (locs : List Loc) (ls : Array Slot), lv_has ls 3 [(0, .ref (ad (11, 0))), (1, .int x1), (2, .int x2)] → Wo_ D cA cf ad A z0 k0 s H locs → q_X4_perform_18 cf post x1 x2 k0 → W p l e rmX4_perform s m args below meth c H locs 0 0 (MQ below (va_Qv post (fun u t => Wx_ D cA cf ad A z0 u t) A) args s 0 0 A) (F0 m 18 ls []) := by
  intro x1 x2 k0 H locs ls hl hw hq
  refine lv_iload_n S.1 S.2.1 dX4_perform_18 rfl (lv_at hl 1 rfl) ?_
  refine lv_bipush (v := (9 : Int32)) S.1 S.2.1 dX4_perform_19 (by decide) ?_
  refine lv_icmp_eq (tgt := 30) S.1 S.2.1 dX4_perform_21 rfl (fun h24 => ?_) (fun h24 => ?_)
  · replace hq := hq.1 h24
    refine lv_aload_n S.1 S.2.1 dX4_perform_30 rfl (lv_at hl 0 rfl) ?_
    refine lv_iload_n S.1 S.2.1 dX4_perform_31 rfl (lv_at hl 1 rfl) ?_
    refine call_X4_memoryOp S hw wl_X4_143 hq ⟨Nat.le_of_ble_eq_true rfl, Nat.le_of_ble_eq_true rfl⟩ hl.1 (Nat.le_of_ble_eq_true rfl) ⟨Nat.zero_le _, Nat.zero_le _⟩ dX4_perform_32 (fun k25 H locs hq hw => ?_)
    refine lv_goto (tgt := 173) S.1 S.2.1 dX4_perform_35 rfl ?_
    exact kr_v (cu := fun u => ce_l cA cf ad z0 u) S hr hk hw hq dX4_perform_173
  · replace hq := hq.2 h24
    refine lv_iload_n S.1 S.2.1 dX4_perform_24 rfl (lv_at hl 1 rfl) ?_
    refine lv_bipush (v := (10 : Int32)) S.1 S.2.1 dX4_perform_25 (by decide) ?_
    refine lv_icmp_ne (tgt := 38) S.1 S.2.1 dX4_perform_27 rfl (fun h26 => ?_) (fun h26 => ?_)
    · replace hq := hq.1 h26
      refine lv_iload_n S.1 S.2.1 dX4_perform_38 rfl (lv_at hl 1 rfl) ?_
      refine lv_bipush (v := (11 : Int32)) S.1 S.2.1 dX4_perform_39 (by decide) ?_
      refine lv_icmp_lt (tgt := 59) S.1 S.2.1 dX4_perform_41 rfl (fun h27 => ?_) (fun h27 => ?_)
      · replace hq := hq.1 h27
        exact b_X4_perform_59 S hr hk x1 x2 k0 _ _ _ (lv_sub hl [0, 1, 2] rfl) hw hq
      · replace hq := hq.2 h27
        refine lv_iload_n S.1 S.2.1 dX4_perform_44 rfl (lv_at hl 1 rfl) ?_
        refine lv_bipush (v := (14 : Int32)) S.1 S.2.1 dX4_perform_45 (by decide) ?_
        refine lv_icmp_gt (tgt := 59) S.1 S.2.1 dX4_perform_47 rfl (fun h28 => ?_) (fun h28 => ?_)
        · replace hq := hq.1 h28
          exact b_X4_perform_59 S hr hk x1 x2 k0 _ _ _ (lv_sub hl [0, 1, 2] rfl) hw hq
        · replace hq := hq.2 h28
          refine lv_aload_n S.1 S.2.1 dX4_perform_50 rfl (lv_at hl 0 rfl) ?_
          refine lv_iload_n S.1 S.2.1 dX4_perform_51 rfl (lv_at hl 1 rfl) ?_
          refine lv_iload_n S.1 S.2.1 dX4_perform_52 rfl (lv_at hl 2 rfl) ?_
          refine call_X4_jumpOp S hw wl_X4_146 hq ⟨Nat.le_of_ble_eq_true rfl, Nat.le_of_ble_eq_true rfl⟩ hl.1 (Nat.le_of_ble_eq_true rfl) ⟨Nat.zero_le _, Nat.zero_le _⟩ dX4_perform_53 (fun k29 H locs hq hw => ?_)
          refine lv_goto (tgt := 173) S.1 S.2.1 dX4_perform_56 rfl ?_
          exact kr_v (cu := fun u => ce_l cA cf ad z0 u) S hr hk hw hq dX4_perform_173
    · replace hq := hq.2 h26
      refine lv_aload_n S.1 S.2.1 dX4_perform_30 rfl (lv_at hl 0 rfl) ?_
      refine lv_iload_n S.1 S.2.1 dX4_perform_31 rfl (lv_at hl 1 rfl) ?_
      refine call_X4_memoryOp S hw wl_X4_143 hq ⟨Nat.le_of_ble_eq_true rfl, Nat.le_of_ble_eq_true rfl⟩ hl.1 (Nat.le_of_ble_eq_true rfl) ⟨Nat.zero_le _, Nat.zero_le _⟩ dX4_perform_32 (fun k30 H locs hq hw => ?_)
      refine lv_goto (tgt := 173) S.1 S.2.1 dX4_perform_35 rfl ?_
      exact kr_v (cu := fun u => ce_l cA cf ad z0 u) S hr hk hw hq dX4_perform_173
set_option maxRecDepth 100000 in
set_option maxHeartbeats 4000000 in
theorem b_X4_perform_0 {post : ka_T → Prop} (S : CallFix p m c cX4_perform 3 s args lw_gd RX4) (hr : meth.sig.returnType = none) (hk : meth.locks = false) : ∀ (x1 : Int32) (x2 : Int32) (k0 : ka_T) (H : Heap) (locs : List Loc) (ls : Array Slot), lv_has ls 3 [(0, .ref (ad (11, 0))), (1, .int x1), (2, .int x2)] → Wo_ D cA cf ad A z0 k0 s H locs → q_X4_perform cf post x1 x2 k0 → W p l e rmX4_perform s m args below meth c H locs 0 0 (MQ below (va_Qv post (fun u t => Wx_ D cA cf ad A z0 u t) A) args s 0 0 A) (F0 m 0 ls []) := by
  intro x1 x2 k0 H locs ls hl hw hq
  refine lv_iload_n S.1 S.2.1 dX4_perform_0 rfl (lv_at hl 1 rfl) ?_
  refine lv_iconst (v := (2 : Int32)) S.1 S.2.1 dX4_perform_1 (by decide) ?_
  refine lv_icmp_lt (tgt := 18) S.1 S.2.1 dX4_perform_2 rfl (fun h31 => ?_) (fun h31 => ?_)
  · replace hq := hq.1 h31
    exact b_X4_perform_18 S hr hk x1 x2 k0 _ _ _ (lv_sub hl [0, 1, 2] rfl) hw hq
  · replace hq := hq.2 h31
    refine lv_iload_n S.1 S.2.1 dX4_perform_5 rfl (lv_at hl 1 rfl) ?_
    refine lv_iconst (v := (5 : Int32)) S.1 S.2.1 dX4_perform_6 (by decide) ?_
    refine lv_icmp_gt (tgt := 18) S.1 S.2.1 dX4_perform_7 rfl (fun h32 => ?_) (fun h32 => ?_)
    · replace hq := hq.1 h32
      exact b_X4_perform_18 S hr hk x1 x2 k0 _ _ _ (lv_sub hl [0, 1, 2] rfl) hw hq
    · replace hq := hq.2 h32
      refine lv_aload_n S.1 S.2.1 dX4_perform_10 rfl (lv_at hl 0 rfl) ?_
      refine lv_iload_n S.1 S.2.1 dX4_perform_11 rfl (lv_at hl 1 rfl) ?_
      refine call_X4_arithmetic S hw wl_X4_140 hq ⟨Nat.le_of_ble_eq_true rfl, Nat.le_of_ble_eq_true rfl⟩ hl.1 (Nat.le_of_ble_eq_true rfl) ⟨Nat.zero_le _, Nat.zero_le _⟩ dX4_perform_12 (fun k33 H locs hq hw => ?_)
      refine lv_goto (tgt := 173) S.1 S.2.1 dX4_perform_15 rfl ?_
      exact kr_v (cu := fun u => ce_l cA cf ad z0 u) S hr hk hw hq dX4_perform_173
theorem c_X4_perform (z0 k0 : ka_T) (x1 : Int32) (x2 : Int32) {post : ka_T → Prop} (hq : q_X4_perform cf post x1 x2 k0) : Met l yX4_perform wsX4_perform rmX4_perform (va_Pc [.ref (ad (11, 0)), .int x1, .int x2] (Wx_ D cA cf ad A z0 k0)) (va_Qv post (fun u t => Wx_ D cA cf ad A z0 u t) A) 0 0 A :=
  kp_met (by decide +kernel) [.ref (ad (11, 0)), .int x1, .int x2] (Nat.le_of_ble_eq_true rfl) (fun p e s m args below meth c ls S hr hk hw hl => b_X4_perform_0 S hr hk x1 x2 k0 _ _ _ hl hw hq)
theorem call_X4_perform {z0 k0 : ka_T} {x1 : Int32} {x2 : Int32} {post : ka_T → Prop} (S : CallFix p m c cc nL s args lw_gd own) (hw : Wo_ D cA cf ad A z0 k0 s H locs) {index : Nat} (hl : Cond.methodLink own index yX4_perform ∈ lw_gd) (hq : q_X4_perform cf post x1 x2 k0) (hR : rmX4_perform.frames + 1 ≤ R.frames ∧ 8 + (3 + 11) + rmX4_perform.locals ≤ R.locals) (hls : ls.size = nL) (hro : (rest.map fun v => v.category).sum ≤ 8) (hcs : cells ≤ R.cells ∧ slots ≤ R.slots) (hd : decode cc pc = .ok (.invokevirtual index, 3)) (kk : ∀ (u : ka_T) (H1 : Heap) (locs1 : List Loc), post u → Wo_ D cA cf ad A z0 u s H1 locs1 → W p l e R s m args below meth c H1 locs1 cells slots Q (F0 m (pc + 3) ls rest)) : W p l e R s m args below meth c H locs cells slots Q (F0 m pc ls (.int x2 :: .int x1 :: .ref (ad (11, 0)) :: rest)) :=
  kg_vv (cu := fun u => ce_l cA cf ad z0 u) (As := [.int x1, .int x2]) S hw (q := (11, 0)) (c_X4_perform z0 k0 x1 x2 hq) wc_X4_perform wn_X4 hl wi_X4_perform (C := RX4) (T := TX4) (N := 27) (ci := 4) (fs := fx_11 cf ad k0 0) wse_X4_perform (km_11) rfl rfl (na := 2) (by decide +kernel) rfl rfl rfl hR hls rfl hro hcs hd kk
abbrev rmX4_poke : Room := { frames := 1, cells := 0, slots := 0, locals := 20 }
set_option maxRecDepth 100000 in
set_option maxHeartbeats 4000000 in
theorem b_X4_poke_0 {post : Int32 → ka_T → Prop} (S : CallFix p m c cX4_poke 3 s args lw_gd RX4) (hr : meth.sig.returnType = some .boolean) (hk : meth.locks = false) : ∀ (x1 : Int32) (x2 : Int32) (k0 : ka_T) (H : Heap) (locs : List Loc) (ls : Array Slot), lv_has ls 3 [(0, .ref (ad (11, 0))), (1, .int x1), (2, .int x2)] → Wo_ D cA cf ad A z0 k0 s H locs → q_X4_poke cf post x1 x2 k0 → W p l e rmX4_poke s m args below meth c H locs 0 0 (MQ below (va_Qi post (fun u t => Wx_ D cA cf ad A z0 u t) A) args s 0 0 A) (F0 m 0 ls []) := by
  intro x1 x2 k0 H locs ls hl hw hq
  refine lv_iload_n S.1 S.2.1 dX4_poke_0 rfl (lv_at hl 1 rfl) ?_
  refine call_X4_isPlace S hw wl_X4_118 hq ⟨Nat.le_of_ble_eq_true rfl, Nat.le_of_ble_eq_true rfl⟩ hl.1 (Nat.le_of_ble_eq_true rfl) ⟨Nat.zero_le _, Nat.zero_le _⟩ dX4_poke_1 (fun r1 k1 H locs hq hw => ?_)
  refine lv_if_eq (tgt := 14) S.1 S.2.1 dX4_poke_4 rfl (fun h2 => ?_) (fun h2 => ?_)
  · replace hq := hq.1 h2
    refine lv_iconst (v := (0 : Int32)) S.1 S.2.1 dX4_poke_14 (by decide) ?_
    exact kr_i (cu := fun u => ce_l cA cf ad z0 u) S hr (by decide) hk hw hq dX4_poke_15
  · replace hq := hq.2 h2
    refine lv_aload_n S.1 S.2.1 dX4_poke_7 rfl (lv_at hl 0 rfl) ?_
    refine gf_406 S hw wf_X4_170 dX4_poke_8 ?_
    refine lv_if_eq (tgt := 16) S.1 S.2.1 dX4_poke_11 rfl (fun h3 => ?_) (fun h3 => ?_)
    · replace hq := hq.1 h3
      refine lv_aload_n S.1 S.2.1 dX4_poke_16 rfl (lv_at hl 0 rfl) ?_
      refine gf_404 S hw wf_X4_7 dX4_poke_17 ?_
      refine lv_iload_n S.1 S.2.1 dX4_poke_20 rfl (lv_at hl 1 rfl) ?_
      refine lv_iload_n S.1 S.2.1 dX4_poke_21 rfl (lv_at hl 2 rfl) ?_
      obtain ⟨hi, hq⟩ := hq
      refine as_12 S hw hi dX4_poke_22 (fun k4 H locs e4 hw => ?_)
      replace hq := hq _ e4
      refine lv_iconst (v := (1 : Int32)) S.1 S.2.1 dX4_poke_23 (by decide) ?_
      exact kr_i (cu := fun u => ce_l cA cf ad z0 u) S hr (by decide) hk hw hq dX4_poke_24
    · replace hq := hq.2 h3
      refine lv_iconst (v := (0 : Int32)) S.1 S.2.1 dX4_poke_14 (by decide) ?_
      exact kr_i (cu := fun u => ce_l cA cf ad z0 u) S hr (by decide) hk hw hq dX4_poke_15
theorem c_X4_poke (z0 k0 : ka_T) (x1 : Int32) (x2 : Int32) {post : Int32 → ka_T → Prop} (hq : q_X4_poke cf post x1 x2 k0) : Met l yX4_poke wsX4_poke rmX4_poke (va_Pc [.ref (ad (11, 0)), .int x1, .int x2] (Wx_ D cA cf ad A z0 k0)) (va_Qi post (fun u t => Wx_ D cA cf ad A z0 u t) A) 0 0 A :=
  kp_met (by decide +kernel) [.ref (ad (11, 0)), .int x1, .int x2] (Nat.le_of_ble_eq_true rfl) (fun p e s m args below meth c ls S hr hk hw hl => b_X4_poke_0 S hr hk x1 x2 k0 _ _ _ hl hw hq)
theorem call_X4_poke {z0 k0 : ka_T} {x1 : Int32} {x2 : Int32} {post : Int32 → ka_T → Prop} (S : CallFix p m c cc nL s args lw_gd own) (hw : Wo_ D cA cf ad A z0 k0 s H locs) {index : Nat} (hl : Cond.methodLink own index yX4_poke ∈ lw_gd) (hq : q_X4_poke cf post x1 x2 k0) (hR : rmX4_poke.frames + 1 ≤ R.frames ∧ 8 + (3 + 11) + rmX4_poke.locals ≤ R.locals) (hls : ls.size = nL) (hro : (rest.map fun v => v.category).sum ≤ 8) (hcs : cells ≤ R.cells ∧ slots ≤ R.slots) (hd : decode cc pc = .ok (.invokevirtual index, 3)) (kk : ∀ (r : Int32) (u : ka_T) (H1 : Heap) (locs1 : List Loc), post r u → Wo_ D cA cf ad A z0 u s H1 locs1 → W p l e R s m args below meth c H1 locs1 cells slots Q (F0 m (pc + 3) ls (.int r :: rest))) : W p l e R s m args below meth c H locs cells slots Q (F0 m pc ls (.int x2 :: .int x1 :: .ref (ad (11, 0)) :: rest)) :=
  kg_vi (cu := fun u => ce_l cA cf ad z0 u) (As := [.int x1, .int x2]) S hw (q := (11, 0)) (c_X4_poke z0 k0 x1 x2 hq) wc_X4_poke wn_X4 hl wi_X4_poke (C := RX4) (T := TX4) (N := 27) (ci := 4) (fs := fx_11 cf ad k0 0) wse_X4_poke (km_11) rfl rfl (na := 2) (by decide +kernel) rfl rfl rfl hR hls rfl hro hcs hd kk
abbrev rmX4_queue : Room := { frames := 0, cells := 0, slots := 0, locals := 0 }
set_option maxRecDepth 100000 in
set_option maxHeartbeats 4000000 in
theorem b_X4_queue_0 {post : Int32 → ka_T → Prop} (S : CallFix p m c cX4_queue 2 s args lw_gd RX4) (hr : meth.sig.returnType = some .int) (hk : meth.locks = false) : ∀ (x1 : Int32) (k0 : ka_T) (H : Heap) (locs : List Loc) (ls : Array Slot), lv_has ls 2 [(0, .ref (ad (11, 0))), (1, .int x1)] → Wo_ D cA cf ad A z0 k0 s H locs → q_X4_queue cf post x1 k0 → W p l e rmX4_queue s m args below meth c H locs 0 0 (MQ below (va_Qi post (fun u t => Wx_ D cA cf ad A z0 u t) A) args s 0 0 A) (F0 m 0 ls []) := by
  intro x1 k0 H locs ls hl hw hq
  refine lv_iload_n S.1 S.2.1 dX4_queue_0 rfl (lv_at hl 1 rfl) ?_
  refine lv_if_lt (tgt := 12) S.1 S.2.1 dX4_queue_1 rfl (fun h1 => ?_) (fun h1 => ?_)
  · replace hq := hq.1 h1
    refine lv_iconst (v := (-1 : Int32)) S.1 S.2.1 dX4_queue_12 (by decide) ?_
    refine lv_goto (tgt := 22) S.1 S.2.1 dX4_queue_13 rfl ?_
    exact kr_i (cu := fun u => ce_l cA cf ad z0 u) S hr rfl hk hw hq dX4_queue_22
  · replace hq := hq.2 h1
    refine lv_iload_n S.1 S.2.1 dX4_queue_4 rfl (lv_at hl 1 rfl) ?_
    refine lv_aload_n S.1 S.2.1 dX4_queue_5 rfl (lv_at hl 0 rfl) ?_
    refine gf_402 S hw wf_X4_72 dX4_queue_6 ?_
    refine lv_icmp_lt (tgt := 16) S.1 S.2.1 dX4_queue_9 rfl (fun h2 => ?_) (fun h2 => ?_)
    · replace hq := hq.1 h2
      refine lv_aload_n S.1 S.2.1 dX4_queue_16 rfl (lv_at hl 0 rfl) ?_
      refine gf_421 S hw wf_X4_52 dX4_queue_17 ?_
      refine lv_iload_n S.1 S.2.1 dX4_queue_20 rfl (lv_at hl 1 rfl) ?_
      obtain ⟨hi, hq⟩ := hq
      refine al_26 S hw hi dX4_queue_21 ?_
      exact kr_i (cu := fun u => ce_l cA cf ad z0 u) S hr rfl hk hw hq dX4_queue_22
    · replace hq := hq.2 h2
      refine lv_iconst (v := (-1 : Int32)) S.1 S.2.1 dX4_queue_12 (by decide) ?_
      refine lv_goto (tgt := 22) S.1 S.2.1 dX4_queue_13 rfl ?_
      exact kr_i (cu := fun u => ce_l cA cf ad z0 u) S hr rfl hk hw hq dX4_queue_22
theorem c_X4_queue (z0 k0 : ka_T) (x1 : Int32) {post : Int32 → ka_T → Prop} (hq : q_X4_queue cf post x1 k0) : Met l yX4_queue wsX4_queue rmX4_queue (va_Pc [.ref (ad (11, 0)), .int x1] (Wx_ D cA cf ad A z0 k0)) (va_Qi post (fun u t => Wx_ D cA cf ad A z0 u t) A) 0 0 A :=
  kp_met (by decide +kernel) [.ref (ad (11, 0)), .int x1] (Nat.le_of_ble_eq_true rfl) (fun p e s m args below meth c ls S hr hk hw hl => b_X4_queue_0 S hr hk x1 k0 _ _ _ hl hw hq)
theorem call_X4_queue {z0 k0 : ka_T} {x1 : Int32} {post : Int32 → ka_T → Prop} (S : CallFix p m c cc nL s args lw_gd own) (hw : Wo_ D cA cf ad A z0 k0 s H locs) {index : Nat} (hl : Cond.methodLink own index yX4_queue ∈ lw_gd) (hq : q_X4_queue cf post x1 k0) (hR : rmX4_queue.frames + 1 ≤ R.frames ∧ 8 + (2 + 11) + rmX4_queue.locals ≤ R.locals) (hls : ls.size = nL) (hro : (rest.map fun v => v.category).sum ≤ 8) (hcs : cells ≤ R.cells ∧ slots ≤ R.slots) (hd : decode cc pc = .ok (.invokevirtual index, 3)) (kk : ∀ (r : Int32) (u : ka_T) (H1 : Heap) (locs1 : List Loc), post r u → Wo_ D cA cf ad A z0 u s H1 locs1 → W p l e R s m args below meth c H1 locs1 cells slots Q (F0 m (pc + 3) ls (.int r :: rest))) : W p l e R s m args below meth c H locs cells slots Q (F0 m pc ls (.int x1 :: .ref (ad (11, 0)) :: rest)) :=
  kg_vi (cu := fun u => ce_l cA cf ad z0 u) (As := [.int x1]) S hw (q := (11, 0)) (c_X4_queue z0 k0 x1 hq) wc_X4_queue wn_X4 hl wi_X4_queue (C := RX4) (T := TX4) (N := 27) (ci := 4) (fs := fx_11 cf ad k0 0) wse_X4_queue (km_11) rfl rfl (na := 1) (by decide +kernel) rfl rfl rfl hR hls rfl hro hcs hd kk
abbrev rmX4_queued : Room := { frames := 0, cells := 0, slots := 0, locals := 0 }
set_option maxRecDepth 100000 in
set_option maxHeartbeats 4000000 in
theorem b_X4_queued_0 {post : Int32 → ka_T → Prop} (S : CallFix p m c cX4_queued 3 s args lw_gd RX4) (hr : meth.sig.returnType = some .int) (hk : meth.locks = false) : ∀ (x1 : Int32) (x2 : Int32) (k0 : ka_T) (H : Heap) (locs : List Loc) (ls : Array Slot), lv_has ls 3 [(0, .ref (ad (11, 0))), (1, .int x1), (2, .int x2)] → Wo_ D cA cf ad A z0 k0 s H locs → q_X4_queued cf post x1 x2 k0 → W p l e rmX4_queued s m args below meth c H locs 0 0 (MQ below (va_Qi post (fun u t => Wx_ D cA cf ad A z0 u t) A) args s 0 0 A) (F0 m 0 ls []) := by
  intro x1 x2 k0 H locs ls hl hw hq
  refine lv_iload_n S.1 S.2.1 dX4_queued_0 rfl (lv_at hl 1 rfl) ?_
  refine lv_if_lt (tgt := 26) S.1 S.2.1 dX4_queued_1 rfl (fun h1 => ?_) (fun h1 => ?_)
  · replace hq := hq.1 h1
    refine lv_ldc S.1 S.2.1 S.2.2.2.1 (S.2.2.2.2 _ wv_X4_174) dX4_queued_26 ?_
    refine lv_goto (tgt := 42) S.1 S.2.1 dX4_queued_28 rfl ?_
    exact kr_i (cu := fun u => ce_l cA cf ad z0 u) S hr rfl hk hw hq dX4_queued_42
  · replace hq := hq.2 h1
    refine lv_iload_n S.1 S.2.1 dX4_queued_4 rfl (lv_at hl 1 rfl) ?_
    refine lv_aload_n S.1 S.2.1 dX4_queued_5 rfl (lv_at hl 0 rfl) ?_
    refine gf_402 S hw wf_X4_72 dX4_queued_6 ?_
    refine lv_icmp_ge (tgt := 26) S.1 S.2.1 dX4_queued_9 rfl (fun h2 => ?_) (fun h2 => ?_)
    · replace hq := hq.1 h2
      refine lv_ldc S.1 S.2.1 S.2.2.2.1 (S.2.2.2.2 _ wv_X4_174) dX4_queued_26 ?_
      refine lv_goto (tgt := 42) S.1 S.2.1 dX4_queued_28 rfl ?_
      exact kr_i (cu := fun u => ce_l cA cf ad z0 u) S hr rfl hk hw hq dX4_queued_42
    · replace hq := hq.2 h2
      refine lv_iload_n S.1 S.2.1 dX4_queued_12 rfl (lv_at hl 2 rfl) ?_
      refine lv_if_lt (tgt := 26) S.1 S.2.1 dX4_queued_13 rfl (fun h3 => ?_) (fun h3 => ?_)
      · replace hq := hq.1 h3
        refine lv_ldc S.1 S.2.1 S.2.2.2.1 (S.2.2.2.2 _ wv_X4_174) dX4_queued_26 ?_
        refine lv_goto (tgt := 42) S.1 S.2.1 dX4_queued_28 rfl ?_
        exact kr_i (cu := fun u => ce_l cA cf ad z0 u) S hr rfl hk hw hq dX4_queued_42
      · replace hq := hq.2 h3
        refine lv_iload_n S.1 S.2.1 dX4_queued_16 rfl (lv_at hl 2 rfl) ?_
        refine lv_aload_n S.1 S.2.1 dX4_queued_17 rfl (lv_at hl 0 rfl) ?_
        refine gf_421 S hw wf_X4_52 dX4_queued_18 ?_
        refine lv_iload_n S.1 S.2.1 dX4_queued_21 rfl (lv_at hl 1 rfl) ?_
        obtain ⟨hi, hq⟩ := hq
        refine al_26 S hw hi dX4_queued_22 ?_
        refine lv_icmp_lt (tgt := 31) S.1 S.2.1 dX4_queued_23 rfl (fun h4 => ?_) (fun h4 => ?_)
        · replace hq := hq.1 h4
          refine lv_aload_n S.1 S.2.1 dX4_queued_31 rfl (lv_at hl 0 rfl) ?_
          refine gf_422 S hw wf_X4_55 dX4_queued_32 ?_
          refine lv_bipush (v := (6 : Int32)) S.1 S.2.1 dX4_queued_35 (by decide) ?_
          refine lv_iload_n S.1 S.2.1 dX4_queued_37 rfl (lv_at hl 1 rfl) ?_
          refine lv_imul S.1 S.2.1 dX4_queued_38 ?_
          refine lv_iload_n S.1 S.2.1 dX4_queued_39 rfl (lv_at hl 2 rfl) ?_
          refine lv_iadd S.1 S.2.1 dX4_queued_40 ?_
          obtain ⟨hi, hq⟩ := hq
          refine al_27 S hw hi dX4_queued_41 ?_
          exact kr_i (cu := fun u => ce_l cA cf ad z0 u) S hr rfl hk hw hq dX4_queued_42
        · replace hq := hq.2 h4
          refine lv_ldc S.1 S.2.1 S.2.2.2.1 (S.2.2.2.2 _ wv_X4_174) dX4_queued_26 ?_
          refine lv_goto (tgt := 42) S.1 S.2.1 dX4_queued_28 rfl ?_
          exact kr_i (cu := fun u => ce_l cA cf ad z0 u) S hr rfl hk hw hq dX4_queued_42
theorem c_X4_queued (z0 k0 : ka_T) (x1 : Int32) (x2 : Int32) {post : Int32 → ka_T → Prop} (hq : q_X4_queued cf post x1 x2 k0) : Met l yX4_queued wsX4_queued rmX4_queued (va_Pc [.ref (ad (11, 0)), .int x1, .int x2] (Wx_ D cA cf ad A z0 k0)) (va_Qi post (fun u t => Wx_ D cA cf ad A z0 u t) A) 0 0 A :=
  kp_met (by decide +kernel) [.ref (ad (11, 0)), .int x1, .int x2] (Nat.le_of_ble_eq_true rfl) (fun p e s m args below meth c ls S hr hk hw hl => b_X4_queued_0 S hr hk x1 x2 k0 _ _ _ hl hw hq)
theorem call_X4_queued {z0 k0 : ka_T} {x1 : Int32} {x2 : Int32} {post : Int32 → ka_T → Prop} (S : CallFix p m c cc nL s args lw_gd own) (hw : Wo_ D cA cf ad A z0 k0 s H locs) {index : Nat} (hl : Cond.methodLink own index yX4_queued ∈ lw_gd) (hq : q_X4_queued cf post x1 x2 k0) (hR : rmX4_queued.frames + 1 ≤ R.frames ∧ 8 + (3 + 11) + rmX4_queued.locals ≤ R.locals) (hls : ls.size = nL) (hro : (rest.map fun v => v.category).sum ≤ 8) (hcs : cells ≤ R.cells ∧ slots ≤ R.slots) (hd : decode cc pc = .ok (.invokevirtual index, 3)) (kk : ∀ (r : Int32) (u : ka_T) (H1 : Heap) (locs1 : List Loc), post r u → Wo_ D cA cf ad A z0 u s H1 locs1 → W p l e R s m args below meth c H1 locs1 cells slots Q (F0 m (pc + 3) ls (.int r :: rest))) : W p l e R s m args below meth c H locs cells slots Q (F0 m pc ls (.int x2 :: .int x1 :: .ref (ad (11, 0)) :: rest)) :=
  kg_vi (cu := fun u => ce_l cA cf ad z0 u) (As := [.int x1, .int x2]) S hw (q := (11, 0)) (c_X4_queued z0 k0 x1 x2 hq) wc_X4_queued wn_X4 hl wi_X4_queued (C := RX4) (T := TX4) (N := 27) (ci := 4) (fs := fx_11 cf ad k0 0) wse_X4_queued (km_11) rfl rfl (na := 2) (by decide +kernel) rfl rfl rfl hR hls rfl hro hcs hd kk
abbrev rmX4_step : Room := { frames := 4, cells := 0, slots := 0, locals := 91 }
set_option maxRecDepth 100000 in
set_option maxHeartbeats 4000000 in
theorem b_X4_step_79 {post : Int32 → ka_T → Prop} (S : CallFix p m c cX4_step 2 s args lw_gd RX4) (hr : meth.sig.returnType = some .int) (hk : meth.locks = false) : ∀ (k0 : ka_T) (H : Heap) (locs : List Loc) (ls : Array Slot), lv_has ls 2 [(0, .ref (ad (11, 0)))] → Wo_ D cA cf ad A z0 k0 s H locs → q_X4_step_79 cf post k0 → W p l e rmX4_step s m args below meth c H locs 0 0 (MQ below (va_Qi post (fun u t => Wx_ D cA cf ad A z0 u t) A) args s 0 0 A) (F0 m 79 ls []) := by
  intro k0 H locs ls hl hw hq
  refine lv_aload_n S.1 S.2.1 dX4_step_79 rfl (lv_at hl 0 rfl) ?_
  refine gf_426 S hw wf_X4_89 dX4_step_80 ?_
  refine lv_if_le (tgt := 116) S.1 S.2.1 dX4_step_83 rfl (fun h1 => ?_) (fun h1 => ?_)
  · replace hq := hq.1 h1
    refine lv_bipush (v := (16 : Int32)) S.1 S.2.1 dX4_step_116 (by decide) ?_
    refine lv_aload_n S.1 S.2.1 dX4_step_118 rfl (lv_at hl 0 rfl) ?_
    refine gf_425 S hw wf_X4_92 dX4_step_119 ?_
    refine lv_imul S.1 S.2.1 dX4_step_122 ?_
    refine lv_aload_n S.1 S.2.1 dX4_step_123 rfl (lv_at hl 0 rfl) ?_
    refine gf_409 S hw wf_X4_16 dX4_step_124 ?_
    refine lv_aload_n S.1 S.2.1 dX4_step_127 rfl (lv_at hl 0 rfl) ?_
    refine gf_425 S hw wf_X4_92 dX4_step_128 ?_
    obtain ⟨hi, hq⟩ := hq
    refine al_14 S hw hi dX4_step_131 ?_
    refine lv_iconst (v := (1 : Int32)) S.1 S.2.1 dX4_step_132 (by decide) ?_
    refine lv_icmp_ne (tgt := 140) S.1 S.2.1 dX4_step_133 rfl (fun h2 => ?_) (fun h2 => ?_)
    · replace hq := hq.1 h2
      refine lv_aload_n S.1 S.2.1 dX4_step_140 rfl (lv_at hl 0 rfl) ?_
      refine gf_409 S hw wf_X4_16 dX4_step_141 ?_
      refine lv_aload_n S.1 S.2.1 dX4_step_144 rfl (lv_at hl 0 rfl) ?_
      refine gf_425 S hw wf_X4_92 dX4_step_145 ?_
      obtain ⟨hi, hq⟩ := hq
      refine al_14 S hw hi dX4_step_148 ?_
      refine lv_if_ne (tgt := 156) S.1 S.2.1 dX4_step_149 rfl (fun h3 => ?_) (fun h3 => ?_)
      · replace hq := hq.1 h3
        refine lv_aload_n S.1 S.2.1 dX4_step_156 rfl (lv_at hl 0 rfl) ?_
        refine gf_409 S hw wf_X4_16 dX4_step_157 ?_
        refine lv_aload_n S.1 S.2.1 dX4_step_160 rfl (lv_at hl 0 rfl) ?_
        refine gf_425 S hw wf_X4_92 dX4_step_161 ?_
        obtain ⟨hi, hq⟩ := hq
        refine al_14 S hw hi dX4_step_164 ?_
        refine lv_iadd S.1 S.2.1 dX4_step_165 ?_
        exact kr_i (cu := fun u => ce_l cA cf ad z0 u) S hr rfl hk hw hq dX4_step_166
      · replace hq := hq.2 h3
        refine lv_iconst (v := (1 : Int32)) S.1 S.2.1 dX4_step_152 (by decide) ?_
        refine lv_goto (tgt := 165) S.1 S.2.1 dX4_step_153 rfl ?_
        refine lv_iadd S.1 S.2.1 dX4_step_165 ?_
        exact kr_i (cu := fun u => ce_l cA cf ad z0 u) S hr rfl hk hw hq dX4_step_166
    · replace hq := hq.2 h2
      refine lv_iconst (v := (0 : Int32)) S.1 S.2.1 dX4_step_136 (by decide) ?_
      refine lv_goto (tgt := 165) S.1 S.2.1 dX4_step_137 rfl ?_
      refine lv_iadd S.1 S.2.1 dX4_step_165 ?_
      exact kr_i (cu := fun u => ce_l cA cf ad z0 u) S hr rfl hk hw hq dX4_step_166
  · replace hq := hq.2 h1
    refine lv_aload_n S.1 S.2.1 dX4_step_86 rfl (lv_at hl 0 rfl) ?_
    refine lv_aload_n S.1 S.2.1 dX4_step_87 rfl (lv_at hl 0 rfl) ?_
    refine gf_425 S hw wf_X4_92 dX4_step_88 ?_
    refine lv_iconst (v := (2 : Int32)) S.1 S.2.1 dX4_step_91 (by decide) ?_
    refine lv_aload_n S.1 S.2.1 dX4_step_92 rfl (lv_at hl 0 rfl) ?_
    refine gf_426 S hw wf_X4_89 dX4_step_93 ?_
    refine lv_iadd S.1 S.2.1 dX4_step_96 ?_
    refine call_X4_end S hw wl_X4_137 hq ⟨Nat.le_of_ble_eq_true rfl, Nat.le_of_ble_eq_true rfl⟩ hl.1 (Nat.le_of_ble_eq_true rfl) ⟨Nat.zero_le _, Nat.zero_le _⟩ dX4_step_97 (fun k4 H locs hq hw => ?_)
    refine lv_bipush (v := (16 : Int32)) S.1 S.2.1 dX4_step_100 (by decide) ?_
    refine lv_aload_n S.1 S.2.1 dX4_step_102 rfl (lv_at hl 0 rfl) ?_
    refine gf_425 S hw wf_X4_92 dX4_step_103 ?_
    refine lv_imul S.1 S.2.1 dX4_step_106 ?_
    refine lv_bipush (v := (8 : Int32)) S.1 S.2.1 dX4_step_107 (by decide) ?_
    refine lv_iadd S.1 S.2.1 dX4_step_109 ?_
    refine lv_aload_n S.1 S.2.1 dX4_step_110 rfl (lv_at hl 0 rfl) ?_
    refine gf_426 S hw wf_X4_89 dX4_step_111 ?_
    refine lv_iadd S.1 S.2.1 dX4_step_114 ?_
    exact kr_i (cu := fun u => ce_l cA cf ad z0 u) S hr rfl hk hw hq dX4_step_115
set_option maxRecDepth 100000 in
set_option maxHeartbeats 4000000 in
theorem b_X4_step_0 {post : Int32 → ka_T → Prop} (S : CallFix p m c cX4_step 2 s args lw_gd RX4) (hr : meth.sig.returnType = some .int) (hk : meth.locks = false) : ∀ (k0 : ka_T) (H : Heap) (locs : List Loc) (ls : Array Slot), lv_has ls 2 [(0, .ref (ad (11, 0)))] → Wo_ D cA cf ad A z0 k0 s H locs → q_X4_step cf post k0 → W p l e rmX4_step s m args below meth c H locs 0 0 (MQ below (va_Qi post (fun u t => Wx_ D cA cf ad A z0 u t) A) args s 0 0 A) (F0 m 0 ls []) := by
  intro k0 H locs ls hl hw hq
  refine lv_aload_n S.1 S.2.1 dX4_step_0 rfl (lv_at hl 0 rfl) ?_
  refine lv_aload_n S.1 S.2.1 dX4_step_1 rfl (lv_at hl 0 rfl) ?_
  refine call_X4_next S hw wl_X4_161 hq ⟨Nat.le_of_ble_eq_true rfl, Nat.le_of_ble_eq_true rfl⟩ hl.1 (Nat.le_of_ble_eq_true rfl) ⟨Nat.zero_le _, Nat.zero_le _⟩ dX4_step_2 (fun r5 k5 H locs hq hw => ?_)
  refine pf_425 S hw wf_X4_92 dX4_step_5 (fun k6 H locs e6 hw => ?_)
  replace hq := hq _ e6
  refine lv_aload_n S.1 S.2.1 dX4_step_8 rfl (lv_at hl 0 rfl) ?_
  refine gf_425 S hw wf_X4_92 dX4_step_9 ?_
  refine lv_if_ge (tgt := 17) S.1 S.2.1 dX4_step_12 rfl (fun h7 => ?_) (fun h7 => ?_)
  · replace hq := hq.1 h7
    refine lv_aload_n S.1 S.2.1 dX4_step_17 rfl (lv_at hl 0 rfl) ?_
    refine lv_iconst (v := (0 : Int32)) S.1 S.2.1 dX4_step_18 (by decide) ?_
    refine pf_426 S hw wf_X4_89 dX4_step_19 (fun k8 H locs e8 hw => ?_)
    replace hq := hq _ e8
    refine lv_aload_n S.1 S.2.1 dX4_step_22 rfl (lv_at hl 0 rfl) ?_
    refine gf_411 S hw wf_X4_22 dX4_step_23 ?_
    refine lv_aload_n S.1 S.2.1 dX4_step_26 rfl (lv_at hl 0 rfl) ?_
    refine gf_425 S hw wf_X4_92 dX4_step_27 ?_
    obtain ⟨hi, hq⟩ := hq
    refine al_16 S hw hi dX4_step_30 ?_
    refine lv_istore_n (lv' := [(1, .int (k8 411 0 (k8 425 0 0).toNatClampNeg)), (0, .ref (ad (11, 0)))]) S.1 S.2.1 dX4_step_31 rfl hl (by decide) rfl (fun ls hl => ?_)
    refine lv_iload_n S.1 S.2.1 dX4_step_32 rfl (lv_at hl 0 rfl) ?_
    refine lv_bipush (v := (64 : Int32)) S.1 S.2.1 dX4_step_33 (by decide) ?_
    refine lv_icmp_ne (tgt := 46) S.1 S.2.1 dX4_step_35 rfl (fun h9 => ?_) (fun h9 => ?_)
    · replace hq := hq.1 h9
      refine lv_aload_n S.1 S.2.1 dX4_step_46 rfl (lv_at hl 1 rfl) ?_
      refine gf_411 S hw wf_X4_22 dX4_step_47 ?_
      refine lv_aload_n S.1 S.2.1 dX4_step_50 rfl (lv_at hl 1 rfl) ?_
      refine gf_425 S hw wf_X4_92 dX4_step_51 ?_
      refine lv_iload_n S.1 S.2.1 dX4_step_54 rfl (lv_at hl 0 rfl) ?_
      refine lv_iconst (v := (1 : Int32)) S.1 S.2.1 dX4_step_55 (by decide) ?_
      refine lv_iadd S.1 S.2.1 dX4_step_56 ?_
      obtain ⟨hi, hq⟩ := hq
      refine as_16 S hw hi dX4_step_57 (fun k10 H locs e10 hw => ?_)
      replace hq := hq _ e10
      refine lv_aload_n S.1 S.2.1 dX4_step_58 rfl (lv_at hl 1 rfl) ?_
      refine lv_aload_n S.1 S.2.1 dX4_step_59 rfl (lv_at hl 1 rfl) ?_
      refine gf_404 S hw wf_X4_7 dX4_step_60 ?_
      refine lv_iload_n S.1 S.2.1 dX4_step_63 rfl (lv_at hl 0 rfl) ?_
      obtain ⟨hi, hq⟩ := hq
      refine al_12 S hw hi dX4_step_64 ?_
      refine lv_bipush (v := (31 : Int32)) S.1 S.2.1 dX4_step_65 (by decide) ?_
      refine lv_iand S.1 S.2.1 dX4_step_67 ?_
      refine lv_aload_n S.1 S.2.1 dX4_step_68 rfl (lv_at hl 1 rfl) ?_
      refine gf_404 S hw wf_X4_7 dX4_step_69 ?_
      refine lv_iload_n S.1 S.2.1 dX4_step_72 rfl (lv_at hl 0 rfl) ?_
      obtain ⟨hi, hq⟩ := hq
      refine al_12 S hw hi dX4_step_73 ?_
      refine lv_iconst (v := (5 : Int32)) S.1 S.2.1 dX4_step_74 (by decide) ?_
      refine lv_ishr S.1 S.2.1 dX4_step_75 ?_
      refine call_X4_perform S hw wl_X4_164 hq ⟨Nat.le_of_ble_eq_true rfl, Nat.le_of_ble_eq_true rfl⟩ hl.1 (Nat.le_of_ble_eq_true rfl) ⟨Nat.zero_le _, Nat.zero_le _⟩ dX4_step_76 (fun k11 H locs hq hw => ?_)
      exact b_X4_step_79 S hr hk  k11 _ _ _ (lv_sub hl [1] rfl) hw hq
    · replace hq := hq.2 h9
      refine lv_aload_n S.1 S.2.1 dX4_step_38 rfl (lv_at hl 1 rfl) ?_
      refine lv_iconst (v := (2 : Int32)) S.1 S.2.1 dX4_step_39 (by decide) ?_
      refine call_X4_fall S hw wl_X4_95 hq ⟨Nat.le_of_ble_eq_true rfl, Nat.le_of_ble_eq_true rfl⟩ hl.1 (Nat.le_of_ble_eq_true rfl) ⟨Nat.zero_le _, Nat.zero_le _⟩ dX4_step_40 (fun k12 H locs hq hw => ?_)
      refine lv_goto (tgt := 79) S.1 S.2.1 dX4_step_43 rfl ?_
      exact b_X4_step_79 S hr hk  k12 _ _ _ (lv_sub hl [1] rfl) hw hq
  · replace hq := hq.2 h7
    refine lv_iconst (v := (-1 : Int32)) S.1 S.2.1 dX4_step_15 (by decide) ?_
    exact kr_i (cu := fun u => ce_l cA cf ad z0 u) S hr rfl hk hw hq dX4_step_16
theorem c_X4_step (z0 k0 : ka_T) {post : Int32 → ka_T → Prop} (hq : q_X4_step cf post  k0) : Met l yX4_step wsX4_step rmX4_step (va_Pc [.ref (ad (11, 0))] (Wx_ D cA cf ad A z0 k0)) (va_Qi post (fun u t => Wx_ D cA cf ad A z0 u t) A) 0 0 A :=
  kp_met (by decide +kernel) [.ref (ad (11, 0))] (Nat.le_of_ble_eq_true rfl) (fun p e s m args below meth c ls S hr hk hw hl => b_X4_step_0 S hr hk  k0 _ _ _ hl hw hq)
theorem call_X4_step {z0 k0 : ka_T} {post : Int32 → ka_T → Prop} (S : CallFix p m c cc nL s args lw_gd own) (hw : Wo_ D cA cf ad A z0 k0 s H locs) {index : Nat} (hl : Cond.methodLink own index yX4_step ∈ lw_gd) (hq : q_X4_step cf post  k0) (hR : rmX4_step.frames + 1 ≤ R.frames ∧ 8 + (2 + 11) + rmX4_step.locals ≤ R.locals) (hls : ls.size = nL) (hro : (rest.map fun v => v.category).sum ≤ 8) (hcs : cells ≤ R.cells ∧ slots ≤ R.slots) (hd : decode cc pc = .ok (.invokevirtual index, 3)) (kk : ∀ (r : Int32) (u : ka_T) (H1 : Heap) (locs1 : List Loc), post r u → Wo_ D cA cf ad A z0 u s H1 locs1 → W p l e R s m args below meth c H1 locs1 cells slots Q (F0 m (pc + 3) ls (.int r :: rest))) : W p l e R s m args below meth c H locs cells slots Q (F0 m pc ls (.ref (ad (11, 0)) :: rest)) :=
  kg_vi (cu := fun u => ce_l cA cf ad z0 u) (As := []) S hw (q := (11, 0)) (c_X4_step z0 k0  hq) wc_X4_step wn_X4 hl wi_X4_step (C := RX4) (T := TX4) (N := 27) (ci := 4) (fs := fx_11 cf ad k0 0) wse_X4_step (km_11) rfl rfl (na := 0) (by decide +kernel) rfl rfl rfl hR hls rfl hro hcs hd kk
abbrev rmX4_run : Room := { frames := 5, cells := 0, slots := 0, locals := 112 }
set_option maxRecDepth 100000 in
set_option maxHeartbeats 4000000 in
theorem b_X4_run_44 {post : Int32 → ka_T → Prop} {kh_17 : Int32 → Int32 → Int32 → ka_T → Prop} (hkh_17 : ∀ (x1 : Int32) (x2 : Int32) (x3 : Int32) (k0 : ka_T) (H : Heap) (locs : List Loc) (ls : Array Slot), lv_has ls 6 [(0, .ref (ad (11, 0))), (1, .int x1), (2, .int x2), (3, .int x3)] → Wo_ D cA cf ad A z0 k0 s H locs → kh_17 x1 x2 x3 k0 → W p l e rmX4_run s m args below meth c H locs 0 0 (MQ below (va_Qi post (fun u t => Wx_ D cA cf ad A z0 u t) A) args s 0 0 A) (F0 m 17 ls [])) (S : CallFix p m c cX4_run 6 s args lw_gd RX4) (hr : meth.sig.returnType = some .int) (hk : meth.locks = false) : ∀ (x1 : Int32) (x4 : Int32) (y0 : Int32) (k0 : ka_T) (H : Heap) (locs : List Loc) (ls : Array Slot), lv_has ls 6 [(0, .ref (ad (11, 0))), (1, .int x1), (4, .int x4)] → Wo_ D cA cf ad A z0 k0 s H locs → q_X4_run_44 cf kh_17 post x1 x4 y0 k0 → W p l e rmX4_run s m args below meth c H locs 0 0 (MQ below (va_Qi post (fun u t => Wx_ D cA cf ad A z0 u t) A) args s 0 0 A) (F0 m 44 ls [.int y0]) := by
  intro x1 x4 y0 k0 H locs ls hl hw hq
  refine lv_istore_n (lv' := [(2, .int y0), (0, .ref (ad (11, 0))), (1, .int x1), (4, .int x4)]) S.1 S.2.1 dX4_run_44 rfl hl (by decide) rfl (fun ls hl => ?_)
  refine lv_iload S.1 S.2.1 dX4_run_45 (lv_at hl 3 rfl) ?_
  refine lv_bipush (v := (15 : Int32)) S.1 S.2.1 dX4_run_47 (by decide) ?_
  refine lv_iand S.1 S.2.1 dX4_run_49 ?_
  refine lv_istore (lv' := [(5, .int (x4 &&& (15 : Int32))), (2, .int y0), (0, .ref (ad (11, 0))), (1, .int x1), (4, .int x4)]) S.1 S.2.1 dX4_run_50 hl (by decide) rfl (fun ls hl => ?_)
  refine lv_iload S.1 S.2.1 dX4_run_52 (lv_at hl 4 rfl) ?_
  refine lv_if_lt (tgt := 74) S.1 S.2.1 dX4_run_54 rfl (fun h1 => ?_) (fun h1 => ?_)
  · replace hq := hq.1 h1
    refine lv_iconst (v := (0 : Int32)) S.1 S.2.1 dX4_run_74 (by decide) ?_
    refine lv_istore_n (lv' := [(3, .int (0 : Int32)), (5, .int (x4 &&& (15 : Int32))), (2, .int y0), (0, .ref (ad (11, 0))), (1, .int x1), (4, .int x4)]) S.1 S.2.1 dX4_run_75 rfl hl (by decide) rfl (fun ls hl => ?_)
    refine lv_goto (tgt := 17) S.1 S.2.1 dX4_run_76 rfl ?_
    exact hkh_17 x1 y0 (0 : Int32) k0 _ _ _ (lv_sub hl [3, 4, 2, 0] rfl) hw hq
  · replace hq := hq.2 h1
    refine lv_iload S.1 S.2.1 dX4_run_57 (lv_at hl 0 rfl) ?_
    refine lv_iconst (v := (1 : Int32)) S.1 S.2.1 dX4_run_59 (by decide) ?_
    refine lv_icmp_eq (tgt := 74) S.1 S.2.1 dX4_run_60 rfl (fun h2 => ?_) (fun h2 => ?_)
    · replace hq := hq.1 h2
      refine lv_iconst (v := (0 : Int32)) S.1 S.2.1 dX4_run_74 (by decide) ?_
      refine lv_istore_n (lv' := [(3, .int (0 : Int32)), (5, .int (x4 &&& (15 : Int32))), (2, .int y0), (0, .ref (ad (11, 0))), (1, .int x1), (4, .int x4)]) S.1 S.2.1 dX4_run_75 rfl hl (by decide) rfl (fun ls hl => ?_)
      refine lv_goto (tgt := 17) S.1 S.2.1 dX4_run_76 rfl ?_
      exact hkh_17 x1 y0 (0 : Int32) k0 _ _ _ (lv_sub hl [3, 4, 2, 0] rfl) hw hq
    · replace hq := hq.2 h2
      refine lv_iload S.1 S.2.1 dX4_run_63 (lv_at hl 0 rfl) ?_
      refine lv_bipush (v := (8 : Int32)) S.1 S.2.1 dX4_run_65 (by decide) ?_
      refine lv_icmp_ge (tgt := 74) S.1 S.2.1 dX4_run_67 rfl (fun h3 => ?_) (fun h3 => ?_)
      · replace hq := hq.1 h3
        refine lv_iconst (v := (0 : Int32)) S.1 S.2.1 dX4_run_74 (by decide) ?_
        refine lv_istore_n (lv' := [(3, .int (0 : Int32)), (5, .int (x4 &&& (15 : Int32))), (2, .int y0), (0, .ref (ad (11, 0))), (1, .int x1), (4, .int x4)]) S.1 S.2.1 dX4_run_75 rfl hl (by decide) rfl (fun ls hl => ?_)
        refine lv_goto (tgt := 17) S.1 S.2.1 dX4_run_76 rfl ?_
        exact hkh_17 x1 y0 (0 : Int32) k0 _ _ _ (lv_sub hl [3, 4, 2, 0] rfl) hw hq
      · replace hq := hq.2 h3
        refine lv_iconst (v := (1 : Int32)) S.1 S.2.1 dX4_run_70 (by decide) ?_
        refine lv_goto (tgt := 75) S.1 S.2.1 dX4_run_71 rfl ?_
        refine lv_istore_n (lv' := [(3, .int (1 : Int32)), (5, .int (x4 &&& (15 : Int32))), (2, .int y0), (0, .ref (ad (11, 0))), (1, .int x1), (4, .int x4)]) S.1 S.2.1 dX4_run_75 rfl hl (by decide) rfl (fun ls hl => ?_)
        refine lv_goto (tgt := 17) S.1 S.2.1 dX4_run_76 rfl ?_
        exact hkh_17 x1 y0 (1 : Int32) k0 _ _ _ (lv_sub hl [3, 4, 2, 0] rfl) hw hq
set_option maxRecDepth 100000 in
set_option maxHeartbeats 4000000 in
theorem b_X4_run_17 {post : Int32 → ka_T → Prop} (S : CallFix p m c cX4_run 6 s args lw_gd RX4) (hr : meth.sig.returnType = some .int) (hk : meth.locks = false) : ∀ nf : Nat, ∀ (x1 : Int32) (x2 : Int32) (x3 : Int32) (k0 : ka_T) (H : Heap) (locs : List Loc) (ls : Array Slot), lv_has ls 6 [(0, .ref (ad (11, 0))), (1, .int x1), (2, .int x2), (3, .int x3)] → Wo_ D cA cf ad A z0 k0 s H locs → q_X4_run_17 cf post nf x1 x2 x3 k0 → W p l e rmX4_run s m args below meth c H locs 0 0 (MQ below (va_Qi post (fun u t => Wx_ D cA cf ad A z0 u t) A) args s 0 0 A) (F0 m 17 ls []) := by
  intro nf
  induction nf with
  | zero =>
    intro x1 x2 x3 k0 H locs ls hl hw hq
    exact False.elim hq
  | succ nf ih =>
    intro x1 x2 x3 k0 H locs ls hl hw hq
    refine lv_iload_n S.1 S.2.1 dX4_run_17 rfl (lv_at hl 2 rfl) ?_
    refine lv_iload_n S.1 S.2.1 dX4_run_18 rfl (lv_at hl 1 rfl) ?_
    refine lv_icmp_ge (tgt := 79) S.1 S.2.1 dX4_run_19 rfl (fun h4 => ?_) (fun h4 => ?_)
    · replace hq := hq.1 h4
      refine lv_iload_n S.1 S.2.1 dX4_run_79 rfl (lv_at hl 2 rfl) ?_
      exact kr_i (cu := fun u => ce_l cA cf ad z0 u) S hr rfl hk hw hq dX4_run_80
    · replace hq := hq.2 h4
      refine lv_iload_n S.1 S.2.1 dX4_run_22 rfl (lv_at hl 3 rfl) ?_
      refine lv_if_eq (tgt := 79) S.1 S.2.1 dX4_run_23 rfl (fun h5 => ?_) (fun h5 => ?_)
      · replace hq := hq.1 h5
        refine lv_iload_n S.1 S.2.1 dX4_run_79 rfl (lv_at hl 2 rfl) ?_
        exact kr_i (cu := fun u => ce_l cA cf ad z0 u) S hr rfl hk hw hq dX4_run_80
      · replace hq := hq.2 h5
        refine lv_aload_n S.1 S.2.1 dX4_run_26 rfl (lv_at hl 0 rfl) ?_
        refine call_X4_step S hw wl_X4_167 hq ⟨Nat.le_of_ble_eq_true rfl, Nat.le_of_ble_eq_true rfl⟩ hl.1 (Nat.le_of_ble_eq_true rfl) ⟨Nat.zero_le _, Nat.zero_le _⟩ dX4_run_27 (fun r6 k6 H locs hq hw => ?_)
        refine lv_istore (lv' := [(4, .int r6), (0, .ref (ad (11, 0))), (1, .int x1), (2, .int x2), (3, .int x3)]) S.1 S.2.1 dX4_run_30 hl (by decide) rfl (fun ls hl => ?_)
        refine lv_iload S.1 S.2.1 dX4_run_32 (lv_at hl 0 rfl) ?_
        refine lv_if_ge (tgt := 41) S.1 S.2.1 dX4_run_34 rfl (fun h7 => ?_) (fun h7 => ?_)
        · replace hq := hq.1 h7
          refine lv_iload_n S.1 S.2.1 dX4_run_41 rfl (lv_at hl 3 rfl) ?_
          refine lv_iconst (v := (1 : Int32)) S.1 S.2.1 dX4_run_42 (by decide) ?_
          refine lv_iadd S.1 S.2.1 dX4_run_43 ?_
          exact b_X4_run_44 ih S hr hk x1 r6 (x2 + (1 : Int32)) k6 _ _ _ (lv_sub hl [1, 2, 0] rfl) hw hq
        · replace hq := hq.2 h7
          refine lv_iload_n S.1 S.2.1 dX4_run_37 rfl (lv_at hl 3 rfl) ?_
          refine lv_goto (tgt := 44) S.1 S.2.1 dX4_run_38 rfl ?_
          exact b_X4_run_44 ih S hr hk x1 r6 x2 k6 _ _ _ (lv_sub hl [1, 2, 0] rfl) hw hq
set_option maxRecDepth 100000 in
set_option maxHeartbeats 4000000 in
theorem b_X4_run_0 {post : Int32 → ka_T → Prop} (S : CallFix p m c cX4_run 6 s args lw_gd RX4) (hr : meth.sig.returnType = some .int) (hk : meth.locks = false) : ∀ (x1 : Int32) (k0 : ka_T) (H : Heap) (locs : List Loc) (ls : Array Slot), lv_has ls 6 [(0, .ref (ad (11, 0))), (1, .int x1)] → Wo_ D cA cf ad A z0 k0 s H locs → q_X4_run cf post x1 k0 → W p l e rmX4_run s m args below meth c H locs 0 0 (MQ below (va_Qi post (fun u t => Wx_ D cA cf ad A z0 u t) A) args s 0 0 A) (F0 m 0 ls []) := by
  intro x1 k0 H locs ls hl hw hq
  refine lv_iload_n S.1 S.2.1 dX4_run_0 rfl (lv_at hl 1 rfl) ?_
  refine lv_iconst (v := (1 : Int32)) S.1 S.2.1 dX4_run_1 (by decide) ?_
  refine lv_icmp_lt (tgt := 11) S.1 S.2.1 dX4_run_2 rfl (fun h8 => ?_) (fun h8 => ?_)
  · replace hq := hq.1 h8
    refine lv_iconst (v := (-1 : Int32)) S.1 S.2.1 dX4_run_11 (by decide) ?_
    exact kr_i (cu := fun u => ce_l cA cf ad z0 u) S hr rfl hk hw hq dX4_run_12
  · replace hq := hq.2 h8
    refine lv_iload_n S.1 S.2.1 dX4_run_5 rfl (lv_at hl 1 rfl) ?_
    refine lv_bipush (v := (64 : Int32)) S.1 S.2.1 dX4_run_6 (by decide) ?_
    refine lv_icmp_le (tgt := 13) S.1 S.2.1 dX4_run_8 rfl (fun h9 => ?_) (fun h9 => ?_)
    · replace hq := hq.1 h9
      refine lv_iconst (v := (0 : Int32)) S.1 S.2.1 dX4_run_13 (by decide) ?_
      refine lv_istore_n (lv' := [(2, .int (0 : Int32)), (0, .ref (ad (11, 0))), (1, .int x1)]) S.1 S.2.1 dX4_run_14 rfl hl (by decide) rfl (fun ls hl => ?_)
      refine lv_iconst (v := (1 : Int32)) S.1 S.2.1 dX4_run_15 (by decide) ?_
      refine lv_istore_n (lv' := [(3, .int (1 : Int32)), (2, .int (0 : Int32)), (0, .ref (ad (11, 0))), (1, .int x1)]) S.1 S.2.1 dX4_run_16 rfl hl (by decide) rfl (fun ls hl => ?_)
      obtain ⟨nf9, hq⟩ := hq
      exact b_X4_run_17 S hr hk nf9 x1 (0 : Int32) (1 : Int32) k0 _ _ _ (lv_sub hl [2, 3, 1, 0] rfl) hw hq
    · replace hq := hq.2 h9
      refine lv_iconst (v := (-1 : Int32)) S.1 S.2.1 dX4_run_11 (by decide) ?_
      exact kr_i (cu := fun u => ce_l cA cf ad z0 u) S hr rfl hk hw hq dX4_run_12
theorem c_X4_run (z0 k0 : ka_T) (x1 : Int32) {post : Int32 → ka_T → Prop} (hq : q_X4_run cf post x1 k0) : Met l yX4_run wsX4_run rmX4_run (va_Pc [.ref (ad (11, 0)), .int x1] (Wx_ D cA cf ad A z0 k0)) (va_Qi post (fun u t => Wx_ D cA cf ad A z0 u t) A) 0 0 A :=
  kp_met (by decide +kernel) [.ref (ad (11, 0)), .int x1] (Nat.le_of_ble_eq_true rfl) (fun p e s m args below meth c ls S hr hk hw hl => b_X4_run_0 S hr hk x1 k0 _ _ _ hl hw hq)
theorem call_X4_run {z0 k0 : ka_T} {x1 : Int32} {post : Int32 → ka_T → Prop} (S : CallFix p m c cc nL s args lw_gd own) (hw : Wo_ D cA cf ad A z0 k0 s H locs) {index : Nat} (hl : Cond.methodLink own index yX4_run ∈ lw_gd) (hq : q_X4_run cf post x1 k0) (hR : rmX4_run.frames + 1 ≤ R.frames ∧ 8 + (6 + 11) + rmX4_run.locals ≤ R.locals) (hls : ls.size = nL) (hro : (rest.map fun v => v.category).sum ≤ 8) (hcs : cells ≤ R.cells ∧ slots ≤ R.slots) (hd : decode cc pc = .ok (.invokevirtual index, 3)) (kk : ∀ (r : Int32) (u : ka_T) (H1 : Heap) (locs1 : List Loc), post r u → Wo_ D cA cf ad A z0 u s H1 locs1 → W p l e R s m args below meth c H1 locs1 cells slots Q (F0 m (pc + 3) ls (.int r :: rest))) : W p l e R s m args below meth c H locs cells slots Q (F0 m pc ls (.int x1 :: .ref (ad (11, 0)) :: rest)) :=
  kg_vi (cu := fun u => ce_l cA cf ad z0 u) (As := [.int x1]) S hw (q := (11, 0)) (c_X4_run z0 k0 x1 hq) wc_X4_run wn_X4 hl wi_X4_run (C := RX4) (T := TX4) (N := 27) (ci := 4) (fs := fx_11 cf ad k0 0) wse_X4_run (km_11) rfl rfl (na := 1) (by decide +kernel) rfl rfl rfl hR hls rfl hro hcs hd kk
abbrev rmX4_spawn : Room := { frames := 2, cells := 0, slots := 0, locals := 45 }
set_option maxRecDepth 100000 in
set_option maxHeartbeats 4000000 in
theorem b_X4_spawn_0 {post : Int32 → ka_T → Prop} (S : CallFix p m c cX4_spawn 4 s args lw_gd RX4) (hr : meth.sig.returnType = some .int) (hk : meth.locks = false) : ∀ (x1 : Int32) (x2 : Int32) (k0 : ka_T) (H : Heap) (locs : List Loc) (ls : Array Slot), lv_has ls 4 [(0, .ref (ad (11, 0))), (1, .int x1), (2, .int x2)] → Wo_ D cA cf ad A z0 k0 s H locs → q_X4_spawn cf post x1 x2 k0 → W p l e rmX4_spawn s m args below meth c H locs 0 0 (MQ below (va_Qi post (fun u t => Wx_ D cA cf ad A z0 u t) A) args s 0 0 A) (F0 m 0 ls []) := by
  intro x1 x2 k0 H locs ls hl hw hq
  refine lv_iload_n S.1 S.2.1 dX4_spawn_0 rfl (lv_at hl 1 rfl) ?_
  refine call_X4_isPlace S hw wl_X4_118 hq ⟨Nat.le_of_ble_eq_true rfl, Nat.le_of_ble_eq_true rfl⟩ hl.1 (Nat.le_of_ble_eq_true rfl) ⟨Nat.zero_le _, Nat.zero_le _⟩ dX4_spawn_1 (fun r1 k1 H locs hq hw => ?_)
  refine lv_if_eq (tgt := 17) S.1 S.2.1 dX4_spawn_4 rfl (fun h2 => ?_) (fun h2 => ?_)
  · replace hq := hq.1 h2
    refine lv_bipush (v := (-2 : Int32)) S.1 S.2.1 dX4_spawn_17 (by decide) ?_
    exact kr_i (cu := fun u => ce_l cA cf ad z0 u) S hr rfl hk hw hq dX4_spawn_19
  · replace hq := hq.2 h2
    refine lv_iload_n S.1 S.2.1 dX4_spawn_7 rfl (lv_at hl 2 rfl) ?_
    refine lv_if_lt (tgt := 17) S.1 S.2.1 dX4_spawn_8 rfl (fun h3 => ?_) (fun h3 => ?_)
    · replace hq := hq.1 h3
      refine lv_bipush (v := (-2 : Int32)) S.1 S.2.1 dX4_spawn_17 (by decide) ?_
      exact kr_i (cu := fun u => ce_l cA cf ad z0 u) S hr rfl hk hw hq dX4_spawn_19
    · replace hq := hq.2 h3
      refine lv_iload_n S.1 S.2.1 dX4_spawn_11 rfl (lv_at hl 2 rfl) ?_
      refine lv_bipush (v := (7 : Int32)) S.1 S.2.1 dX4_spawn_12 (by decide) ?_
      refine lv_icmp_le (tgt := 20) S.1 S.2.1 dX4_spawn_14 rfl (fun h4 => ?_) (fun h4 => ?_)
      · replace hq := hq.1 h4
        refine lv_aload_n S.1 S.2.1 dX4_spawn_20 rfl (lv_at hl 0 rfl) ?_
        refine lv_iload_n S.1 S.2.1 dX4_spawn_21 rfl (lv_at hl 1 rfl) ?_
        refine lv_iload_n S.1 S.2.1 dX4_spawn_22 rfl (lv_at hl 2 rfl) ?_
        refine call_X4_begin S hw wl_X4_130 hq ⟨Nat.le_of_ble_eq_true rfl, Nat.le_of_ble_eq_true rfl⟩ hl.1 (Nat.le_of_ble_eq_true rfl) ⟨Nat.zero_le _, Nat.zero_le _⟩ dX4_spawn_23 (fun r5 k5 H locs hq hw => ?_)
        refine lv_istore_n (lv' := [(3, .int r5), (0, .ref (ad (11, 0))), (1, .int x1), (2, .int x2)]) S.1 S.2.1 dX4_spawn_26 rfl hl (by decide) rfl (fun ls hl => ?_)
        refine lv_aload_n S.1 S.2.1 dX4_spawn_27 rfl (lv_at hl 1 rfl) ?_
        refine lv_aload_n S.1 S.2.1 dX4_spawn_28 rfl (lv_at hl 1 rfl) ?_
        refine gf_406 S hw wf_X4_170 dX4_spawn_29 ?_
        refine lv_if_ne (tgt := 39) S.1 S.2.1 dX4_spawn_32 rfl (fun h6 => ?_) (fun h6 => ?_)
        · replace hq := hq.1 h6
          refine lv_iconst (v := (1 : Int32)) S.1 S.2.1 dX4_spawn_39 (by decide) ?_
          refine lv_goto (tgt := 44) S.1 S.2.1 dX4_spawn_40 rfl ?_
          refine pf_406 S hw wf_X4_170 (by decide) (by decide) dX4_spawn_44 (fun k7 H locs e7 hw => ?_)
          replace hq := hq _ e7
          refine lv_iload_n S.1 S.2.1 dX4_spawn_47 rfl (lv_at hl 0 rfl) ?_
          exact kr_i (cu := fun u => ce_l cA cf ad z0 u) S hr rfl hk hw hq dX4_spawn_48
        · replace hq := hq.2 h6
          refine lv_iload_n S.1 S.2.1 dX4_spawn_35 rfl (lv_at hl 0 rfl) ?_
          refine lv_if_lt (tgt := 43) S.1 S.2.1 dX4_spawn_36 rfl (fun h8 => ?_) (fun h8 => ?_)
          · replace hq := hq.1 h8
            refine lv_iconst (v := (0 : Int32)) S.1 S.2.1 dX4_spawn_43 (by decide) ?_
            refine pf_406 S hw wf_X4_170 (by decide) (by decide) dX4_spawn_44 (fun k9 H locs e9 hw => ?_)
            replace hq := hq _ e9
            refine lv_iload_n S.1 S.2.1 dX4_spawn_47 rfl (lv_at hl 0 rfl) ?_
            exact kr_i (cu := fun u => ce_l cA cf ad z0 u) S hr rfl hk hw hq dX4_spawn_48
          · replace hq := hq.2 h8
            refine lv_iconst (v := (1 : Int32)) S.1 S.2.1 dX4_spawn_39 (by decide) ?_
            refine lv_goto (tgt := 44) S.1 S.2.1 dX4_spawn_40 rfl ?_
            refine pf_406 S hw wf_X4_170 (by decide) (by decide) dX4_spawn_44 (fun k10 H locs e10 hw => ?_)
            replace hq := hq _ e10
            refine lv_iload_n S.1 S.2.1 dX4_spawn_47 rfl (lv_at hl 0 rfl) ?_
            exact kr_i (cu := fun u => ce_l cA cf ad z0 u) S hr rfl hk hw hq dX4_spawn_48
      · replace hq := hq.2 h4
        refine lv_bipush (v := (-2 : Int32)) S.1 S.2.1 dX4_spawn_17 (by decide) ?_
        exact kr_i (cu := fun u => ce_l cA cf ad z0 u) S hr rfl hk hw hq dX4_spawn_19
theorem c_X4_spawn (z0 k0 : ka_T) (x1 : Int32) (x2 : Int32) {post : Int32 → ka_T → Prop} (hq : q_X4_spawn cf post x1 x2 k0) : Met l yX4_spawn wsX4_spawn rmX4_spawn (va_Pc [.ref (ad (11, 0)), .int x1, .int x2] (Wx_ D cA cf ad A z0 k0)) (va_Qi post (fun u t => Wx_ D cA cf ad A z0 u t) A) 0 0 A :=
  kp_met (by decide +kernel) [.ref (ad (11, 0)), .int x1, .int x2] (Nat.le_of_ble_eq_true rfl) (fun p e s m args below meth c ls S hr hk hw hl => b_X4_spawn_0 S hr hk x1 x2 k0 _ _ _ hl hw hq)
theorem call_X4_spawn {z0 k0 : ka_T} {x1 : Int32} {x2 : Int32} {post : Int32 → ka_T → Prop} (S : CallFix p m c cc nL s args lw_gd own) (hw : Wo_ D cA cf ad A z0 k0 s H locs) {index : Nat} (hl : Cond.methodLink own index yX4_spawn ∈ lw_gd) (hq : q_X4_spawn cf post x1 x2 k0) (hR : rmX4_spawn.frames + 1 ≤ R.frames ∧ 8 + (4 + 11) + rmX4_spawn.locals ≤ R.locals) (hls : ls.size = nL) (hro : (rest.map fun v => v.category).sum ≤ 8) (hcs : cells ≤ R.cells ∧ slots ≤ R.slots) (hd : decode cc pc = .ok (.invokevirtual index, 3)) (kk : ∀ (r : Int32) (u : ka_T) (H1 : Heap) (locs1 : List Loc), post r u → Wo_ D cA cf ad A z0 u s H1 locs1 → W p l e R s m args below meth c H1 locs1 cells slots Q (F0 m (pc + 3) ls (.int r :: rest))) : W p l e R s m args below meth c H locs cells slots Q (F0 m pc ls (.int x2 :: .int x1 :: .ref (ad (11, 0)) :: rest)) :=
  kg_vi (cu := fun u => ce_l cA cf ad z0 u) (As := [.int x1, .int x2]) S hw (q := (11, 0)) (c_X4_spawn z0 k0 x1 x2 hq) wc_X4_spawn wn_X4 hl wi_X4_spawn (C := RX4) (T := TX4) (N := 27) (ci := 4) (fs := fx_11 cf ad k0 0) wse_X4_spawn (km_11) rfl rfl (na := 2) (by decide +kernel) rfl rfl rfl hR hls rfl hro hcs hd kk
abbrev rmX4_stack : Room := { frames := 1, cells := 0, slots := 0, locals := 21 }
set_option maxRecDepth 100000 in
set_option maxHeartbeats 4000000 in
theorem b_X4_stack_0 {post : Int32 → ka_T → Prop} (S : CallFix p m c cX4_stack 3 s args lw_gd RX4) (hr : meth.sig.returnType = some .int) (hk : meth.locks = false) : ∀ (x1 : Int32) (x2 : Int32) (k0 : ka_T) (H : Heap) (locs : List Loc) (ls : Array Slot), lv_has ls 3 [(0, .ref (ad (11, 0))), (1, .int x1), (2, .int x2)] → Wo_ D cA cf ad A z0 k0 s H locs → q_X4_stack cf post x1 x2 k0 → W p l e rmX4_stack s m args below meth c H locs 0 0 (MQ below (va_Qi post (fun u t => Wx_ D cA cf ad A z0 u t) A) args s 0 0 A) (F0 m 0 ls []) := by
  intro x1 x2 k0 H locs ls hl hw hq
  refine lv_aload_n S.1 S.2.1 dX4_stack_0 rfl (lv_at hl 0 rfl) ?_
  refine lv_iload_n S.1 S.2.1 dX4_stack_1 rfl (lv_at hl 1 rfl) ?_
  refine call_X4_isLive S hw wl_X4_134 hq ⟨Nat.le_of_ble_eq_true rfl, Nat.le_of_ble_eq_true rfl⟩ hl.1 (Nat.le_of_ble_eq_true rfl) ⟨Nat.zero_le _, Nat.zero_le _⟩ dX4_stack_2 (fun r1 k1 H locs hq hw => ?_)
  refine lv_if_eq (tgt := 22) S.1 S.2.1 dX4_stack_5 rfl (fun h2 => ?_) (fun h2 => ?_)
  · replace hq := hq.1 h2
    refine lv_ldc S.1 S.2.1 S.2.2.2.1 (S.2.2.2.2 _ wv_X4_174) dX4_stack_22 ?_
    refine lv_goto (tgt := 47) S.1 S.2.1 dX4_stack_24 rfl ?_
    exact kr_i (cu := fun u => ce_l cA cf ad z0 u) S hr rfl hk hw hq dX4_stack_47
  · replace hq := hq.2 h2
    refine lv_iload_n S.1 S.2.1 dX4_stack_8 rfl (lv_at hl 2 rfl) ?_
    refine lv_if_lt (tgt := 22) S.1 S.2.1 dX4_stack_9 rfl (fun h3 => ?_) (fun h3 => ?_)
    · replace hq := hq.1 h3
      refine lv_ldc S.1 S.2.1 S.2.2.2.1 (S.2.2.2.2 _ wv_X4_174) dX4_stack_22 ?_
      refine lv_goto (tgt := 47) S.1 S.2.1 dX4_stack_24 rfl ?_
      exact kr_i (cu := fun u => ce_l cA cf ad z0 u) S hr rfl hk hw hq dX4_stack_47
    · replace hq := hq.2 h3
      refine lv_iload_n S.1 S.2.1 dX4_stack_12 rfl (lv_at hl 2 rfl) ?_
      refine lv_aload_n S.1 S.2.1 dX4_stack_13 rfl (lv_at hl 0 rfl) ?_
      refine gf_412 S hw wf_X4_25 dX4_stack_14 ?_
      refine lv_iload_n S.1 S.2.1 dX4_stack_17 rfl (lv_at hl 1 rfl) ?_
      obtain ⟨hi, hq⟩ := hq
      refine al_17 S hw hi dX4_stack_18 ?_
      refine lv_icmp_lt (tgt := 27) S.1 S.2.1 dX4_stack_19 rfl (fun h4 => ?_) (fun h4 => ?_)
      · replace hq := hq.1 h4
        refine lv_aload_n S.1 S.2.1 dX4_stack_27 rfl (lv_at hl 0 rfl) ?_
        refine gf_413 S hw wf_X4_28 dX4_stack_28 ?_
        refine lv_bipush (v := (16 : Int32)) S.1 S.2.1 dX4_stack_31 (by decide) ?_
        refine lv_iload_n S.1 S.2.1 dX4_stack_33 rfl (lv_at hl 1 rfl) ?_
        refine lv_imul S.1 S.2.1 dX4_stack_34 ?_
        refine lv_aload_n S.1 S.2.1 dX4_stack_35 rfl (lv_at hl 0 rfl) ?_
        refine gf_412 S hw wf_X4_25 dX4_stack_36 ?_
        refine lv_iload_n S.1 S.2.1 dX4_stack_39 rfl (lv_at hl 1 rfl) ?_
        obtain ⟨hi, hq⟩ := hq
        refine al_17 S hw hi dX4_stack_40 ?_
        refine lv_iadd S.1 S.2.1 dX4_stack_41 ?_
        refine lv_iconst (v := (1 : Int32)) S.1 S.2.1 dX4_stack_42 (by decide) ?_
        refine lv_isub S.1 S.2.1 dX4_stack_43 ?_
        refine lv_iload_n S.1 S.2.1 dX4_stack_44 rfl (lv_at hl 2 rfl) ?_
        refine lv_isub S.1 S.2.1 dX4_stack_45 ?_
        obtain ⟨hi, hq⟩ := hq
        refine al_18 S hw hi dX4_stack_46 ?_
        exact kr_i (cu := fun u => ce_l cA cf ad z0 u) S hr rfl hk hw hq dX4_stack_47
      · replace hq := hq.2 h4
        refine lv_ldc S.1 S.2.1 S.2.2.2.1 (S.2.2.2.2 _ wv_X4_174) dX4_stack_22 ?_
        refine lv_goto (tgt := 47) S.1 S.2.1 dX4_stack_24 rfl ?_
        exact kr_i (cu := fun u => ce_l cA cf ad z0 u) S hr rfl hk hw hq dX4_stack_47
theorem c_X4_stack (z0 k0 : ka_T) (x1 : Int32) (x2 : Int32) {post : Int32 → ka_T → Prop} (hq : q_X4_stack cf post x1 x2 k0) : Met l yX4_stack wsX4_stack rmX4_stack (va_Pc [.ref (ad (11, 0)), .int x1, .int x2] (Wx_ D cA cf ad A z0 k0)) (va_Qi post (fun u t => Wx_ D cA cf ad A z0 u t) A) 0 0 A :=
  kp_met (by decide +kernel) [.ref (ad (11, 0)), .int x1, .int x2] (Nat.le_of_ble_eq_true rfl) (fun p e s m args below meth c ls S hr hk hw hl => b_X4_stack_0 S hr hk x1 x2 k0 _ _ _ hl hw hq)
theorem call_X4_stack {z0 k0 : ka_T} {x1 : Int32} {x2 : Int32} {post : Int32 → ka_T → Prop} (S : CallFix p m c cc nL s args lw_gd own) (hw : Wo_ D cA cf ad A z0 k0 s H locs) {index : Nat} (hl : Cond.methodLink own index yX4_stack ∈ lw_gd) (hq : q_X4_stack cf post x1 x2 k0) (hR : rmX4_stack.frames + 1 ≤ R.frames ∧ 8 + (3 + 11) + rmX4_stack.locals ≤ R.locals) (hls : ls.size = nL) (hro : (rest.map fun v => v.category).sum ≤ 8) (hcs : cells ≤ R.cells ∧ slots ≤ R.slots) (hd : decode cc pc = .ok (.invokevirtual index, 3)) (kk : ∀ (r : Int32) (u : ka_T) (H1 : Heap) (locs1 : List Loc), post r u → Wo_ D cA cf ad A z0 u s H1 locs1 → W p l e R s m args below meth c H1 locs1 cells slots Q (F0 m (pc + 3) ls (.int r :: rest))) : W p l e R s m args below meth c H locs cells slots Q (F0 m pc ls (.int x2 :: .int x1 :: .ref (ad (11, 0)) :: rest)) :=
  kg_vi (cu := fun u => ce_l cA cf ad z0 u) (As := [.int x1, .int x2]) S hw (q := (11, 0)) (c_X4_stack z0 k0 x1 x2 hq) wc_X4_stack wn_X4 hl wi_X4_stack (C := RX4) (T := TX4) (N := 27) (ci := 4) (fs := fx_11 cf ad k0 0) wse_X4_stack (km_11) rfl rfl (na := 2) (by decide +kernel) rfl rfl rfl hR hls rfl hro hcs hd kk
abbrev rmX4_state : Room := { frames := 0, cells := 0, slots := 0, locals := 0 }
set_option maxRecDepth 100000 in
set_option maxHeartbeats 4000000 in
theorem b_X4_state_0 {post : Int32 → ka_T → Prop} (S : CallFix p m c cX4_state 2 s args lw_gd RX4) (hr : meth.sig.returnType = some .int) (hk : meth.locks = false) : ∀ (x1 : Int32) (k0 : ka_T) (H : Heap) (locs : List Loc) (ls : Array Slot), lv_has ls 2 [(0, .ref (ad (11, 0))), (1, .int x1)] → Wo_ D cA cf ad A z0 k0 s H locs → q_X4_state cf post x1 k0 → W p l e rmX4_state s m args below meth c H locs 0 0 (MQ below (va_Qi post (fun u t => Wx_ D cA cf ad A z0 u t) A) args s 0 0 A) (F0 m 0 ls []) := by
  intro x1 k0 H locs ls hl hw hq
  refine lv_iload_n S.1 S.2.1 dX4_state_0 rfl (lv_at hl 1 rfl) ?_
  refine lv_if_lt (tgt := 12) S.1 S.2.1 dX4_state_1 rfl (fun h1 => ?_) (fun h1 => ?_)
  · replace hq := hq.1 h1
    refine lv_iconst (v := (-1 : Int32)) S.1 S.2.1 dX4_state_12 (by decide) ?_
    refine lv_goto (tgt := 22) S.1 S.2.1 dX4_state_13 rfl ?_
    exact kr_i (cu := fun u => ce_l cA cf ad z0 u) S hr rfl hk hw hq dX4_state_22
  · replace hq := hq.2 h1
    refine lv_iload_n S.1 S.2.1 dX4_state_4 rfl (lv_at hl 1 rfl) ?_
    refine lv_aload_n S.1 S.2.1 dX4_state_5 rfl (lv_at hl 0 rfl) ?_
    refine gf_400 S hw wf_X4_65 dX4_state_6 ?_
    refine lv_icmp_lt (tgt := 16) S.1 S.2.1 dX4_state_9 rfl (fun h2 => ?_) (fun h2 => ?_)
    · replace hq := hq.1 h2
      refine lv_aload_n S.1 S.2.1 dX4_state_16 rfl (lv_at hl 0 rfl) ?_
      refine gf_409 S hw wf_X4_16 dX4_state_17 ?_
      refine lv_iload_n S.1 S.2.1 dX4_state_20 rfl (lv_at hl 1 rfl) ?_
      obtain ⟨hi, hq⟩ := hq
      refine al_14 S hw hi dX4_state_21 ?_
      exact kr_i (cu := fun u => ce_l cA cf ad z0 u) S hr rfl hk hw hq dX4_state_22
    · replace hq := hq.2 h2
      refine lv_iconst (v := (-1 : Int32)) S.1 S.2.1 dX4_state_12 (by decide) ?_
      refine lv_goto (tgt := 22) S.1 S.2.1 dX4_state_13 rfl ?_
      exact kr_i (cu := fun u => ce_l cA cf ad z0 u) S hr rfl hk hw hq dX4_state_22
theorem c_X4_state (z0 k0 : ka_T) (x1 : Int32) {post : Int32 → ka_T → Prop} (hq : q_X4_state cf post x1 k0) : Met l yX4_state wsX4_state rmX4_state (va_Pc [.ref (ad (11, 0)), .int x1] (Wx_ D cA cf ad A z0 k0)) (va_Qi post (fun u t => Wx_ D cA cf ad A z0 u t) A) 0 0 A :=
  kp_met (by decide +kernel) [.ref (ad (11, 0)), .int x1] (Nat.le_of_ble_eq_true rfl) (fun p e s m args below meth c ls S hr hk hw hl => b_X4_state_0 S hr hk x1 k0 _ _ _ hl hw hq)
theorem call_X4_state {z0 k0 : ka_T} {x1 : Int32} {post : Int32 → ka_T → Prop} (S : CallFix p m c cc nL s args lw_gd own) (hw : Wo_ D cA cf ad A z0 k0 s H locs) {index : Nat} (hl : Cond.methodLink own index yX4_state ∈ lw_gd) (hq : q_X4_state cf post x1 k0) (hR : rmX4_state.frames + 1 ≤ R.frames ∧ 8 + (2 + 11) + rmX4_state.locals ≤ R.locals) (hls : ls.size = nL) (hro : (rest.map fun v => v.category).sum ≤ 8) (hcs : cells ≤ R.cells ∧ slots ≤ R.slots) (hd : decode cc pc = .ok (.invokevirtual index, 3)) (kk : ∀ (r : Int32) (u : ka_T) (H1 : Heap) (locs1 : List Loc), post r u → Wo_ D cA cf ad A z0 u s H1 locs1 → W p l e R s m args below meth c H1 locs1 cells slots Q (F0 m (pc + 3) ls (.int r :: rest))) : W p l e R s m args below meth c H locs cells slots Q (F0 m pc ls (.int x1 :: .ref (ad (11, 0)) :: rest)) :=
  kg_vi (cu := fun u => ce_l cA cf ad z0 u) (As := [.int x1]) S hw (q := (11, 0)) (c_X4_state z0 k0 x1 hq) wc_X4_state wn_X4 hl wi_X4_state (C := RX4) (T := TX4) (N := 27) (ci := 4) (fs := fx_11 cf ad k0 0) wse_X4_state (km_11) rfl rfl (na := 1) (by decide +kernel) rfl rfl rfl hR hls rfl hro hcs hd kk
abbrev rmX4_task : Room := { frames := 1, cells := 0, slots := 0, locals := 21 }
set_option maxRecDepth 100000 in
set_option maxHeartbeats 4000000 in
theorem b_X4_task_0 {post : Int32 → ka_T → Prop} (S : CallFix p m c cX4_task 3 s args lw_gd RX4) (hr : meth.sig.returnType = some .int) (hk : meth.locks = false) : ∀ (x1 : Int32) (x2 : Int32) (k0 : ka_T) (H : Heap) (locs : List Loc) (ls : Array Slot), lv_has ls 3 [(0, .ref (ad (11, 0))), (1, .int x1), (2, .int x2)] → Wo_ D cA cf ad A z0 k0 s H locs → q_X4_task cf post x1 x2 k0 → W p l e rmX4_task s m args below meth c H locs 0 0 (MQ below (va_Qi post (fun u t => Wx_ D cA cf ad A z0 u t) A) args s 0 0 A) (F0 m 0 ls []) := by
  intro x1 x2 k0 H locs ls hl hw hq
  refine lv_aload_n S.1 S.2.1 dX4_task_0 rfl (lv_at hl 0 rfl) ?_
  refine lv_iload_n S.1 S.2.1 dX4_task_1 rfl (lv_at hl 1 rfl) ?_
  refine call_X4_isLive S hw wl_X4_134 hq ⟨Nat.le_of_ble_eq_true rfl, Nat.le_of_ble_eq_true rfl⟩ hl.1 (Nat.le_of_ble_eq_true rfl) ⟨Nat.zero_le _, Nat.zero_le _⟩ dX4_task_2 (fun r1 k1 H locs hq hw => ?_)
  refine lv_if_ne (tgt := 11) S.1 S.2.1 dX4_task_5 rfl (fun h2 => ?_) (fun h2 => ?_)
  · replace hq := hq.1 h2
    refine lv_iload_n S.1 S.2.1 dX4_task_11 rfl (lv_at hl 2 rfl) ?_
    by_cases h3_0 : x2 = (0 : Int32)
    · replace hq := hq.1 h3_0
      refine lv_tableIn (off := 40) (tgt := 52) S.1 S.2.1 dX4_task_12 (by rw [h3_0]; decide) (by rw [h3_0]; decide) (by rw [h3_0]; rfl) rfl ?_
      refine lv_aload_n S.1 S.2.1 dX4_task_52 rfl (lv_at hl 0 rfl) ?_
      refine gf_411 S hw wf_X4_22 dX4_task_53 ?_
      refine lv_iload_n S.1 S.2.1 dX4_task_56 rfl (lv_at hl 1 rfl) ?_
      obtain ⟨hi, hq⟩ := hq
      refine al_16 S hw hi dX4_task_57 ?_
      exact kr_i (cu := fun u => ce_l cA cf ad z0 u) S hr rfl hk hw hq dX4_task_58
    · by_cases h3_1 : x2 = (1 : Int32)
      · replace hq := hq.2.1 h3_1
        refine lv_tableIn (off := 47) (tgt := 59) S.1 S.2.1 dX4_task_12 (by rw [h3_1]; decide) (by rw [h3_1]; decide) (by rw [h3_1]; rfl) rfl ?_
        refine lv_aload_n S.1 S.2.1 dX4_task_59 rfl (lv_at hl 0 rfl) ?_
        refine gf_410 S hw wf_X4_19 dX4_task_60 ?_
        refine lv_iload_n S.1 S.2.1 dX4_task_63 rfl (lv_at hl 1 rfl) ?_
        obtain ⟨hi, hq⟩ := hq
        refine al_15 S hw hi dX4_task_64 ?_
        exact kr_i (cu := fun u => ce_l cA cf ad z0 u) S hr rfl hk hw hq dX4_task_65
      · by_cases h3_2 : x2 = (2 : Int32)
        · replace hq := hq.2.2.1 h3_2
          refine lv_tableIn (off := 54) (tgt := 66) S.1 S.2.1 dX4_task_12 (by rw [h3_2]; decide) (by rw [h3_2]; decide) (by rw [h3_2]; rfl) rfl ?_
          refine lv_aload_n S.1 S.2.1 dX4_task_66 rfl (lv_at hl 0 rfl) ?_
          refine gf_412 S hw wf_X4_25 dX4_task_67 ?_
          refine lv_iload_n S.1 S.2.1 dX4_task_70 rfl (lv_at hl 1 rfl) ?_
          obtain ⟨hi, hq⟩ := hq
          refine al_17 S hw hi dX4_task_71 ?_
          exact kr_i (cu := fun u => ce_l cA cf ad z0 u) S hr rfl hk hw hq dX4_task_72
        · by_cases h3_3 : x2 = (3 : Int32)
          · replace hq := hq.2.2.2.1 h3_3
            refine lv_tableIn (off := 61) (tgt := 73) S.1 S.2.1 dX4_task_12 (by rw [h3_3]; decide) (by rw [h3_3]; decide) (by rw [h3_3]; rfl) rfl ?_
            refine lv_aload_n S.1 S.2.1 dX4_task_73 rfl (lv_at hl 0 rfl) ?_
            refine gf_414 S hw wf_X4_31 dX4_task_74 ?_
            refine lv_iload_n S.1 S.2.1 dX4_task_77 rfl (lv_at hl 1 rfl) ?_
            obtain ⟨hi, hq⟩ := hq
            refine al_19 S hw hi dX4_task_78 ?_
            exact kr_i (cu := fun u => ce_l cA cf ad z0 u) S hr rfl hk hw hq dX4_task_79
          · by_cases h3_4 : x2 = (4 : Int32)
            · replace hq := hq.2.2.2.2.1 h3_4
              refine lv_tableIn (off := 68) (tgt := 80) S.1 S.2.1 dX4_task_12 (by rw [h3_4]; decide) (by rw [h3_4]; decide) (by rw [h3_4]; rfl) rfl ?_
              refine lv_aload_n S.1 S.2.1 dX4_task_80 rfl (lv_at hl 0 rfl) ?_
              refine gf_409 S hw wf_X4_16 dX4_task_81 ?_
              refine lv_iload_n S.1 S.2.1 dX4_task_84 rfl (lv_at hl 1 rfl) ?_
              obtain ⟨hi, hq⟩ := hq
              refine al_14 S hw hi dX4_task_85 ?_
              refine lv_iconst (v := (2 : Int32)) S.1 S.2.1 dX4_task_86 (by decide) ?_
              refine lv_icmp_ne (tgt := 99) S.1 S.2.1 dX4_task_87 rfl (fun h4 => ?_) (fun h4 => ?_)
              · replace hq := hq.1 h4
                refine lv_iconst (v := (0 : Int32)) S.1 S.2.1 dX4_task_99 (by decide) ?_
                exact kr_i (cu := fun u => ce_l cA cf ad z0 u) S hr rfl hk hw hq dX4_task_100
              · replace hq := hq.2 h4
                refine lv_aload_n S.1 S.2.1 dX4_task_90 rfl (lv_at hl 0 rfl) ?_
                refine gf_416 S hw wf_X4_37 dX4_task_91 ?_
                refine lv_iload_n S.1 S.2.1 dX4_task_94 rfl (lv_at hl 1 rfl) ?_
                obtain ⟨hi, hq⟩ := hq
                refine al_21 S hw hi dX4_task_95 ?_
                refine lv_goto (tgt := 100) S.1 S.2.1 dX4_task_96 rfl ?_
                exact kr_i (cu := fun u => ce_l cA cf ad z0 u) S hr rfl hk hw hq dX4_task_100
            · by_cases h3_5 : x2 = (5 : Int32)
              · replace hq := hq.2.2.2.2.2.1 h3_5
                refine lv_tableIn (off := 89) (tgt := 101) S.1 S.2.1 dX4_task_12 (by rw [h3_5]; decide) (by rw [h3_5]; decide) (by rw [h3_5]; rfl) rfl ?_
                refine lv_aload_n S.1 S.2.1 dX4_task_101 rfl (lv_at hl 0 rfl) ?_
                refine gf_409 S hw wf_X4_16 dX4_task_102 ?_
                refine lv_iload_n S.1 S.2.1 dX4_task_105 rfl (lv_at hl 1 rfl) ?_
                obtain ⟨hi, hq⟩ := hq
                refine al_14 S hw hi dX4_task_106 ?_
                refine lv_iconst (v := (3 : Int32)) S.1 S.2.1 dX4_task_107 (by decide) ?_
                refine lv_icmp_lt (tgt := 120) S.1 S.2.1 dX4_task_108 rfl (fun h5 => ?_) (fun h5 => ?_)
                · replace hq := hq.1 h5
                  refine lv_iconst (v := (-1 : Int32)) S.1 S.2.1 dX4_task_120 (by decide) ?_
                  exact kr_i (cu := fun u => ce_l cA cf ad z0 u) S hr rfl hk hw hq dX4_task_121
                · replace hq := hq.2 h5
                  refine lv_aload_n S.1 S.2.1 dX4_task_111 rfl (lv_at hl 0 rfl) ?_
                  refine gf_417 S hw wf_X4_40 dX4_task_112 ?_
                  refine lv_iload_n S.1 S.2.1 dX4_task_115 rfl (lv_at hl 1 rfl) ?_
                  obtain ⟨hi, hq⟩ := hq
                  refine al_22 S hw hi dX4_task_116 ?_
                  refine lv_goto (tgt := 121) S.1 S.2.1 dX4_task_117 rfl ?_
                  exact kr_i (cu := fun u => ce_l cA cf ad z0 u) S hr rfl hk hw hq dX4_task_121
              · replace hq := hq.2.2.2.2.2.2 h3_0 h3_1 h3_2 h3_3 h3_4 h3_5
                refine kg_tab (tgt := 122) S dX4_task_12 (by
                    have a0 := i32_ne (n := 0) (by decide) h3_0
                    have a1 := i32_ne (n := 1) (by decide) h3_1
                    have a2 := i32_ne (n := 2) (by decide) h3_2
                    have a3 := i32_ne (n := 3) (by decide) h3_3
                    have a4 := i32_ne (n := 4) (by decide) h3_4
                    have a5 := i32_ne (n := 5) (by decide) h3_5
                    left; omega
                  ) rfl ?_
                refine lv_ldc S.1 S.2.1 S.2.2.2.1 (S.2.2.2.2 _ wv_X4_174) dX4_task_122 ?_
                exact kr_i (cu := fun u => ce_l cA cf ad z0 u) S hr rfl hk hw hq dX4_task_124
  · replace hq := hq.2 h2
    refine lv_ldc S.1 S.2.1 S.2.2.2.1 (S.2.2.2.2 _ wv_X4_174) dX4_task_8 ?_
    exact kr_i (cu := fun u => ce_l cA cf ad z0 u) S hr rfl hk hw hq dX4_task_10
theorem c_X4_task (z0 k0 : ka_T) (x1 : Int32) (x2 : Int32) {post : Int32 → ka_T → Prop} (hq : q_X4_task cf post x1 x2 k0) : Met l yX4_task wsX4_task rmX4_task (va_Pc [.ref (ad (11, 0)), .int x1, .int x2] (Wx_ D cA cf ad A z0 k0)) (va_Qi post (fun u t => Wx_ D cA cf ad A z0 u t) A) 0 0 A :=
  kp_met (by decide +kernel) [.ref (ad (11, 0)), .int x1, .int x2] (Nat.le_of_ble_eq_true rfl) (fun p e s m args below meth c ls S hr hk hw hl => b_X4_task_0 S hr hk x1 x2 k0 _ _ _ hl hw hq)
theorem call_X4_task {z0 k0 : ka_T} {x1 : Int32} {x2 : Int32} {post : Int32 → ka_T → Prop} (S : CallFix p m c cc nL s args lw_gd own) (hw : Wo_ D cA cf ad A z0 k0 s H locs) {index : Nat} (hl : Cond.methodLink own index yX4_task ∈ lw_gd) (hq : q_X4_task cf post x1 x2 k0) (hR : rmX4_task.frames + 1 ≤ R.frames ∧ 8 + (3 + 11) + rmX4_task.locals ≤ R.locals) (hls : ls.size = nL) (hro : (rest.map fun v => v.category).sum ≤ 8) (hcs : cells ≤ R.cells ∧ slots ≤ R.slots) (hd : decode cc pc = .ok (.invokevirtual index, 3)) (kk : ∀ (r : Int32) (u : ka_T) (H1 : Heap) (locs1 : List Loc), post r u → Wo_ D cA cf ad A z0 u s H1 locs1 → W p l e R s m args below meth c H1 locs1 cells slots Q (F0 m (pc + 3) ls (.int r :: rest))) : W p l e R s m args below meth c H locs cells slots Q (F0 m pc ls (.int x2 :: .int x1 :: .ref (ad (11, 0)) :: rest)) :=
  kg_vi (cu := fun u => ce_l cA cf ad z0 u) (As := [.int x1, .int x2]) S hw (q := (11, 0)) (c_X4_task z0 k0 x1 x2 hq) wc_X4_task wn_X4 hl wi_X4_task (C := RX4) (T := TX4) (N := 27) (ci := 4) (fs := fx_11 cf ad k0 0) wse_X4_task (km_11) rfl rfl (na := 2) (by decide +kernel) rfl rfl rfl hR hls rfl hro hcs hd kk
end KW
