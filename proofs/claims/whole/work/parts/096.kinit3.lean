/-! TaskKernel's constructor as a contract -/
section KK
variable {p : Program} {l : Launch} {e : Env} {R : Room} {s : State} {m : MethodId} {args : Array Value} {below : List Frame} {meth : Method} {c : Code} {H : Heap} {locs : List Loc} {cells slots : Nat} {Q : State → Prop}
variable {cc : ByteArray} {nL pc : Nat} {ls : Array Slot} {rest : List Value} {own : String} {D : va_G} {A : Nat → Prop} {cA : Nat → ClassId} {cf : Nat → Nat} {tys : List (ClassId × FieldType)}
/-- what is said of the tables beside the world -/
def kE_ (U : State) : Prop := va_AO "TaskKernel$Task" U ∧ va_AO "TaskKernel$Mailbox" U
theorem kc_metE {y : MethodName} {bytes : ByteArray} {maxL mc ms : Nat} {ret : Option FieldType} {rm : Room} {ws : va_W} {Qc : Array Value → State → Outcome → State → Prop} (hy : plainName y.cls = true) (avs : List Value) (hlen : (lg_sl avs).length ≤ maxL)
    (body : ∀ (p : Program) (e : Env) (s : State) (m : MethodId) (args : Array Value) (below : List Frame) (meth : Method) (c : Code) (ls : Array Slot), CallFix p m c bytes maxL s args lw_gd y.cls → meth.sig.returnType = ret → meth.locks = false → meth.name = y.name → Wc_ D tys A ws s s.heap [] → kE_ s → lv_has ls maxL (lv_args 0 avs) → W p l e rm s m args below meth c s.heap [] 0 0 (MQ below Qc args s mc ms A) (F0 m 0 ls [])) :
    Met l y (.code y bytes maxL ret :: lw_gd) rm (va_Pc avs (fun U => Wz_ D tys A ws U ∧ kE_ U)) Qc mc ms A := by
  refine Met.ofW (cc := bytes) (maxL := maxL) (ret := ret) hy rfl ?_
  intro p e s m args below meth c s₁ B hml hv
  obtain ⟨rfl, ⟨hP, hK, hD, hA⟩, hE⟩ := hv
  have hts := atoms_spec (ws := .code y bytes maxL ret :: lw_gd) B.pre
  have hl := lv_entry avs (n := maxL) hlen
  rw [lg_entry_eq]
  exact body p e s m _ below meth c _ ⟨B.exec, B.bytes, hml, findClass_of_methodNamed B.named, fun w h => hts w (List.mem_cons_of_mem _ h)⟩ B.returns B.notSynchronized (name_of_methodNamed B.named B.method).1 ⟨hP, hK, hD, va_S.rf, hA⟩ hE hl
/-- the addresses of all that the constructor made -/
def ad_k (h0 qc qe qo qt qm : Nat) (a1 a2 : Nat × Nat → Nat) : Nat × Nat → Nat := fun x => match x.1 with
  | 0 => h0
  | 1 => qt
  | 2 => qm
  | 3 => qc
  | 4 => qe
  | 5 => qo
  | 6 => a1 x
  | 7 => a1 x
  | 8 => a1 x
  | _ => a2 x
theorem ks_done {h0 qc qe qo qt qm : Nat} {a1 a2 : Nat × Nat → Nat} {z : ka_T} : ((h0, .inr (3, [.ref qt, .ref qm, .ref qc, .ref qe, .ref qo, .int 0, .int 0, .int 0, .int 0])) :: ([(qc, .inl (cA 0, 64, .inl (fun _ => 0))), (qe, .inl (cA 0, 16, .inl (fun _ => 0))), (qo, .inl (cA 0, 32, .inl (fun _ => 0))), (qt, .inl (cA 1, cf 0, .inr (.inr (.inr (.inr (fun i => if i < cf 0 then some (a1 (6, i)) else none))))))] ++ kw_w (kt_ (cf 0)) a1 (ce_l cA cf a1 k00_ z))) ++ ((qm, .inl (cA 2, cf 2, .inr (.inr (.inr (.inr (fun i => if i < cf 2 then some (a2 (9, i)) else none)))))) :: kw_w (kq_ (cf 2)) a2 (ce_l cA cf a2 k00_ z)) = kw_w (ks_k cf) (ad_k h0 qc qe qo qt qm a1 a2) (ce_l cA cf (ad_k h0 qc qe qo qt qm a1 a2) k00_ z) := by
  have e1 : kw_w (kt_ (cf 0)) a1 (ce_l cA cf a1 k00_ z) = kw_w (kt_ (cf 0)) (ad_k h0 qc qe qo qt qm a1 a2) (ce_l cA cf (ad_k h0 qc qe qo qt qm a1 a2) k00_ z) := by
    apply kw_cong
    intro x hx
    obtain ⟨i, hi, hx⟩ := kt_m hx
    rcases hx with rfl | rfl | rfl | rfl | rfl <;> exact ⟨rfl, rfl⟩
  have e2 : kw_w (kq_ (cf 2)) a2 (ce_l cA cf a2 k00_ z) = kw_w (kq_ (cf 2)) (ad_k h0 qc qe qo qt qm a1 a2) (ce_l cA cf (ad_k h0 qc qe qo qt qm a1 a2) k00_ z) := by
    apply kw_cong
    intro x hx
    obtain ⟨i, hi, hx⟩ := kq_m hx
    rcases hx with rfl | rfl <;> exact ⟨rfl, rfl⟩
  rw [e1, e2]
  unfold ks_k
  rw [kw_app, kw_app]
  rfl
set_option maxRecDepth 100000 in
set_option maxHeartbeats 8000000 in
theorem c_X3_init (h0 : Nat) (x1 x2 x3 x4 : Int32) (hcf : nr_ x1 1 8 = nI (cf 0)) (h8 : cf 0 ≤ 8) (hcw : nr_ x2 1 16 = nI (cf 1)) (h16 : cf 1 ≤ 16) (hcq : nr_ x3 0 4 = nI (cf 2)) (h4 : cf 2 ≤ 4) (hcr : nr_ x4 1 6 = nI (cf 3)) (h6 : cf 3 ≤ 6) : Met l yX3_init wsX3_init rmX3_init (va_Pc [.ref h0, .int x1, .int x2, .int x3, .int x4] (fun U => Wz_ D (tys_3 cA) A [(h0, .inr (3, [.null, .null, .null, .null, .null, .int 0, .int 0, .int 0, .int 0]))] U ∧ kE_ U)) (va_Qv (fun a0 : Nat × Nat → Nat => a0 (0, 0) = h0) (fun a0 t => Wz_ D (tys_3 cA) A (kw_w (ks_k cf) a0 (ce_l cA cf a0 k00_ k00_)) t) A) 53 576 A := by
  refine kc_metE (by decide +kernel) [.ref h0, .int x1, .int x2, .int x3, .int x4] (Nat.le_of_ble_eq_true rfl) (fun p e s m args below meth c ls S hr hk hin hw hE hl => ?_)
  replace hl : lv_has ls 8 [(0, .ref h0), (1, .int x1), (2, .int x2), (3, .int x3), (4, .int x4)] := hl
  refine lv_aload_n S.1 S.2.1 dX3_init_0 rfl (lv_at hl 0 rfl) ?_
  refine W.objInit S.1 S.2.1 S.2.2.2.1 (S.2.2.2.2 _ wl_X3_1) (S.2.2.2.2 _ wi_obj) (S.2.2.2.2 _ wc_obj) rfl (hl.1.trans S.2.2.1.symm) rfl dX3_init_1 (Nat.le_of_ble_eq_true rfl) (Nat.le_of_ble_eq_true rfl) ?_
  refine W.eq (g2 := F0 m 4 ls []) rfl ?_
  refine lv_aload_n S.1 S.2.1 dX3_init_4 rfl (lv_at hl 0 rfl) ?_
  refine lv_bipush (v := (64 : Int32)) S.1 S.2.1 dX3_init_5 (by decide) ?_
  refine kc_newa (X := []) S hw rfl (N := 64) (by decide) (by decide) (by decide) (Nat.le_of_ble_eq_true rfl) (Nat.le_of_ble_eq_true rfl) dX3_init_7 (fun qc H hw => ?_)
  replace hw : Wc_ D (tys_3 cA) A ([] ++ [(h0, .inr (3, [.null, .null, .null, .null, .null, .int 0, .int 0, .int 0, .int 0])), (qc, .inl (cA 0, 64, .inl (fun _ => 0)))]) s _ _ := hw
  refine kc_putF (X := []) (v := .ref qc) (ty := .array .int) (Y' := [(h0, .inr (3, [.null, .null, .ref qc, .null, .null, .int 0, .int 0, .int 0, .int 0])), (qc, .inl (cA 0, 64, .inl (fun _ => 0)))]) S hw hin 0 rfl rfl inX3 tyX3 tyX3_ok nmX3 2 (by decide) wf_X3_9 rfl rfl (by decide +kernel) rfl rfl (Nat.le_of_ble_eq_true rfl) rfl dX3_init_9 (fun H locs hw => ?_)
  refine lv_aload_n S.1 S.2.1 dX3_init_12 rfl (lv_at hl 0 rfl) ?_
  refine lv_bipush (v := (16 : Int32)) S.1 S.2.1 dX3_init_13 (by decide) ?_
  refine kc_newa (X := []) S hw rfl (N := 16) (by decide) (by decide) (by decide) (Nat.le_of_ble_eq_true rfl) (Nat.le_of_ble_eq_true rfl) dX3_init_15 (fun qe H hw => ?_)
  replace hw : Wc_ D (tys_3 cA) A ([] ++ [(h0, .inr (3, [.null, .null, .ref qc, .null, .null, .int 0, .int 0, .int 0, .int 0])), (qc, .inl (cA 0, 64, .inl (fun _ => 0))), (qe, .inl (cA 0, 16, .inl (fun _ => 0)))]) s _ _ := hw
  refine kc_putF (X := []) (v := .ref qe) (ty := .array .int) (Y' := [(h0, .inr (3, [.null, .null, .ref qc, .ref qe, .null, .int 0, .int 0, .int 0, .int 0])), (qc, .inl (cA 0, 64, .inl (fun _ => 0))), (qe, .inl (cA 0, 16, .inl (fun _ => 0)))]) S hw hin 0 rfl rfl inX3 tyX3 tyX3_ok nmX3 3 (by decide) wf_X3_13 rfl rfl (by decide +kernel) rfl rfl (Nat.le_of_ble_eq_true rfl) rfl dX3_init_17 (fun H locs hw => ?_)
  refine lv_aload_n S.1 S.2.1 dX3_init_20 rfl (lv_at hl 0 rfl) ?_
  refine lv_bipush (v := (32 : Int32)) S.1 S.2.1 dX3_init_21 (by decide) ?_
  refine kc_newa (X := []) S hw rfl (N := 32) (by decide) (by decide) (by decide) (Nat.le_of_ble_eq_true rfl) (Nat.le_of_ble_eq_true rfl) dX3_init_23 (fun qo H hw => ?_)
  replace hw : Wc_ D (tys_3 cA) A ([] ++ [(h0, .inr (3, [.null, .null, .ref qc, .ref qe, .null, .int 0, .int 0, .int 0, .int 0])), (qc, .inl (cA 0, 64, .inl (fun _ => 0))), (qe, .inl (cA 0, 16, .inl (fun _ => 0))), (qo, .inl (cA 0, 32, .inl (fun _ => 0)))]) s _ _ := hw
  refine kc_putF (X := []) (v := .ref qo) (ty := .array .int) (Y' := [(h0, .inr (3, [.null, .null, .ref qc, .ref qe, .ref qo, .int 0, .int 0, .int 0, .int 0])), (qc, .inl (cA 0, 64, .inl (fun _ => 0))), (qe, .inl (cA 0, 16, .inl (fun _ => 0))), (qo, .inl (cA 0, 32, .inl (fun _ => 0)))]) S hw hin 0 rfl rfl inX3 tyX3 tyX3_ok nmX3 4 (by decide) wf_X3_16 rfl rfl (by decide +kernel) rfl rfl (Nat.le_of_ble_eq_true rfl) rfl dX3_init_25 (fun H locs hw => ?_)
  refine lv_aload_n S.1 S.2.1 dX3_init_28 rfl (lv_at hl 0 rfl) ?_
  refine lv_iconst (v := (0 : Int32)) S.1 S.2.1 dX3_init_29 (by decide) ?_
  refine kc_put (X := []) (v := .int (0 : Int32)) (ty := .int) (Y' := [(h0, .inr (3, [.null, .null, .ref qc, .ref qe, .ref qo, .int (0 : Int32), .int 0, .int 0, .int 0])), (qc, .inl (cA 0, 64, .inl (fun _ => 0))), (qe, .inl (cA 0, 16, .inl (fun _ => 0))), (qo, .inl (cA 0, 32, .inl (fun _ => 0)))]) S hw 0 rfl rfl inX3 tyX3 tyX3_ok nmX3 5 (by decide) wf_X3_19 rfl (by decide +kernel) rfl rfl (Nat.le_of_ble_eq_true rfl) rfl dX3_init_30 (fun H locs hw => ?_)
  refine lv_aload_n S.1 S.2.1 dX3_init_33 rfl (lv_at hl 0 rfl) ?_
  refine lv_iconst (v := (0 : Int32)) S.1 S.2.1 dX3_init_34 (by decide) ?_
  refine kc_put (X := []) (v := .int (0 : Int32)) (ty := .int) (Y' := [(h0, .inr (3, [.null, .null, .ref qc, .ref qe, .ref qo, .int (0 : Int32), .int (0 : Int32), .int 0, .int 0])), (qc, .inl (cA 0, 64, .inl (fun _ => 0))), (qe, .inl (cA 0, 16, .inl (fun _ => 0))), (qo, .inl (cA 0, 32, .inl (fun _ => 0)))]) S hw 0 rfl rfl inX3 tyX3 tyX3_ok nmX3 6 (by decide) wf_X3_23 rfl (by decide +kernel) rfl rfl (Nat.le_of_ble_eq_true rfl) rfl dX3_init_35 (fun H locs hw => ?_)
  refine lv_aload_n S.1 S.2.1 dX3_init_38 rfl (lv_at hl 0 rfl) ?_
  refine lv_iconst (v := (0 : Int32)) S.1 S.2.1 dX3_init_39 (by decide) ?_
  refine kc_put (X := []) (v := .int (0 : Int32)) (ty := .int) (Y' := [(h0, .inr (3, [.null, .null, .ref qc, .ref qe, .ref qo, .int (0 : Int32), .int (0 : Int32), .int (0 : Int32), .int 0])), (qc, .inl (cA 0, 64, .inl (fun _ => 0))), (qe, .inl (cA 0, 16, .inl (fun _ => 0))), (qo, .inl (cA 0, 32, .inl (fun _ => 0)))]) S hw 0 rfl rfl inX3 tyX3 tyX3_ok nmX3 7 (by decide) wf_X3_26 rfl (by decide +kernel) rfl rfl (Nat.le_of_ble_eq_true rfl) rfl dX3_init_40 (fun H locs hw => ?_)
  refine lv_aload_n S.1 S.2.1 dX3_init_43 rfl (lv_at hl 0 rfl) ?_
  refine lv_iconst (v := (0 : Int32)) S.1 S.2.1 dX3_init_44 (by decide) ?_
  refine kc_put (X := []) (v := .int (0 : Int32)) (ty := .boolean) (Y' := [(h0, .inr (3, [.null, .null, .ref qc, .ref qe, .ref qo, .int (0 : Int32), .int (0 : Int32), .int (0 : Int32), .int (0 : Int32)])), (qc, .inl (cA 0, 64, .inl (fun _ => 0))), (qe, .inl (cA 0, 16, .inl (fun _ => 0))), (qo, .inl (cA 0, 32, .inl (fun _ => 0)))]) S hw 0 rfl rfl inX3 tyX3 tyX3_ok nmX3 8 (by decide) wf_X3_29 rfl (by decide +kernel) rfl rfl (Nat.le_of_ble_eq_true rfl) rfl dX3_init_45 (fun H locs hw => ?_)
  refine lv_iload_n S.1 S.2.1 dX3_init_48 rfl (lv_at hl 2 rfl) ?_
  refine lv_iconst (v := (1 : Int32)) S.1 S.2.1 dX3_init_49 (by decide) ?_
  refine lv_bipush (v := (16 : Int32)) S.1 S.2.1 dX3_init_50 (by decide) ?_
  refine kc_si S hw (c_X3_nearest _ x2 (1 : Int32) (16 : Int32) (by decide)) wc_X3_nearest wn_X3 wl_X3_33 wst_X3_nearest (na := 3) (by decide +kernel) rfl rfl rfl ⟨Nat.le_of_ble_eq_true rfl, Nat.le_of_ble_eq_true rfl⟩ hl.1 (As := [.int x2, .int (1 : Int32), .int (16 : Int32)]) rfl (Nat.le_of_ble_eq_true rfl) ⟨Nat.le_of_ble_eq_true rfl, Nat.le_of_ble_eq_true rfl⟩ dX3_init_52 (fun r52 H locs hr52 hw => ?_)
  rw [hcw] at hr52
  subst hr52
  refine lv_istore (lv' := [(5, .int (nI (cf 1))), (0, .ref h0), (1, .int x1), (2, .int x2), (3, .int x3), (4, .int x4)]) S.1 S.2.1 dX3_init_55 hl (by decide) rfl (fun ls hl => ?_)
  refine lv_iload S.1 S.2.1 dX3_init_57 (lv_at hl 5 rfl) ?_
  refine lv_iconst (v := (1 : Int32)) S.1 S.2.1 dX3_init_59 (by decide) ?_
  refine lv_bipush (v := (6 : Int32)) S.1 S.2.1 dX3_init_60 (by decide) ?_
  refine kc_si S hw (c_X3_nearest _ x4 (1 : Int32) (6 : Int32) (by decide)) wc_X3_nearest wn_X3 wl_X3_33 wst_X3_nearest (na := 3) (by decide +kernel) rfl rfl rfl ⟨Nat.le_of_ble_eq_true rfl, Nat.le_of_ble_eq_true rfl⟩ hl.1 (As := [.int x4, .int (1 : Int32), .int (6 : Int32)]) rfl (Nat.le_of_ble_eq_true rfl) ⟨Nat.le_of_ble_eq_true rfl, Nat.le_of_ble_eq_true rfl⟩ dX3_init_62 (fun r62 H locs hr62 hw => ?_)
  rw [hcr] at hr62
  subst hr62
  refine lv_istore (lv' := [(6, .int (nI (cf 3))), (5, .int (nI (cf 1))), (0, .ref h0), (1, .int x1), (2, .int x2), (3, .int x3), (4, .int x4)]) S.1 S.2.1 dX3_init_65 hl (by decide) rfl (fun ls hl => ?_)
  refine lv_aload_n S.1 S.2.1 dX3_init_67 rfl (lv_at hl 2 rfl) ?_
  refine lv_iload_n S.1 S.2.1 dX3_init_68 rfl (lv_at hl 3 rfl) ?_
  refine lv_iconst (v := (1 : Int32)) S.1 S.2.1 dX3_init_69 (by decide) ?_
  refine lv_bipush (v := (8 : Int32)) S.1 S.2.1 dX3_init_70 (by decide) ?_
  refine kc_si S hw (c_X3_nearest _ x1 (1 : Int32) (8 : Int32) (by decide)) wc_X3_nearest wn_X3 wl_X3_33 wst_X3_nearest (na := 3) (by decide +kernel) rfl rfl rfl ⟨Nat.le_of_ble_eq_true rfl, Nat.le_of_ble_eq_true rfl⟩ hl.1 (As := [.int x1, .int (1 : Int32), .int (8 : Int32)]) rfl (Nat.le_of_ble_eq_true rfl) ⟨Nat.le_of_ble_eq_true rfl, Nat.le_of_ble_eq_true rfl⟩ dX3_init_72 (fun r72 H locs hr72 hw => ?_)
  rw [hcf] at hr72
  subst hr72
  refine kc_newq (X := []) (t0 := 1) S hw rfl wk_X3_37 hE.1 (N := cf 0) (nI_pos (by omega)) (nI_clamp (by omega)) (by omega) (Nat.le_of_ble_eq_true rfl) (by show 112 + cf 0 ≤ 576; omega) dX3_init_75 (fun qt H hw => ?_)
  refine W.widen (k := 4) (n := 120) (Nat.le_of_ble_eq_true rfl) (by omega) ?_
  replace hw : Wc_ D (tys_3 cA) A ([] ++ [(h0, .inr (3, [.null, .null, .ref qc, .ref qe, .ref qo, .int (0 : Int32), .int (0 : Int32), .int (0 : Int32), .int (0 : Int32)])), (qc, .inl (cA 0, 64, .inl (fun _ => 0))), (qe, .inl (cA 0, 16, .inl (fun _ => 0))), (qo, .inl (cA 0, 32, .inl (fun _ => 0))), (qt, .inl (cA 1, cf 0, .inr (.inr (.inr (.inr (fun _ => none))))))]) s _ _ := hw
  refine kc_putF (X := []) (v := .ref qt) (ty := .array (.object "TaskKernel$Task")) (Y' := [(h0, .inr (3, [.ref qt, .null, .ref qc, .ref qe, .ref qo, .int (0 : Int32), .int (0 : Int32), .int (0 : Int32), .int (0 : Int32)])), (qc, .inl (cA 0, 64, .inl (fun _ => 0))), (qe, .inl (cA 0, 16, .inl (fun _ => 0))), (qo, .inl (cA 0, 32, .inl (fun _ => 0))), (qt, .inl (cA 1, cf 0, .inr (.inr (.inr (.inr (fun _ => none))))))]) S hw hin 0 rfl rfl inX3 tyX3 tyX3_ok nmX3 0 (by decide) wf_X3_39 rfl rfl (by decide +kernel) rfl rfl (Nat.le_of_ble_eq_true rfl) rfl dX3_init_78 (fun H locs hw => ?_)
  refine lv_iconst (v := (0 : Int32)) S.1 S.2.1 dX3_init_81 (by decide) ?_
  refine lv_istore (lv' := [(7, .int (0 : Int32)), (6, .int (nI (cf 3))), (5, .int (nI (cf 1))), (0, .ref h0), (1, .int x1), (2, .int x2), (3, .int x3), (4, .int x4)]) S.1 S.2.1 dX3_init_82 hl (by decide) rfl (fun ls hl => ?_)
  refine ki_1 (D := D) (A := A) (cA := cA) (cf := cf) (h0 := h0) (qc := qc) (qe := qe) (qo := qo) (qt := qt) (x3 := x3) (x6 := nI (cf 3)) S h16 h8 (fun a1 H locs ls hl hw => ?_) (cf 0) 0 (by omega) (fun _ => 0) _ _ _ (lv_sub hl [3, 6, 2, 1, 0] rfl) ?_
  · refine lv_aload_n S.1 S.2.1 dX3_init_118 rfl (lv_at hl 0 rfl) ?_
    refine lv_iload_n S.1 S.2.1 dX3_init_119 rfl (lv_at hl 1 rfl) ?_
    refine lv_iconst (v := (0 : Int32)) S.1 S.2.1 dX3_init_120 (by decide) ?_
    refine lv_iconst (v := (4 : Int32)) S.1 S.2.1 dX3_init_121 (by decide) ?_
    refine kc_si S hw (c_X3_nearest _ x3 (0 : Int32) (4 : Int32) (by decide)) wc_X3_nearest wn_X3 wl_X3_33 wst_X3_nearest (na := 3) (by decide +kernel) rfl rfl rfl ⟨Nat.le_of_ble_eq_true rfl, Nat.le_of_ble_eq_true rfl⟩ hl.1 (As := [.int x3, .int (0 : Int32), .int (4 : Int32)]) rfl (Nat.le_of_ble_eq_true rfl) ⟨Nat.le_of_ble_eq_true rfl, Nat.le_of_ble_eq_true rfl⟩ dX3_init_122 (fun r122 H locs hr122 hw => ?_)
    rw [hcq] at hr122
    subst hr122
    obtain ⟨tl, etl⟩ : ∃ tl : va_W, tl = kw_w (kt_ (cf 0)) a1 (ce_l cA cf a1 k00_ k00_) := ⟨_, rfl⟩
    rw [← etl] at hw
    replace hw : Wc_ D (tys_3 cA) A ((yb_ cA h0 qc qe qo qt (cf 0) .null (fun i => if i < cf 0 then some (a1 (6, i)) else none) ++ tl) ++ []) s H locs := by rw [List.append_nil]; exact hw
    refine kc_newq (t0 := 2) S hw rfl wk_X3_46 hE.2 (N := cf 2) (nI_pos (by omega)) (nI_clamp (by omega)) (by omega) (Nat.le_of_ble_eq_true rfl) (by show 496 + cf 2 ≤ 576; omega) dX3_init_125 (fun qm H hw => ?_)
    refine W.widen (k := 45) (n := 500) (Nat.le_of_ble_eq_true rfl) (by omega) ?_
    refine kc_putF (X := []) (v := .ref qm) (ty := .array (.object "TaskKernel$Mailbox")) (Y' := (yb_ cA h0 qc qe qo qt (cf 0) (.ref qm) (fun i => if i < cf 0 then some (a1 (6, i)) else none) ++ tl) ++ [(qm, .inl (cA 2, cf 2, .inr (.inr (.inr (.inr (fun _ => none))))))]) S hw hin 0 rfl rfl inX3 tyX3 tyX3_ok nmX3 1 (by decide) wf_X3_48 rfl rfl (by decide +kernel) rfl rfl (Nat.le_of_ble_eq_true rfl) rfl dX3_init_128 (fun H locs hw => ?_)
    refine lv_iconst (v := (0 : Int32)) S.1 S.2.1 dX3_init_131 (by decide) ?_
    refine lv_istore (lv' := [(7, .int (0 : Int32)), (0, .ref h0), (3, .int x3), (6, .int (nI (cf 3)))]) S.1 S.2.1 dX3_init_132 hl (by decide) rfl (fun ls hl => ?_)
    refine ki_2 (D := D) (A := A) (cA := cA) (cf := cf) (h0 := h0) (qm := qm) (v0 := .ref qt) (v2 := .ref qc) (v3 := .ref qe) (v4 := .ref qo) (X := [(qc, .inl (cA 0, 64, .inl (fun _ => 0))), (qe, .inl (cA 0, 16, .inl (fun _ => 0))), (qo, .inl (cA 0, 32, .inl (fun _ => 0))), (qt, .inl (cA 1, cf 0, .inr (.inr (.inr (.inr (fun i => if i < cf 0 then some (a1 (6, i)) else none))))))] ++ tl) S h6 h4 (fun a2 H locs ls hw => ?_) (cf 2) 0 (by omega) (fun _ => 0) _ _ _ (lv_sub hl [1, 3, 0] rfl) ?_
    · rw [etl, ks_done] at hw
      exact kc_ret (wu := fun a0 : Nat × Nat → Nat => kw_w (ks_k cf) a0 (ce_l cA cf a0 k00_ k00_)) S hr hk (ad_k h0 qc qe qo qt qm a1 a2) hw rfl dX3_init_166
    · simpa [kt_, kq_, kw_w] using hw
  · simpa [kt_, kq_, kw_w] using hw
end KK
