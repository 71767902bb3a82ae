/-! the law's cell; calls of a constructor that also wants kE_ -/
section KM
variable {p : Program} {l : Launch} {e : Env} {R : Room} {s : State} {m : MethodId} {args : Array Value} {below : List Frame} {meth : Method} {c : Code} {H : Heap} {locs : List Loc} {cells slots : Nat} {Q : State → Prop}
variable {cc : ByteArray} {nL pc : Nat} {ls : Array Slot} {rest : List Value} {own : String} {D : va_G} {A : Nat → Prop} {tys : List (ClassId × FieldType)} {ws : va_W}
abbrev rmL_cell : Room := { frames := 0, cells := 0, slots := 0, locals := 0 }
set_option maxRecDepth 100000 in
set_option maxHeartbeats 4000000 in
theorem c_L_cell (ws : va_W) (b L : Nat) (xs : Nat → Int32) (n : Nat) (hn : n < 2 ^ 31) (hL : L < 2 ^ 31) : Met l yL_cell wsL_cell rmL_cell (va_Pc [.ref b, .int (nI n)] (fun U => Wz_ D tys A ws U ∧ va_X b L xs U U.heap ∧ b < U.heap.size ∧ ¬ A b)) (va_Qi (fun (r : Int32) (_ : Unit) => r = ce_s L xs n) (fun _ t => Wz_ D tys A ws t) A) 0 0 A := by
  refine Met.ofW (cc := cL_cell) (maxL := 2) (ret := some .int) (by decide +kernel) rfl ?_
  intro p e s m args below meth c s₁ B hml hv
  obtain ⟨rfl, ⟨hP, hK, hD, hA⟩, hX, hbl, hbA⟩ := hv
  have hts := atoms_spec (ws := wsL_cell) B.pre
  have hl := lv_entry [.ref b, .int (nI n)] (n := 2) (Nat.le_of_ble_eq_true rfl)
  rw [lg_entry_eq]
  generalize (lg_sl [.ref b, .int (nI n)] ++ List.replicate (2 - (lg_sl [.ref b, .int (nI n)]).length) Slot.unset).toArray = ls at hl ⊢
  replace hl : lv_has ls 2 [(0, .ref b), (1, .int (nI n))] := hl
  have S : CallFix p m c cL_cell 2 s _ lw_gd RL := ⟨B.exec, B.bytes, hml, findClass_of_methodNamed B.named, fun w h => hts w (List.mem_cons_of_mem _ h)⟩
  have hw : Wc_ D tys A ws s s.heap [] := ⟨hP, hK, hD, va_S.rf, hA⟩
  have hr := B.returns
  have hk := B.notSynchronized
  refine lv_iload_n S.1 S.2.1 dL_cell_0 rfl (lv_at hl 1 rfl) ?_
  refine lv_aload_n S.1 S.2.1 dL_cell_1 rfl (lv_at hl 0 rfl) ?_
  refine va_slen S.1 S.2.1 hX hbl hbA hw.2.2.2.1 dL_cell_2 ?_
  refine lv_icmp_ge (tgt := 12) S.1 S.2.1 dL_cell_3 rfl (fun h => ?_) (fun h => ?_)
  · refine lv_iconst (v := (0 : Int32)) S.1 S.2.1 dL_cell_12 (by decide) ?_
    have h1 : ¬ n < L := fun hh => nI_ge hh hL h
    exact kc_reti S hr hk hw (by unfold ce_s; rw [if_neg h1]) dL_cell_13
  · have h1 : n < L := Nat.not_le.mp fun hh => h (nI_le hh hn)
    refine lv_aload_n S.1 S.2.1 dL_cell_6 rfl (lv_at hl 0 rfl) ?_
    refine lv_iload_n S.1 S.2.1 dL_cell_7 rfl (lv_at hl 1 rfl) ?_
    refine va_sld S.1 S.2.1 hX hbl hbA hw.2.2.2.1 (vp_in_nI h1 hL) dL_cell_8 ?_
    refine lv_goto (tgt := 13) S.1 S.2.1 dL_cell_9 rfl ?_
    exact kc_reti S hr hk hw (by unfold ce_s; rw [if_pos h1, nI_clamp hn]) dL_cell_13
theorem call_L_cell {b L : Nat} {xs : Nat → Int32} {index : Nat} (n : Nat) (hn : n < 2 ^ 31) (hL : L < 2 ^ 31) (S : CallFix p m c cc nL s args lw_gd own) (hw : Wc_ D tys A ws s H locs) (hX : va_X b L xs s s.heap) (hbl : b < s.heap.size) (hbA : ¬ A b) (hlk : Cond.methodLink own index yL_cell ∈ lw_gd) (hst : Cond.static yL_cell ∈ lw_gd) (hini : Cond.initialized RL ∈ lw_gd) (hR : rmL_cell.frames + 1 ≤ R.frames ∧ 8 + (2 + 11) + rmL_cell.locals ≤ R.locals) (hls : ls.size = nL) (hro : (rest.map fun v => v.category).sum ≤ 8) (hcs : cells ≤ R.cells ∧ slots ≤ R.slots) (hd : decode cc pc = .ok (.invokestatic index, 3))
    (kk : ∀ (H1 : Heap) (locs1 : List Loc), Wc_ D tys A ws s H1 locs1 → W p l e R s m args below meth c H1 locs1 cells slots Q (F0 m (pc + 3) ls (.int (ce_s L xs n) :: rest))) : W p l e R s m args below meth c H locs cells slots Q (F0 m pc ls (.int (nI n) :: .ref b :: rest)) := by
  have hts := S.2.2.2.2
  obtain ⟨hP, hK, hD, hS, hA⟩ := hw
  refine va_calli (va_runS (As := [.ref b, .int (nI n)]) (rest := rest) S (c_L_cell (D := D) (tys := tys) (A := A) ws b L xs n hn hL) ⟨callB_of 2 hts (goodT wc_L_cell) rfl rfl rfl (hts _ hini) (hts _ hlk) (by decide +kernel) hR, hts _ hst⟩ ⟨fun a U g mk h => ?_, fun U hU hW => ⟨rfl, ⟨by rw [hU]; exact hP, va_K.moved hW.alike hK, hD, fun q hq => hA q (Nat.le_trans hS.1 (by rw [hU] at hq; exact hq))⟩, ?_, ?_, hbA⟩⟩ rfl rfl hls rfl (lv_room hro) hd hcs) hS (fun _ _ h => h) (fun _ h => h) (fun r u t H1 locs1 ht hvm hp hB hz hk hS1 => ?_)
  · obtain ⟨h0, ⟨hP, hK, hD, hA⟩, hX, hb⟩ := h
    exact ⟨h0, ⟨hP, va_K.moved (u := U) (U := U.calling g mk a) (Vm.Alike.refl U.vm) hK, hD, hA⟩, va_X.moved (u := U) (U := U.calling g mk a) (Vm.Alike.refl U.vm) hX, hb⟩
  · rw [hU]
    exact (va_X.moved hW.alike hX).kept (hS.2.1 b hbl hbA)
  · rw [hU]
    exact Nat.lt_of_lt_of_le hbl hS.1
  · obtain ⟨hP1, hK1, hD1, -⟩ := hB
    rw [ht] at hP1
    subst hp
    exact kk H1 locs1 ⟨hP1, hK, hD1, hS1, hA⟩
theorem kc_initE {na : Nat} {S0 : Type} {y : MethodName} {bytes : ByteArray} {maxL index mc ms : Nat} {rm : Room} {a : Nat} {As st0 : List Value} {post : S0 → Prop} {wu : S0 → va_W} (S : CallFix p m c cc nL s args lw_gd own) (hw : Wc_ D tys A ws s H locs) (hE : kE_ s) (hM : Met l y (.code y bytes maxL none :: lw_gd) rm (va_Pc (.ref a :: As) (fun U => Wz_ D tys A ws U ∧ kE_ U)) (va_Qv post (fun u t => Wz_ D tys A (wu u) t) A) mc ms A) (hcm : Cond.code y bytes maxL none ∈ lw_gd) (hini : Cond.initialized y.cls ∈ lw_gd) (hlk : Cond.methodLink own index y ∈ lw_gd) (him : Cond.instanceMethod y ∈ lw_gd) (hy1 : y.name = "<init>") (hds : y.cls ≠ "java/lang/invoke/MethodHandle" ∧ y.cls ≠ "java/lang/invoke/VarHandle" ∧ (parseMethodDescriptor y.desc).map (fun d => d.parameters.length) = some na) (hna : As.length = na) (hr0 : rm.cells = mc) (hr1 : rm.slots = ms) (hR : rm.frames + 1 ≤ R.frames ∧ 8 + (maxL + 11) + rm.locals ≤ R.locals) (hls : ls.size = nL) (hst : st0 = As.reverse ++ .ref a :: rest) (hro : (rest.map fun v => v.category).sum ≤ 8) (hcs : cells + mc ≤ R.cells ∧ slots + ms ≤ R.slots) (hd : decode cc pc = .ok (.invokespecial index, 3))
    (kk : ∀ (u : S0) (H1 : Heap) (locs1 : List Loc), post u → Wc_ D tys A (wu u) s H1 locs1 → W p l e R s m args below meth c H1 locs1 (cells + mc) (slots + ms) Q (F0 m (pc + 3) ls rest)) : W p l e R s m args below meth c H locs cells slots Q (F0 m pc ls st0) := by
  have hts := S.2.2.2.2
  obtain ⟨hP, hK, hD, hS, hA⟩ := hw
  refine va_callv (va_runI (As := As) (rest := rest) S hM ⟨callB_of na hts (goodT hcm) rfl hr0 hr1 (hts _ hini) (hts _ hlk) hds hR, hy1, hts _ him⟩ ⟨fun a U g mk h => ?_, fun U hU hW => ⟨rfl, ⟨by rw [hU]; exact hP, va_K.moved hW.alike hK, hD, fun q hq => hA q (Nat.le_trans hS.1 (by rw [hU] at hq; exact hq))⟩, va_AO.moved hW.alike hE.1, va_AO.moved hW.alike hE.2⟩⟩ rfl hna hls hst (lv_room hro) hd hcs) hS (fun _ _ h => h) (fun _ h => h) (fun u t H1 locs1 ht hvm hp hB hz hk hS1 => ?_)
  · obtain ⟨h0, ⟨hP, hK, hD, hA⟩, hE⟩ := h
    exact ⟨h0, ⟨hP, va_K.moved (u := U) (U := U.calling g mk a) (Vm.Alike.refl U.vm) hK, hD, hA⟩, va_AO.moved (u := U) (U := U.calling g mk a) (Vm.Alike.refl U.vm) hE.1, va_AO.moved (u := U) (U := U.calling g mk a) (Vm.Alike.refl U.vm) hE.2⟩
  · obtain ⟨hP1, hK1, hD1, -⟩ := hB
    rw [ht] at hP1
    exact kk u H1 locs1 hp ⟨hP1, hK, hD1, hS1, hA⟩
end KM
