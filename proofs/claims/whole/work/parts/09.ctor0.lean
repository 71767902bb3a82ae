/-! constructors: a world as a list, what was there before (X) ahead of what is worked on (Y) -/
theorem kx_at {α : Type} (X Y : List α) (k : Nat) : (X ++ Y)[X.length + k]? = Y[k]? := by
  rw [List.getElem?_append_right (Nat.le_add_right _ _), Nat.add_sub_cancel_left]
theorem kx_set {α : Type} (X Y : List α) (k : Nat) (c : α) : (X ++ Y).set (X.length + k) c = X ++ Y.set k c := by
  rw [List.set_append_right _ _ (Nat.le_add_right _ _), Nat.add_sub_cancel_left]
def Wc_ (D : va_G) (tys : List (ClassId × FieldType)) (A : Nat → Prop) (ws : va_W) (s : State) (H : Heap) (locs : List Loc) : Prop :=
  va_P D cls5 ws H ∧ va_K D cls5 tys s ∧ va_D A ws ∧ va_S A s.heap H locs ∧ ∀ q : Nat, s.heap.size ≤ q → A q
def Wz_ (D : va_G) (tys : List (ClassId × FieldType)) (A : Nat → Prop) (ws : va_W) (U : State) : Prop :=
  va_P D cls5 ws U.heap ∧ va_K D cls5 tys U ∧ va_D A ws ∧ ∀ q : Nat, U.heap.size ≤ q → A q
section KC
variable {p : Program} {l : Launch} {e : Env} {R : Room} {s : State} {m : MethodId} {args : Array Value} {below : List Frame} {meth : Method} {c : Code} {H : Heap} {locs : List Loc} {cells slots : Nat} {Q : State → Prop}
variable {cc : ByteArray} {nL pc : Nat} {ls : Array Slot} {rest : List Value} {own : String} {D : va_G} {A : Nat → Prop} {tys : List (ClassId × FieldType)} {X Y : va_W}
theorem kc_put (S : CallFix p m c cc nL s args lw_gd own) (hw : Wc_ D tys A (X ++ Y) s H locs) (k : Nat) {a ci : Nat} {fs : List Value} {C : String} {T : u_T} {N : Nat} (he : Y[k]? = some (a, .inr (ci, fs))) (hc : cls5[ci]? = some (C, T, N)) (hin : ∀ w ∈ u_ws C T N, w ∈ lw_gd) (ty0 : Nat → FieldType) (hty : ∀ k, k < N → parseFieldDescriptor (T k).2.2.1 = some (ty0 k)) (hnm : ∀ a, a < N → ∀ b, b < N → a ≠ b → (T a).2.1 ≠ (T b).2.1) (j : Nat) (hj : j < N) {index : Nat} (hl : Cond.fieldLink own index (T j).1 (T j).2.1 (T j).2.2.1 ∈ lw_gd) (hfin : (T j).2.2.2 = false) {ty : FieldType} {v : Value} (hpd : parseFieldDescriptor (T j).2.2.1 = some ty) (hn : narrow ty v = v) (hfit : fits ty v = true) (hlen : j < fs.length) {Y' : va_W} (hY : Y.set k (a, .inr (ci, fs.set j v)) = Y') (hd : decode cc pc = .ok (.putfield index, 3))
    (kk : ∀ (H1 : Heap) (locs1 : List Loc), Wc_ D tys A (X ++ Y') s H1 locs1 → W p l e R s m args below meth c H1 locs1 cells slots Q (F0 m (pc + 3) ls rest)) : W p l e R s m args below meth c H locs cells slots Q (F0 m pc ls (v :: .ref a :: rest)) := by
  obtain ⟨hx, hb, hml, hown, hts⟩ := S
  obtain ⟨hP, hK, hD, hS, hA⟩ := hw
  refine va_put hx hb hts hin ty0 hty hnm hown hK hP hD hS (X.length + k) (by rw [kx_at]; exact he) hc j hj (hts _ hl) (fun _ h => h) hfin hpd hn hfit hlen hd (fun H1 locs1 h1 h2 h3 => ?_)
  rw [kx_set, hY] at h1 h2
  exact kk H1 locs1 ⟨h1, hK, h2, h3, hA⟩
theorem kc_putF (S : CallFix p m c cc nL s args lw_gd own) (hw : Wc_ D tys A (X ++ Y) s H locs) (hin2 : meth.name = "<init>") (k : Nat) {a ci : Nat} {fs : List Value} {C : String} {T : u_T} {N : Nat} (he : Y[k]? = some (a, .inr (ci, fs))) (hc : cls5[ci]? = some (C, T, N)) (hin : ∀ w ∈ u_ws C T N, w ∈ lw_gd) (ty0 : Nat → FieldType) (hty : ∀ k, k < N → parseFieldDescriptor (T k).2.2.1 = some (ty0 k)) (hnm : ∀ a, a < N → ∀ b, b < N → a ≠ b → (T a).2.1 ≠ (T b).2.1) (j : Nat) (hj : j < N) {index : Nat} (hl : Cond.fieldLink own index (T j).1 (T j).2.1 (T j).2.2.1 ∈ lw_gd) (hfin : (T j).2.2.2 = true) (hdecl : (T j).1 = own) {ty : FieldType} {v : Value} (hpd : parseFieldDescriptor (T j).2.2.1 = some ty) (hn : narrow ty v = v) (hfit : fits ty v = true) (hlen : j < fs.length) {Y' : va_W} (hY : Y.set k (a, .inr (ci, fs.set j v)) = Y') (hd : decode cc pc = .ok (.putfield index, 3))
    (kk : ∀ (H1 : Heap) (locs1 : List Loc), Wc_ D tys A (X ++ Y') s H1 locs1 → W p l e R s m args below meth c H1 locs1 cells slots Q (F0 m (pc + 3) ls rest)) : W p l e R s m args below meth c H locs cells slots Q (F0 m pc ls (v :: .ref a :: rest)) := by
  obtain ⟨hx, hb, hml, hown, hts⟩ := S
  obtain ⟨hP, hK, hD, hS, hA⟩ := hw
  refine va_putF hx hb hts hin ty0 hty hnm hown hK hP hD hS (X.length + k) (by rw [kx_at]; exact he) hc j hj (hts _ hl) (fun _ h => h) hfin hin2 hdecl hpd hn hfit hlen hd (fun H1 locs1 h1 h2 h3 => ?_)
  rw [kx_set, hY] at h1 h2
  exact kk H1 locs1 ⟨h1, hK, h2, h3, hA⟩
theorem kc_newa (S : CallFix p m c cc nL s args lw_gd own) (hw : Wc_ D tys A (X ++ Y) s H locs) {cA : ClassId} (ht : tys[0]? = some (cA, .int)) {n : Int32} {N : Nat} (hn : ¬ n < 0) (hN : n.toNatClampNeg = N) (hbt : N ≤ 1000) (hcells : cells + 1 ≤ R.cells) (hslots : slots + N ≤ R.slots) (hd : decode cc pc = .ok (.newarray .int, 2))
    (kk : ∀ (q : Nat) (H1 : Heap), Wc_ D tys A (X ++ (Y ++ [(q, .inl (cA, N, .inl (fun _ => 0)))])) s H1 locs → W p l e R s m args below meth c H1 locs (cells + 1) (slots + N) Q (F0 m (pc + 2) ls (.ref q :: rest))) : W p l e R s m args below meth c H locs cells slots Q (F0 m pc ls (.int n :: rest)) := by
  obtain ⟨hx, hb, hml, hown, hts⟩ := S
  obtain ⟨hP, hK, hD, hS, hA⟩ := hw
  refine va_newa (atype := .int) (ty := .int) (a0 := (N, .inl (fun _ => 0))) hx hb (hts _ wa_int) rfl hK hP hD hS hA (fun cA => by rw [vp_cell_i]; rfl) hn hN (by show N * 4 ≤ _; omega) hcells hslots hd (fun q cB H1 hK1 hP1 hD1 hS1 => ?_)
  have e1 : s.vm.findClass ("[" ++ FieldType.int.toString) = some cA := (hK.2 0 _ ht).2
  have hz : (tys ++ [(cB, FieldType.int)])[tys.length]? = some (cB, .int) := by rw [List.getElem?_append_right (Nat.le_refl _), Nat.sub_self]; rfl
  have e2 : s.vm.findClass ("[" ++ FieldType.int.toString) = some cB := (hK1.2 _ _ hz).2
  have e3 : cB = cA := Option.some.inj (e2.symm.trans e1)
  subst e3
  rw [List.append_assoc] at hP1 hD1
  exact kk q H1 ⟨hP1, hK, hD1, hS1, hA⟩
theorem kc_newq (S : CallFix p m c cc nL s args lw_gd own) (hw : Wc_ D tys A (X ++ Y) s H locs) {cA : ClassId} {C : String} {t0 : Nat} (ht : tys[t0]? = some (cA, .object C)) {index : Nat} (hcl : Cond.classLink own index C ∈ lw_gd) (hov : va_AO C s) {n : Int32} {N : Nat} (hn : ¬ n < 0) (hN : n.toNatClampNeg = N) (hbt : N ≤ 1000) (hcells : cells + 1 ≤ R.cells) (hslots : slots + N ≤ R.slots) (hd : decode cc pc = .ok (.anewarray index, 3))
    (kk : ∀ (q : Nat) (H1 : Heap), Wc_ D tys A (X ++ (Y ++ [(q, .inl (cA, N, .inr (.inr (.inr (.inr (fun _ => none))))))])) s H1 locs → W p l e R s m args below meth c H1 locs (cells + 1) (slots + N) Q (F0 m (pc + 3) ls (.ref q :: rest))) : W p l e R s m args below meth c H locs cells slots Q (F0 m pc ls (.int n :: rest)) := by
  obtain ⟨hx, hb, hml, hown, hts⟩ := S
  obtain ⟨hP, hK, hD, hS, hA⟩ := hw
  refine va_newq (C := C) hx hb hown (hts _ hcl) hov hK hP hD hS hA hn hN (by omega) hcells hslots hd (fun q cB H1 hK1 hP1 hD1 hS1 => ?_)
  obtain ⟨-, -, -, -, -, e1⟩ := (hK.2 t0 _ ht).2
  have hz : (tys ++ [(cB, FieldType.object C)])[tys.length]? = some (cB, .object C) := by rw [List.getElem?_append_right (Nat.le_refl _), Nat.sub_self]; rfl
  obtain ⟨-, -, -, -, -, e2⟩ := (hK1.2 _ _ hz).2
  have e3 : cB = cA := Option.some.inj (e2.symm.trans e1)
  subst e3
  rw [List.append_assoc] at hP1 hD1
  exact kk q H1 ⟨hP1, hK, hD1, hS1, hA⟩
theorem kc_new (S : CallFix p m c cc nL s args lw_gd own) (hw : Wc_ D tys A (X ++ Y) s H locs) {ci : Nat} {C : String} {T : u_T} {N : Nat} (hc : cls5[ci]? = some (C, T, N)) (hin : ∀ w ∈ u_ws C T N, w ∈ lw_gd) (ty : Nat → FieldType) (hty : ∀ k, k < N → parseFieldDescriptor (T k).2.2.1 = some (ty k)) {index : Nat} (hcl : Cond.classLink own index C ∈ lw_gd) (hinst : Cond.instantiable C N ∈ lw_gd) (hini : Cond.initialized C ∈ lw_gd) {fs : List Value} (hfs : ∀ j, j < N → defaultValue (ty j) = vp_V fs j) (hcells : cells + 1 ≤ R.cells) (hslots : slots + N ≤ R.slots) (hd : decode cc pc = .ok (.new index, 3))
    (kk : ∀ (q : Nat) (H1 : Heap), Wc_ D tys A (X ++ (Y ++ [(q, .inr (ci, fs))])) s H1 locs → W p l e R s m args below meth c H1 locs (cells + 1) (slots + N) Q (F0 m (pc + 3) ls (.ref q :: rest))) : W p l e R s m args below meth c H locs cells slots Q (F0 m pc ls rest) := by
  obtain ⟨hx, hb, hml, hown, hts⟩ := S
  obtain ⟨hP, hK, hD, hS, hA⟩ := hw
  refine va_new (ci := ci) (fs := fs) (C := C) (T := T) (N := N) hx hb hts hin ty hty hown (hts _ hcl) (hts _ hinst) (hts _ hini) hK hP hD hS hA hc hfs hcells hslots hd (fun q H1 hP1 hD1 hS1 => ?_)
  rw [List.append_assoc] at hP1 hD1
  exact kk q H1 ⟨hP1, hK, hD1, hS1, hA⟩
theorem kc_bl (av : List Value) (ws : va_W) : FrameBlind (va_Pc av (Wz_ D tys A ws)) := fun a U g mk h => by
  obtain ⟨h0, hP, hK, hD, hA⟩ := h
  exact ⟨h0, hP, va_K.moved (u := U) (U := U.calling g mk a) (Vm.Alike.refl U.vm) hK, hD, hA⟩
/-- a call of a constructor: its object is the last cell -/
theorem kc_init {na : Nat} {S0 : Type} {y : MethodName} {bytes : ByteArray} {maxL index mc ms : Nat} {rm : Room} {a : Nat} {As st0 : List Value} {ws : va_W} {post : S0 → Prop} {wu : S0 → va_W} (S : CallFix p m c cc nL s args lw_gd own) (hw : Wc_ D tys A ws s H locs) (hM : Met l y (.code y bytes maxL none :: lw_gd) rm (va_Pc (.ref a :: As) (Wz_ D tys A ws)) (va_Qv post (fun u t => Wz_ D tys A (wu u) t) A) mc ms A) (hcm : Cond.code y bytes maxL none ∈ lw_gd) (hini : Cond.initialized y.cls ∈ lw_gd) (hlk : Cond.methodLink own index y ∈ lw_gd) (him : Cond.instanceMethod y ∈ lw_gd) (hy1 : y.name = "<init>") (hds : y.cls ≠ "java/lang/invoke/MethodHandle" ∧ y.cls ≠ "java/lang/invoke/VarHandle" ∧ (parseMethodDescriptor y.desc).map (fun d => d.parameters.length) = some na) (hna : As.length = na) (hr0 : rm.cells = mc) (hr1 : rm.slots = ms) (hR : rm.frames + 1 ≤ R.frames ∧ 8 + (maxL + 11) + rm.locals ≤ R.locals) (hls : ls.size = nL) (hst : st0 = As.reverse ++ .ref a :: rest) (hro : (rest.map fun v => v.category).sum ≤ 8) (hcs : cells + mc ≤ R.cells ∧ slots + ms ≤ R.slots) (hd : decode cc pc = .ok (.invokespecial index, 3))
    (kk : ∀ (u : S0) (H1 : Heap) (locs1 : List Loc), post u → Wc_ D tys A (wu u) s H1 locs1 → W p l e R s m args below meth c H1 locs1 (cells + mc) (slots + ms) Q (F0 m (pc + 3) ls rest)) : W p l e R s m args below meth c H locs cells slots Q (F0 m pc ls st0) := by
  have hts := S.2.2.2.2
  obtain ⟨hP, hK, hD, hS, hA⟩ := hw
  refine va_callv (va_runI (As := As) (rest := rest) S hM ⟨callB_of na hts (goodT hcm) rfl hr0 hr1 (hts _ hini) (hts _ hlk) hds hR, hy1, hts _ him⟩ ⟨kc_bl _ _, fun U hU hW => ⟨rfl, by rw [hU]; exact hP, va_K.moved hW.alike hK, hD, fun q hq => hA q (Nat.le_trans hS.1 (by rw [hU] at hq; exact hq))⟩⟩ rfl hna hls hst (lv_room hro) hd hcs) hS (fun _ _ h => h) (fun _ h => h) (fun u t H1 locs1 ht hvm hp hB hz hk hS1 => ?_)
  obtain ⟨hP1, hK1, hD1, -⟩ := hB
  rw [ht] at hP1
  exact kk u H1 locs1 hp ⟨hP1, hK, hD1, hS1, hA⟩
/-- a call of a static method that answers an int and leaves the world alone -/
theorem kc_si {na : Nat} {y : MethodName} {bytes : ByteArray} {maxL index : Nat} {ret : Option FieldType} {rm : Room} {As st0 : List Value} {ws : va_W} {post : Int32 → Unit → Prop} (S : CallFix p m c cc nL s args lw_gd own) (hw : Wc_ D tys A ws s H locs) (hM : Met l y (.code y bytes maxL ret :: lw_gd) rm (va_Pc As (Wz_ D tys A ws)) (va_Qi post (fun _ t => Wz_ D tys A ws t) A) 0 0 A) (hcm : Cond.code y bytes maxL ret ∈ lw_gd) (hini : Cond.initialized y.cls ∈ lw_gd) (hlk : Cond.methodLink own index y ∈ lw_gd) (him : Cond.static y ∈ lw_gd) (hds : y.cls ≠ "java/lang/invoke/MethodHandle" ∧ y.cls ≠ "java/lang/invoke/VarHandle" ∧ (parseMethodDescriptor y.desc).map (fun d => d.parameters.length) = some na) (hna : As.length = na) (hr0 : rm.cells = 0) (hr1 : rm.slots = 0) (hR : rm.frames + 1 ≤ R.frames ∧ 8 + (maxL + 11) + rm.locals ≤ R.locals) (hls : ls.size = nL) (hst : st0 = As.reverse ++ rest) (hro : (rest.map fun v => v.category).sum ≤ 8) (hcs : cells ≤ R.cells ∧ slots ≤ R.slots) (hd : decode cc pc = .ok (.invokestatic index, 3))
    (kk : ∀ (r : Int32) (H1 : Heap) (locs1 : List Loc), post r () → Wc_ D tys A ws s H1 locs1 → W p l e R s m args below meth c H1 locs1 cells slots Q (F0 m (pc + 3) ls (.int r :: rest))) : W p l e R s m args below meth c H locs cells slots Q (F0 m pc ls st0) := by
  have hts := S.2.2.2.2
  obtain ⟨hP, hK, hD, hS, hA⟩ := hw
  refine va_calli (va_runS (As := As) (rest := rest) S hM ⟨callB_of na hts (goodT hcm) rfl hr0 hr1 (hts _ hini) (hts _ hlk) hds hR, hts _ him⟩ ⟨kc_bl _ _, fun U hU hW => ⟨rfl, by rw [hU]; exact hP, va_K.moved hW.alike hK, hD, fun q hq => hA q (Nat.le_trans hS.1 (by rw [hU] at hq; exact hq))⟩⟩ rfl hna hls hst (lv_room hro) hd hcs) hS (fun _ _ h => h) (fun _ h => h) (fun r u t H1 locs1 ht hvm hp hB hz hk hS1 => ?_)
  obtain ⟨hP1, hK1, hD1, -⟩ := hB
  rw [ht] at hP1
  exact kk r H1 locs1 hp ⟨hP1, hK, hD1, hS1, hA⟩
/-- a constructor's end -/
theorem kc_ret {S0 : Type} {post : S0 → Prop} {wu : S0 → va_W} (S : CallFix p m c cc nL s args lw_gd own) (hr : meth.sig.returnType = none) (hk : meth.locks = false) (u : S0) (hw : Wc_ D tys A (wu u) s H locs) (hp : post u) (hd : decode cc pc = .ok (.return_, 1)) : W p l e R s m args below meth c H locs cells slots (MQ below (va_Qv post (fun u t => Wz_ D tys A (wu u) t) A) args s cells slots A) (F0 m pc ls []) := by
  obtain ⟨hP, hK, hD, hS, hA⟩ := hw
  exact W.vret S.1 S.2.1 hr (fun t ht hW => ⟨⟨u, rfl, hp, by rw [ht]; exact hP, va_K.moved hW.alike hK, hD, fun q hq => hA q (Nat.le_trans hS.1 (by rw [ht] at hq; exact hq))⟩, hS.F ht⟩) hS.2.2 hd hk
/-- a static method's end, the world as it was -/
theorem kc_reti {ws : va_W} {post : Int32 → Unit → Prop} {v : Int32} (S : CallFix p m c cc nL s args lw_gd own) (hr : meth.sig.returnType = some .int) (hk : meth.locks = false) (hw : Wc_ D tys A ws s H locs) (hp : post v ()) (hd : decode cc pc = .ok (.ireturn, 1)) : W p l e R s m args below meth c H locs 0 0 (MQ below (va_Qi post (fun _ t => Wz_ D tys A ws t) A) args s 0 0 A) (F0 m pc ls [.int v]) := by
  obtain ⟨hP, hK, hD, hS, hA⟩ := hw
  exact W.iret S.1 S.2.1 hr (fun t ht hW => ⟨⟨v, (), rfl, hp, by rw [ht]; exact hP, va_K.moved hW.alike hK, hD, fun q hq => hA q (Nat.le_trans hS.1 (by rw [ht] at hq; exact hq))⟩, hS.F ht⟩) hS.2.2 hd hk
/-- a contract out of its walk -/
theorem kc_met {y : MethodName} {bytes : ByteArray} {maxL mc ms : Nat} {ret : Option FieldType} {rm : Room} {ws : va_W} {Qc : Array Value → State → Outcome → State → Prop} (hy : plainName y.cls = true) (avs : List Value) (hlen : (lg_sl avs).length ≤ maxL)
    (body : ∀ (p : Program) (e : Env) (s : State) (m : MethodId) (args : Array Value) (below : List Frame) (meth : Method) (c : Code) (ls : Array Slot), CallFix p m c bytes maxL s args lw_gd y.cls → meth.sig.returnType = ret → meth.locks = false → meth.name = y.name → Wc_ D tys A ws s s.heap [] → lv_has ls maxL (lv_args 0 avs) → W p l e rm s m args below meth c s.heap [] 0 0 (MQ below Qc args s mc ms A) (F0 m 0 ls [])) :
    Met l y (.code y bytes maxL ret :: lw_gd) rm (va_Pc avs (Wz_ D tys A ws)) Qc mc ms A := by
  refine Met.ofW (cc := bytes) (maxL := maxL) (ret := ret) hy rfl ?_
  intro p e s m args below meth c s₁ B hml hv
  obtain ⟨rfl, hP, hK, hD, hA⟩ := hv
  have hts := atoms_spec (ws := .code y bytes maxL ret :: lw_gd) B.pre
  have hl := lv_entry avs (n := maxL) hlen
  rw [lg_entry_eq]
  exact body p e s m _ below meth c _ ⟨B.exec, B.bytes, hml, findClass_of_methodNamed B.named, fun w h => hts w (List.mem_cons_of_mem _ h)⟩ B.returns B.notSynchronized (name_of_methodNamed B.named B.method).1 ⟨hP, hK, hD, va_S.rf, hA⟩ hl
end KC
