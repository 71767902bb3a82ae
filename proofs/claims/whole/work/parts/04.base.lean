/-! the world by keys: a cell stands at the address of its key (kind, number); rows over such a world, an instruction each -/
abbrev ka_T : Type := Nat → Nat → Nat → Int32
def k3_up (x : ka_T) (f n j : Nat) (v : Int32) : ka_T := fun f' n' j' => if f' = f ∧ n' = n ∧ j' = j then v else x f' n' j'
theorem k3_same (x : ka_T) (f n j : Nat) (v : Int32) : k3_up x f n j v f n j = v := by simp [k3_up]
def kk_up (c : Nat × Nat → va_E) (q : Nat × Nat) (e : va_E) : Nat × Nat → va_E := fun x => if x = q then e else c x
def kw_w (ks : List (Nat × Nat)) (ad : Nat × Nat → Nat) (c : Nat × Nat → va_E) : va_W := ks.map (fun q => (ad q, c q))
theorem kw_get {ks : List (Nat × Nat)} {ad : Nat × Nat → Nat} {c : Nat × Nat → va_E} {q : Nat × Nat} (h : q ∈ ks) : ∃ k : Nat, ks[k]? = some q ∧ (kw_w ks ad c)[k]? = some (ad q, c q) := by
  obtain ⟨k, hk⟩ := List.getElem?_of_mem h
  exact ⟨k, hk, by simp [kw_w, hk]⟩
theorem kw_set {A : Nat → Prop} {ks : List (Nat × Nat)} {ad : Nat × Nat → Nat} {c : Nat × Nat → va_E} {q : Nat × Nat} {k : Nat} {e : va_E} (hD : va_D A (kw_w ks ad c)) (hk : ks[k]? = some q) : (kw_w ks ad c).set k (ad q, e) = kw_w ks ad (kk_up c q e) := by
  apply List.ext_getElem?
  intro i
  by_cases hi : i = k
  · subst hi
    have hl : i < (kw_w ks ad c).length := by
      have := (List.getElem?_eq_some_iff.mp hk).1
      simpa [kw_w] using this
    rw [List.getElem?_set_self hl]
    simp [kw_w, hk, kk_up]
  · rw [List.getElem?_set_ne (fun h => hi h.symm)]
    simp only [kw_w, List.getElem?_map]
    cases hq : ks[i]? with
    | none => rfl
    | some x =>
      have hne : x ≠ q := fun ee => hi (hD.1 i k (ad x, c x) (ad q, c q) (by simp [kw_w, hq]) (by simp [kw_w, hk]) (by rw [ee]))
      simp [kk_up, hne]
theorem i32_ne {x k : Int32} {n : Int} (hk : k.toInt = n) (h : ¬ x = k) : ¬ x.toInt = n := fun e => h (Int32.toInt_inj.mp (e.trans hk.symm))
theorem ii_1 (x : Int32) : x + Int32.ofInt 1 = x + 1 := by rw [show Int32.ofInt 1 = (1 : Int32) from by decide]
theorem ii_4 (x : Int32) : x + Int32.ofInt 4 = x + 4 := by rw [show Int32.ofInt 4 = (4 : Int32) from by decide]
theorem vp_lt {i : Int32} {n : Nat} (h : vp_in i n) : i.toNatClampNeg < n := Nat.not_le.mp fun q => h (Or.inr q)
/-- an answer that is a Task or null, by its number -/
abbrev pq_ (cf : Nat → Nat) (ad : Nat × Nat → Nat) (post : Option Nat → ka_T → Prop) : Option Nat → ka_T → Prop := fun a u => ∃ r : Option Nat, a = r.map (fun n => ad (6, n)) ∧ (∀ n : Nat, r = some n → n < cf 0) ∧ post r u
/-- the world inside a method, at its start and end -/
def Wg_ (D : va_G) (tys : List (ClassId × FieldType)) (A : Nat → Prop) (ks : List (Nat × Nat)) (ad : Nat × Nat → Nat) (ce : Nat × Nat → va_E) (s : State) (H : Heap) (locs : List Loc) : Prop :=
  va_P D cls5 (kw_w ks ad ce) H ∧ va_K D cls5 tys s ∧ va_D A (kw_w ks ad ce) ∧ va_S A s.heap H locs
def Wu_ (D : va_G) (tys : List (ClassId × FieldType)) (A : Nat → Prop) (ks : List (Nat × Nat)) (ad : Nat × Nat → Nat) (ce : Nat × Nat → va_E) (U : State) : Prop :=
  va_P D cls5 (kw_w ks ad ce) U.heap ∧ va_K D cls5 tys U ∧ va_D A (kw_w ks ad ce)
section KB
variable {p : Program} {l : Launch} {e : Env} {R : Room} {s : State} {m : MethodId} {args : Array Value} {below : List Frame} {meth : Method} {c : Code} {H : Heap} {locs : List Loc} {cells slots : Nat} {Q : State → Prop}
variable {cc : ByteArray} {nL pc : Nat} {ls : Array Slot} {rest : List Value} {own : String} {D : va_G} {A : Nat → Prop} {tys : List (ClassId × FieldType)} {ks : List (Nat × Nat)} {ad : Nat × Nat → Nat} {ce : Nat × Nat → va_E}
theorem kg_get (S : CallFix p m c cc nL s args lw_gd own) (hw : Wg_ D tys A ks ad ce s H locs) {q : Nat × Nat} (hq : q ∈ ks) {ci : Nat} {fs : List Value} {C : String} {T : u_T} {N : Nat} (he : ce q = .inr (ci, fs)) (hc : cls5[ci]? = some (C, T, N)) (hin : ∀ w ∈ u_ws C T N, w ∈ lw_gd) (k : Nat) (hk : k < N) {index : Nat} (hl : Cond.fieldLink own index (T k).1 (T k).2.1 (T k).2.2.1 ∈ lw_gd) {v : Value} (hv : fs[k]? = some v) (hd : decode cc pc = .ok (.getfield index, 3))
    (kk : W p l e R s m args below meth c H locs cells slots Q (F0 m (pc + 3) ls (v :: rest))) : W p l e R s m args below meth c H locs cells slots Q (F0 m pc ls (.ref (ad q) :: rest)) := by
  obtain ⟨hx, hb, hml, hown, hts⟩ := S
  obtain ⟨hP, hK, hD, hS⟩ := hw
  obtain ⟨j, hj, hg⟩ := kw_get (ad := ad) (c := ce) hq
  rw [he] at hg
  exact va_get hx hb hts hin hown hK hP j hg hc k hk (hts _ hl) (fun _ h => h) hv hd kk
theorem kg_put (S : CallFix p m c cc nL s args lw_gd own) (hw : Wg_ D tys A ks ad ce s H locs) {q : Nat × Nat} (hq : q ∈ ks) {ci : Nat} {fs : List Value} {C : String} {T : u_T} {N : Nat} (he : ce q = .inr (ci, fs)) (hc : cls5[ci]? = some (C, T, N)) (hin : ∀ w ∈ u_ws C T N, w ∈ lw_gd) (ty0 : Nat → FieldType) (hty : ∀ k, k < N → parseFieldDescriptor (T k).2.2.1 = some (ty0 k)) (hnm : ∀ a, a < N → ∀ b, b < N → a ≠ b → (T a).2.1 ≠ (T b).2.1) (k : Nat) (hk : k < N) {index : Nat} (hl : Cond.fieldLink own index (T k).1 (T k).2.1 (T k).2.2.1 ∈ lw_gd) (hfin : (T k).2.2.2 = false) {ty : FieldType} {v : Value} (hpd : parseFieldDescriptor (T k).2.2.1 = some ty) (hn : narrow ty v = v) (hfit : fits ty v = true) (hlen : k < fs.length) {ce' : Nat × Nat → va_E} (hu : kk_up ce q (.inr (ci, fs.set k v)) = ce') (hd : decode cc pc = .ok (.putfield index, 3))
    (kk : ∀ (H1 : Heap) (locs1 : List Loc), Wg_ D tys A ks ad ce' s H1 locs1 → W p l e R s m args below meth c H1 locs1 cells slots Q (F0 m (pc + 3) ls rest)) : W p l e R s m args below meth c H locs cells slots Q (F0 m pc ls (v :: .ref (ad q) :: rest)) := by
  obtain ⟨hx, hb, hml, hown, hts⟩ := S
  obtain ⟨hP, hK, hD, hS⟩ := hw
  obtain ⟨j, hj, hg⟩ := kw_get (ad := ad) (c := ce) hq
  rw [he] at hg
  refine va_put hx hb hts hin ty0 hty hnm hown hK hP hD hS j hg hc k hk (hts _ hl) (fun _ h => h) hfin hpd hn hfit hlen hd (fun H1 locs1 h1 h2 h3 => ?_)
  rw [kw_set hD hj, hu] at h1 h2
  exact kk H1 locs1 ⟨h1, hK, h2, h3⟩
theorem kg_ild (S : CallFix p m c cc nL s args lw_gd own) (hw : Wg_ D tys A ks ad ce s H locs) {q : Nat × Nat} (hq : q ∈ ks) {cA : ClassId} {n : Nat} {f : Nat → Int32} (he : ce q = .inl (cA, n, .inl f)) (t0 : Nat) (ht : tys[t0]? = some (cA, .int)) {i : Int32} (hin : vp_in i n) (hd : decode cc pc = .ok (.iaload, 1))
    (kk : W p l e R s m args below meth c H locs cells slots Q (F0 m (pc + 1) ls (.int (f i.toNatClampNeg) :: rest))) : W p l e R s m args below meth c H locs cells slots Q (F0 m pc ls (.int i :: .ref (ad q) :: rest)) := by
  obtain ⟨hx, hb, hml, hown, hts⟩ := S
  obtain ⟨hP, hK, hD, hS⟩ := hw
  obtain ⟨j, hj, hg⟩ := kw_get (ad := ad) (c := ce) hq
  rw [he] at hg
  exact va_iald hx hb hK hP j t0 hg ht hin hd kk
theorem kg_ist (S : CallFix p m c cc nL s args lw_gd own) (hw : Wg_ D tys A ks ad ce s H locs) {q : Nat × Nat} (hq : q ∈ ks) {cA : ClassId} {n : Nat} {f : Nat → Int32} (he : ce q = .inl (cA, n, .inl f)) (t0 : Nat) (ht : tys[t0]? = some (cA, .int)) {i x : Int32} (hin : vp_in i n) {ce' : Nat × Nat → va_E} (hu : kk_up ce q (.inl (cA, n, .inl (upd f i.toNatClampNeg x))) = ce') (hd : decode cc pc = .ok (.iastore, 1))
    (kk : ∀ (H1 : Heap) (locs1 : List Loc), Wg_ D tys A ks ad ce' s H1 locs1 → W p l e R s m args below meth c H1 locs1 cells slots Q (F0 m (pc + 1) ls rest)) : W p l e R s m args below meth c H locs cells slots Q (F0 m pc ls (.int x :: .int i :: .ref (ad q) :: rest)) := by
  obtain ⟨hx, hb, hml, hown, hts⟩ := S
  obtain ⟨hP, hK, hD, hS⟩ := hw
  obtain ⟨j, hj, hg⟩ := kw_get (ad := ad) (c := ce) hq
  rw [he] at hg
  refine va_iast hx hb hK hP hD hS j t0 hg ht hin hd (fun H1 locs1 h1 h2 h3 => ?_)
  rw [kw_set hD hj, hu] at h1 h2
  exact kk H1 locs1 ⟨h1, hK, h2, h3⟩
theorem kg_ald (S : CallFix p m c cc nL s args lw_gd own) (hw : Wg_ D tys A ks ad ce s H locs) {q : Nat × Nat} (hq : q ∈ ks) {cA : ClassId} {n : Nat} {f : Nat → Option Nat} (he : ce q = .inl (cA, n, .inr (.inr (.inr (.inr f))))) (t0 : Nat) {C : String} (ht : tys[t0]? = some (cA, .object C)) {i : Int32} (hin : vp_in i n) {a : Nat} (hf : f i.toNatClampNeg = some a) (hd : decode cc pc = .ok (.aaload, 1))
    (kk : W p l e R s m args below meth c H locs cells slots Q (F0 m (pc + 1) ls (.ref a :: rest))) : W p l e R s m args below meth c H locs cells slots Q (F0 m pc ls (.int i :: .ref (ad q) :: rest)) := by
  obtain ⟨hx, hb, hml, hown, hts⟩ := S
  obtain ⟨hP, hK, hD, hS⟩ := hw
  obtain ⟨j, hj, hg⟩ := kw_get (ad := ad) (c := ce) hq
  rw [he] at hg
  exact va_aldq hx hb hK hP j t0 hg ht hin hd (by rw [hf]; exact kk)
theorem kg_len (S : CallFix p m c cc nL s args lw_gd own) (hw : Wg_ D tys A ks ad ce s H locs) {q : Nat × Nat} (hq : q ∈ ks) {cA : ClassId} {x : vp_A} (he : ce q = .inl (cA, x)) (t0 : Nat) {ty : FieldType} (ht : tys[t0]? = some (cA, ty)) (hd : decode cc pc = .ok (.arraylength, 1))
    (kk : W p l e R s m args below meth c H locs cells slots Q (F0 m (pc + 1) ls (.int (nI x.1) :: rest))) : W p l e R s m args below meth c H locs cells slots Q (F0 m pc ls (.ref (ad q) :: rest)) := by
  obtain ⟨hx, hb, hml, hown, hts⟩ := S
  obtain ⟨hP, hK, hD, hS⟩ := hw
  obtain ⟨j, hj, hg⟩ := kw_get (ad := ad) (c := ce) hq
  rw [he] at hg
  exact va_alen hx hb hK hP j t0 hg ht rfl hd kk
theorem kg_bl (av : List Value) : FrameBlind (va_Pc av (Wu_ D tys A ks ad ce)) := fun a U g mk h => by
  obtain ⟨h0, hP, hK, hD⟩ := h
  exact ⟨h0, hP, va_K.moved (u := U) (U := U.calling g mk a) (Vm.Alike.refl U.vm) hK, hD⟩
variable {S0 : Type} {cu : S0 → Nat × Nat → va_E} {y : MethodName} {bytes : ByteArray} {maxL index : Nat} {ret : Option FieldType} {rm : Room} {As st0 : List Value} {na : Nat}
theorem kg_sv (hw : Wg_ D tys A ks ad ce s H locs) (av : List Value) : PreS s H (va_Pc av (Wu_ D tys A ks ad ce)) av := ⟨kg_bl av, fun U hU hW => ⟨rfl, by rw [hU]; exact hw.1, va_K.moved hW.alike hw.2.1, hw.2.2.1⟩⟩
/-- a call of a method of an object: int, void, a reference or null -/
theorem kg_vi {post : Int32 → S0 → Prop} (S : CallFix p m c cc nL s args lw_gd own) (hw : Wg_ D tys A ks ad ce s H locs) {q : Nat × Nat} (hM : Met l y (.code y bytes maxL ret :: lw_gd) rm (va_Pc (.ref (ad q) :: As) (Wu_ D tys A ks ad ce)) (va_Qi post (fun u t => Wu_ D tys A ks ad (cu u) t) A) 0 0 A) (hcm : Cond.code y bytes maxL ret ∈ lw_gd) (hini : Cond.initialized y.cls ∈ lw_gd) (hlk : Cond.methodLink own index y ∈ lw_gd) (him : Cond.instanceMethod y ∈ lw_gd) {C : String} {T : u_T} {N ci : Nat} {fs : List Value} (hse : Cond.selects C y y ∈ lw_gd) (hq : q ∈ ks) (he : ce q = .inr (ci, fs)) (hc : cls5[ci]? = some (C, T, N)) (hds : y.cls ≠ "java/lang/invoke/MethodHandle" ∧ y.cls ≠ "java/lang/invoke/VarHandle" ∧ (parseMethodDescriptor y.desc).map (fun d => d.parameters.length) = some na) (hna : As.length = na) (hr0 : rm.cells = 0) (hr1 : rm.slots = 0) (hR : rm.frames + 1 ≤ R.frames ∧ 8 + (maxL + 11) + rm.locals ≤ R.locals) (hls : ls.size = nL) (hst : st0 = As.reverse ++ .ref (ad q) :: rest) (hro : (rest.map fun v => v.category).sum ≤ 8) (hcs : cells ≤ R.cells ∧ slots ≤ R.slots) (hd : decode cc pc = .ok (.invokevirtual index, 3))
    (kk : ∀ (r : Int32) (u : S0) (H1 : Heap) (locs1 : List Loc), post r u → Wg_ D tys A ks ad (cu u) s H1 locs1 → W p l e R s m args below meth c H1 locs1 cells slots Q (F0 m (pc + 3) ls (.int r :: rest))) : W p l e R s m args below meth c H locs cells slots Q (F0 m pc ls st0) := by
  have hts := S.2.2.2.2
  obtain ⟨j, hj, hg⟩ := kw_get (ad := ad) (c := ce) hq
  rw [he] at hg
  have hv := kg_sv (s := s) hw (.ref (ad q) :: As)
  refine va_calli (va_runV (As := As) (rest := rest) S hM ⟨callB_of na hts (goodT hcm) rfl hr0 hr1 (hts _ hini) (hts _ hlk) hds hR, hts _ him, hts _ hse⟩ ⟨hv.1, va_recv hw.2.1 hw.1 hc hg, hv.2⟩ rfl hna hls hst (lv_room hro) hd hcs) hw.2.2.2 (fun _ _ h => h) (fun _ h => h) (fun r u t H1 locs1 ht hvm hp hB hz hk hS1 => ?_)
  obtain ⟨hP1, hK1, hD1⟩ := hB
  rw [ht] at hP1
  exact kk r u H1 locs1 hp ⟨hP1, hw.2.1, hD1, hS1⟩
theorem kg_vv {post : S0 → Prop} (S : CallFix p m c cc nL s args lw_gd own) (hw : Wg_ D tys A ks ad ce s H locs) {q : Nat × Nat} (hM : Met l y (.code y bytes maxL ret :: lw_gd) rm (va_Pc (.ref (ad q) :: As) (Wu_ D tys A ks ad ce)) (va_Qv post (fun u t => Wu_ D tys A ks ad (cu u) t) A) 0 0 A) (hcm : Cond.code y bytes maxL ret ∈ lw_gd) (hini : Cond.initialized y.cls ∈ lw_gd) (hlk : Cond.methodLink own index y ∈ lw_gd) (him : Cond.instanceMethod y ∈ lw_gd) {C : String} {T : u_T} {N ci : Nat} {fs : List Value} (hse : Cond.selects C y y ∈ lw_gd) (hq : q ∈ ks) (he : ce q = .inr (ci, fs)) (hc : cls5[ci]? = some (C, T, N)) (hds : y.cls ≠ "java/lang/invoke/MethodHandle" ∧ y.cls ≠ "java/lang/invoke/VarHandle" ∧ (parseMethodDescriptor y.desc).map (fun d => d.parameters.length) = some na) (hna : As.length = na) (hr0 : rm.cells = 0) (hr1 : rm.slots = 0) (hR : rm.frames + 1 ≤ R.frames ∧ 8 + (maxL + 11) + rm.locals ≤ R.locals) (hls : ls.size = nL) (hst : st0 = As.reverse ++ .ref (ad q) :: rest) (hro : (rest.map fun v => v.category).sum ≤ 8) (hcs : cells ≤ R.cells ∧ slots ≤ R.slots) (hd : decode cc pc = .ok (.invokevirtual index, 3))
    (kk : ∀ (u : S0) (H1 : Heap) (locs1 : List Loc), post u → Wg_ D tys A ks ad (cu u) s H1 locs1 → W p l e R s m args below meth c H1 locs1 cells slots Q (F0 m (pc + 3) ls rest)) : W p l e R s m args below meth c H locs cells slots Q (F0 m pc ls st0) := by
  have hts := S.2.2.2.2
  obtain ⟨j, hj, hg⟩ := kw_get (ad := ad) (c := ce) hq
  rw [he] at hg
  have hv := kg_sv (s := s) hw (.ref (ad q) :: As)
  refine va_callv (va_runV (As := As) (rest := rest) S hM ⟨callB_of na hts (goodT hcm) rfl hr0 hr1 (hts _ hini) (hts _ hlk) hds hR, hts _ him, hts _ hse⟩ ⟨hv.1, va_recv hw.2.1 hw.1 hc hg, hv.2⟩ rfl hna hls hst (lv_room hro) hd hcs) hw.2.2.2 (fun _ _ h => h) (fun _ h => h) (fun u t H1 locs1 ht hvm hp hB hz hk hS1 => ?_)
  obtain ⟨hP1, hK1, hD1⟩ := hB
  rw [ht] at hP1
  exact kk u H1 locs1 hp ⟨hP1, hw.2.1, hD1, hS1⟩
theorem kg_vq {post : Option Nat → S0 → Prop} (S : CallFix p m c cc nL s args lw_gd own) (hw : Wg_ D tys A ks ad ce s H locs) {q : Nat × Nat} (hM : Met l y (.code y bytes maxL ret :: lw_gd) rm (va_Pc (.ref (ad q) :: As) (Wu_ D tys A ks ad ce)) (va_Qq post (fun u t => Wu_ D tys A ks ad (cu u) t) A) 0 0 A) (hcm : Cond.code y bytes maxL ret ∈ lw_gd) (hini : Cond.initialized y.cls ∈ lw_gd) (hlk : Cond.methodLink own index y ∈ lw_gd) (him : Cond.instanceMethod y ∈ lw_gd) {C : String} {T : u_T} {N ci : Nat} {fs : List Value} (hse : Cond.selects C y y ∈ lw_gd) (hq : q ∈ ks) (he : ce q = .inr (ci, fs)) (hc : cls5[ci]? = some (C, T, N)) (hds : y.cls ≠ "java/lang/invoke/MethodHandle" ∧ y.cls ≠ "java/lang/invoke/VarHandle" ∧ (parseMethodDescriptor y.desc).map (fun d => d.parameters.length) = some na) (hna : As.length = na) (hr0 : rm.cells = 0) (hr1 : rm.slots = 0) (hR : rm.frames + 1 ≤ R.frames ∧ 8 + (maxL + 11) + rm.locals ≤ R.locals) (hls : ls.size = nL) (hst : st0 = As.reverse ++ .ref (ad q) :: rest) (hro : (rest.map fun v => v.category).sum ≤ 8) (hcs : cells ≤ R.cells ∧ slots ≤ R.slots) (hd : decode cc pc = .ok (.invokevirtual index, 3))
    (kk : ∀ (r : Option Nat) (u : S0) (H1 : Heap) (locs1 : List Loc), post r u → Wg_ D tys A ks ad (cu u) s H1 locs1 → W p l e R s m args below meth c H1 locs1 cells slots Q (F0 m (pc + 3) ls (va_rf r :: rest))) : W p l e R s m args below meth c H locs cells slots Q (F0 m pc ls st0) := by
  have hts := S.2.2.2.2
  obtain ⟨j, hj, hg⟩ := kw_get (ad := ad) (c := ce) hq
  rw [he] at hg
  have hv := kg_sv (s := s) hw (.ref (ad q) :: As)
  refine va_callq (va_runV (As := As) (rest := rest) S hM ⟨callB_of na hts (goodT hcm) rfl hr0 hr1 (hts _ hini) (hts _ hlk) hds hR, hts _ him, hts _ hse⟩ ⟨hv.1, va_recv hw.2.1 hw.1 hc hg, hv.2⟩ rfl hna hls hst (lv_room hro) hd hcs) hw.2.2.2 (fun _ _ h => h) (fun _ h => h) (fun r u t H1 locs1 ht hvm hp hB hz hk hS1 => ?_)
  obtain ⟨hP1, hK1, hD1⟩ := hB
  rw [ht] at hP1
  exact kk r u H1 locs1 hp ⟨hP1, hw.2.1, hD1, hS1⟩
/-- a call of a static method: int, void -/
theorem kg_si {post : Int32 → S0 → Prop} (S : CallFix p m c cc nL s args lw_gd own) (hw : Wg_ D tys A ks ad ce s H locs) (hM : Met l y (.code y bytes maxL ret :: lw_gd) rm (va_Pc As (Wu_ D tys A ks ad ce)) (va_Qi post (fun u t => Wu_ D tys A ks ad (cu u) t) A) 0 0 A) (hcm : Cond.code y bytes maxL ret ∈ lw_gd) (hini : Cond.initialized y.cls ∈ lw_gd) (hlk : Cond.methodLink own index y ∈ lw_gd) (him : Cond.static y ∈ lw_gd) (hds : y.cls ≠ "java/lang/invoke/MethodHandle" ∧ y.cls ≠ "java/lang/invoke/VarHandle" ∧ (parseMethodDescriptor y.desc).map (fun d => d.parameters.length) = some na) (hna : As.length = na) (hr0 : rm.cells = 0) (hr1 : rm.slots = 0) (hR : rm.frames + 1 ≤ R.frames ∧ 8 + (maxL + 11) + rm.locals ≤ R.locals) (hls : ls.size = nL) (hst : st0 = As.reverse ++ rest) (hro : (rest.map fun v => v.category).sum ≤ 8) (hcs : cells ≤ R.cells ∧ slots ≤ R.slots) (hd : decode cc pc = .ok (.invokestatic index, 3))
    (kk : ∀ (r : Int32) (u : S0) (H1 : Heap) (locs1 : List Loc), post r u → Wg_ D tys A ks ad (cu u) s H1 locs1 → W p l e R s m args below meth c H1 locs1 cells slots Q (F0 m (pc + 3) ls (.int r :: rest))) : W p l e R s m args below meth c H locs cells slots Q (F0 m pc ls st0) := by
  have hts := S.2.2.2.2
  refine va_calli (va_runS (As := As) (rest := rest) S hM ⟨callB_of na hts (goodT hcm) rfl hr0 hr1 (hts _ hini) (hts _ hlk) hds hR, hts _ him⟩ (kg_sv hw As) rfl hna hls hst (lv_room hro) hd hcs) hw.2.2.2 (fun _ _ h => h) (fun _ h => h) (fun r u t H1 locs1 ht hvm hp hB hz hk hS1 => ?_)
  obtain ⟨hP1, hK1, hD1⟩ := hB
  rw [ht] at hP1
  exact kk r u H1 locs1 hp ⟨hP1, hw.2.1, hD1, hS1⟩
theorem kg_sw {post : S0 → Prop} (S : CallFix p m c cc nL s args lw_gd own) (hw : Wg_ D tys A ks ad ce s H locs) (hM : Met l y (.code y bytes maxL ret :: lw_gd) rm (va_Pc As (Wu_ D tys A ks ad ce)) (va_Qv post (fun u t => Wu_ D tys A ks ad (cu u) t) A) 0 0 A) (hcm : Cond.code y bytes maxL ret ∈ lw_gd) (hini : Cond.initialized y.cls ∈ lw_gd) (hlk : Cond.methodLink own index y ∈ lw_gd) (him : Cond.static y ∈ lw_gd) (hds : y.cls ≠ "java/lang/invoke/MethodHandle" ∧ y.cls ≠ "java/lang/invoke/VarHandle" ∧ (parseMethodDescriptor y.desc).map (fun d => d.parameters.length) = some na) (hna : As.length = na) (hr0 : rm.cells = 0) (hr1 : rm.slots = 0) (hR : rm.frames + 1 ≤ R.frames ∧ 8 + (maxL + 11) + rm.locals ≤ R.locals) (hls : ls.size = nL) (hst : st0 = As.reverse ++ rest) (hro : (rest.map fun v => v.category).sum ≤ 8) (hcs : cells ≤ R.cells ∧ slots ≤ R.slots) (hd : decode cc pc = .ok (.invokestatic index, 3))
    (kk : ∀ (u : S0) (H1 : Heap) (locs1 : List Loc), post u → Wg_ D tys A ks ad (cu u) s H1 locs1 → W p l e R s m args below meth c H1 locs1 cells slots Q (F0 m (pc + 3) ls rest)) : W p l e R s m args below meth c H locs cells slots Q (F0 m pc ls st0) := by
  have hts := S.2.2.2.2
  refine va_callv (va_runS (As := As) (rest := rest) S hM ⟨callB_of na hts (goodT hcm) rfl hr0 hr1 (hts _ hini) (hts _ hlk) hds hR, hts _ him⟩ (kg_sv hw As) rfl hna hls hst (lv_room hro) hd hcs) hw.2.2.2 (fun _ _ h => h) (fun _ h => h) (fun u t H1 locs1 ht hvm hp hB hz hk hS1 => ?_)
  obtain ⟨hP1, hK1, hD1⟩ := hB
  rw [ht] at hP1
  exact kk u H1 locs1 hp ⟨hP1, hw.2.1, hD1, hS1⟩
/-- the ends -/
theorem kr_i {post : Int32 → S0 → Prop} {v : Int32} {ty : FieldType} (S : CallFix p m c cc nL s args lw_gd own) (hr : meth.sig.returnType = some ty) (hn : narrow ty (.int v) = .int v) (hk : meth.locks = false) {u : S0} (hw : Wg_ D tys A ks ad (cu u) s H locs) (hp : post v u) (hd : decode cc pc = .ok (.ireturn, 1)) : W p l e R s m args below meth c H locs 0 0 (MQ below (va_Qi post (fun u t => Wu_ D tys A ks ad (cu u) t) A) args s 0 0 A) (F0 m pc ls [.int v]) :=
  W.zret S.1 S.2.1 hr hn (fun t ht hW => ⟨⟨v, u, rfl, hp, by rw [ht]; exact hw.1, va_K.moved hW.alike hw.2.1, hw.2.2.1⟩, hw.2.2.2.F ht⟩) hw.2.2.2.2.2 hd hk
theorem kr_v {post : S0 → Prop} (S : CallFix p m c cc nL s args lw_gd own) (hr : meth.sig.returnType = none) (hk : meth.locks = false) {u : S0} (hw : Wg_ D tys A ks ad (cu u) s H locs) (hp : post u) (hd : decode cc pc = .ok (.return_, 1)) : W p l e R s m args below meth c H locs 0 0 (MQ below (va_Qv post (fun u t => Wu_ D tys A ks ad (cu u) t) A) args s 0 0 A) (F0 m pc ls []) :=
  W.vret S.1 S.2.1 hr (fun t ht hW => ⟨⟨u, rfl, hp, by rw [ht]; exact hw.1, va_K.moved hW.alike hw.2.1, hw.2.2.1⟩, hw.2.2.2.F ht⟩) hw.2.2.2.2.2 hd hk
theorem kr_q {post : Option Nat → S0 → Prop} (r : Option Nat) {C : String} (S : CallFix p m c cc nL s args lw_gd own) (hr : meth.sig.returnType = some (.object C)) (hk : meth.locks = false) {u : S0} (hw : Wg_ D tys A ks ad (cu u) s H locs) (hp : post r u) (hd : decode cc pc = .ok (.areturn, 1)) : W p l e R s m args below meth c H locs 0 0 (MQ below (va_Qq post (fun u t => Wu_ D tys A ks ad (cu u) t) A) args s 0 0 A) (F0 m pc ls [va_rf r]) :=
  W.aret S.1 S.2.1 hr (Or.inl ⟨C, rfl⟩) (va_rf_or r) (fun t ht hW => ⟨⟨r, u, rfl, hp, by rw [ht]; exact hw.1, va_K.moved hW.alike hw.2.1, hw.2.2.1⟩, hw.2.2.2.F ht⟩) hw.2.2.2.2.2 hd hk
/-- a contract out of its walk -/
theorem kp_met {Qc : Array Value → State → Outcome → State → Prop} (hy : plainName y.cls = true) (avs : List Value) (hlen : (lg_sl avs).length ≤ maxL)
    (body : ∀ (p : Program) (e : Env) (s : State) (m : MethodId) (args : Array Value) (below : List Frame) (meth : Method) (c : Code) (ls : Array Slot), CallFix p m c bytes maxL s args lw_gd y.cls → meth.sig.returnType = ret → meth.locks = false → Wg_ D tys A ks ad ce s s.heap [] → lv_has ls maxL (lv_args 0 avs) → W p l e rm s m args below meth c s.heap [] 0 0 (MQ below Qc args s 0 0 A) (F0 m 0 ls [])) :
    Met l y (.code y bytes maxL ret :: lw_gd) rm (va_Pc avs (Wu_ D tys A ks ad ce)) Qc 0 0 A := by
  refine Met.ofW (cc := bytes) (maxL := maxL) (ret := ret) hy rfl ?_
  intro p e s m args below meth c s₁ B hml hv
  obtain ⟨rfl, hP, hK, hD⟩ := hv
  have hts := atoms_spec (ws := .code y bytes maxL ret :: lw_gd) B.pre
  have hl := lv_entry avs (n := maxL) hlen
  rw [lg_entry_eq]
  exact body p e s m _ below meth c _ ⟨B.exec, B.bytes, hml, findClass_of_methodNamed B.named, fun w h => hts w (List.mem_cons_of_mem _ h)⟩ B.returns B.notSynchronized ⟨hP, hK, hD, va_S.rf⟩ hl
/-- a switch: the default, also where the table names it -/
theorem kg_tab {dflt lo hi : Int} {offs : Array Int} {len : Nat} {x : Int32} {tgt : Nat} (S : CallFix p m c cc nL s args lw_gd own) (hd : decode cc pc = .ok (.tableswitch dflt lo hi offs, len)) (h : (x.toInt < lo ∨ hi < x.toInt) ∨ (¬ x.toInt < lo ∧ ¬ hi < x.toInt ∧ offs[(x.toInt - lo).toNat]? = some dflt)) (ht : (pc : Int) + dflt = (tgt : Int)) (k : W p l e R s m args below meth c H locs cells slots Q (F0 m tgt ls rest)) : W p l e R s m args below meth c H locs cells slots Q (F0 m pc ls (.int x :: rest)) := by
  rcases h with h | ⟨h1, h2, h3⟩
  · exact lv_tableOut S.1 S.2.1 hd h ht k
  · exact lv_tableIn S.1 S.2.1 hd h1 h2 h3 ht k
end KB
