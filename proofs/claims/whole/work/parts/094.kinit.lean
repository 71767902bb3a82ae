/-! TaskKernel's constructor: the tasks and the mailboxes come one by one -/
theorem kt_s (n : Nat) : kt_ (n + 1) = kt_ n ++ [(6, n), (7, 2 * n), (8, 2 * n), (7, 2 * n + 1), (8, 2 * n + 1)] := by simp [kt_, List.range_succ]
theorem kq_s (n : Nat) : kq_ (n + 1) = kq_ n ++ [(9, n), (10, n)] := by simp [kq_, List.range_succ]
theorem kt_m {n : Nat} {q : Nat × Nat} (h : q ∈ kt_ n) : ∃ i, i < n ∧ (q = (6, i) ∨ q = (7, 2 * i) ∨ q = (8, 2 * i) ∨ q = (7, 2 * i + 1) ∨ q = (8, 2 * i + 1)) := by
  simpa [kt_] using h
theorem kq_m {n : Nat} {q : Nat × Nat} (h : q ∈ kq_ n) : ∃ i, i < n ∧ (q = (9, i) ∨ q = (10, i)) := by
  simpa [kq_] using h
theorem kw_app (a b : List (Nat × Nat)) (ad : Nat × Nat → Nat) (c : Nat × Nat → va_E) : kw_w (a ++ b) ad c = kw_w a ad c ++ kw_w b ad c := List.map_append
theorem kw_cong {ks : List (Nat × Nat)} {ad ad' : Nat × Nat → Nat} {c c' : Nat × Nat → va_E} (h : ∀ q ∈ ks, ad q = ad' q ∧ c q = c' q) : kw_w ks ad c = kw_w ks ad' c' :=
  List.map_congr_left (fun q hq => by rw [(h q hq).1, (h q hq).2])
def k00_ : ka_T := fun f _ _ => if f = 208 then -1 else 0
section KI
variable {p : Program} {l : Launch} {e : Env} {R : Room} {s : State} {m : MethodId} {args : Array Value} {below : List Frame} {meth : Method} {c : Code} {H : Heap} {locs : List Loc} {cells slots : Nat} {Q : State → Prop}
variable {cc : ByteArray} {nL pc : Nat} {ls : Array Slot} {rest : List Value} {own : String} {D : va_G} {A : Nat → Prop} {tys : List (ClassId × FieldType)} {ws : va_W}
theorem kc_get (S : CallFix p m c cc nL s args lw_gd own) (hw : Wc_ D tys A ws s H locs) (j : Nat) {a ci : Nat} {fs : List Value} {C : String} {T : u_T} {N : Nat} (he : ws[j]? = some (a, .inr (ci, fs))) (hc : cls5[ci]? = some (C, T, N)) (hin : ∀ w ∈ u_ws C T N, w ∈ lw_gd) (k : Nat) (hk : k < N) {index : Nat} (hl : Cond.fieldLink own index (T k).1 (T k).2.1 (T k).2.2.1 ∈ lw_gd) {v : Value} (hv : fs[k]? = some v) (hd : decode cc pc = .ok (.getfield index, 3))
    (kk : W p l e R s m args below meth c H locs cells slots Q (F0 m (pc + 3) ls (v :: rest))) : W p l e R s m args below meth c H locs cells slots Q (F0 m pc ls (.ref a :: rest)) := by
  obtain ⟨hx, hb, hml, hown, hts⟩ := S
  obtain ⟨hP, hK, hD, hS, hA⟩ := hw
  exact va_get hx hb hts hin hown hK hP j he hc k hk (hts _ hl) (fun _ h => h) hv hd kk
theorem kc_len (S : CallFix p m c cc nL s args lw_gd own) (hw : Wc_ D tys A ws s H locs) (j : Nat) {a : Nat} {cA : ClassId} {x : vp_A} (he : ws[j]? = some (a, .inl (cA, x))) (t0 : Nat) {ty : FieldType} (ht : tys[t0]? = some (cA, ty)) (hd : decode cc pc = .ok (.arraylength, 1))
    (kk : W p l e R s m args below meth c H locs cells slots Q (F0 m (pc + 1) ls (.int (nI x.1) :: rest))) : W p l e R s m args below meth c H locs cells slots Q (F0 m pc ls (.ref a :: rest)) := by
  obtain ⟨hx, hb, hml, hown, hts⟩ := S
  obtain ⟨hP, hK, hD, hS, hA⟩ := hw
  exact va_alen hx hb hK hP j t0 he ht rfl hd kk
theorem kc_ast (S : CallFix p m c cc nL s args lw_gd own) (hw : Wc_ D tys A ws s H locs) (j t0 jk ci : Nat) {a v n : Nat} {cA : ClassId} {r : vw_C} {vs : List Value} {f : Nat → Option Nat} (he : ws[j]? = some (a, .inl (cA, n, .inr (.inr (.inr (.inr f)))))) (ht : tys[t0]? = some (cA, .object r.1)) (hv : ws[jk]? = some (v, .inr (ci, vs))) (hc : cls5[ci]? = some r) {i : Nat} (hi : i < n) (hn : n ≤ 1000) {ws' : va_W} (hw' : ws.set j (a, .inl (cA, n, .inr (.inr (.inr (.inr (va_up f i (some v))))))) = ws') (hd : decode cc pc = .ok (.aastore, 1))
    (kk : ∀ (H1 : Heap) (locs1 : List Loc), Wc_ D tys A ws' s H1 locs1 → W p l e R s m args below meth c H1 locs1 cells slots Q (F0 m (pc + 1) ls rest)) : W p l e R s m args below meth c H locs cells slots Q (F0 m pc ls (.ref v :: .int (nI i) :: .ref a :: rest)) := by
  obtain ⟨hx, hb, hml, hown, hts⟩ := S
  obtain ⟨hP, hK, hD, hS, hA⟩ := hw
  refine va_astq hx hb hK hP hD hS j t0 jk ci he ht hv hc (vp_in_nI hi (by omega)) hd (fun H1 locs1 h1 h2 h3 => ?_)
  rw [nI_clamp (by omega), hw'] at h1 h2
  exact kk H1 locs1 ⟨h1, hK, h2, h3, hA⟩
end KI
/-- one task more -/
def ad_t (ad : Nat × Nat → Nat) (t q : Nat) (g : Nat → Nat) : Nat × Nat → Nat := fun x => if x = (6, t) then q else if x = (7, 2 * t) then g 0 else if x = (8, 2 * t) then g 1 else if x = (7, 2 * t + 1) then g 2 else if x = (8, 2 * t + 1) then g 3 else ad x
theorem ad_t_old (ad : Nat × Nat → Nat) (t q : Nat) (g : Nat → Nat) {x : Nat × Nat} (h1 : x ≠ (6, t)) (h2 : x ≠ (7, 2 * t)) (h3 : x ≠ (8, 2 * t)) (h4 : x ≠ (7, 2 * t + 1)) (h5 : x ≠ (8, 2 * t + 1)) : ad_t ad t q g x = ad x := by
  simp [ad_t, h1, h2, h3, h4, h5]
theorem kt_grow {cA : Nat → ClassId} {cf : Nat → Nat} {ad : Nat × Nat → Nat} {z : ka_T} (t q : Nat) (g : Nat → Nat) :
    kw_w (kt_ t) ad (ce_l cA cf ad k00_ z) ++ [(q, .inr (2, [.int (nI t), .ref (g 0), .ref (g 2), .int 0, .int 0, .int 0, .int 0, .int 0, .int (-1), .int 0, .int 0])), (g 0, .inr (1, [.ref (g 1), .int 0])), (g 1, .inl (cA 0, cf 1, .inl (fun _ => 0))), (g 2, .inr (1, [.ref (g 3), .int 0])), (g 3, .inl (cA 0, 4, .inl (fun _ => 0)))]
      = kw_w (kt_ (t + 1)) (ad_t ad t q g) (ce_l cA cf (ad_t ad t q g) k00_ z) := by
  rw [kt_s, kw_app]
  congr 1
  · apply kw_cong
    intro x hx
    obtain ⟨i, hi, hx⟩ := kt_m hx
    have old : ∀ y : Nat × Nat, (y = (6, i) ∨ y = (7, 2 * i) ∨ y = (8, 2 * i) ∨ y = (7, 2 * i + 1) ∨ y = (8, 2 * i + 1)) → ad_t ad t q g y = ad y := fun y hy => by
      apply ad_t_old <;> (rcases hy with rfl | rfl | rfl | rfl | rfl) <;> (intro h; simp only [Prod.mk.injEq] at h; omega)
    refine ⟨(old x hx).symm, ?_⟩
    rcases hx with rfl | rfl | rfl | rfl | rfl
    · simp only [ce_l, fx_6, old (7, 2 * i) (Or.inr (Or.inl rfl)), old (7, 2 * i + 1) (Or.inr (Or.inr (Or.inr (Or.inl rfl))))]
    · simp only [ce_l, fx_7, old (8, 2 * i) (Or.inr (Or.inr (Or.inl rfl)))]
    · rfl
    · simp only [ce_l, fx_7, old (8, 2 * i + 1) (Or.inr (Or.inr (Or.inr (Or.inr rfl))))]
    · rfl
  · have e0 : ad_t ad t q g (6, t) = q := by simp [ad_t]
    have e1 : ad_t ad t q g (7, 2 * t) = g 0 := by simp [ad_t]
    have e2 : ad_t ad t q g (8, 2 * t) = g 1 := by simp [ad_t]
    have e3 : ad_t ad t q g (7, 2 * t + 1) = g 2 := by simp [ad_t]
    have e4 : ad_t ad t q g (8, 2 * t + 1) = g 3 := by simp [ad_t]
    have p1 : pl_n cf (2 * t) = cf 1 := by simp [pl_n]
    have p2 : pl_n cf (2 * t + 1) = 4 := by
      have h : ¬ (2 * t + 1) % 2 = 0 := by omega
      simp [pl_n, h]
    simp only [kw_w, List.map_cons, List.map_nil, ce_l, fx_6, fx_7, e0, e1, e2, e3, e4, p1, p2]
    rfl
/-- one mailbox more -/
def ad_q (ad : Nat × Nat → Nat) (t q b : Nat) : Nat × Nat → Nat := fun x => if x = (9, t) then q else if x = (10, t) then b else ad x
theorem kq_grow {cA : Nat → ClassId} {cf : Nat → Nat} {ad : Nat × Nat → Nat} {z : ka_T} (t q b : Nat) :
    kw_w (kq_ t) ad (ce_l cA cf ad k00_ z) ++ [(q, .inr (0, [.ref b, .int 0, .int 0])), (b, .inl (cA 0, cf 3, .inl (fun _ => 0)))]
      = kw_w (kq_ (t + 1)) (ad_q ad t q b) (ce_l cA cf (ad_q ad t q b) k00_ z) := by
  rw [kq_s, kw_app]
  congr 1
  · apply kw_cong
    intro x hx
    obtain ⟨i, hi, hx⟩ := kq_m hx
    have old : ∀ y : Nat × Nat, (y = (9, i) ∨ y = (10, i)) → ad_q ad t q b y = ad y := fun y hy => by
      have h1 : y ≠ (9, t) := by rcases hy with rfl | rfl <;> (intro h; simp only [Prod.mk.injEq] at h; omega)
      have h2 : y ≠ (10, t) := by rcases hy with rfl | rfl <;> (intro h; simp only [Prod.mk.injEq] at h; omega)
      simp [ad_q, h1, h2]
    refine ⟨(old x hx).symm, ?_⟩
    rcases hx with rfl | rfl
    · simp only [ce_l, fx_9, old (10, i) (Or.inr rfl)]
    · rfl
  · have e0 : ad_q ad t q b (9, t) = q := by simp [ad_q]
    have e1 : ad_q ad t q b (10, t) = b := by simp [ad_q]
    simp only [kw_w, List.map_cons, List.map_nil, ce_l, fx_9, e0, e1]
    rfl
