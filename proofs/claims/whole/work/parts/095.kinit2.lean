/-! TaskKernel's constructor: its walk -/
abbrev yb_ (cA : Nat → ClassId) (h0 qc qe qo qt n : Nat) (mb : Value) (f : Nat → Option Nat) : va_W := [(h0, .inr (3, [.ref qt, mb, .ref qc, .ref qe, .ref qo, .int 0, .int 0, .int 0, .int 0])), (qc, .inl (cA 0, 64, .inl (fun _ => 0))), (qe, .inl (cA 0, 16, .inl (fun _ => 0))), (qo, .inl (cA 0, 32, .inl (fun _ => 0))), (qt, .inl (cA 1, n, .inr (.inr (.inr (.inr f)))))]
abbrev rmX3_init : Room := { frames := 3, cells := 53, slots := 576, locals := 55 }
section KJ
variable {p : Program} {l : Launch} {e : Env} {s : State} {m : MethodId} {args : Array Value} {below : List Frame} {meth : Method} {c : Code} {Q : State → Prop}
variable {D : va_G} {A : Nat → Prop} {cA : Nat → ClassId} {cf : Nat → Nat}
set_option maxRecDepth 100000 in
set_option maxHeartbeats 8000000 in
theorem ki_1 {h0 qc qe qo qt : Nat} {x3 x6 : Int32} (S : CallFix p m c cX3_init 8 s args lw_gd RX3) (h1 : cf 1 ≤ 16) (h8 : cf 0 ≤ 8)
    (kk : ∀ (ad : Nat × Nat → Nat) (H : Heap) (locs : List Loc) (ls : Array Slot), lv_has ls 8 [(0, .ref h0), (3, .int x3), (6, .int x6)] → Wc_ D (tys_3 cA) A (yb_ cA h0 qc qe qo qt (cf 0) .null (fun i => if i < cf 0 then some (ad (6, i)) else none) ++ kw_w (kt_ (cf 0)) ad (ce_l cA cf ad k00_ k00_)) s H locs → W p l e rmX3_init s m args below meth c H locs 44 496 Q (F0 m 118 ls [])) :
    ∀ (d t : Nat), t + d = cf 0 → ∀ (ad : Nat × Nat → Nat) (H : Heap) (locs : List Loc) (ls : Array Slot), lv_has ls 8 [(0, .ref h0), (3, .int x3), (5, .int (nI (cf 1))), (6, .int x6), (7, .int (nI t))] → Wc_ D (tys_3 cA) A (yb_ cA h0 qc qe qo qt (cf 0) .null (fun i => if i < t then some (ad (6, i)) else none) ++ kw_w (kt_ t) ad (ce_l cA cf ad k00_ k00_)) s H locs → W p l e rmX3_init s m args below meth c H locs (4 + 5 * t) (120 + 47 * t) Q (F0 m 84 ls []) := by
  intro d
  induction d with
  | zero =>
    intro t ht ad H locs ls hl hw
    have ht : t = cf 0 := by omega
    subst ht
    refine lv_iload S.1 S.2.1 dX3_init_84 (lv_at hl 4 rfl) ?_
    refine lv_aload_n S.1 S.2.1 dX3_init_86 rfl (lv_at hl 0 rfl) ?_
    refine kc_get S hw 0 rfl rfl inX3 0 (by decide) wf_X3_39 rfl dX3_init_87 ?_
    refine kc_len S hw 4 rfl 1 rfl dX3_init_90 ?_
    refine lv_icmp_ge (tgt := 118) S.1 S.2.1 dX3_init_91 rfl (fun _ => ?_) (fun h => absurd (nI_le (Nat.le_refl _) (by omega)) h)
    refine W.widen (k := 44) (n := 496) (by omega) (by omega) ?_
    exact kk ad _ _ _ (lv_sub hl [0, 1, 3] rfl) hw
  | succ d ih =>
    intro t ht ad H locs ls hl hw
    have htl : t < cf 0 := by omega
    refine lv_iload S.1 S.2.1 dX3_init_84 (lv_at hl 4 rfl) ?_
    refine lv_aload_n S.1 S.2.1 dX3_init_86 rfl (lv_at hl 0 rfl) ?_
    refine kc_get S hw 0 rfl rfl inX3 0 (by decide) wf_X3_39 rfl dX3_init_87 ?_
    refine kc_len S hw 4 rfl 1 rfl dX3_init_90 ?_
    refine lv_icmp_ge (tgt := 118) S.1 S.2.1 dX3_init_91 rfl (fun h => absurd h (nI_ge htl (show cf 0 < 2 ^ 31 by omega))) (fun _ => ?_)
    refine lv_aload_n S.1 S.2.1 dX3_init_94 rfl (lv_at hl 0 rfl) ?_
    refine kc_get S hw 0 rfl rfl inX3 0 (by decide) wf_X3_39 rfl dX3_init_95 ?_
    refine lv_iload S.1 S.2.1 dX3_init_98 (lv_at hl 4 rfl) ?_
    obtain ⟨tl, etl⟩ : ∃ tl : va_W, tl = kw_w (kt_ t) ad (ce_l cA cf ad k00_ k00_) := ⟨_, rfl⟩
    obtain ⟨f, ef⟩ : ∃ f : Nat → Option Nat, f = (fun i => if i < t then some (ad (6, i)) else none) := ⟨_, rfl⟩
    rw [← etl, ← ef] at hw
    replace hw : Wc_ D (tys_3 cA) A ((yb_ cA h0 qc qe qo qt (cf 0) .null f ++ tl) ++ []) s H locs := by rw [List.append_nil]; exact hw
    refine kc_new (ci := 2) (fs := [.int 0, .null, .null, .int 0, .int 0, .int 0, .int 0, .int 0, .int 0, .int 0, .int 0]) S hw rfl inX2 tyX2 tyX2_ok wk_X3_37 wt_X2 wn_X2 (by decide +kernel) (by show 4 + 5 * t + 1 ≤ 53; omega) (by show 120 + 47 * t + 11 ≤ 576; omega) dX3_init_100 (fun q H hw => ?_)
    replace hw : Wc_ D (tys_3 cA) A ((yb_ cA h0 qc qe qo qt (cf 0) .null f ++ tl) ++ [(q, .inr (2, [.int 0, .null, .null, .int 0, .int 0, .int 0, .int 0, .int 0, .int 0, .int 0, .int 0]))]) s _ _ := hw
    refine lv_dup S.1 S.2.1 dX3_init_103 rfl ?_
    refine lv_iload S.1 S.2.1 dX3_init_104 (lv_at hl 4 rfl) ?_
    refine lv_iload S.1 S.2.1 dX3_init_106 (lv_at hl 2 rfl) ?_
    refine kc_init S hw (c_X2_init _ q (nI t) (nI (cf 1)) (cf 1) (nI_pos (by omega)) (nI_clamp (by omega)) h1) wc_X2_init wn_X2 wl_X3_43 wi_X2_init rfl (na := 2) (by decide +kernel) rfl rfl rfl ⟨Nat.le_of_ble_eq_true rfl, Nat.le_of_ble_eq_true rfl⟩ hl.1 (As := [.int (nI t), .int (nI (cf 1))]) rfl (Nat.le_of_ble_eq_true rfl) ⟨by show 4 + 5 * t + 1 + 4 ≤ 53; omega, by show 120 + 47 * t + 11 + 36 ≤ 576; omega⟩ dX3_init_108 (fun g H locs _ hw => ?_)
    refine kc_ast S hw 4 1 ((yb_ cA h0 qc qe qo qt (cf 0) .null f ++ tl).length + 0) 2 rfl rfl (kx_at _ _ 0) rfl htl (by omega) rfl dX3_init_111 (fun H locs hw => ?_)
    refine lv_iinc (k := 4) (v := nI (t + 1)) (lv' := [(7, .int (nI (t + 1))), (0, .ref h0), (3, .int x3), (5, .int (nI (cf 1))), (6, .int x6)]) S.1 S.2.1 dX3_init_112 hl rfl (by rw [ii_1]; exact nI_1 t) (by decide) rfl (fun ls hl => ?_)
    refine lv_goto (tgt := 84) S.1 S.2.1 dX3_init_115 rfl ?_
    refine W.cs (cells' := 4 + 5 * (t + 1)) (slots' := 120 + 47 * (t + 1)) (by omega) (by omega) ?_
    refine ih (t + 1) (by omega) (ad_t ad t q g) _ _ _ (lv_sub hl [1, 2, 3, 4, 0] rfl) ?_
    have e1 : va_up f t (some q) = (fun i => if i < t + 1 then some (ad_t ad t q g (6, i)) else none) := by
      funext i
      rw [ef]
      by_cases h : i = t
      · subst h; simp [va_up, ad_t]
      · by_cases h2 : i < t
        · have h3 : i < t + 1 := by omega
          simp [va_up, h, h2, h3, ad_t]
        · have h3 : ¬ i < t + 1 := by omega
          simp [va_up, h, h2, h3]
    rw [← e1, ← kt_grow, ← etl, ← List.append_assoc]
    exact hw
set_option maxRecDepth 100000 in
set_option maxHeartbeats 8000000 in
theorem ki_2 {h0 qm : Nat} {v0 v2 v3 v4 : Value} {X : va_W} (S : CallFix p m c cX3_init 8 s args lw_gd RX3) (h3 : cf 3 ≤ 6) (h4 : cf 2 ≤ 4)
    (kk : ∀ (ad : Nat × Nat → Nat) (H : Heap) (locs : List Loc) (ls : Array Slot), Wc_ D (tys_3 cA) A (((h0, .inr (3, [v0, .ref qm, v2, v3, v4, .int 0, .int 0, .int 0, .int 0])) :: X) ++ ((qm, .inl (cA 2, cf 2, .inr (.inr (.inr (.inr (fun i => if i < cf 2 then some (ad (9, i)) else none)))))) :: kw_w (kq_ (cf 2)) ad (ce_l cA cf ad k00_ k00_))) s H locs → W p l e rmX3_init s m args below meth c H locs 53 576 Q (F0 m 166 ls [])) :
    ∀ (d t : Nat), t + d = cf 2 → ∀ (ad : Nat × Nat → Nat) (H : Heap) (locs : List Loc) (ls : Array Slot), lv_has ls 8 [(0, .ref h0), (6, .int (nI (cf 3))), (7, .int (nI t))] → Wc_ D (tys_3 cA) A (((h0, .inr (3, [v0, .ref qm, v2, v3, v4, .int 0, .int 0, .int 0, .int 0])) :: X) ++ ((qm, .inl (cA 2, cf 2, .inr (.inr (.inr (.inr (fun i => if i < t then some (ad (9, i)) else none)))))) :: kw_w (kq_ t) ad (ce_l cA cf ad k00_ k00_))) s H locs → W p l e rmX3_init s m args below meth c H locs (45 + 2 * t) (500 + 19 * t) Q (F0 m 134 ls []) := by
  intro d
  induction d with
  | zero =>
    intro t ht ad H locs ls hl hw
    have ht : t = cf 2 := by omega
    subst ht
    refine lv_iload S.1 S.2.1 dX3_init_134 (lv_at hl 2 rfl) ?_
    refine lv_aload_n S.1 S.2.1 dX3_init_136 rfl (lv_at hl 0 rfl) ?_
    refine kc_get S hw 0 rfl rfl inX3 1 (by decide) wf_X3_48 rfl dX3_init_137 ?_
    refine kc_len S hw (((h0, .inr (3, [v0, .ref qm, v2, v3, v4, .int 0, .int 0, .int 0, .int 0])) :: X : va_W).length + 0) (kx_at _ _ 0) 2 rfl dX3_init_140 ?_
    refine lv_icmp_ge (tgt := 166) S.1 S.2.1 dX3_init_141 rfl (fun _ => ?_) (fun h => absurd (nI_le (Nat.le_refl _) (by omega)) h)
    refine W.widen (k := 53) (n := 576) (by omega) (by omega) ?_
    exact kk ad _ _ _ hw
  | succ d ih =>
    intro t ht ad H locs ls hl hw
    have htl : t < cf 2 := by omega
    refine lv_iload S.1 S.2.1 dX3_init_134 (lv_at hl 2 rfl) ?_
    refine lv_aload_n S.1 S.2.1 dX3_init_136 rfl (lv_at hl 0 rfl) ?_
    refine kc_get S hw 0 rfl rfl inX3 1 (by decide) wf_X3_48 rfl dX3_init_137 ?_
    refine kc_len S hw (((h0, .inr (3, [v0, .ref qm, v2, v3, v4, .int 0, .int 0, .int 0, .int 0])) :: X : va_W).length + 0) (kx_at _ _ 0) 2 rfl dX3_init_140 ?_
    refine lv_icmp_ge (tgt := 166) S.1 S.2.1 dX3_init_141 rfl (fun h => absurd h (nI_ge htl (show cf 2 < 2 ^ 31 by omega))) (fun _ => ?_)
    refine lv_aload_n S.1 S.2.1 dX3_init_144 rfl (lv_at hl 0 rfl) ?_
    refine kc_get S hw 0 rfl rfl inX3 1 (by decide) wf_X3_48 rfl dX3_init_145 ?_
    refine lv_iload S.1 S.2.1 dX3_init_148 (lv_at hl 2 rfl) ?_
    obtain ⟨tl, etl⟩ : ∃ tl : va_W, tl = kw_w (kq_ t) ad (ce_l cA cf ad k00_ k00_) := ⟨_, rfl⟩
    obtain ⟨f, ef⟩ : ∃ f : Nat → Option Nat, f = (fun i => if i < t then some (ad (9, i)) else none) := ⟨_, rfl⟩
    obtain ⟨Z, eZ⟩ : ∃ Z : va_W, Z = (h0, .inr (3, [v0, .ref qm, v2, v3, v4, .int 0, .int 0, .int 0, .int 0])) :: X := ⟨_, rfl⟩
    rw [← etl, ← ef] at hw
    have hZ : Z[0]? = some (h0, .inr (3, [v0, .ref qm, v2, v3, v4, .int 0, .int 0, .int 0, .int 0])) := by rw [eZ]; rfl
    rw [← eZ] at hw
    replace hw : Wc_ D (tys_3 cA) A ((Z ++ ((qm, .inl (cA 2, cf 2, .inr (.inr (.inr (.inr f))))) :: tl)) ++ []) s H locs := by rw [List.append_nil]; exact hw
    refine kc_new (ci := 0) (fs := [.null, .int 0, .int 0]) S hw rfl inX0 tyX0 tyX0_ok wk_X3_46 wt_X0 wn_X0 (by decide +kernel) (by show 45 + 2 * t + 1 ≤ 53; omega) (by show 500 + 19 * t + 3 ≤ 576; omega) dX3_init_150 (fun q H hw => ?_)
    replace hw : Wc_ D (tys_3 cA) A ((Z ++ ((qm, .inl (cA 2, cf 2, .inr (.inr (.inr (.inr f))))) :: tl)) ++ [(q, .inr (0, [.null, .int 0, .int 0]))]) s _ _ := hw
    refine lv_dup S.1 S.2.1 dX3_init_153 rfl ?_
    refine lv_iload S.1 S.2.1 dX3_init_154 (lv_at hl 1 rfl) ?_
    refine kc_init S hw (c_X0_init _ q (nI (cf 3)) (cf 3) (nI_pos (by omega)) (nI_clamp (by omega)) (by omega)) wc_X0_init wn_X0 wl_X3_52 wi_X0_init rfl (na := 1) (by decide +kernel) rfl rfl rfl ⟨Nat.le_of_ble_eq_true rfl, Nat.le_of_ble_eq_true rfl⟩ hl.1 (As := [.int (nI (cf 3))]) rfl (Nat.le_of_ble_eq_true rfl) ⟨by show 45 + 2 * t + 1 + 1 ≤ 53; omega, by show 500 + 19 * t + 3 + 16 ≤ 576; omega⟩ dX3_init_156 (fun b H locs _ hw => ?_)
    replace hw : Wc_ D (tys_3 cA) A (Z ++ ((qm, .inl (cA 2, cf 2, .inr (.inr (.inr (.inr f))))) :: (tl ++ [(q, .inr (0, [.ref b, .int 0, .int 0])), (b, .inl (cA 0, cf 3, .inl (fun _ => 0)))]))) s H locs := by
      rw [List.append_assoc] at hw
      exact hw
    refine kc_ast (v := q) S hw (Z.length + 0) 2 (Z.length + (1 + (tl.length + 0))) 0 (kx_at _ _ 0) rfl (by rw [kx_at, Nat.add_comm 1, List.getElem?_cons_succ]; exact kx_at tl _ 0) rfl htl (by omega) (kx_set _ _ 0 _) dX3_init_159 (fun H locs hw => ?_)
    refine lv_iinc (k := 2) (v := nI (t + 1)) (lv' := [(7, .int (nI (t + 1))), (0, .ref h0), (6, .int (nI (cf 3)))]) S.1 S.2.1 dX3_init_160 hl rfl (by rw [ii_1]; exact nI_1 t) (by decide) rfl (fun ls hl => ?_)
    refine lv_goto (tgt := 134) S.1 S.2.1 dX3_init_163 rfl ?_
    refine W.cs (cells' := 45 + 2 * (t + 1)) (slots' := 500 + 19 * (t + 1)) (by omega) (by omega) ?_
    refine ih (t + 1) (by omega) (ad_q ad t q b) _ _ _ (lv_sub hl [1, 2, 0] rfl) ?_
    have e1 : va_up f t (some q) = (fun i => if i < t + 1 then some (ad_q ad t q b (9, i)) else none) := by
      funext i
      rw [ef]
      by_cases h : i = t
      · subst h; simp [va_up, ad_q]
      · by_cases h2 : i < t
        · have h3 : i < t + 1 := by omega
          simp [va_up, h, h2, h3, ad_q]
        · have h3 : ¬ i < t + 1 := by omega
          simp [va_up, h, h2, h3]
    rw [← e1, ← kq_grow, ← etl, ← eZ]
    exact hw
end KJ
