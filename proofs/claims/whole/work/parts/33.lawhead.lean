/-! the law from its entry to the head of its loop -/
def z00_ : ka_T := fun _ _ _ => 0
def ad_m (a0 : Nat × Nat → Nat) (h1 : Nat) (g : Nat → Nat) : Nat × Nat → Nat := fun x => if x.1 < 11 then a0 x else if x.1 = 11 then h1 else g (x.1 - 12)
theorem km_grow {cA : Nat → ClassId} {cf : Nat → Nat} {a0 : Nat × Nat → Nat} {h1 : Nat} {g : Nat → Nat} :
    kw_w (ks_k cf) a0 (ce_l cA cf a0 k00_ k00_) ++ [(h1, .inr (4, [.int (nI (cf 0)), .int (nI (cf 1)), .int (nI (cf 2)), .int (nI (cf 3)), .ref (g 0), .ref (g 1), .int 0, .int 0, .int 0, .ref (g 2), .ref (g 3), .ref (g 4), .ref (g 5), .ref (g 6), .ref (g 7), .ref (g 8), .ref (g 9), .ref (g 10), .ref (g 11), .ref (g 12), .ref (g 13), .ref (g 14), .ref (g 15), .int 0, .ref (g 16), .int 0, .int 0])), (g 0, .inl (cA 0, 64, .inl (fun _ => 0))), (g 1, .inl (cA 0, 16, .inl (fun _ => 0))), (g 2, .inl (cA 0, 8, .inl (fun _ => 0))), (g 3, .inl (cA 0, 8, .inl (fun _ => 0))), (g 4, .inl (cA 0, 8, .inl (fun _ => 0))), (g 5, .inl (cA 0, 8, .inl (fun _ => 0))), (g 6, .inl (cA 0, 128, .inl (fun _ => 0))), (g 7, .inl (cA 0, 8, .inl (fun _ => 0))), (g 8, .inl (cA 0, 32, .inl (fun _ => 0))), (g 9, .inl (cA 0, 8, .inl (fun _ => 0))), (g 10, .inl (cA 0, 8, .inl (fun _ => 0))), (g 11, .inl (cA 0, 8, .inl (fun _ => 0))), (g 12, .inl (cA 0, 8, .inl (fun _ => 0))), (g 13, .inl (cA 0, 8, .inl (fun _ => 0))), (g 14, .inl (cA 0, 4, .inl (fun _ => 0))), (g 15, .inl (cA 0, 24, .inl (fun _ => 0))), (g 16, .inl (cA 0, 32, .inl (fun _ => 0)))]
      = kw_w (ks_a cf) (ad_m a0 h1 g) (ce_l cA cf (ad_m a0 h1 g) k00_ z00_) := by
  unfold ks_a
  rw [kw_app]
  congr 1
  apply kw_cong
  intro x hx
  unfold ks_k at hx
  rcases List.mem_append.mp hx with hx | hx
  · simp only [List.mem_cons, List.not_mem_nil, or_false] at hx
    rcases hx with rfl | rfl | rfl | rfl | rfl <;> exact ⟨rfl, rfl⟩
  · rcases List.mem_append.mp hx with hx | hx
    · obtain ⟨i, hi, hx⟩ := kt_m hx
      rcases hx with rfl | rfl | rfl | rfl | rfl <;> exact ⟨rfl, rfl⟩
    · rcases List.mem_cons.mp hx with rfl | hx
      · exact ⟨rfl, rfl⟩
      · obtain ⟨i, hi, hx⟩ := kq_m hx
        rcases hx with rfl | rfl <;> exact ⟨rfl, rfl⟩
theorem lw_known {args : Array Value} {s : State} (hts : ∀ w ∈ lw_tbl, w.before args s = true) : ∃ (D : va_G) (cA : Nat → ClassId), va_K D cls5 (tys_3 cA) s ∧ kE_ s := by
  have htg : ∀ w ∈ lw_gd, w.before args s = true := fun w h => hts w (List.mem_filter.mp h).1
  obtain ⟨c0, i0, h0⟩ := u_known htg inX0 (htg _ wt_X0)
  obtain ⟨c1, i1, h1⟩ := u_known htg inX1 (htg _ wt_X1)
  obtain ⟨c2, i2, h2⟩ := u_known htg inX2 (htg _ wt_X2)
  obtain ⟨c3, i3, h3⟩ := u_known htg inX3 (htg _ wt_X3)
  obtain ⟨c4, i4, h4⟩ := u_known htg inX4 (htg _ wt_X4)
  obtain ⟨b0, k0, p0, e1, e2, e3⟩ := Cond.arrayClass_spec (htg _ wa_int)
  obtain ⟨p1, b1, k1, f1, f2, f3, f4, f5⟩ := Cond.arrayOver_spec (hts _ wo_X2)
  obtain ⟨p2, b2, k2, g1, g2, g3, g4, g5⟩ := Cond.arrayOver_spec (hts _ wo_X0)
  refine ⟨(fun i => match i with | 0 => c0 | 1 => c1 | 2 => c2 | 3 => c3 | _ => c4, fun i => match i with | 0 => i0 | 1 => i1 | 2 => i2 | 3 => i3 | _ => i4), fun i => match i with | 0 => b0 | 1 => b1 | _ => b2, ⟨?_, ?_⟩, va_AO.of (hts _ wo_X2), va_AO.of (hts _ wo_X0)⟩
  · intro c q hq
    match c, hq with
    | 0, hq => cases hq; exact h0
    | 1, hq => cases hq; exact h1
    | 2, hq => cases hq; exact h2
    | 3, hq => cases hq; exact h3
    | 4, hq => cases hq; exact h4
    | n + 5, hq => cases hq
  · intro k q hq
    match k, hq with
    | 0, hq => cases hq; exact ⟨fun n z => ⟨fun k h => (by cases h), k0, e2, p0, e3⟩, e1⟩
    | 1, hq => cases hq; exact ⟨fun n z => ⟨fun k h => (by cases h), k1, f3, p1, f4⟩, k1, p1, f3, f4, f1, f5⟩
    | 2, hq => cases hq; exact ⟨fun n z => ⟨fun k h => (by cases h), k2, g3, p2, g4⟩, k2, p2, g3, g4, g1, g5⟩
    | n + 3, hq => cases hq
/-- the sizes -/
def Cb_ (cf : Nat → Nat) : Prop := 1 ≤ cf 0 ∧ cf 0 ≤ 8 ∧ 1 ≤ cf 1 ∧ cf 1 ≤ 16 ∧ cf 2 ≤ 4 ∧ 1 ≤ cf 3 ∧ cf 3 ≤ 6
theorem lw_sizes (x1 x2 x3 x4 : Int32) : ∃ cf : Nat → Nat, Cb_ cf ∧ nr_ x1 1 8 = nI (cf 0) ∧ nr_ x2 1 16 = nI (cf 1) ∧ nr_ x3 0 4 = nI (cf 2) ∧ nr_ x4 1 6 = nI (cf 3) := by
  obtain ⟨a, a1, a2, a3⟩ := nr_in (x := x1) (lo := 1) (hi := 8) (a := 1) (b := 8) (by decide) (by decide) (by decide)
  obtain ⟨b, b1, b2, b3⟩ := nr_in (x := x2) (lo := 1) (hi := 16) (a := 1) (b := 16) (by decide) (by decide) (by decide)
  obtain ⟨c, c1, c2, c3⟩ := nr_in (x := x3) (lo := 0) (hi := 4) (a := 0) (b := 4) (by decide) (by decide) (by decide)
  obtain ⟨d, d1, d2, d3⟩ := nr_in (x := x4) (lo := 1) (hi := 6) (a := 1) (b := 6) (by decide) (by decide) (by decide)
  exact ⟨fun i => match i with | 0 => a | 1 => b | 2 => c | _ => d, ⟨a1, a2, b1, b2, c2, d1, d2⟩, a3, b3, c3, d3⟩
section KH
variable {p : Program} {e : Env} {s : State} {m : MethodId} {below : List Frame} {meth : Method} {c : Code} {l : Launch}
set_option maxRecDepth 100000 in
set_option maxHeartbeats 8000000 in
theorem lw_head {b L : Nat} {xs : Nat → Int32} (hL : L ≤ 2052) (C0 : lw_At p s m meth c b L xs)
    (kk : ∀ (D : va_G) (cA : Nat → ClassId) (cf : Nat → Nat) (ad : Nat × Nat → Nat) (H : Heap) (locs : List Loc) (ls : Array Slot), Cb_ cf → CallFix p m c code 4 s #[Value.ref b] lw_gd RL → lv_has ls 4 [(0, .ref b), (1, .ref (ad (0, 0))), (2, .ref (ad (11, 0))), (3, .int (4 : Int32))] → Wo_ D cA cf ad (fun q => s.heap.size ≤ q) k00_ z00_ s H locs → W p l e room_1 s m #[Value.ref b] below meth c H locs 600000 7302250 (lw_Z below #[Value.ref b] s) (F0 m 58 ls [])) :
    W p l e room_1 s m #[Value.ref b] below meth c s.heap [] 0 0 (lw_Z below #[Value.ref b] s) (entryFrame m ([Value.ref b] : List Value).toArray 4) := by
  obtain ⟨hx, hb, hr, hml, hown, hts, hX, hbl, hk, -⟩ := C0
  have S : CallFix p m c code 4 s #[Value.ref b] lw_gd RL := ⟨hx, hb, hml, hown, fun w h => hts w (List.mem_filter.mp h).1⟩
  obtain ⟨D, cA, hK, hE⟩ := lw_known hts
  obtain ⟨cf, hcb, hcf, hcw, hcq, hcr⟩ := lw_sizes (ce_s L xs 0) (ce_s L xs 1) (ce_s L xs 2) (ce_s L xs 3)
  obtain ⟨hb1, hb2, hb3, hb4, hb5, hb6, hb7⟩ := id hcb
  have hbA : ¬ (fun q => s.heap.size ≤ q) b := Nat.not_le.mpr hbl
  have hL2 : L < 2 ^ 31 := by omega
  have hl := lv_entry [Value.ref b] (n := 4) (Nat.le_of_ble_eq_true rfl)
  rw [lg_entry_eq]
  generalize (lg_sl [Value.ref b] ++ List.replicate (4 - (lg_sl [Value.ref b]).length) Slot.unset).toArray = ls at hl ⊢
  replace hl : lv_has ls 4 [(0, .ref b)] := hl
  have hw : Wc_ D (tys_3 cA) (fun q => s.heap.size ≤ q) ([] ++ []) s s.heap [] := ⟨fun k q h => (by cases h), hK, ⟨fun i j p q h => (by cases h), fun k q h => (by cases h)⟩, va_S.rf, fun q h => h⟩
  refine kc_new (X := []) (ci := 3) (fs := [.null, .null, .null, .null, .null, .int 0, .int 0, .int 0, .int 0]) S hw rfl inX3 tyX3 tyX3_ok wk_L_7 wt_X3 wn_X3 (by decide +kernel) (Nat.le_of_ble_eq_true rfl) (Nat.le_of_ble_eq_true rfl) dL_law_0 (fun h0 H hw => ?_)
  replace hw : Wc_ D (tys_3 cA) (fun q => s.heap.size ≤ q) [(h0, .inr (3, [.null, .null, .null, .null, .null, .int 0, .int 0, .int 0, .int 0]))] s _ _ := hw
  refine lv_dup S.1 S.2.1 dL_law_3 rfl ?_
  refine lv_aload_n S.1 S.2.1 dL_law_4 rfl (lv_at hl 0 rfl) ?_
  refine lv_iconst (v := nI 0) S.1 S.2.1 dL_law_5 (by decide) ?_
  refine call_L_cell 0 (by decide) hL2 S hw hX hbl hbA wl_L_9 wst_L_cell wn_L ⟨Nat.le_of_ble_eq_true rfl, Nat.le_of_ble_eq_true rfl⟩ hl.1 (Nat.le_of_ble_eq_true rfl) ⟨Nat.le_of_ble_eq_true rfl, Nat.le_of_ble_eq_true rfl⟩ dL_law_6 (fun H locs hw => ?_)
  refine lv_aload_n S.1 S.2.1 dL_law_9 rfl (lv_at hl 0 rfl) ?_
  refine lv_iconst (v := nI 1) S.1 S.2.1 dL_law_10 (by decide) ?_
  refine call_L_cell 1 (by decide) hL2 S hw hX hbl hbA wl_L_9 wst_L_cell wn_L ⟨Nat.le_of_ble_eq_true rfl, Nat.le_of_ble_eq_true rfl⟩ hl.1 (Nat.le_of_ble_eq_true rfl) ⟨Nat.le_of_ble_eq_true rfl, Nat.le_of_ble_eq_true rfl⟩ dL_law_11 (fun H locs hw => ?_)
  refine lv_aload_n S.1 S.2.1 dL_law_14 rfl (lv_at hl 0 rfl) ?_
  refine lv_iconst (v := nI 2) S.1 S.2.1 dL_law_15 (by decide) ?_
  refine call_L_cell 2 (by decide) hL2 S hw hX hbl hbA wl_L_9 wst_L_cell wn_L ⟨Nat.le_of_ble_eq_true rfl, Nat.le_of_ble_eq_true rfl⟩ hl.1 (Nat.le_of_ble_eq_true rfl) ⟨Nat.le_of_ble_eq_true rfl, Nat.le_of_ble_eq_true rfl⟩ dL_law_16 (fun H locs hw => ?_)
  refine lv_aload_n S.1 S.2.1 dL_law_19 rfl (lv_at hl 0 rfl) ?_
  refine lv_iconst (v := nI 3) S.1 S.2.1 dL_law_20 (by decide) ?_
  refine call_L_cell 3 (by decide) hL2 S hw hX hbl hbA wl_L_9 wst_L_cell wn_L ⟨Nat.le_of_ble_eq_true rfl, Nat.le_of_ble_eq_true rfl⟩ hl.1 (Nat.le_of_ble_eq_true rfl) ⟨Nat.le_of_ble_eq_true rfl, Nat.le_of_ble_eq_true rfl⟩ dL_law_21 (fun H locs hw => ?_)
  refine kc_initE S hw hE (c_X3_init (cf := cf) h0 (ce_s L xs 0) (ce_s L xs 1) (ce_s L xs 2) (ce_s L xs 3) hcf hb2 hcw hb4 hcq hb5 hcr hb7) wc_X3_init wn_X3 wl_L_15 wi_X3_init rfl (na := 4) (by decide +kernel) rfl rfl rfl ⟨Nat.le_of_ble_eq_true rfl, Nat.le_of_ble_eq_true rfl⟩ hl.1 (As := [.int (ce_s L xs 0), .int (ce_s L xs 1), .int (ce_s L xs 2), .int (ce_s L xs 3)]) rfl (Nat.le_of_ble_eq_true rfl) ⟨Nat.le_of_ble_eq_true rfl, Nat.le_of_ble_eq_true rfl⟩ dL_law_24 (fun a0 H locs ha0 hw => ?_)
  refine lv_astore_n (lv' := [(1, .ref h0), (0, .ref b)]) S.1 S.2.1 dL_law_27 rfl hl (by decide) rfl (fun ls hl => ?_)
  obtain ⟨Z, eZ⟩ : ∃ Z : va_W, Z = kw_w (ks_k cf) a0 (ce_l cA cf a0 k00_ k00_) := ⟨_, rfl⟩
  replace hw : Wc_ D (tys_3 cA) (fun q => s.heap.size ≤ q) (Z ++ []) s H locs := by rw [List.append_nil, eZ]; exact hw
  refine kc_new (ci := 4) (fs := [.int 0, .int 0, .int 0, .int 0, .null, .null, .int 0, .int 0, .int 0, .null, .null, .null, .null, .null, .null, .null, .null, .null, .null, .null, .null, .null, .null, .int 0, .null, .int 0, .int 0]) S hw rfl inX4 tyX4 tyX4_ok wk_L_18 wt_X4 wn_X4 (by decide +kernel) (Nat.le_of_ble_eq_true rfl) (Nat.le_of_ble_eq_true rfl) dL_law_28 (fun h1 H hw => ?_)
  replace hw : Wc_ D (tys_3 cA) (fun q => s.heap.size ≤ q) (Z ++ [(h1, .inr (4, [.int 0, .int 0, .int 0, .int 0, .null, .null, .int 0, .int 0, .int 0, .null, .null, .null, .null, .null, .null, .null, .null, .null, .null, .null, .null, .null, .null, .int 0, .null, .int 0, .int 0]))]) s _ _ := hw
  refine lv_dup S.1 S.2.1 dL_law_31 rfl ?_
  refine lv_aload_n S.1 S.2.1 dL_law_32 rfl (lv_at hl 1 rfl) ?_
  refine lv_iconst (v := nI 0) S.1 S.2.1 dL_law_33 (by decide) ?_
  refine call_L_cell 0 (by decide) hL2 S hw hX hbl hbA wl_L_9 wst_L_cell wn_L ⟨Nat.le_of_ble_eq_true rfl, Nat.le_of_ble_eq_true rfl⟩ hl.1 (Nat.le_of_ble_eq_true rfl) ⟨Nat.le_of_ble_eq_true rfl, Nat.le_of_ble_eq_true rfl⟩ dL_law_34 (fun H locs hw => ?_)
  refine lv_aload_n S.1 S.2.1 dL_law_37 rfl (lv_at hl 1 rfl) ?_
  refine lv_iconst (v := nI 1) S.1 S.2.1 dL_law_38 (by decide) ?_
  refine call_L_cell 1 (by decide) hL2 S hw hX hbl hbA wl_L_9 wst_L_cell wn_L ⟨Nat.le_of_ble_eq_true rfl, Nat.le_of_ble_eq_true rfl⟩ hl.1 (Nat.le_of_ble_eq_true rfl) ⟨Nat.le_of_ble_eq_true rfl, Nat.le_of_ble_eq_true rfl⟩ dL_law_39 (fun H locs hw => ?_)
  refine lv_aload_n S.1 S.2.1 dL_law_42 rfl (lv_at hl 1 rfl) ?_
  refine lv_iconst (v := nI 2) S.1 S.2.1 dL_law_43 (by decide) ?_
  refine call_L_cell 2 (by decide) hL2 S hw hX hbl hbA wl_L_9 wst_L_cell wn_L ⟨Nat.le_of_ble_eq_true rfl, Nat.le_of_ble_eq_true rfl⟩ hl.1 (Nat.le_of_ble_eq_true rfl) ⟨Nat.le_of_ble_eq_true rfl, Nat.le_of_ble_eq_true rfl⟩ dL_law_44 (fun H locs hw => ?_)
  refine lv_aload_n S.1 S.2.1 dL_law_47 rfl (lv_at hl 1 rfl) ?_
  refine lv_iconst (v := nI 3) S.1 S.2.1 dL_law_48 (by decide) ?_
  refine call_L_cell 3 (by decide) hL2 S hw hX hbl hbA wl_L_9 wst_L_cell wn_L ⟨Nat.le_of_ble_eq_true rfl, Nat.le_of_ble_eq_true rfl⟩ hl.1 (Nat.le_of_ble_eq_true rfl) ⟨Nat.le_of_ble_eq_true rfl, Nat.le_of_ble_eq_true rfl⟩ dL_law_49 (fun H locs hw => ?_)
  refine kc_init S hw (c_X4_init Z h1 (ce_s L xs 0) (ce_s L xs 1) (ce_s L xs 2) (ce_s L xs 3)) wc_X4_init wn_X4 wl_L_20 wi_X4_init rfl (na := 4) (by decide +kernel) rfl rfl rfl ⟨Nat.le_of_ble_eq_true rfl, Nat.le_of_ble_eq_true rfl⟩ hl.1 (As := [.int (ce_s L xs 0), .int (ce_s L xs 1), .int (ce_s L xs 2), .int (ce_s L xs 3)]) rfl (Nat.le_of_ble_eq_true rfl) ⟨Nat.le_of_ble_eq_true rfl, Nat.le_of_ble_eq_true rfl⟩ dL_law_52 (fun g H locs _ hw => ?_)
  refine lv_astore_n (lv' := [(2, .ref h1), (1, .ref h0), (0, .ref b)]) S.1 S.2.1 dL_law_55 rfl hl (by decide) rfl (fun ls hl => ?_)
  refine lv_iconst (v := (4 : Int32)) S.1 S.2.1 dL_law_56 (by decide) ?_
  refine lv_istore_n (lv' := [(3, .int (4 : Int32)), (2, .ref h1), (1, .ref h0), (0, .ref b)]) S.1 S.2.1 dL_law_57 rfl hl (by decide) rfl (fun ls hl => ?_)
  refine W.widen (k := 600000) (n := 7302250) (Nat.le_of_ble_eq_true rfl) (Nat.le_of_ble_eq_true rfl) ?_
  rw [hcf, hcw, hcq, hcr, eZ, km_grow] at hw
  obtain ⟨hP1, hK1, hD1, hS1, -⟩ := hw
  refine kk D cA cf (ad_m a0 h1 g) _ _ _ hcb S (lv_sub (l' := [(0, .ref b), (1, .ref (ad_m a0 h1 g (0, 0))), (2, .ref (ad_m a0 h1 g (11, 0))), (3, .int (4 : Int32))]) hl [3, 2, 1, 0] ?_) ⟨hP1, hK1, hD1, hS1⟩
  show [(0, Value.ref b), (1, .ref h0), (2, .ref h1), (3, .int (4 : Int32))] = [(0, .ref b), (1, .ref (a0 (0, 0))), (2, .ref h1), (3, .int (4 : Int32))]
  rw [ha0]
end KH
