section KL
variable {p : Program} {l : Launch} {e : Env} {R : Room} {s : State} {m : MethodId} {args : Array Value} {below : List Frame} {meth : Method} {c : Code} {H : Heap} {locs : List Loc} {cells slots : Nat} {Q : State → Prop}
variable {cc : ByteArray} {nL pc : Nat} {ls : Array Slot} {rest : List Value} {own : String} {D : va_G} {A : Nat → Prop} {cA : Nat → ClassId} {cf : Nat → Nat} {ad : Nat × Nat → Nat}
set_option maxRecDepth 100000 in
set_option maxHeartbeats 8000000 in
theorem b_law_l {b L : Nat} {xs : Nat → Int32} (S : CallFix p m c code 4 s #[Value.ref b] lw_gd RL) (hr : meth.sig.returnType = ret) (hk : meth.locks = false) (hX : va_X b L xs s s.heap) (hbl : b < s.heap.size) : ∀ (nf : Nat) (x3 : Int32) (k0 z0 : ka_T) (H : Heap) (locs : List Loc) (ls : Array Slot), lv_has ls 4 [(0, .ref b), (1, .ref (ad (0, 0))), (2, .ref (ad (11, 0))), (3, .int x3)] → Wo_ D cA cf ad (fun q => s.heap.size ≤ q) k0 z0 s H locs → q_law_l cf xs L nf x3 k0 z0 → W p l e room_1 s m #[Value.ref b] below meth c H locs 600000 7302250 (lw_Z below #[Value.ref b] s) (F0 m 58 ls []) := by
  intro nf
  induction nf with
  | zero =>
    intro x3 k0 z0 H locs ls hl hw hq
    exact False.elim hq
  | succ nf ih =>
    intro x3 k0 z0 H locs ls hl hw hq
    refine lv_iload_n S.1 S.2.1 dL_law_58 rfl (lv_at hl 3 rfl) ?_
    refine lv_aload_n S.1 S.2.1 dL_law_59 rfl (lv_at hl 0 rfl) ?_
    refine va_slen S.1 S.2.1 hX hbl (Nat.not_le.mpr hbl) hw.2.2.2 dL_law_60 ?_
    refine lv_iconst (v := (4 : Int32)) S.1 S.2.1 dL_law_61 (by decide) ?_
    refine lv_isub S.1 S.2.1 dL_law_62 ?_
    refine lv_icmp_gt (tgt := 616) S.1 S.2.1 dL_law_63 rfl (fun h1 => ?_) (fun h1 => ?_)
    · replace hq := hq.1 h1
      refine lv_iconst (v := (1 : Int32)) S.1 S.2.1 dL_law_616 (by decide) ?_
      exact va_forget (fun q h => hw.2.2.2.2.2 q h) (lw_ret S.1 S.2.1 hr hk dL_law_617)
    · replace hq := hq.2 h1
      refine lv_aload_n S.1 S.2.1 dL_law_66 rfl (lv_at hl 0 rfl) ?_
      refine lv_iload_n S.1 S.2.1 dL_law_67 rfl (lv_at hl 3 rfl) ?_
      obtain ⟨hi, hq⟩ := hq
      refine va_sld S.1 S.2.1 hX hbl (Nat.not_le.mpr hbl) hw.2.2.2 hi dL_law_68 ?_
      refine lv_bipush (v := (31 : Int32)) S.1 S.2.1 dL_law_69 (by decide) ?_
      refine lv_iand S.1 S.2.1 dL_law_71 ?_
      by_cases h2_0 : ((xs x3.toNatClampNeg) &&& (31 : Int32)) = (0 : Int32)
      · replace hq := hq.1 h2_0
        refine lv_tableIn (off := 88) (tgt := 160) S.1 S.2.1 dL_law_72 (by rw [h2_0]; decide) (by rw [h2_0]; decide) (by rw [h2_0]; rfl) rfl ?_
        refine lv_aload_n S.1 S.2.1 dL_law_160 rfl (lv_at hl 1 rfl) ?_
        refine lv_aload_n S.1 S.2.1 dL_law_161 rfl (lv_at hl 0 rfl) ?_
        refine lv_iload_n S.1 S.2.1 dL_law_162 rfl (lv_at hl 3 rfl) ?_
        refine lv_iconst (v := (1 : Int32)) S.1 S.2.1 dL_law_163 (by decide) ?_
        refine lv_iadd S.1 S.2.1 dL_law_164 ?_
        obtain ⟨hi, hq⟩ := hq
        refine va_sld S.1 S.2.1 hX hbl (Nat.not_le.mpr hbl) hw.2.2.2 hi dL_law_165 ?_
        refine lv_aload_n S.1 S.2.1 dL_law_166 rfl (lv_at hl 0 rfl) ?_
        refine lv_iload_n S.1 S.2.1 dL_law_167 rfl (lv_at hl 3 rfl) ?_
        refine lv_iconst (v := (2 : Int32)) S.1 S.2.1 dL_law_168 (by decide) ?_
        refine lv_iadd S.1 S.2.1 dL_law_169 ?_
        obtain ⟨hi, hq⟩ := hq
        refine va_sld S.1 S.2.1 hX hbl (Nat.not_le.mpr hbl) hw.2.2.2 hi dL_law_170 ?_
        refine call_X3_poke S hw wl_L_21 hq ⟨Nat.le_of_ble_eq_true rfl, Nat.le_of_ble_eq_true rfl⟩ hl.1 (Nat.le_of_ble_eq_true rfl) ⟨Nat.le_of_ble_eq_true rfl, Nat.le_of_ble_eq_true rfl⟩ dL_law_171 (fun r3 k3 H locs hq hw => ?_)
        refine lv_aload_n S.1 S.2.1 dL_law_174 rfl (lv_at hl 2 rfl) ?_
        refine lv_aload_n S.1 S.2.1 dL_law_175 rfl (lv_at hl 0 rfl) ?_
        refine lv_iload_n S.1 S.2.1 dL_law_176 rfl (lv_at hl 3 rfl) ?_
        refine lv_iconst (v := (1 : Int32)) S.1 S.2.1 dL_law_177 (by decide) ?_
        refine lv_iadd S.1 S.2.1 dL_law_178 ?_
        obtain ⟨hi, hq⟩ := hq
        refine va_sld S.1 S.2.1 hX hbl (Nat.not_le.mpr hbl) hw.2.2.2 hi dL_law_179 ?_
        refine lv_aload_n S.1 S.2.1 dL_law_180 rfl (lv_at hl 0 rfl) ?_
        refine lv_iload_n S.1 S.2.1 dL_law_181 rfl (lv_at hl 3 rfl) ?_
        refine lv_iconst (v := (2 : Int32)) S.1 S.2.1 dL_law_182 (by decide) ?_
        refine lv_iadd S.1 S.2.1 dL_law_183 ?_
        obtain ⟨hi, hq⟩ := hq
        refine va_sld S.1 S.2.1 hX hbl (Nat.not_le.mpr hbl) hw.2.2.2 hi dL_law_184 ?_
        refine call_X4_poke S hw wl_L_25 hq ⟨Nat.le_of_ble_eq_true rfl, Nat.le_of_ble_eq_true rfl⟩ hl.1 (Nat.le_of_ble_eq_true rfl) ⟨Nat.le_of_ble_eq_true rfl, Nat.le_of_ble_eq_true rfl⟩ dL_law_185 (fun r4 k4 H locs hq hw => ?_)
        refine lv_icmp_eq (tgt := 610) S.1 S.2.1 dL_law_188 rfl (fun h5 => ?_) (fun h5 => ?_)
        · replace hq := hq.1 h5
          refine lv_iinc (k := 3) (v := (x3 + 4)) (lv' := [(3, .int (x3 + 4)), (0, .ref b), (1, .ref (ad (0, 0))), (2, .ref (ad (11, 0)))]) S.1 S.2.1 dL_law_610 hl rfl (ii_4 _) (by decide) rfl (fun ls hl => ?_)
          refine lv_goto (tgt := 58) S.1 S.2.1 dL_law_613 rfl ?_
          exact ih (x3 + 4) k3 k4 _ _ _ (lv_sub hl [1, 2, 3, 0] rfl) hw hq
        · replace hq := hq.2 h5
          refine lv_iconst (v := (0 : Int32)) S.1 S.2.1 dL_law_191 (by decide) ?_
          exact False.elim hq
      · by_cases h2_1 : ((xs x3.toNatClampNeg) &&& (31 : Int32)) = (1 : Int32)
        · replace hq := hq.2.1 h2_1
          refine lv_tableIn (off := 121) (tgt := 193) S.1 S.2.1 dL_law_72 (by rw [h2_1]; decide) (by rw [h2_1]; decide) (by rw [h2_1]; rfl) rfl ?_
          refine lv_aload_n S.1 S.2.1 dL_law_193 rfl (lv_at hl 1 rfl) ?_
          refine lv_aload_n S.1 S.2.1 dL_law_194 rfl (lv_at hl 0 rfl) ?_
          refine lv_iload_n S.1 S.2.1 dL_law_195 rfl (lv_at hl 3 rfl) ?_
          refine lv_iconst (v := (1 : Int32)) S.1 S.2.1 dL_law_196 (by decide) ?_
          refine lv_iadd S.1 S.2.1 dL_law_197 ?_
          obtain ⟨hi, hq⟩ := hq
          refine va_sld S.1 S.2.1 hX hbl (Nat.not_le.mpr hbl) hw.2.2.2 hi dL_law_198 ?_
          refine lv_aload_n S.1 S.2.1 dL_law_199 rfl (lv_at hl 0 rfl) ?_
          refine lv_iload_n S.1 S.2.1 dL_law_200 rfl (lv_at hl 3 rfl) ?_
          refine lv_iconst (v := (2 : Int32)) S.1 S.2.1 dL_law_201 (by decide) ?_
          refine lv_iadd S.1 S.2.1 dL_law_202 ?_
          obtain ⟨hi, hq⟩ := hq
          refine va_sld S.1 S.2.1 hX hbl (Nat.not_le.mpr hbl) hw.2.2.2 hi dL_law_203 ?_
          refine call_X3_spawn S hw wl_L_26 hq ⟨Nat.le_of_ble_eq_true rfl, Nat.le_of_ble_eq_true rfl⟩ hl.1 (Nat.le_of_ble_eq_true rfl) ⟨Nat.le_of_ble_eq_true rfl, Nat.le_of_ble_eq_true rfl⟩ dL_law_204 (fun r6 k6 H locs hq hw => ?_)
          refine lv_aload_n S.1 S.2.1 dL_law_207 rfl (lv_at hl 2 rfl) ?_
          refine lv_aload_n S.1 S.2.1 dL_law_208 rfl (lv_at hl 0 rfl) ?_
          refine lv_iload_n S.1 S.2.1 dL_law_209 rfl (lv_at hl 3 rfl) ?_
          refine lv_iconst (v := (1 : Int32)) S.1 S.2.1 dL_law_210 (by decide) ?_
          refine lv_iadd S.1 S.2.1 dL_law_211 ?_
          obtain ⟨hi, hq⟩ := hq
          refine va_sld S.1 S.2.1 hX hbl (Nat.not_le.mpr hbl) hw.2.2.2 hi dL_law_212 ?_
          refine lv_aload_n S.1 S.2.1 dL_law_213 rfl (lv_at hl 0 rfl) ?_
          refine lv_iload_n S.1 S.2.1 dL_law_214 rfl (lv_at hl 3 rfl) ?_
          refine lv_iconst (v := (2 : Int32)) S.1 S.2.1 dL_law_215 (by decide) ?_
          refine lv_iadd S.1 S.2.1 dL_law_216 ?_
          obtain ⟨hi, hq⟩ := hq
          refine va_sld S.1 S.2.1 hX hbl (Nat.not_le.mpr hbl) hw.2.2.2 hi dL_law_217 ?_
          refine call_X4_spawn S hw wl_L_30 hq ⟨Nat.le_of_ble_eq_true rfl, Nat.le_of_ble_eq_true rfl⟩ hl.1 (Nat.le_of_ble_eq_true rfl) ⟨Nat.le_of_ble_eq_true rfl, Nat.le_of_ble_eq_true rfl⟩ dL_law_218 (fun r7 k7 H locs hq hw => ?_)
          refine lv_icmp_eq (tgt := 610) S.1 S.2.1 dL_law_221 rfl (fun h8 => ?_) (fun h8 => ?_)
          · replace hq := hq.1 h8
            refine lv_iinc (k := 3) (v := (x3 + 4)) (lv' := [(3, .int (x3 + 4)), (0, .ref b), (1, .ref (ad (0, 0))), (2, .ref (ad (11, 0)))]) S.1 S.2.1 dL_law_610 hl rfl (ii_4 _) (by decide) rfl (fun ls hl => ?_)
            refine lv_goto (tgt := 58) S.1 S.2.1 dL_law_613 rfl ?_
            exact ih (x3 + 4) k6 k7 _ _ _ (lv_sub hl [1, 2, 3, 0] rfl) hw hq
          · replace hq := hq.2 h8
            refine lv_iconst (v := (0 : Int32)) S.1 S.2.1 dL_law_224 (by decide) ?_
            exact False.elim hq
        · by_cases h2_2 : ((xs x3.toNatClampNeg) &&& (31 : Int32)) = (2 : Int32)
          · replace hq := hq.2.2.1 h2_2
            refine lv_tableIn (off := 154) (tgt := 226) S.1 S.2.1 dL_law_72 (by rw [h2_2]; decide) (by rw [h2_2]; decide) (by rw [h2_2]; rfl) rfl ?_
            refine lv_aload_n S.1 S.2.1 dL_law_226 rfl (lv_at hl 1 rfl) ?_
            refine call_X3_step S hw wl_L_31 hq ⟨Nat.le_of_ble_eq_true rfl, Nat.le_of_ble_eq_true rfl⟩ hl.1 (Nat.le_of_ble_eq_true rfl) ⟨Nat.le_of_ble_eq_true rfl, Nat.le_of_ble_eq_true rfl⟩ dL_law_227 (fun r9 k9 H locs hq hw => ?_)
            refine lv_aload_n S.1 S.2.1 dL_law_230 rfl (lv_at hl 2 rfl) ?_
            refine call_X4_step S hw wl_L_35 hq ⟨Nat.le_of_ble_eq_true rfl, Nat.le_of_ble_eq_true rfl⟩ hl.1 (Nat.le_of_ble_eq_true rfl) ⟨Nat.le_of_ble_eq_true rfl, Nat.le_of_ble_eq_true rfl⟩ dL_law_231 (fun r10 k10 H locs hq hw => ?_)
            refine lv_icmp_eq (tgt := 610) S.1 S.2.1 dL_law_234 rfl (fun h11 => ?_) (fun h11 => ?_)
            · replace hq := hq.1 h11
              refine lv_iinc (k := 3) (v := (x3 + 4)) (lv' := [(3, .int (x3 + 4)), (0, .ref b), (1, .ref (ad (0, 0))), (2, .ref (ad (11, 0)))]) S.1 S.2.1 dL_law_610 hl rfl (ii_4 _) (by decide) rfl (fun ls hl => ?_)
              refine lv_goto (tgt := 58) S.1 S.2.1 dL_law_613 rfl ?_
              exact ih (x3 + 4) k9 k10 _ _ _ (lv_sub hl [1, 2, 3, 0] rfl) hw hq
            · replace hq := hq.2 h11
              refine lv_iconst (v := (0 : Int32)) S.1 S.2.1 dL_law_237 (by decide) ?_
              exact False.elim hq
          · by_cases h2_3 : ((xs x3.toNatClampNeg) &&& (31 : Int32)) = (3 : Int32)
            · replace hq := hq.2.2.2.1 h2_3
              refine lv_tableIn (off := 167) (tgt := 239) S.1 S.2.1 dL_law_72 (by rw [h2_3]; decide) (by rw [h2_3]; decide) (by rw [h2_3]; rfl) rfl ?_
              refine lv_aload_n S.1 S.2.1 dL_law_239 rfl (lv_at hl 1 rfl) ?_
              refine lv_aload_n S.1 S.2.1 dL_law_240 rfl (lv_at hl 0 rfl) ?_
              refine lv_iload_n S.1 S.2.1 dL_law_241 rfl (lv_at hl 3 rfl) ?_
              refine lv_iconst (v := (1 : Int32)) S.1 S.2.1 dL_law_242 (by decide) ?_
              refine lv_iadd S.1 S.2.1 dL_law_243 ?_
              obtain ⟨hi, hq⟩ := hq
              refine va_sld S.1 S.2.1 hX hbl (Nat.not_le.mpr hbl) hw.2.2.2 hi dL_law_244 ?_
              refine call_X3_run S hw wl_L_36 hq ⟨Nat.le_of_ble_eq_true rfl, Nat.le_of_ble_eq_true rfl⟩ hl.1 (Nat.le_of_ble_eq_true rfl) ⟨Nat.le_of_ble_eq_true rfl, Nat.le_of_ble_eq_true rfl⟩ dL_law_245 (fun r12 k12 H locs hq hw => ?_)
              refine lv_aload_n S.1 S.2.1 dL_law_248 rfl (lv_at hl 2 rfl) ?_
              refine lv_aload_n S.1 S.2.1 dL_law_249 rfl (lv_at hl 0 rfl) ?_
              refine lv_iload_n S.1 S.2.1 dL_law_250 rfl (lv_at hl 3 rfl) ?_
              refine lv_iconst (v := (1 : Int32)) S.1 S.2.1 dL_law_251 (by decide) ?_
              refine lv_iadd S.1 S.2.1 dL_law_252 ?_
              obtain ⟨hi, hq⟩ := hq
              refine va_sld S.1 S.2.1 hX hbl (Nat.not_le.mpr hbl) hw.2.2.2 hi dL_law_253 ?_
              refine call_X4_run S hw wl_L_40 hq ⟨Nat.le_of_ble_eq_true rfl, Nat.le_of_ble_eq_true rfl⟩ hl.1 (Nat.le_of_ble_eq_true rfl) ⟨Nat.le_of_ble_eq_true rfl, Nat.le_of_ble_eq_true rfl⟩ dL_law_254 (fun r13 k13 H locs hq hw => ?_)
              refine lv_icmp_eq (tgt := 610) S.1 S.2.1 dL_law_257 rfl (fun h14 => ?_) (fun h14 => ?_)
              · replace hq := hq.1 h14
                refine lv_iinc (k := 3) (v := (x3 + 4)) (lv' := [(3, .int (x3 + 4)), (0, .ref b), (1, .ref (ad (0, 0))), (2, .ref (ad (11, 0)))]) S.1 S.2.1 dL_law_610 hl rfl (ii_4 _) (by decide) rfl (fun ls hl => ?_)
                refine lv_goto (tgt := 58) S.1 S.2.1 dL_law_613 rfl ?_
                exact ih (x3 + 4) k12 k13 _ _ _ (lv_sub hl [1, 2, 3, 0] rfl) hw hq
              · replace hq := hq.2 h14
                refine lv_iconst (v := (0 : Int32)) S.1 S.2.1 dL_law_260 (by decide) ?_
                exact False.elim hq
            · by_cases h2_4 : ((xs x3.toNatClampNeg) &&& (31 : Int32)) = (4 : Int32)
              · replace hq := hq.2.2.2.2.1 h2_4
                refine lv_tableIn (off := 190) (tgt := 262) S.1 S.2.1 dL_law_72 (by rw [h2_4]; decide) (by rw [h2_4]; decide) (by rw [h2_4]; rfl) rfl ?_
                refine lv_aload_n S.1 S.2.1 dL_law_262 rfl (lv_at hl 1 rfl) ?_
                refine call_X3_tick S hw wl_L_41 hq ⟨Nat.le_of_ble_eq_true rfl, Nat.le_of_ble_eq_true rfl⟩ hl.1 (Nat.le_of_ble_eq_true rfl) ⟨Nat.le_of_ble_eq_true rfl, Nat.le_of_ble_eq_true rfl⟩ dL_law_263 (fun r15 k15 H locs hq hw => ?_)
                refine lv_aload_n S.1 S.2.1 dL_law_266 rfl (lv_at hl 2 rfl) ?_
                refine call_X4_tick S hw wl_L_44 hq ⟨Nat.le_of_ble_eq_true rfl, Nat.le_of_ble_eq_true rfl⟩ hl.1 (Nat.le_of_ble_eq_true rfl) ⟨Nat.le_of_ble_eq_true rfl, Nat.le_of_ble_eq_true rfl⟩ dL_law_267 (fun r16 k16 H locs hq hw => ?_)
                refine lv_icmp_eq (tgt := 610) S.1 S.2.1 dL_law_270 rfl (fun h17 => ?_) (fun h17 => ?_)
                · replace hq := hq.1 h17
                  refine lv_iinc (k := 3) (v := (x3 + 4)) (lv' := [(3, .int (x3 + 4)), (0, .ref b), (1, .ref (ad (0, 0))), (2, .ref (ad (11, 0)))]) S.1 S.2.1 dL_law_610 hl rfl (ii_4 _) (by decide) rfl (fun ls hl => ?_)
                  refine lv_goto (tgt := 58) S.1 S.2.1 dL_law_613 rfl ?_
                  exact ih (x3 + 4) k15 k16 _ _ _ (lv_sub hl [1, 2, 3, 0] rfl) hw hq
                · replace hq := hq.2 h17
                  refine lv_iconst (v := (0 : Int32)) S.1 S.2.1 dL_law_273 (by decide) ?_
                  exact False.elim hq
              · by_cases h2_5 : ((xs x3.toNatClampNeg) &&& (31 : Int32)) = (5 : Int32)
                · replace hq := hq.2.2.2.2.2.1 h2_5
                  refine lv_tableIn (off := 203) (tgt := 275) S.1 S.2.1 dL_law_72 (by rw [h2_5]; decide) (by rw [h2_5]; decide) (by rw [h2_5]; rfl) rfl ?_
                  refine lv_aload_n S.1 S.2.1 dL_law_275 rfl (lv_at hl 1 rfl) ?_
                  refine lv_aload_n S.1 S.2.1 dL_law_276 rfl (lv_at hl 0 rfl) ?_
                  refine lv_iload_n S.1 S.2.1 dL_law_277 rfl (lv_at hl 3 rfl) ?_
                  refine lv_iconst (v := (1 : Int32)) S.1 S.2.1 dL_law_278 (by decide) ?_
                  refine lv_iadd S.1 S.2.1 dL_law_279 ?_
                  obtain ⟨hi, hq⟩ := hq
                  refine va_sld S.1 S.2.1 hX hbl (Nat.not_le.mpr hbl) hw.2.2.2 hi dL_law_280 ?_
                  refine call_X3_kill S hw wl_L_45 hq ⟨Nat.le_of_ble_eq_true rfl, Nat.le_of_ble_eq_true rfl⟩ hl.1 (Nat.le_of_ble_eq_true rfl) ⟨Nat.le_of_ble_eq_true rfl, Nat.le_of_ble_eq_true rfl⟩ dL_law_281 (fun r18 k18 H locs hq hw => ?_)
                  refine lv_aload_n S.1 S.2.1 dL_law_284 rfl (lv_at hl 2 rfl) ?_
                  refine lv_aload_n S.1 S.2.1 dL_law_285 rfl (lv_at hl 0 rfl) ?_
                  refine lv_iload_n S.1 S.2.1 dL_law_286 rfl (lv_at hl 3 rfl) ?_
                  refine lv_iconst (v := (1 : Int32)) S.1 S.2.1 dL_law_287 (by decide) ?_
                  refine lv_iadd S.1 S.2.1 dL_law_288 ?_
                  obtain ⟨hi, hq⟩ := hq
                  refine va_sld S.1 S.2.1 hX hbl (Nat.not_le.mpr hbl) hw.2.2.2 hi dL_law_289 ?_
                  refine call_X4_kill S hw wl_L_49 hq ⟨Nat.le_of_ble_eq_true rfl, Nat.le_of_ble_eq_true rfl⟩ hl.1 (Nat.le_of_ble_eq_true rfl) ⟨Nat.le_of_ble_eq_true rfl, Nat.le_of_ble_eq_true rfl⟩ dL_law_290 (fun r19 k19 H locs hq hw => ?_)
                  refine lv_icmp_eq (tgt := 610) S.1 S.2.1 dL_law_293 rfl (fun h20 => ?_) (fun h20 => ?_)
                  · replace hq := hq.1 h20
                    refine lv_iinc (k := 3) (v := (x3 + 4)) (lv' := [(3, .int (x3 + 4)), (0, .ref b), (1, .ref (ad (0, 0))), (2, .ref (ad (11, 0)))]) S.1 S.2.1 dL_law_610 hl rfl (ii_4 _) (by decide) rfl (fun ls hl => ?_)
                    refine lv_goto (tgt := 58) S.1 S.2.1 dL_law_613 rfl ?_
                    exact ih (x3 + 4) k18 k19 _ _ _ (lv_sub hl [1, 2, 3, 0] rfl) hw hq
                  · replace hq := hq.2 h20
                    refine lv_iconst (v := (0 : Int32)) S.1 S.2.1 dL_law_296 (by decide) ?_
                    exact False.elim hq
                · by_cases h2_6 : ((xs x3.toNatClampNeg) &&& (31 : Int32)) = (6 : Int32)
                  · replace hq := hq.2.2.2.2.2.2.1 h2_6
                    refine lv_tableIn (off := 226) (tgt := 298) S.1 S.2.1 dL_law_72 (by rw [h2_6]; decide) (by rw [h2_6]; decide) (by rw [h2_6]; rfl) rfl ?_
                    refine lv_aload_n S.1 S.2.1 dL_law_298 rfl (lv_at hl 1 rfl) ?_
                    refine lv_aload_n S.1 S.2.1 dL_law_299 rfl (lv_at hl 0 rfl) ?_
                    refine lv_iload_n S.1 S.2.1 dL_law_300 rfl (lv_at hl 3 rfl) ?_
                    refine lv_iconst (v := (1 : Int32)) S.1 S.2.1 dL_law_301 (by decide) ?_
                    refine lv_iadd S.1 S.2.1 dL_law_302 ?_
                    obtain ⟨hi, hq⟩ := hq
                    refine va_sld S.1 S.2.1 hX hbl (Nat.not_le.mpr hbl) hw.2.2.2 hi dL_law_303 ?_
                    refine call_X3_state S hw wl_L_50 hq ⟨Nat.le_of_ble_eq_true rfl, Nat.le_of_ble_eq_true rfl⟩ hl.1 (Nat.le_of_ble_eq_true rfl) ⟨Nat.le_of_ble_eq_true rfl, Nat.le_of_ble_eq_true rfl⟩ dL_law_304 (fun r21 k21 H locs hq hw => ?_)
                    refine lv_aload_n S.1 S.2.1 dL_law_307 rfl (lv_at hl 2 rfl) ?_
                    refine lv_aload_n S.1 S.2.1 dL_law_308 rfl (lv_at hl 0 rfl) ?_
                    refine lv_iload_n S.1 S.2.1 dL_law_309 rfl (lv_at hl 3 rfl) ?_
                    refine lv_iconst (v := (1 : Int32)) S.1 S.2.1 dL_law_310 (by decide) ?_
                    refine lv_iadd S.1 S.2.1 dL_law_311 ?_
                    obtain ⟨hi, hq⟩ := hq
                    refine va_sld S.1 S.2.1 hX hbl (Nat.not_le.mpr hbl) hw.2.2.2 hi dL_law_312 ?_
                    refine call_X4_state S hw wl_L_53 hq ⟨Nat.le_of_ble_eq_true rfl, Nat.le_of_ble_eq_true rfl⟩ hl.1 (Nat.le_of_ble_eq_true rfl) ⟨Nat.le_of_ble_eq_true rfl, Nat.le_of_ble_eq_true rfl⟩ dL_law_313 (fun r22 k22 H locs hq hw => ?_)
                    refine lv_icmp_eq (tgt := 610) S.1 S.2.1 dL_law_316 rfl (fun h23 => ?_) (fun h23 => ?_)
                    · replace hq := hq.1 h23
                      refine lv_iinc (k := 3) (v := (x3 + 4)) (lv' := [(3, .int (x3 + 4)), (0, .ref b), (1, .ref (ad (0, 0))), (2, .ref (ad (11, 0)))]) S.1 S.2.1 dL_law_610 hl rfl (ii_4 _) (by decide) rfl (fun ls hl => ?_)
                      refine lv_goto (tgt := 58) S.1 S.2.1 dL_law_613 rfl ?_
                      exact ih (x3 + 4) k21 k22 _ _ _ (lv_sub hl [1, 2, 3, 0] rfl) hw hq
                    · replace hq := hq.2 h23
                      refine lv_iconst (v := (0 : Int32)) S.1 S.2.1 dL_law_319 (by decide) ?_
                      exact False.elim hq
                  · by_cases h2_7 : ((xs x3.toNatClampNeg) &&& (31 : Int32)) = (7 : Int32)
                    · replace hq := hq.2.2.2.2.2.2.2.1 h2_7
                      refine lv_tableIn (off := 249) (tgt := 321) S.1 S.2.1 dL_law_72 (by rw [h2_7]; decide) (by rw [h2_7]; decide) (by rw [h2_7]; rfl) rfl ?_
                      refine lv_aload_n S.1 S.2.1 dL_law_321 rfl (lv_at hl 1 rfl) ?_
                      refine lv_aload_n S.1 S.2.1 dL_law_322 rfl (lv_at hl 0 rfl) ?_
                      refine lv_iload_n S.1 S.2.1 dL_law_323 rfl (lv_at hl 3 rfl) ?_
                      refine lv_iconst (v := (1 : Int32)) S.1 S.2.1 dL_law_324 (by decide) ?_
                      refine lv_iadd S.1 S.2.1 dL_law_325 ?_
                      obtain ⟨hi, hq⟩ := hq
                      refine va_sld S.1 S.2.1 hX hbl (Nat.not_le.mpr hbl) hw.2.2.2 hi dL_law_326 ?_
                      refine lv_aload_n S.1 S.2.1 dL_law_327 rfl (lv_at hl 0 rfl) ?_
                      refine lv_iload_n S.1 S.2.1 dL_law_328 rfl (lv_at hl 3 rfl) ?_
                      refine lv_iconst (v := (2 : Int32)) S.1 S.2.1 dL_law_329 (by decide) ?_
                      refine lv_iadd S.1 S.2.1 dL_law_330 ?_
                      obtain ⟨hi, hq⟩ := hq
                      refine va_sld S.1 S.2.1 hX hbl (Nat.not_le.mpr hbl) hw.2.2.2 hi dL_law_331 ?_
                      refine call_X3_task S hw wl_L_54 hq ⟨Nat.le_of_ble_eq_true rfl, Nat.le_of_ble_eq_true rfl⟩ hl.1 (Nat.le_of_ble_eq_true rfl) ⟨Nat.le_of_ble_eq_true rfl, Nat.le_of_ble_eq_true rfl⟩ dL_law_332 (fun r24 k24 H locs hq hw => ?_)
                      refine lv_aload_n S.1 S.2.1 dL_law_335 rfl (lv_at hl 2 rfl) ?_
                      refine lv_aload_n S.1 S.2.1 dL_law_336 rfl (lv_at hl 0 rfl) ?_
                      refine lv_iload_n S.1 S.2.1 dL_law_337 rfl (lv_at hl 3 rfl) ?_
                      refine lv_iconst (v := (1 : Int32)) S.1 S.2.1 dL_law_338 (by decide) ?_
                      refine lv_iadd S.1 S.2.1 dL_law_339 ?_
                      obtain ⟨hi, hq⟩ := hq
                      refine va_sld S.1 S.2.1 hX hbl (Nat.not_le.mpr hbl) hw.2.2.2 hi dL_law_340 ?_
                      refine lv_aload_n S.1 S.2.1 dL_law_341 rfl (lv_at hl 0 rfl) ?_
                      refine lv_iload_n S.1 S.2.1 dL_law_342 rfl (lv_at hl 3 rfl) ?_
                      refine lv_iconst (v := (2 : Int32)) S.1 S.2.1 dL_law_343 (by decide) ?_
                      refine lv_iadd S.1 S.2.1 dL_law_344 ?_
                      obtain ⟨hi, hq⟩ := hq
                      refine va_sld S.1 S.2.1 hX hbl (Nat.not_le.mpr hbl) hw.2.2.2 hi dL_law_345 ?_
                      refine call_X4_task S hw wl_L_57 hq ⟨Nat.le_of_ble_eq_true rfl, Nat.le_of_ble_eq_true rfl⟩ hl.1 (Nat.le_of_ble_eq_true rfl) ⟨Nat.le_of_ble_eq_true rfl, Nat.le_of_ble_eq_true rfl⟩ dL_law_346 (fun r25 k25 H locs hq hw => ?_)
                      refine lv_icmp_eq (tgt := 610) S.1 S.2.1 dL_law_349 rfl (fun h26 => ?_) (fun h26 => ?_)
                      · replace hq := hq.1 h26
                        refine lv_iinc (k := 3) (v := (x3 + 4)) (lv' := [(3, .int (x3 + 4)), (0, .ref b), (1, .ref (ad (0, 0))), (2, .ref (ad (11, 0)))]) S.1 S.2.1 dL_law_610 hl rfl (ii_4 _) (by decide) rfl (fun ls hl => ?_)
                        refine lv_goto (tgt := 58) S.1 S.2.1 dL_law_613 rfl ?_
                        exact ih (x3 + 4) k24 k25 _ _ _ (lv_sub hl [1, 2, 3, 0] rfl) hw hq
                      · replace hq := hq.2 h26
                        refine lv_iconst (v := (0 : Int32)) S.1 S.2.1 dL_law_352 (by decide) ?_
                        exact False.elim hq
                    · by_cases h2_8 : ((xs x3.toNatClampNeg) &&& (31 : Int32)) = (8 : Int32)
                      · replace hq := hq.2.2.2.2.2.2.2.2.1 h2_8
                        refine lv_tableIn (off := 282) (tgt := 354) S.1 S.2.1 dL_law_72 (by rw [h2_8]; decide) (by rw [h2_8]; decide) (by rw [h2_8]; rfl) rfl ?_
                        refine lv_aload_n S.1 S.2.1 dL_law_354 rfl (lv_at hl 1 rfl) ?_
                        refine lv_aload_n S.1 S.2.1 dL_law_355 rfl (lv_at hl 0 rfl) ?_
                        refine lv_iload_n S.1 S.2.1 dL_law_356 rfl (lv_at hl 3 rfl) ?_
                        refine lv_iconst (v := (1 : Int32)) S.1 S.2.1 dL_law_357 (by decide) ?_
                        refine lv_iadd S.1 S.2.1 dL_law_358 ?_
                        obtain ⟨hi, hq⟩ := hq
                        refine va_sld S.1 S.2.1 hX hbl (Nat.not_le.mpr hbl) hw.2.2.2 hi dL_law_359 ?_
                        refine lv_aload_n S.1 S.2.1 dL_law_360 rfl (lv_at hl 0 rfl) ?_
                        refine lv_iload_n S.1 S.2.1 dL_law_361 rfl (lv_at hl 3 rfl) ?_
                        refine lv_iconst (v := (2 : Int32)) S.1 S.2.1 dL_law_362 (by decide) ?_
                        refine lv_iadd S.1 S.2.1 dL_law_363 ?_
                        obtain ⟨hi, hq⟩ := hq
                        refine va_sld S.1 S.2.1 hX hbl (Nat.not_le.mpr hbl) hw.2.2.2 hi dL_law_364 ?_
                        refine call_X3_stack S hw wl_L_58 hq ⟨Nat.le_of_ble_eq_true rfl, Nat.le_of_ble_eq_true rfl⟩ hl.1 (Nat.le_of_ble_eq_true rfl) ⟨Nat.le_of_ble_eq_true rfl, Nat.le_of_ble_eq_true rfl⟩ dL_law_365 (fun r27 k27 H locs hq hw => ?_)
                        refine lv_aload_n S.1 S.2.1 dL_law_368 rfl (lv_at hl 2 rfl) ?_
                        refine lv_aload_n S.1 S.2.1 dL_law_369 rfl (lv_at hl 0 rfl) ?_
                        refine lv_iload_n S.1 S.2.1 dL_law_370 rfl (lv_at hl 3 rfl) ?_
                        refine lv_iconst (v := (1 : Int32)) S.1 S.2.1 dL_law_371 (by decide) ?_
                        refine lv_iadd S.1 S.2.1 dL_law_372 ?_
                        obtain ⟨hi, hq⟩ := hq
                        refine va_sld S.1 S.2.1 hX hbl (Nat.not_le.mpr hbl) hw.2.2.2 hi dL_law_373 ?_
                        refine lv_aload_n S.1 S.2.1 dL_law_374 rfl (lv_at hl 0 rfl) ?_
                        refine lv_iload_n S.1 S.2.1 dL_law_375 rfl (lv_at hl 3 rfl) ?_
                        refine lv_iconst (v := (2 : Int32)) S.1 S.2.1 dL_law_376 (by decide) ?_
                        refine lv_iadd S.1 S.2.1 dL_law_377 ?_
                        obtain ⟨hi, hq⟩ := hq
                        refine va_sld S.1 S.2.1 hX hbl (Nat.not_le.mpr hbl) hw.2.2.2 hi dL_law_378 ?_
                        refine call_X4_stack S hw wl_L_61 hq ⟨Nat.le_of_ble_eq_true rfl, Nat.le_of_ble_eq_true rfl⟩ hl.1 (Nat.le_of_ble_eq_true rfl) ⟨Nat.le_of_ble_eq_true rfl, Nat.le_of_ble_eq_true rfl⟩ dL_law_379 (fun r28 k28 H locs hq hw => ?_)
                        refine lv_icmp_eq (tgt := 610) S.1 S.2.1 dL_law_382 rfl (fun h29 => ?_) (fun h29 => ?_)
                        · replace hq := hq.1 h29
                          refine lv_iinc (k := 3) (v := (x3 + 4)) (lv' := [(3, .int (x3 + 4)), (0, .ref b), (1, .ref (ad (0, 0))), (2, .ref (ad (11, 0)))]) S.1 S.2.1 dL_law_610 hl rfl (ii_4 _) (by decide) rfl (fun ls hl => ?_)
                          refine lv_goto (tgt := 58) S.1 S.2.1 dL_law_613 rfl ?_
                          exact ih (x3 + 4) k27 k28 _ _ _ (lv_sub hl [1, 2, 3, 0] rfl) hw hq
                        · replace hq := hq.2 h29
                          refine lv_iconst (v := (0 : Int32)) S.1 S.2.1 dL_law_385 (by decide) ?_
                          exact False.elim hq
                      · by_cases h2_9 : ((xs x3.toNatClampNeg) &&& (31 : Int32)) = (9 : Int32)
                        · replace hq := hq.2.2.2.2.2.2.2.2.2.1 h2_9
                          refine lv_tableIn (off := 315) (tgt := 387) S.1 S.2.1 dL_law_72 (by rw [h2_9]; decide) (by rw [h2_9]; decide) (by rw [h2_9]; rfl) rfl ?_
                          refine lv_aload_n S.1 S.2.1 dL_law_387 rfl (lv_at hl 1 rfl) ?_
                          refine call_X3_next S hw wl_L_62 hq ⟨Nat.le_of_ble_eq_true rfl, Nat.le_of_ble_eq_true rfl⟩ hl.1 (Nat.le_of_ble_eq_true rfl) ⟨Nat.le_of_ble_eq_true rfl, Nat.le_of_ble_eq_true rfl⟩ dL_law_388 (fun r30 k30 H locs hq hw => ?_)
                          refine lv_aload_n S.1 S.2.1 dL_law_391 rfl (lv_at hl 2 rfl) ?_
                          refine call_X4_next S hw wl_L_65 hq ⟨Nat.le_of_ble_eq_true rfl, Nat.le_of_ble_eq_true rfl⟩ hl.1 (Nat.le_of_ble_eq_true rfl) ⟨Nat.le_of_ble_eq_true rfl, Nat.le_of_ble_eq_true rfl⟩ dL_law_392 (fun r31 k31 H locs hq hw => ?_)
                          refine lv_icmp_eq (tgt := 610) S.1 S.2.1 dL_law_395 rfl (fun h32 => ?_) (fun h32 => ?_)
                          · replace hq := hq.1 h32
                            refine lv_iinc (k := 3) (v := (x3 + 4)) (lv' := [(3, .int (x3 + 4)), (0, .ref b), (1, .ref (ad (0, 0))), (2, .ref (ad (11, 0)))]) S.1 S.2.1 dL_law_610 hl rfl (ii_4 _) (by decide) rfl (fun ls hl => ?_)
                            refine lv_goto (tgt := 58) S.1 S.2.1 dL_law_613 rfl ?_
                            exact ih (x3 + 4) k30 k31 _ _ _ (lv_sub hl [1, 2, 3, 0] rfl) hw hq
                          · replace hq := hq.2 h32
                            refine lv_iconst (v := (0 : Int32)) S.1 S.2.1 dL_law_398 (by decide) ?_
                            exact False.elim hq
                        · by_cases h2_10 : ((xs x3.toNatClampNeg) &&& (31 : Int32)) = (10 : Int32)
                          · replace hq := hq.2.2.2.2.2.2.2.2.2.2.1 h2_10
                            refine lv_tableIn (off := 328) (tgt := 400) S.1 S.2.1 dL_law_72 (by rw [h2_10]; decide) (by rw [h2_10]; decide) (by rw [h2_10]; rfl) rfl ?_
                            refine lv_aload_n S.1 S.2.1 dL_law_400 rfl (lv_at hl 1 rfl) ?_
                            refine lv_aload_n S.1 S.2.1 dL_law_401 rfl (lv_at hl 0 rfl) ?_
                            refine lv_iload_n S.1 S.2.1 dL_law_402 rfl (lv_at hl 3 rfl) ?_
                            refine lv_iconst (v := (1 : Int32)) S.1 S.2.1 dL_law_403 (by decide) ?_
                            refine lv_iadd S.1 S.2.1 dL_law_404 ?_
                            obtain ⟨hi, hq⟩ := hq
                            refine va_sld S.1 S.2.1 hX hbl (Nat.not_le.mpr hbl) hw.2.2.2 hi dL_law_405 ?_
                            refine call_X3_queue S hw wl_L_66 hq ⟨Nat.le_of_ble_eq_true rfl, Nat.le_of_ble_eq_true rfl⟩ hl.1 (Nat.le_of_ble_eq_true rfl) ⟨Nat.le_of_ble_eq_true rfl, Nat.le_of_ble_eq_true rfl⟩ dL_law_406 (fun r33 k33 H locs hq hw => ?_)
                            refine lv_aload_n S.1 S.2.1 dL_law_409 rfl (lv_at hl 2 rfl) ?_
                            refine lv_aload_n S.1 S.2.1 dL_law_410 rfl (lv_at hl 0 rfl) ?_
                            refine lv_iload_n S.1 S.2.1 dL_law_411 rfl (lv_at hl 3 rfl) ?_
                            refine lv_iconst (v := (1 : Int32)) S.1 S.2.1 dL_law_412 (by decide) ?_
                            refine lv_iadd S.1 S.2.1 dL_law_413 ?_
                            obtain ⟨hi, hq⟩ := hq
                            refine va_sld S.1 S.2.1 hX hbl (Nat.not_le.mpr hbl) hw.2.2.2 hi dL_law_414 ?_
                            refine call_X4_queue S hw wl_L_69 hq ⟨Nat.le_of_ble_eq_true rfl, Nat.le_of_ble_eq_true rfl⟩ hl.1 (Nat.le_of_ble_eq_true rfl) ⟨Nat.le_of_ble_eq_true rfl, Nat.le_of_ble_eq_true rfl⟩ dL_law_415 (fun r34 k34 H locs hq hw => ?_)
                            refine lv_icmp_eq (tgt := 610) S.1 S.2.1 dL_law_418 rfl (fun h35 => ?_) (fun h35 => ?_)
                            · replace hq := hq.1 h35
                              refine lv_iinc (k := 3) (v := (x3 + 4)) (lv' := [(3, .int (x3 + 4)), (0, .ref b), (1, .ref (ad (0, 0))), (2, .ref (ad (11, 0)))]) S.1 S.2.1 dL_law_610 hl rfl (ii_4 _) (by decide) rfl (fun ls hl => ?_)
                              refine lv_goto (tgt := 58) S.1 S.2.1 dL_law_613 rfl ?_
                              exact ih (x3 + 4) k33 k34 _ _ _ (lv_sub hl [1, 2, 3, 0] rfl) hw hq
                            · replace hq := hq.2 h35
                              refine lv_iconst (v := (0 : Int32)) S.1 S.2.1 dL_law_421 (by decide) ?_
                              exact False.elim hq
                          · by_cases h2_11 : ((xs x3.toNatClampNeg) &&& (31 : Int32)) = (11 : Int32)
                            · replace hq := hq.2.2.2.2.2.2.2.2.2.2.2.1 h2_11
                              refine lv_tableIn (off := 351) (tgt := 423) S.1 S.2.1 dL_law_72 (by rw [h2_11]; decide) (by rw [h2_11]; decide) (by rw [h2_11]; rfl) rfl ?_
                              refine lv_aload_n S.1 S.2.1 dL_law_423 rfl (lv_at hl 1 rfl) ?_
                              refine lv_aload_n S.1 S.2.1 dL_law_424 rfl (lv_at hl 0 rfl) ?_
                              refine lv_iload_n S.1 S.2.1 dL_law_425 rfl (lv_at hl 3 rfl) ?_
                              refine lv_iconst (v := (1 : Int32)) S.1 S.2.1 dL_law_426 (by decide) ?_
                              refine lv_iadd S.1 S.2.1 dL_law_427 ?_
                              obtain ⟨hi, hq⟩ := hq
                              refine va_sld S.1 S.2.1 hX hbl (Nat.not_le.mpr hbl) hw.2.2.2 hi dL_law_428 ?_
                              refine lv_aload_n S.1 S.2.1 dL_law_429 rfl (lv_at hl 0 rfl) ?_
                              refine lv_iload_n S.1 S.2.1 dL_law_430 rfl (lv_at hl 3 rfl) ?_
                              refine lv_iconst (v := (2 : Int32)) S.1 S.2.1 dL_law_431 (by decide) ?_
                              refine lv_iadd S.1 S.2.1 dL_law_432 ?_
                              obtain ⟨hi, hq⟩ := hq
                              refine va_sld S.1 S.2.1 hX hbl (Nat.not_le.mpr hbl) hw.2.2.2 hi dL_law_433 ?_
                              refine call_X3_queued S hw wl_L_70 hq ⟨Nat.le_of_ble_eq_true rfl, Nat.le_of_ble_eq_true rfl⟩ hl.1 (Nat.le_of_ble_eq_true rfl) ⟨Nat.le_of_ble_eq_true rfl, Nat.le_of_ble_eq_true rfl⟩ dL_law_434 (fun r36 k36 H locs hq hw => ?_)
                              refine lv_aload_n S.1 S.2.1 dL_law_437 rfl (lv_at hl 2 rfl) ?_
                              refine lv_aload_n S.1 S.2.1 dL_law_438 rfl (lv_at hl 0 rfl) ?_
                              refine lv_iload_n S.1 S.2.1 dL_law_439 rfl (lv_at hl 3 rfl) ?_
                              refine lv_iconst (v := (1 : Int32)) S.1 S.2.1 dL_law_440 (by decide) ?_
                              refine lv_iadd S.1 S.2.1 dL_law_441 ?_
                              obtain ⟨hi, hq⟩ := hq
                              refine va_sld S.1 S.2.1 hX hbl (Nat.not_le.mpr hbl) hw.2.2.2 hi dL_law_442 ?_
                              refine lv_aload_n S.1 S.2.1 dL_law_443 rfl (lv_at hl 0 rfl) ?_
                              refine lv_iload_n S.1 S.2.1 dL_law_444 rfl (lv_at hl 3 rfl) ?_
                              refine lv_iconst (v := (2 : Int32)) S.1 S.2.1 dL_law_445 (by decide) ?_
                              refine lv_iadd S.1 S.2.1 dL_law_446 ?_
                              obtain ⟨hi, hq⟩ := hq
                              refine va_sld S.1 S.2.1 hX hbl (Nat.not_le.mpr hbl) hw.2.2.2 hi dL_law_447 ?_
                              refine call_X4_queued S hw wl_L_73 hq ⟨Nat.le_of_ble_eq_true rfl, Nat.le_of_ble_eq_true rfl⟩ hl.1 (Nat.le_of_ble_eq_true rfl) ⟨Nat.le_of_ble_eq_true rfl, Nat.le_of_ble_eq_true rfl⟩ dL_law_448 (fun r37 k37 H locs hq hw => ?_)
                              refine lv_icmp_eq (tgt := 610) S.1 S.2.1 dL_law_451 rfl (fun h38 => ?_) (fun h38 => ?_)
                              · replace hq := hq.1 h38
                                refine lv_iinc (k := 3) (v := (x3 + 4)) (lv' := [(3, .int (x3 + 4)), (0, .ref b), (1, .ref (ad (0, 0))), (2, .ref (ad (11, 0)))]) S.1 S.2.1 dL_law_610 hl rfl (ii_4 _) (by decide) rfl (fun ls hl => ?_)
                                refine lv_goto (tgt := 58) S.1 S.2.1 dL_law_613 rfl ?_
                                exact ih (x3 + 4) k36 k37 _ _ _ (lv_sub hl [1, 2, 3, 0] rfl) hw hq
                              · replace hq := hq.2 h38
                                refine lv_iconst (v := (0 : Int32)) S.1 S.2.1 dL_law_454 (by decide) ?_
                                exact False.elim hq
                            · by_cases h2_12 : ((xs x3.toNatClampNeg) &&& (31 : Int32)) = (12 : Int32)
                              · replace hq := hq.2.2.2.2.2.2.2.2.2.2.2.2.1 h2_12
                                refine lv_tableIn (off := 384) (tgt := 456) S.1 S.2.1 dL_law_72 (by rw [h2_12]; decide) (by rw [h2_12]; decide) (by rw [h2_12]; rfl) rfl ?_
                                refine lv_aload_n S.1 S.2.1 dL_law_456 rfl (lv_at hl 1 rfl) ?_
                                refine lv_aload_n S.1 S.2.1 dL_law_457 rfl (lv_at hl 0 rfl) ?_
                                refine lv_iload_n S.1 S.2.1 dL_law_458 rfl (lv_at hl 3 rfl) ?_
                                refine lv_iconst (v := (1 : Int32)) S.1 S.2.1 dL_law_459 (by decide) ?_
                                refine lv_iadd S.1 S.2.1 dL_law_460 ?_
                                obtain ⟨hi, hq⟩ := hq
                                refine va_sld S.1 S.2.1 hX hbl (Nat.not_le.mpr hbl) hw.2.2.2 hi dL_law_461 ?_
                                refine lv_aload_n S.1 S.2.1 dL_law_462 rfl (lv_at hl 0 rfl) ?_
                                refine lv_iload_n S.1 S.2.1 dL_law_463 rfl (lv_at hl 3 rfl) ?_
                                refine lv_iconst (v := (2 : Int32)) S.1 S.2.1 dL_law_464 (by decide) ?_
                                refine lv_iadd S.1 S.2.1 dL_law_465 ?_
                                obtain ⟨hi, hq⟩ := hq
                                refine va_sld S.1 S.2.1 hX hbl (Nat.not_le.mpr hbl) hw.2.2.2 hi dL_law_466 ?_
                                refine lv_if_eq (tgt := 474) S.1 S.2.1 dL_law_467 rfl (fun h39 => ?_) (fun h39 => ?_)
                                · replace hq := hq.1 h39
                                  refine lv_iconst (v := (0 : Int32)) S.1 S.2.1 dL_law_474 (by decide) ?_
                                  refine lv_aload_n S.1 S.2.1 dL_law_475 rfl (lv_at hl 0 rfl) ?_
                                  refine lv_iload_n S.1 S.2.1 dL_law_476 rfl (lv_at hl 3 rfl) ?_
                                  refine lv_iconst (v := (3 : Int32)) S.1 S.2.1 dL_law_477 (by decide) ?_
                                  refine lv_iadd S.1 S.2.1 dL_law_478 ?_
                                  obtain ⟨hi, hq⟩ := hq
                                  refine va_sld S.1 S.2.1 hX hbl (Nat.not_le.mpr hbl) hw.2.2.2 hi dL_law_479 ?_
                                  refine call_X3_waiter S hw wl_L_74 hq ⟨Nat.le_of_ble_eq_true rfl, Nat.le_of_ble_eq_true rfl⟩ hl.1 (Nat.le_of_ble_eq_true rfl) ⟨Nat.le_of_ble_eq_true rfl, Nat.le_of_ble_eq_true rfl⟩ dL_law_480 (fun r40 k40 H locs hq hw => ?_)
                                  refine lv_aload_n S.1 S.2.1 dL_law_483 rfl (lv_at hl 2 rfl) ?_
                                  refine lv_aload_n S.1 S.2.1 dL_law_484 rfl (lv_at hl 0 rfl) ?_
                                  refine lv_iload_n S.1 S.2.1 dL_law_485 rfl (lv_at hl 3 rfl) ?_
                                  refine lv_iconst (v := (1 : Int32)) S.1 S.2.1 dL_law_486 (by decide) ?_
                                  refine lv_iadd S.1 S.2.1 dL_law_487 ?_
                                  obtain ⟨hi, hq⟩ := hq
                                  refine va_sld S.1 S.2.1 hX hbl (Nat.not_le.mpr hbl) hw.2.2.2 hi dL_law_488 ?_
                                  refine lv_aload_n S.1 S.2.1 dL_law_489 rfl (lv_at hl 0 rfl) ?_
                                  refine lv_iload_n S.1 S.2.1 dL_law_490 rfl (lv_at hl 3 rfl) ?_
                                  refine lv_iconst (v := (2 : Int32)) S.1 S.2.1 dL_law_491 (by decide) ?_
                                  refine lv_iadd S.1 S.2.1 dL_law_492 ?_
                                  obtain ⟨hi, hq⟩ := hq
                                  refine va_sld S.1 S.2.1 hX hbl (Nat.not_le.mpr hbl) hw.2.2.2 hi dL_law_493 ?_
                                  refine lv_if_eq (tgt := 501) S.1 S.2.1 dL_law_494 rfl (fun h41 => ?_) (fun h41 => ?_)
                                  · replace hq := hq.1 h41
                                    refine lv_iconst (v := (0 : Int32)) S.1 S.2.1 dL_law_501 (by decide) ?_
                                    refine lv_aload_n S.1 S.2.1 dL_law_502 rfl (lv_at hl 0 rfl) ?_
                                    refine lv_iload_n S.1 S.2.1 dL_law_503 rfl (lv_at hl 3 rfl) ?_
                                    refine lv_iconst (v := (3 : Int32)) S.1 S.2.1 dL_law_504 (by decide) ?_
                                    refine lv_iadd S.1 S.2.1 dL_law_505 ?_
                                    obtain ⟨hi, hq⟩ := hq
                                    refine va_sld S.1 S.2.1 hX hbl (Nat.not_le.mpr hbl) hw.2.2.2 hi dL_law_506 ?_
                                    refine call_X4_waiter S hw wl_L_78 hq ⟨Nat.le_of_ble_eq_true rfl, Nat.le_of_ble_eq_true rfl⟩ hl.1 (Nat.le_of_ble_eq_true rfl) ⟨Nat.le_of_ble_eq_true rfl, Nat.le_of_ble_eq_true rfl⟩ dL_law_507 (fun r42 k42 H locs hq hw => ?_)
                                    refine lv_icmp_eq (tgt := 610) S.1 S.2.1 dL_law_510 rfl (fun h43 => ?_) (fun h43 => ?_)
                                    · replace hq := hq.1 h43
                                      refine lv_iinc (k := 3) (v := (x3 + 4)) (lv' := [(3, .int (x3 + 4)), (0, .ref b), (1, .ref (ad (0, 0))), (2, .ref (ad (11, 0)))]) S.1 S.2.1 dL_law_610 hl rfl (ii_4 _) (by decide) rfl (fun ls hl => ?_)
                                      refine lv_goto (tgt := 58) S.1 S.2.1 dL_law_613 rfl ?_
                                      exact ih (x3 + 4) k40 k42 _ _ _ (lv_sub hl [1, 2, 3, 0] rfl) hw hq
                                    · replace hq := hq.2 h43
                                      refine lv_iconst (v := (0 : Int32)) S.1 S.2.1 dL_law_513 (by decide) ?_
                                      exact False.elim hq
                                  · replace hq := hq.2 h41
                                    refine lv_iconst (v := (1 : Int32)) S.1 S.2.1 dL_law_497 (by decide) ?_
                                    refine lv_goto (tgt := 502) S.1 S.2.1 dL_law_498 rfl ?_
                                    refine lv_aload_n S.1 S.2.1 dL_law_502 rfl (lv_at hl 0 rfl) ?_
                                    refine lv_iload_n S.1 S.2.1 dL_law_503 rfl (lv_at hl 3 rfl) ?_
                                    refine lv_iconst (v := (3 : Int32)) S.1 S.2.1 dL_law_504 (by decide) ?_
                                    refine lv_iadd S.1 S.2.1 dL_law_505 ?_
                                    obtain ⟨hi, hq⟩ := hq
                                    refine va_sld S.1 S.2.1 hX hbl (Nat.not_le.mpr hbl) hw.2.2.2 hi dL_law_506 ?_
                                    refine call_X4_waiter S hw wl_L_78 hq ⟨Nat.le_of_ble_eq_true rfl, Nat.le_of_ble_eq_true rfl⟩ hl.1 (Nat.le_of_ble_eq_true rfl) ⟨Nat.le_of_ble_eq_true rfl, Nat.le_of_ble_eq_true rfl⟩ dL_law_507 (fun r44 k44 H locs hq hw => ?_)
                                    refine lv_icmp_eq (tgt := 610) S.1 S.2.1 dL_law_510 rfl (fun h45 => ?_) (fun h45 => ?_)
                                    · replace hq := hq.1 h45
                                      refine lv_iinc (k := 3) (v := (x3 + 4)) (lv' := [(3, .int (x3 + 4)), (0, .ref b), (1, .ref (ad (0, 0))), (2, .ref (ad (11, 0)))]) S.1 S.2.1 dL_law_610 hl rfl (ii_4 _) (by decide) rfl (fun ls hl => ?_)
                                      refine lv_goto (tgt := 58) S.1 S.2.1 dL_law_613 rfl ?_
                                      exact ih (x3 + 4) k40 k44 _ _ _ (lv_sub hl [1, 2, 3, 0] rfl) hw hq
                                    · replace hq := hq.2 h45
                                      refine lv_iconst (v := (0 : Int32)) S.1 S.2.1 dL_law_513 (by decide) ?_
                                      exact False.elim hq
                                · replace hq := hq.2 h39
                                  refine lv_iconst (v := (1 : Int32)) S.1 S.2.1 dL_law_470 (by decide) ?_
                                  refine lv_goto (tgt := 475) S.1 S.2.1 dL_law_471 rfl ?_
                                  refine lv_aload_n S.1 S.2.1 dL_law_475 rfl (lv_at hl 0 rfl) ?_
                                  refine lv_iload_n S.1 S.2.1 dL_law_476 rfl (lv_at hl 3 rfl) ?_
                                  refine lv_iconst (v := (3 : Int32)) S.1 S.2.1 dL_law_477 (by decide) ?_
                                  refine lv_iadd S.1 S.2.1 dL_law_478 ?_
                                  obtain ⟨hi, hq⟩ := hq
                                  refine va_sld S.1 S.2.1 hX hbl (Nat.not_le.mpr hbl) hw.2.2.2 hi dL_law_479 ?_
                                  refine call_X3_waiter S hw wl_L_74 hq ⟨Nat.le_of_ble_eq_true rfl, Nat.le_of_ble_eq_true rfl⟩ hl.1 (Nat.le_of_ble_eq_true rfl) ⟨Nat.le_of_ble_eq_true rfl, Nat.le_of_ble_eq_true rfl⟩ dL_law_480 (fun r46 k46 H locs hq hw => ?_)
                                  refine lv_aload_n S.1 S.2.1 dL_law_483 rfl (lv_at hl 2 rfl) ?_
                                  refine lv_aload_n S.1 S.2.1 dL_law_484 rfl (lv_at hl 0 rfl) ?_
                                  refine lv_iload_n S.1 S.2.1 dL_law_485 rfl (lv_at hl 3 rfl) ?_
                                  refine lv_iconst (v := (1 : Int32)) S.1 S.2.1 dL_law_486 (by decide) ?_
                                  refine lv_iadd S.1 S.2.1 dL_law_487 ?_
                                  obtain ⟨hi, hq⟩ := hq
                                  refine va_sld S.1 S.2.1 hX hbl (Nat.not_le.mpr hbl) hw.2.2.2 hi dL_law_488 ?_
                                  refine lv_aload_n S.1 S.2.1 dL_law_489 rfl (lv_at hl 0 rfl) ?_
                                  refine lv_iload_n S.1 S.2.1 dL_law_490 rfl (lv_at hl 3 rfl) ?_
                                  refine lv_iconst (v := (2 : Int32)) S.1 S.2.1 dL_law_491 (by decide) ?_
                                  refine lv_iadd S.1 S.2.1 dL_law_492 ?_
                                  obtain ⟨hi, hq⟩ := hq
                                  refine va_sld S.1 S.2.1 hX hbl (Nat.not_le.mpr hbl) hw.2.2.2 hi dL_law_493 ?_
                                  refine lv_if_eq (tgt := 501) S.1 S.2.1 dL_law_494 rfl (fun h47 => ?_) (fun h47 => ?_)
                                  · replace hq := hq.1 h47
                                    refine lv_iconst (v := (0 : Int32)) S.1 S.2.1 dL_law_501 (by decide) ?_
                                    refine lv_aload_n S.1 S.2.1 dL_law_502 rfl (lv_at hl 0 rfl) ?_
                                    refine lv_iload_n S.1 S.2.1 dL_law_503 rfl (lv_at hl 3 rfl) ?_
                                    refine lv_iconst (v := (3 : Int32)) S.1 S.2.1 dL_law_504 (by decide) ?_
                                    refine lv_iadd S.1 S.2.1 dL_law_505 ?_
                                    obtain ⟨hi, hq⟩ := hq
                                    refine va_sld S.1 S.2.1 hX hbl (Nat.not_le.mpr hbl) hw.2.2.2 hi dL_law_506 ?_
                                    refine call_X4_waiter S hw wl_L_78 hq ⟨Nat.le_of_ble_eq_true rfl, Nat.le_of_ble_eq_true rfl⟩ hl.1 (Nat.le_of_ble_eq_true rfl) ⟨Nat.le_of_ble_eq_true rfl, Nat.le_of_ble_eq_true rfl⟩ dL_law_507 (fun r48 k48 H locs hq hw => ?_)
                                    refine lv_icmp_eq (tgt := 610) S.1 S.2.1 dL_law_510 rfl (fun h49 => ?_) (fun h49 => ?_)
                                    · replace hq := hq.1 h49
                                      refine lv_iinc (k := 3) (v := (x3 + 4)) (lv' := [(3, .int (x3 + 4)), (0, .ref b), (1, .ref (ad (0, 0))), (2, .ref (ad (11, 0)))]) S.1 S.2.1 dL_law_610 hl rfl (ii_4 _) (by decide) rfl (fun ls hl => ?_)
                                      refine lv_goto (tgt := 58) S.1 S.2.1 dL_law_613 rfl ?_
                                      exact ih (x3 + 4) k46 k48 _ _ _ (lv_sub hl [1, 2, 3, 0] rfl) hw hq
                                    · replace hq := hq.2 h49
                                      refine lv_iconst (v := (0 : Int32)) S.1 S.2.1 dL_law_513 (by decide) ?_
                                      exact False.elim hq
                                  · replace hq := hq.2 h47
                                    refine lv_iconst (v := (1 : Int32)) S.1 S.2.1 dL_law_497 (by decide) ?_
                                    refine lv_goto (tgt := 502) S.1 S.2.1 dL_law_498 rfl ?_
                                    refine lv_aload_n S.1 S.2.1 dL_law_502 rfl (lv_at hl 0 rfl) ?_
                                    refine lv_iload_n S.1 S.2.1 dL_law_503 rfl (lv_at hl 3 rfl) ?_
                                    refine lv_iconst (v := (3 : Int32)) S.1 S.2.1 dL_law_504 (by decide) ?_
                                    refine lv_iadd S.1 S.2.1 dL_law_505 ?_
                                    obtain ⟨hi, hq⟩ := hq
                                    refine va_sld S.1 S.2.1 hX hbl (Nat.not_le.mpr hbl) hw.2.2.2 hi dL_law_506 ?_
                                    refine call_X4_waiter S hw wl_L_78 hq ⟨Nat.le_of_ble_eq_true rfl, Nat.le_of_ble_eq_true rfl⟩ hl.1 (Nat.le_of_ble_eq_true rfl) ⟨Nat.le_of_ble_eq_true rfl, Nat.le_of_ble_eq_true rfl⟩ dL_law_507 (fun r50 k50 H locs hq hw => ?_)
                                    refine lv_icmp_eq (tgt := 610) S.1 S.2.1 dL_law_510 rfl (fun h51 => ?_) (fun h51 => ?_)
                                    · replace hq := hq.1 h51
                                      refine lv_iinc (k := 3) (v := (x3 + 4)) (lv' := [(3, .int (x3 + 4)), (0, .ref b), (1, .ref (ad (0, 0))), (2, .ref (ad (11, 0)))]) S.1 S.2.1 dL_law_610 hl rfl (ii_4 _) (by decide) rfl (fun ls hl => ?_)
                                      refine lv_goto (tgt := 58) S.1 S.2.1 dL_law_613 rfl ?_
                                      exact ih (x3 + 4) k46 k50 _ _ _ (lv_sub hl [1, 2, 3, 0] rfl) hw hq
                                    · replace hq := hq.2 h51
                                      refine lv_iconst (v := (0 : Int32)) S.1 S.2.1 dL_law_513 (by decide) ?_
                                      exact False.elim hq
                              · by_cases h2_13 : ((xs x3.toNatClampNeg) &&& (31 : Int32)) = (13 : Int32)
                                · replace hq := hq.2.2.2.2.2.2.2.2.2.2.2.2.2.1 h2_13
                                  refine lv_tableIn (off := 443) (tgt := 515) S.1 S.2.1 dL_law_72 (by rw [h2_13]; decide) (by rw [h2_13]; decide) (by rw [h2_13]; rfl) rfl ?_
                                  refine lv_aload_n S.1 S.2.1 dL_law_515 rfl (lv_at hl 1 rfl) ?_
                                  refine lv_aload_n S.1 S.2.1 dL_law_516 rfl (lv_at hl 0 rfl) ?_
                                  refine lv_iload_n S.1 S.2.1 dL_law_517 rfl (lv_at hl 3 rfl) ?_
                                  refine lv_iconst (v := (1 : Int32)) S.1 S.2.1 dL_law_518 (by decide) ?_
                                  refine lv_iadd S.1 S.2.1 dL_law_519 ?_
                                  obtain ⟨hi, hq⟩ := hq
                                  refine va_sld S.1 S.2.1 hX hbl (Nat.not_le.mpr hbl) hw.2.2.2 hi dL_law_520 ?_
                                  refine call_X3_memory S hw wl_L_79 hq ⟨Nat.le_of_ble_eq_true rfl, Nat.le_of_ble_eq_true rfl⟩ hl.1 (Nat.le_of_ble_eq_true rfl) ⟨Nat.le_of_ble_eq_true rfl, Nat.le_of_ble_eq_true rfl⟩ dL_law_521 (fun r52 k52 H locs hq hw => ?_)
                                  refine lv_aload_n S.1 S.2.1 dL_law_524 rfl (lv_at hl 2 rfl) ?_
                                  refine lv_aload_n S.1 S.2.1 dL_law_525 rfl (lv_at hl 0 rfl) ?_
                                  refine lv_iload_n S.1 S.2.1 dL_law_526 rfl (lv_at hl 3 rfl) ?_
                                  refine lv_iconst (v := (1 : Int32)) S.1 S.2.1 dL_law_527 (by decide) ?_
                                  refine lv_iadd S.1 S.2.1 dL_law_528 ?_
                                  obtain ⟨hi, hq⟩ := hq
                                  refine va_sld S.1 S.2.1 hX hbl (Nat.not_le.mpr hbl) hw.2.2.2 hi dL_law_529 ?_
                                  refine call_X4_memory S hw wl_L_82 hq ⟨Nat.le_of_ble_eq_true rfl, Nat.le_of_ble_eq_true rfl⟩ hl.1 (Nat.le_of_ble_eq_true rfl) ⟨Nat.le_of_ble_eq_true rfl, Nat.le_of_ble_eq_true rfl⟩ dL_law_530 (fun r53 k53 H locs hq hw => ?_)
                                  refine lv_icmp_eq (tgt := 610) S.1 S.2.1 dL_law_533 rfl (fun h54 => ?_) (fun h54 => ?_)
                                  · replace hq := hq.1 h54
                                    refine lv_iinc (k := 3) (v := (x3 + 4)) (lv' := [(3, .int (x3 + 4)), (0, .ref b), (1, .ref (ad (0, 0))), (2, .ref (ad (11, 0)))]) S.1 S.2.1 dL_law_610 hl rfl (ii_4 _) (by decide) rfl (fun ls hl => ?_)
                                    refine lv_goto (tgt := 58) S.1 S.2.1 dL_law_613 rfl ?_
                                    exact ih (x3 + 4) k52 k53 _ _ _ (lv_sub hl [1, 2, 3, 0] rfl) hw hq
                                  · replace hq := hq.2 h54
                                    refine lv_iconst (v := (0 : Int32)) S.1 S.2.1 dL_law_536 (by decide) ?_
                                    exact False.elim hq
                                · by_cases h2_14 : ((xs x3.toNatClampNeg) &&& (31 : Int32)) = (14 : Int32)
                                  · replace hq := hq.2.2.2.2.2.2.2.2.2.2.2.2.2.2.1 h2_14
                                    refine lv_tableIn (off := 466) (tgt := 538) S.1 S.2.1 dL_law_72 (by rw [h2_14]; decide) (by rw [h2_14]; decide) (by rw [h2_14]; rfl) rfl ?_
                                    refine lv_aload_n S.1 S.2.1 dL_law_538 rfl (lv_at hl 1 rfl) ?_
                                    refine call_X3_emitted S hw wl_L_83 hq ⟨Nat.le_of_ble_eq_true rfl, Nat.le_of_ble_eq_true rfl⟩ hl.1 (Nat.le_of_ble_eq_true rfl) ⟨Nat.le_of_ble_eq_true rfl, Nat.le_of_ble_eq_true rfl⟩ dL_law_539 (fun r55 k55 H locs hq hw => ?_)
                                    refine lv_aload_n S.1 S.2.1 dL_law_542 rfl (lv_at hl 2 rfl) ?_
                                    refine call_X4_emitted S hw wl_L_86 hq ⟨Nat.le_of_ble_eq_true rfl, Nat.le_of_ble_eq_true rfl⟩ hl.1 (Nat.le_of_ble_eq_true rfl) ⟨Nat.le_of_ble_eq_true rfl, Nat.le_of_ble_eq_true rfl⟩ dL_law_543 (fun r56 k56 H locs hq hw => ?_)
                                    refine lv_icmp_eq (tgt := 610) S.1 S.2.1 dL_law_546 rfl (fun h57 => ?_) (fun h57 => ?_)
                                    · replace hq := hq.1 h57
                                      refine lv_iinc (k := 3) (v := (x3 + 4)) (lv' := [(3, .int (x3 + 4)), (0, .ref b), (1, .ref (ad (0, 0))), (2, .ref (ad (11, 0)))]) S.1 S.2.1 dL_law_610 hl rfl (ii_4 _) (by decide) rfl (fun ls hl => ?_)
                                      refine lv_goto (tgt := 58) S.1 S.2.1 dL_law_613 rfl ?_
                                      exact ih (x3 + 4) k55 k56 _ _ _ (lv_sub hl [1, 2, 3, 0] rfl) hw hq
                                    · replace hq := hq.2 h57
                                      refine lv_iconst (v := (0 : Int32)) S.1 S.2.1 dL_law_549 (by decide) ?_
                                      exact False.elim hq
                                  · by_cases h2_15 : ((xs x3.toNatClampNeg) &&& (31 : Int32)) = (15 : Int32)
                                    · replace hq := hq.2.2.2.2.2.2.2.2.2.2.2.2.2.2.2.1 h2_15
                                      refine lv_tableIn (off := 479) (tgt := 551) S.1 S.2.1 dL_law_72 (by rw [h2_15]; decide) (by rw [h2_15]; decide) (by rw [h2_15]; rfl) rfl ?_
                                      refine lv_aload_n S.1 S.2.1 dL_law_551 rfl (lv_at hl 1 rfl) ?_
                                      refine lv_aload_n S.1 S.2.1 dL_law_552 rfl (lv_at hl 0 rfl) ?_
                                      refine lv_iload_n S.1 S.2.1 dL_law_553 rfl (lv_at hl 3 rfl) ?_
                                      refine lv_iconst (v := (1 : Int32)) S.1 S.2.1 dL_law_554 (by decide) ?_
                                      refine lv_iadd S.1 S.2.1 dL_law_555 ?_
                                      obtain ⟨hi, hq⟩ := hq
                                      refine va_sld S.1 S.2.1 hX hbl (Nat.not_le.mpr hbl) hw.2.2.2 hi dL_law_556 ?_
                                      refine call_X3_out S hw wl_L_87 hq ⟨Nat.le_of_ble_eq_true rfl, Nat.le_of_ble_eq_true rfl⟩ hl.1 (Nat.le_of_ble_eq_true rfl) ⟨Nat.le_of_ble_eq_true rfl, Nat.le_of_ble_eq_true rfl⟩ dL_law_557 (fun r58 k58 H locs hq hw => ?_)
                                      refine lv_aload_n S.1 S.2.1 dL_law_560 rfl (lv_at hl 2 rfl) ?_
                                      refine lv_aload_n S.1 S.2.1 dL_law_561 rfl (lv_at hl 0 rfl) ?_
                                      refine lv_iload_n S.1 S.2.1 dL_law_562 rfl (lv_at hl 3 rfl) ?_
                                      refine lv_iconst (v := (1 : Int32)) S.1 S.2.1 dL_law_563 (by decide) ?_
                                      refine lv_iadd S.1 S.2.1 dL_law_564 ?_
                                      obtain ⟨hi, hq⟩ := hq
                                      refine va_sld S.1 S.2.1 hX hbl (Nat.not_le.mpr hbl) hw.2.2.2 hi dL_law_565 ?_
                                      refine call_X4_out S hw wl_L_90 hq ⟨Nat.le_of_ble_eq_true rfl, Nat.le_of_ble_eq_true rfl⟩ hl.1 (Nat.le_of_ble_eq_true rfl) ⟨Nat.le_of_ble_eq_true rfl, Nat.le_of_ble_eq_true rfl⟩ dL_law_566 (fun r59 k59 H locs hq hw => ?_)
                                      refine lv_icmp_eq (tgt := 610) S.1 S.2.1 dL_law_569 rfl (fun h60 => ?_) (fun h60 => ?_)
                                      · replace hq := hq.1 h60
                                        refine lv_iinc (k := 3) (v := (x3 + 4)) (lv' := [(3, .int (x3 + 4)), (0, .ref b), (1, .ref (ad (0, 0))), (2, .ref (ad (11, 0)))]) S.1 S.2.1 dL_law_610 hl rfl (ii_4 _) (by decide) rfl (fun ls hl => ?_)
                                        refine lv_goto (tgt := 58) S.1 S.2.1 dL_law_613 rfl ?_
                                        exact ih (x3 + 4) k58 k59 _ _ _ (lv_sub hl [1, 2, 3, 0] rfl) hw hq
                                      · replace hq := hq.2 h60
                                        refine lv_iconst (v := (0 : Int32)) S.1 S.2.1 dL_law_572 (by decide) ?_
                                        exact False.elim hq
                                    · by_cases h2_16 : ((xs x3.toNatClampNeg) &&& (31 : Int32)) = (16 : Int32)
                                      · replace hq := hq.2.2.2.2.2.2.2.2.2.2.2.2.2.2.2.2.1 h2_16
                                        refine lv_tableIn (off := 502) (tgt := 574) S.1 S.2.1 dL_law_72 (by rw [h2_16]; decide) (by rw [h2_16]; decide) (by rw [h2_16]; rfl) rfl ?_
                                        refine lv_aload_n S.1 S.2.1 dL_law_574 rfl (lv_at hl 1 rfl) ?_
                                        refine lv_aload_n S.1 S.2.1 dL_law_575 rfl (lv_at hl 0 rfl) ?_
                                        refine lv_iload_n S.1 S.2.1 dL_law_576 rfl (lv_at hl 3 rfl) ?_
                                        refine lv_iconst (v := (1 : Int32)) S.1 S.2.1 dL_law_577 (by decide) ?_
                                        refine lv_iadd S.1 S.2.1 dL_law_578 ?_
                                        obtain ⟨hi, hq⟩ := hq
                                        refine va_sld S.1 S.2.1 hX hbl (Nat.not_le.mpr hbl) hw.2.2.2 hi dL_law_579 ?_
                                        refine call_X3_why S hw wl_L_91 hq ⟨Nat.le_of_ble_eq_true rfl, Nat.le_of_ble_eq_true rfl⟩ hl.1 (Nat.le_of_ble_eq_true rfl) ⟨Nat.le_of_ble_eq_true rfl, Nat.le_of_ble_eq_true rfl⟩ dL_law_580 (fun r61 k61 H locs hq hw => ?_)
                                        refine lv_aload_n S.1 S.2.1 dL_law_583 rfl (lv_at hl 2 rfl) ?_
                                        refine lv_aload_n S.1 S.2.1 dL_law_584 rfl (lv_at hl 0 rfl) ?_
                                        refine lv_iload_n S.1 S.2.1 dL_law_585 rfl (lv_at hl 3 rfl) ?_
                                        refine lv_iconst (v := (1 : Int32)) S.1 S.2.1 dL_law_586 (by decide) ?_
                                        refine lv_iadd S.1 S.2.1 dL_law_587 ?_
                                        obtain ⟨hi, hq⟩ := hq
                                        refine va_sld S.1 S.2.1 hX hbl (Nat.not_le.mpr hbl) hw.2.2.2 hi dL_law_588 ?_
                                        refine call_X4_why S hw wl_L_94 hq ⟨Nat.le_of_ble_eq_true rfl, Nat.le_of_ble_eq_true rfl⟩ hl.1 (Nat.le_of_ble_eq_true rfl) ⟨Nat.le_of_ble_eq_true rfl, Nat.le_of_ble_eq_true rfl⟩ dL_law_589 (fun r62 k62 H locs hq hw => ?_)
                                        refine lv_icmp_eq (tgt := 610) S.1 S.2.1 dL_law_592 rfl (fun h63 => ?_) (fun h63 => ?_)
                                        · replace hq := hq.1 h63
                                          refine lv_iinc (k := 3) (v := (x3 + 4)) (lv' := [(3, .int (x3 + 4)), (0, .ref b), (1, .ref (ad (0, 0))), (2, .ref (ad (11, 0)))]) S.1 S.2.1 dL_law_610 hl rfl (ii_4 _) (by decide) rfl (fun ls hl => ?_)
                                          refine lv_goto (tgt := 58) S.1 S.2.1 dL_law_613 rfl ?_
                                          exact ih (x3 + 4) k61 k62 _ _ _ (lv_sub hl [1, 2, 3, 0] rfl) hw hq
                                        · replace hq := hq.2 h63
                                          refine lv_iconst (v := (0 : Int32)) S.1 S.2.1 dL_law_595 (by decide) ?_
                                          exact False.elim hq
                                      · by_cases h2_17 : ((xs x3.toNatClampNeg) &&& (31 : Int32)) = (17 : Int32)
                                        · replace hq := hq.2.2.2.2.2.2.2.2.2.2.2.2.2.2.2.2.2.1 h2_17
                                          refine lv_tableIn (off := 525) (tgt := 597) S.1 S.2.1 dL_law_72 (by rw [h2_17]; decide) (by rw [h2_17]; decide) (by rw [h2_17]; rfl) rfl ?_
                                          refine lv_aload_n S.1 S.2.1 dL_law_597 rfl (lv_at hl 1 rfl) ?_
                                          refine call_X3_clock S hw wl_L_95 hq ⟨Nat.le_of_ble_eq_true rfl, Nat.le_of_ble_eq_true rfl⟩ hl.1 (Nat.le_of_ble_eq_true rfl) ⟨Nat.le_of_ble_eq_true rfl, Nat.le_of_ble_eq_true rfl⟩ dL_law_598 (fun r64 k64 H locs hq hw => ?_)
                                          refine lv_aload_n S.1 S.2.1 dL_law_601 rfl (lv_at hl 2 rfl) ?_
                                          refine call_X4_clock S hw wl_L_98 hq ⟨Nat.le_of_ble_eq_true rfl, Nat.le_of_ble_eq_true rfl⟩ hl.1 (Nat.le_of_ble_eq_true rfl) ⟨Nat.le_of_ble_eq_true rfl, Nat.le_of_ble_eq_true rfl⟩ dL_law_602 (fun r65 k65 H locs hq hw => ?_)
                                          refine lv_icmp_eq (tgt := 610) S.1 S.2.1 dL_law_605 rfl (fun h66 => ?_) (fun h66 => ?_)
                                          · replace hq := hq.1 h66
                                            refine lv_iinc (k := 3) (v := (x3 + 4)) (lv' := [(3, .int (x3 + 4)), (0, .ref b), (1, .ref (ad (0, 0))), (2, .ref (ad (11, 0)))]) S.1 S.2.1 dL_law_610 hl rfl (ii_4 _) (by decide) rfl (fun ls hl => ?_)
                                            refine lv_goto (tgt := 58) S.1 S.2.1 dL_law_613 rfl ?_
                                            exact ih (x3 + 4) k64 k65 _ _ _ (lv_sub hl [1, 2, 3, 0] rfl) hw hq
                                          · replace hq := hq.2 h66
                                            refine lv_iconst (v := (0 : Int32)) S.1 S.2.1 dL_law_608 (by decide) ?_
                                            exact False.elim hq
                                        · replace hq := hq.2.2.2.2.2.2.2.2.2.2.2.2.2.2.2.2.2.2 h2_0 h2_1 h2_2 h2_3 h2_4 h2_5 h2_6 h2_7 h2_8 h2_9 h2_10 h2_11 h2_12 h2_13 h2_14 h2_15 h2_16 h2_17
                                          refine kg_tab (tgt := 610) S dL_law_72 (by
                                              have a0 := i32_ne (n := 0) (by decide) h2_0
                                              have a1 := i32_ne (n := 1) (by decide) h2_1
                                              have a2 := i32_ne (n := 2) (by decide) h2_2
                                              have a3 := i32_ne (n := 3) (by decide) h2_3
                                              have a4 := i32_ne (n := 4) (by decide) h2_4
                                              have a5 := i32_ne (n := 5) (by decide) h2_5
                                              have a6 := i32_ne (n := 6) (by decide) h2_6
                                              have a7 := i32_ne (n := 7) (by decide) h2_7
                                              have a8 := i32_ne (n := 8) (by decide) h2_8
                                              have a9 := i32_ne (n := 9) (by decide) h2_9
                                              have a10 := i32_ne (n := 10) (by decide) h2_10
                                              have a11 := i32_ne (n := 11) (by decide) h2_11
                                              have a12 := i32_ne (n := 12) (by decide) h2_12
                                              have a13 := i32_ne (n := 13) (by decide) h2_13
                                              have a14 := i32_ne (n := 14) (by decide) h2_14
                                              have a15 := i32_ne (n := 15) (by decide) h2_15
                                              have a16 := i32_ne (n := 16) (by decide) h2_16
                                              have a17 := i32_ne (n := 17) (by decide) h2_17
                                              left; omega
                                            ) rfl ?_
                                          refine lv_iinc (k := 3) (v := (x3 + 4)) (lv' := [(3, .int (x3 + 4)), (0, .ref b), (1, .ref (ad (0, 0))), (2, .ref (ad (11, 0)))]) S.1 S.2.1 dL_law_610 hl rfl (ii_4 _) (by decide) rfl (fun ls hl => ?_)
                                          refine lv_goto (tgt := 58) S.1 S.2.1 dL_law_613 rfl ?_
                                          exact ih (x3 + 4) k0 z0 _ _ _ (lv_sub hl [1, 2, 3, 0] rfl) hw hq
end KL
