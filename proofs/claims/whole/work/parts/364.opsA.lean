/-! receive -/
section OA
variable {cf : Nat → Nat} {a e : Nat} {k z k' z' : ka_T} {s t c d p j f n q : Nat} {v x y o : Int32} {P : Int32 → ka_T → ka_T → Prop}
theorem e_remove {post : Int32 → ka_T → Prop} (hb : Cb_ cf) (hc : k 2 q 0 = nI (c + 1)) (hf : k 1 q 0 = nI f) (h1 : f < cf 3) (hp : post (k 0 q f) (k3_up (k3_up k 1 q 0 (nI (wr_ cf (f + 1)))) 2 q 0 (nI c))) : q_X0_removeFirst cf post q k := by
  have h6 := hb.2.2.2.2.2.2
  have h61 := hb.2.2.2.2.2.1
  refine ⟨by rw [hf]; exact vp_in_nI h1 (by omega), e_slot (c := 1) hb hf h1 (by omega) (fun k2 e2 k3 e3 => ?_)⟩
  have f1 : k2 2 q 0 = nI (c + 1) := by rw [e2, k3_ne (by omega)]; exact hc
  rw [e3, f1, nI_pred, e2, hf, nI_clamp (by omega)]
  exact hp
theorem m_shift {post : ka_T → Prop} {z0 : ka_T} (h4 : q < 4) (hd : d ≤ 5) (hz0 : z0 421 0 q = nI d)
    (hE : ∀ zf : ka_T, (∀ f n j, ¬ (f = 422 ∧ n = q) → zf f n j = z0 f n j) → (∀ j, j < d → zf 422 q j = z0 422 q (j + 1)) → q_X4_inState cf (fun r2 k2 => (r2 < 0 → (post k2)) ∧ (¬ r2 < 0 → (vp_in r2 8 ∧ (q_X4_append cf (fun k4 => q_X4_set cf (fun k5 => post k5) r2 (1 : Int32) k4) (nI q) (k2 418 0 r2.toNatClampNeg) k2)))) (3 : Int32) (nI q) (0 : Int32) zf) :
    ∀ (m i : Nat) (zi : ka_T), i + m = d → (∀ f n j, ¬ (f = 422 ∧ n = q) → zi f n j = z0 f n j) → (∀ j, j < i → zi 422 q j = z0 422 q (j + 1)) → (∀ j, i ≤ j → zi 422 q j = z0 422 q j) → q_X4_receive_67 cf post (m + 1) (nI q) (nI i) zi := by
  have cq : (nI q).toNatClampNeg = q := nI_clamp (by omega)
  have v4 : vp_in (nI q) 4 := vp_in_nI h4 (by decide)
  intro m
  induction m with
  | zero =>
    intro i zi hi h1 h2 h3
    have : i = d := by omega
    subst this
    refine ⟨v4, fun _ => hE zi h1 h2, fun hn => ?_⟩
    rw [cq, h1 421 0 q (by omega), hz0] at hn
    exact absurd (nI_le (Nat.le_refl _) (by omega)) hn
  | succ m ih =>
    intro i zi hi h1 h2 h3
    refine ⟨v4, fun hn => ?_, fun _ => ?_⟩
    · rw [cq, h1 421 0 q (by omega), hz0] at hn
      exact absurd hn (nI_ge (by omega) (by omega))
    · have f4 : (6 : Int32) * nI q + nI i = nI (6 * q + i) := by rw [show (6 : Int32) = nI 6 from rfl, pk_mul, nI_add]
      rw [f4, nI_1, nI_clamp (show 6 * q + i < 2 ^ 31 by omega), nI_clamp (show 6 * q + i + 1 < 2 ^ 31 by omega), show (6 * q + i) / 6 = q by omega, show (6 * q + i) % 6 = i by omega, show (6 * q + i + 1) / 6 = q by omega, show (6 * q + i + 1) % 6 = i + 1 by omega]
      refine ⟨vp_in_nI (by omega) (by decide), vp_in_nI (by omega) (by decide), fun k6 e6 => ?_⟩
      rw [nI_1]
      refine ih (i + 1) k6 (by omega) (fun f n j hn => ?_) (fun j hj => ?_) (fun j hj => ?_)
      · rw [e6, k3_ne (by omega)]; exact h1 f n j hn
      · rw [e6]
        by_cases ej : j = i
        · subst ej; rw [k3_same]; exact h3 (j + 1) (by omega)
        · rw [k3_ne (by omega)]; exact h2 j (by omega)
      · rw [e6, k3_ne (by omega)]; exact h3 j (by omega)
theorem op_22 (hb : Cb_ cf) (h : Cs_ cf a e k z s) (ha : a < 2 ^ 31) (x : Int32) (hp : ∀ r k' z', Ro_ cf a e s r k' z' → P r k' z') : q_X3_receive cf (fun r k' => q_X4_receive cf (fun z' => P r k' z') x z) s x k := by
  have h8 := cs_8 hb h
  have h08 := hb.2.1
  have h16 := hb.2.2.2.1
  have h4 := hb.2.2.2.2.1
  have h6 := hb.2.2.2.2.2.2
  have hs := h.2.2.2.1
  have ht := h.2.2.2.2
  have e1 : (z 425 0 0).toNatClampNeg = s := by rw [hs, nI_clamp (by omega)]
  have v8 : vp_in (z 425 0 0) 8 := by rw [hs]; exact vp_in_nI h8 (by decide)
  obtain ⟨c, c1, c2, c3, c4⟩ := cs_count h
  rcases ix_q x hb with ⟨q, hj, rfl⟩ | ⟨x1, x2⟩
  · have eq : (nI q).toNatClampNeg = q := nI_clamp (by omega)
    have v4 : vp_in (nI q) 4 := vp_in_nI (by omega) (by decide)
    obtain ⟨cq, f, q1, f1, qk, qf, qz, q5⟩ := h.1.1.2.2.2.2.2.2.2 q hj
    refine e_qu1 hb hj ⟨fun _ => ?_, fun hn => absurd hn (by decide)⟩
    unfold q_X1_isFull
    rw [c2, pl_e]
    by_cases hc : c < cf 1
    · refine ⟨fun _ => ⟨fun _ => ⟨vp_in_nI hj (by omega), fun t5 e5 _ => ?_⟩, fun hn => absurd rfl hn⟩, fun hn => absurd (nI_lt hc (by omega)) hn⟩
      rw [eq] at e5
      subst e5
      rw [qk]
      have into : ∀ G : ka_T → Prop, ((nI cq ≤ 0 → (vp_in (z 425 0 0) 8 ∧ (∀ k11 : ka_T, k11 = k3_up z 417 0 s (nI t5) → (q_X4_set cf (fun k12 => G k12) (k11 425 0 0) (4 : Int32) k11)))) ∧ (¬ nI cq ≤ 0 → (q_X4_put cf (fun k13 => vp_in (nI t5) 4 ∧ (vp_in (nI t5) 4 ∧ (∀ k14 : ka_T, k14 = k3_up k13 421 0 t5 ((k13 421 0 t5) - (1 : Int32)) → (∃ mf : Nat, q_X4_receive_67 cf G mf (nI t5) (0 : Int32) k14)))) (z 422 t5 0) z))) → q_X4_receive cf G (nI t5) z := fun G hG => by
        refine m_qu1 hb hj ht ⟨fun _ => ⟨v8, fun _ => ⟨v4, ?_⟩, fun hn => ?_⟩, fun hn => absurd rfl hn⟩
        · have f4 : (6 : Int32) * nI t5 = nI (6 * t5) := by rw [show (6 : Int32) = nI 6 from rfl, pk_mul]
          rw [eq, qz, e1, f4, nI_clamp (show 6 * t5 < 2 ^ 31 by omega), show 6 * t5 / 6 = t5 by omega, show 6 * t5 % 6 = 0 by omega]
          exact ⟨hG.1, fun h9 => ⟨vp_in_nI (by omega) (by decide), hG.2 h9⟩⟩
        · rw [e1, c3] at hn
          have := (nI_eq (show c < 2 ^ 31 by omega) (show cf 1 < 2 ^ 31 by omega)).mp hn
          omega
      refine ⟨fun h1 => ?_, fun h1 => ?_⟩
      · have hq1 : 1 ≤ cq := Nat.not_lt.mp fun hh => i1_n hh h1
        obtain ⟨d, rfl⟩ : ∃ d, cq = d + 1 := ⟨cq - 1, by omega⟩
        have hd0 : ¬ nI (d + 1) ≤ 0 := nI_nle (by omega) (by omega)
        have h51 : k 0 t5 f = z 422 t5 0 := by
          have := q5 0 (by omega)
          rw [if_pos (by omega)] at this
          exact this
        obtain ⟨f', ef'⟩ : ∃ f', f' = wr_ cf (f + 1) := ⟨_, rfl⟩
        have hf' : f' < cf 3 := by rw [ef']; unfold wr_; split <;> omega
        have hpu := cs_push h hc c4 (z 422 t5 0)
        obtain ⟨k3, ek3⟩ : ∃ k3, k3 = k3_up (k3_up (k3_up (k3_up k 1 t5 0 (nI f')) 2 t5 0 (nI d)) 100 (2 * s) c (z 422 t5 0)) 101 (2 * s) 0 (nI (c + 1)) := ⟨_, rfl⟩
        obtain ⟨kp, ekp⟩ : ∃ kp, kp = k3_up (k3_up k 100 (2 * s) c (z 422 t5 0)) 101 (2 * s) 0 (nI (c + 1)) := ⟨_, rfl⟩
        obtain ⟨zp, ezp⟩ : ∃ zp, zp = k3_up (k3_up z 413 s c (z 422 t5 0)) 412 0 s (nI (c + 1)) := ⟨_, rfl⟩
        rw [← ekp, ← ezp] at hpu
        have hk3 : ∀ f n j, ¬ (f < 3 ∧ n = t5) → k3 f n j = kp f n j := fun f n j hn => by
          rw [ek3, ekp]
          simp only [k3_up]
          rw [if_neg (show ¬ (f = 2 ∧ n = t5 ∧ j = 0) by omega), if_neg (show ¬ (f = 1 ∧ n = t5 ∧ j = 0) by omega)]
        have k3c : k3 2 t5 0 = nI d := by rw [ek3, k3_ne (by omega), k3_ne (by omega), k3_same]
        have k3f : k3 1 t5 0 = nI f' := by rw [ek3, k3_ne (by omega), k3_ne (by omega), k3_ne (by omega), k3_same]
        have k30 : ∀ i, k3 0 t5 i = k 0 t5 i := fun i => by rw [ek3, k3_ne (by omega), k3_ne (by omega), k3_ne (by omega), k3_ne (by omega)]
        have zp1 : zp 421 0 t5 = nI (d + 1) := by rw [ezp, k3_ne (by omega), k3_ne (by omega)]; exact qz
        have zp2 : ∀ i, zp 422 t5 i = z 422 t5 i := fun i => by rw [ezp, k3_ne (by omega), k3_ne (by omega)]
        -- the state behind the shift
        have aft : ∀ zf : ka_T, (∀ f n j, ¬ (f = 422 ∧ n = t5) → zf f n j = k3_up zp 421 0 t5 (nI d) f n j) → (∀ j, j < d → zf 422 t5 j = k3_up zp 421 0 t5 (nI d) 422 t5 (j + 1)) → Cs_ cf a e k3 zf s ∧ zf 421 0 t5 = nI d ∧ ∀ j, j < d → k3 0 t5 (if f' + j < cf 3 then f' + j else f' + j - cf 3) = zf 422 t5 j := fun zf z1 z2 => by
          have zz : ∀ f n j, ¬ ((f = 421 ∧ n = 0 ∧ j = t5) ∨ (f = 422 ∧ n = t5)) → zf f n j = zp f n j := fun f n j hn => by rw [z1 f n j (by omega), k3_ne (by omega)]
          have zc : zf 421 0 t5 = nI d := by rw [z1 _ _ _ (by omega), k3_same]
          have zr : ∀ j, j < d → k3 0 t5 (if f' + j < cf 3 then f' + j else f' + j - cf 3) = zf 422 t5 j := fun j hj => by
            rw [k30, z2 j hj, k3_ne (by omega), zp2, ← q5 (j + 1) (by omega), ef']
            unfold wr_
            congr 1
            split <;> split <;> split <;> omega
          refine ⟨⟨Cp_queue (q := t5) hpu.1 hk3 zz ⟨d, f', by omega, hf', k3c, k3f, zc, zr⟩, hpu.2.1, ?_, ?_, ?_⟩, zc, zr⟩
          · rw [zz _ _ _ (by omega)]; exact hpu.2.2.1
          · rw [zz _ _ _ (by omega)]; exact hpu.2.2.2.1
          · rw [zz _ _ _ (by omega)]; exact hpu.2.2.2.2
        -- the reference up to the shift
        have into2 : ∀ G : ka_T → Prop, (∀ zf : ka_T, (∀ f n j, ¬ (f = 422 ∧ n = t5) → zf f n j = k3_up zp 421 0 t5 (nI d) f n j) → (∀ j, j < d → zf 422 t5 j = k3_up zp 421 0 t5 (nI d) 422 t5 (j + 1)) → q_X4_inState cf (fun r2 k2 => (r2 < 0 → (G k2)) ∧ (¬ r2 < 0 → (vp_in r2 8 ∧ (q_X4_append cf (fun k4 => q_X4_set cf (fun k5 => G k5) r2 (1 : Int32) k4) (nI t5) (k2 418 0 r2.toNatClampNeg) k2)))) (3 : Int32) (nI t5) (0 : Int32) zf) → q_X4_receive cf G (nI t5) z := fun G hG => by
          refine into G ⟨fun hn => absurd hn hd0, fun _ => m_put hs h8 ht c3 hc h16 ⟨v4, v4, fun k14 e14 => ?_⟩⟩
          rw [← ezp, zp1, nI_pred] at e14
          rw [e14]
          exact ⟨d + 1, m_shift (z0 := k3_up zp 421 0 t5 (nI d)) (by omega) (by omega) (k3_same _ _ _ _ _) hG d 0 _ (by omega) (fun _ _ _ _ => rfl) (fun j hj => absurd hj (by omega)) (fun _ _ => rfl)⟩
        obtain ⟨zf0, z10, z20⟩ : ∃ zf0 : ka_T, (∀ f n j, ¬ (f = 422 ∧ n = t5) → zf0 f n j = k3_up zp 421 0 t5 (nI d) f n j) ∧ (∀ j, j < d → zf0 422 t5 j = k3_up zp 421 0 t5 (nI d) 422 t5 (j + 1)) := ⟨fun f n j => if f = 422 ∧ n = t5 then k3_up zp 421 0 t5 (nI d) 422 t5 (j + 1) else k3_up zp 421 0 t5 (nI d) f n j, fun f n j hn => if_neg hn, fun j _ => if_pos ⟨rfl, rfl⟩⟩
        refine e_remove hb qk qf f1 ?_
        rw [← ef', h51]
        refine e_push (c := c) (by rw [k3_ne (by omega), k3_ne (by omega)]; exact c2) (by rw [pl_e]; exact hc) (by rw [pl_e]; omega) ?_
        rw [← ek3]
        obtain ⟨hc0, -, -⟩ := aft zf0 z10 z20
        obtain ⟨F, hF, hKf, -⟩ := w_first (q := t5) hb hc0.1 ha 3 (by decide) (by omega)
        -- whoever waits is the same in every such state
        refine hKf _ ?_
        have same : ∀ zf : ka_T, (∀ f n j, ¬ (f = 422 ∧ n = t5) → zf f n j = k3_up zp 421 0 t5 (nI d) f n j) → (∀ j, j < d → zf 422 t5 j = k3_up zp 421 0 t5 (nI d) 422 t5 (j + 1)) → ∀ post : Int32 → ka_T → Prop, (F = none → post (-1) zf) → (∀ t, F = some t → post (nI t) zf) → q_X4_inState cf post (nI 3) (nI t5) 0 zf := fun zf z1 z2 post hN hS => by
          obtain ⟨hcf, -, -⟩ := aft zf z1 z2
          obtain ⟨F2, hF2, hKf2, hMf2⟩ := w_first (q := t5) hb hcf.1 ha 3 (by decide) (by omega)
          have ok := hKf2 (fun r _ => r = F2) rfl
          have ok2 := hKf (fun r _ => r = F) rfl
          have uniq : ∀ nf1 nf2 o (i : Int32) (kk : ka_T), q_X3_firstWaiting_5 cf (fun r _ => r = F) nf1 (nI 3) (nI t5) o i kk → q_X3_firstWaiting_5 cf (fun r _ => r = F2) nf2 (nI 3) (nI t5) o i kk → (∀ n, o = some n → n < cf 0) → F = F2 := by
            intro nf1
            induction nf1 with
            | zero => intro nf2 o i kk h1; exact h1.elim
            | succ nf1 ih =>
              intro nf2 o i kk h1 h2 ho
              cases nf2 with
              | zero => exact h2.elim
              | succ nf2 =>
                cases o with
                | none =>
                  have a1 := h1.1 rfl
                  have a2 := h2.1 rfl
                  by_cases hi : nI (cf 0) ≤ i
                  · exact (a1.1 hi).symm.trans (a2.1 hi)
                  · obtain ⟨v, b1⟩ := a1.2 hi
                    obtain ⟨-, b2⟩ := a2.2 hi
                    have b1 := b1 _ rfl (vp_lt v)
                    have b2 := b2 _ rfl (vp_lt v)
                    by_cases g1 : kk 203 i.toNatClampNeg 0 = nI 3
                    · by_cases g2 : kk 208 i.toNatClampNeg 0 = nI t5
                      · exact ih nf2 _ _ _ (((b1.2 g1).2 g2).2 (by decide)) (((b2.2 g1).2 g2).2 (by decide)) (fun n hn => by cases hn; exact vp_lt v)
                      · exact ih nf2 _ _ _ (((b1.2 g1).1 g2).1 rfl) (((b2.2 g1).1 g2).1 rfl) ho
                    · exact ih nf2 _ _ _ ((b1.1 g1).1 rfl) ((b2.1 g1).1 rfl) ho
                | some m =>
                  have hm := ho m rfl
                  have a1 := h1.2 m rfl hm
                  have a2 := h2.2 m rfl hm
                  by_cases hi : nI (cf 0) ≤ i
                  · exact (a1.1 hi).symm.trans (a2.1 hi)
                  · obtain ⟨v, b1⟩ := a1.2 hi
                    obtain ⟨-, b2⟩ := a2.2 hi
                    have b1 := b1 _ rfl (vp_lt v)
                    have b2 := b2 _ rfl (vp_lt v)
                    by_cases g1 : kk 203 i.toNatClampNeg 0 = nI 3
                    · by_cases g2 : kk 208 i.toNatClampNeg 0 = nI t5
                      · have d1 := ((b1.2 g1).2 g2).2 (by decide)
                        have d2 := ((b2.2 g1).2 g2).2 (by decide)
                        by_cases g3 : kk 206 m 0 ≤ kk 206 i.toNatClampNeg 0
                        · exact ih nf2 _ _ _ (d1.1 g3) (d2.1 g3) ho
                        · exact ih nf2 _ _ _ (d1.2 g3) (d2.2 g3) (fun n hn => by cases hn; exact vp_lt v)
                      · exact ih nf2 _ _ _ (((b1.2 g1).1 g2).1 rfl) (((b2.2 g1).1 g2).1 rfl) ho
                    · exact ih nf2 _ _ _ ((b1.1 g1).1 rfl) ((b2.1 g1).1 rfl) ho
          obtain ⟨nf1, o1⟩ := ok2
          obtain ⟨nf2, o2⟩ := ok
          have eF := uniq nf1 nf2 _ _ _ o1 o2 (fun n hn => by cases hn)
          exact hMf2 post (fun h9 => hN (eF.trans h9)) (fun t h9 => hS t (eF.trans h9))
        cases F with
        | none =>
          refine ⟨fun _ => into2 _ (fun zf z1 z2 => same zf z1 z2 _ (fun _ => ⟨fun _ => hp _ _ _ (ro_ok (aft zf z1 z2).1), fun hn => absurd (by decide) hn⟩) (fun t h9 => (by cases h9))), fun t9 h9 => (by cases h9)⟩
        | some t =>
          obtain ⟨g1, g2, g3⟩ := hF t rfl
          refine ⟨fun h9 => (by cases h9), fun t9 h9 _ => ?_⟩
          cases h9
          refine e_add hb k3c k3f hf' (by omega) (e_enter (into2 _ (fun zf z1 z2 => same zf z1 z2 _ (fun h9 => (by cases h9)) (fun t9 h9 => ?_))))
          cases h9
          obtain ⟨hcs, zc, zr⟩ := aft zf z1 z2
          have g2' : zf 409 0 t = nI 3 := by rw [z1 _ _ _ (by omega), ← z10 409 0 t (by omega)]; exact g2
          have lt : ¬ zf 409 0 t = 0 := by rw [g2']; decide
          obtain ⟨-, -, -, -, -, -, -, -, -, l10⟩ := ((hcs.1.2.2 t g1).2.2.2 lt).2
          refine ⟨fun hn => absurd hn (nI_pos (by omega)), fun _ => ⟨vp_in_nI (by omega) (by omega), ?_⟩⟩
          rw [nI_clamp (by omega), ← l10 g2']
          have hadd := cp_add hb hcs.1 k3c k3f zc hf' (by omega) zr (k3 209 t 0)
          refine m_append (by omega) zc (by omega) (m_set (by omega) (hp _ _ _ (ro_cp (a' := a + 1) (e' := e) ?_ ?_ (by omega) (by omega) (cp_ready hb hadd g1 ?_ ha))))
          · rw [se_o (by omega) (by omega), k3_ne (by omega), k3_ne (by omega)]; exact hcs.2.2.2.1
          · rw [se_o (by omega) (by omega), k3_ne (by omega), k3_ne (by omega)]; exact hcs.2.2.2.2
          · rw [k3_ne (by omega), k3_ne (by omega)]; exact lt
      · have hq0 : cq = 0 := by have : ¬ 1 ≤ cq := fun hh => h1 (i1_le hh (by omega)); omega
        subst hq0
        refine e_enter (fun k2 e2 => into _ ⟨fun _ => ⟨v8, fun k11 e11 => ?_⟩, fun hn => absurd (by decide) hn⟩)
        have g1 : k11 425 0 0 = nI s := by rw [e11, k3_ne (by omega)]; exact hs
        rw [g1]
        have e2' : k2 = k3_up (en_ k s (nI 4)) 208 s 0 (nI t5) := e2
        have e11' : se_ k11 s 4 = se_ (k3_up z 417 0 s (nI t5)) s (nI 4) := by rw [e11]; rfl
        refine m_set h8 (hp _ _ _ (ro_cp (a' := a + 1) (e' := e) ?_ ?_ (by omega) (by omega) (cp_wait hb h ha 4 (by decide) (fun _ c' hc' hz' => ?_) (nI t5) 0 (Or.inl e2') (Or.inl e11') (fun h9 => absurd h9 (by decide)))))
        · rw [se_o (by omega) (by omega)]; exact g1
        · rw [se_o (by omega) (by omega), e11, k3_ne (by omega)]; exact ht
        · rw [c3] at hz'
          have := (nI_eq (show c < 2 ^ 31 by omega) (show c' < 2 ^ 31 by omega)).mp hz'
          omega
    · have hc1 : c = cf 1 := by omega
      rw [hc1] at c3 ⊢
      refine ⟨fun hn => absurd hn Int32.lt_irrefl, fun _ => ⟨fun hn => absurd hn (by decide), fun _ => m_qu1 hb hj ht ⟨fun _ => ⟨v8, fun hn => absurd (by rw [e1]; exact c3) hn, fun _ => m_fall0 ht (hp _ _ _ (ro_t h 1 (by decide) (Or.inl rfl) (Or.inl rfl)))⟩, fun hn => absurd rfl hn⟩⟩⟩
  · exact e_qu0 x1 ⟨fun hn => absurd rfl hn, fun _ => m_qu0 x2 ht ⟨fun hn => absurd hn (by decide), fun _ => hp _ _ _ (ro_t h 6 (by decide) (Or.inl rfl) (Or.inl rfl))⟩⟩
end OA
