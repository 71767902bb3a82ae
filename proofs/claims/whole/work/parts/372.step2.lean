/-! one step, side by side, as one answer and two states -/
section OT
variable {cf : Nat → Nat} {a e : Nat} {k z : ka_T} {s t c d p j f n : Nat} {v x y o : Int32}
theorem wt_kd {A : Int32 → ka_T → Prop} (h : kd_ cf A s o x k) : ∃ (r : Int32) (k1 : ka_T), A r k1 ∧ ∀ post : Int32 → ka_T → Prop, post r k1 → kd_ cf post s o x k := by
  unfold kd_ at h ⊢
  by_cases h1 : (10 : Int32) < o
  · refine w_p1i h1 ?_
    replace h := h.1 h1
    by_cases h2 : (17 : Int32) < o
    · refine w_p1i h2 ?_
      exact wt_X3_runWithOthers (h.1 h2)
    · refine w_p2i h2 ?_
      exact wt_X3_runOnItself (h.2 h2)
  · refine w_p2i h1 ?_
    exact wt_X3_runOnNumbers (h.2 h1)
def mk_ (i : Nat) : Nat := if i = 1 then 0 else if i = 0 then 1 else i
theorem mk_le {i : Nat} (h : i ≤ 4) : mk_ i ≤ 4 := by unfold mk_; split <;> (try split) <;> omega
theorem e_mark {post : Int32 → ka_T → Prop} {i : Nat} (hi : i ≤ 4) (hv : v = nI i) (hp : post (nI (mk_ i)) k) : q_X3_markOf cf post v k := by
  subst hv
  match i, hi with
  | 0, _ => exact ⟨fun _ => ⟨fun h => absurd nI_0 h, fun _ => hp⟩, fun h => absurd h (by decide)⟩
  | 1, _ => exact ⟨fun h => absurd rfl h, fun _ => hp⟩
  | 2, _ => exact ⟨fun _ => ⟨fun _ => hp, fun h => absurd h (by decide)⟩, fun h => absurd h (by decide)⟩
  | 3, _ => exact ⟨fun _ => ⟨fun _ => hp, fun h => absurd h (by decide)⟩, fun h => absurd h (by decide)⟩
  | 4, _ => exact ⟨fun _ => ⟨fun _ => hp, fun h => absurd h (by decide)⟩, fun h => absurd h (by decide)⟩
theorem m_mark {post : Int32 → ka_T → Prop} {i : Nat} (hi : i ≤ 4) (h8 : s < 8) (hs : z 425 0 0 = nI s) (ht : z 426 0 0 = 0) (hv : z 409 0 s = nI i) (hp : post ((16 : Int32) * nI s + nI (mk_ i)) z) : q_X4_step_79 cf post z := by
  have v8 : vp_in (nI s) 8 := vp_in_nI h8 (by decide)
  unfold q_X4_step_79
  rw [hs, nI_clamp (by omega), hv]
  refine ⟨fun _ => ⟨v8, ?_⟩, fun hn => absurd (i0_le ht) hn⟩
  match i, hi with
  | 0, _ => exact ⟨fun _ => ⟨v8, fun h => absurd nI_0 h, fun _ => hp⟩, fun h => absurd h (by decide)⟩
  | 1, _ => exact ⟨fun h => absurd rfl h, fun _ => hp⟩
  | 2, _ => exact ⟨fun _ => ⟨v8, fun _ => ⟨v8, hp⟩, fun h => absurd h (by decide)⟩, fun h => absurd h (by decide)⟩
  | 3, _ => exact ⟨fun _ => ⟨v8, fun _ => ⟨v8, hp⟩, fun h => absurd h (by decide)⟩, fun h => absurd h (by decide)⟩
  | 4, _ => exact ⟨fun _ => ⟨v8, fun _ => ⟨v8, hp⟩, fun h => absurd h (by decide)⟩, fun h => absurd h (by decide)⟩
/-- the word that the task stands before -/
theorem op_word (hb : Cb_ cf) (h : Cs_ cf a e k z s) (ha : a < 2 ^ 31) (he : e < 2 ^ 31) : ∃ (r : Int32) (k' z' : ka_T), Ro_ cf a e s r k' z' ∧ (∀ post : Int32 → ka_T → Prop, post r k' → q_X3_runWord cf post s k) ∧
    ∀ G : ka_T → Prop, G z' → (vp_in (z 425 0 0) 8 ∧ ((¬ (z 411 0 (z 425 0 0).toNatClampNeg) = (64 : Int32) → (vp_in (z 425 0 0) 8 ∧ (∀ k10 : ka_T, k10 = k3_up z 411 0 (z 425 0 0).toNatClampNeg ((z 411 0 (z 425 0 0).toNatClampNeg) + (1 : Int32)) → (vp_in (z 411 0 (z 425 0 0).toNatClampNeg) 64 ∧ (vp_in (z 411 0 (z 425 0 0).toNatClampNeg) 64 ∧ (q_X4_perform cf G ((k10 404 0 (z 411 0 (z 425 0 0).toNatClampNeg).toNatClampNeg) &&& (31 : Int32)) ((k10 404 0 (z 411 0 (z 425 0 0).toNatClampNeg).toNatClampNeg) >>> ((5 : Int32) &&& 31)) k10)))))) ∧ ((z 411 0 (z 425 0 0).toNatClampNeg) = (64 : Int32) → (q_X4_fall cf G (2 : Int32) z)))) := by
  have h8 := cs_8 hb h
  have hs := h.2.2.2.1
  have v8 : vp_in (nI s) 8 := vp_in_nI h8 (by decide)
  obtain ⟨⟨l1, p, lp, l2⟩, -⟩ := cs_l h
  rw [l2] at l1
  by_cases hp : p = 64
  · subst hp
    refine ⟨nI 2, k, k3_up z 426 0 0 (nI 2), ro_t h 2 (by decide) (Or.inl rfl) (Or.inl rfl), fun post hq => ?_, fun G hG => ?_⟩
    · unfold q_X3_runWord
      rw [l1]
      exact e_place0 (Or.inr (nI_le (Nat.le_refl _) (by decide))) ⟨fun h => absurd rfl h, fun _ => hq⟩
    · rw [hs, nI_clamp (by omega), l2]
      exact ⟨v8, fun h => absurd rfl h, fun _ => m_fall0 h.2.2.2.2 hG⟩
  · have hp64 : p < 64 := by omega
    have vp : vp_in (nI p) 64 := vp_in_nI hp64 (by decide)
    have hc := cs_place (p := p + 1) h (by omega)
    have hw : k 302 0 p = z 404 0 p := h.1.1.1 p hp64
    obtain ⟨i, hi, ei⟩ := pk_andE (z 404 0 p) (m := 31) 5 (by decide)
    have hd := do_op hb hc ha he (z 404 0 p >>> ((5 : Int32) &&& 31)) (P := Ro_ cf a e s) (fun r k' z' h => h) i hi
    obtain ⟨r, k', h1, h2⟩ := wt_kd hd
    obtain ⟨z', h3, h4⟩ := wt_X4_perform h1
    refine ⟨r, k', z', h3, fun post hq => ?_, fun G hG => ?_⟩
    · unfold q_X3_runWord
      rw [l1]
      refine e_place1 hp64 ⟨fun _ k3 e3 => ⟨vp, vp, ?_⟩, fun h => absurd h (by decide)⟩
      rw [nI_1] at e3
      have f1 : k3 302 0 p = z 404 0 p := by rw [e3, k3_ne (by omega)]; exact hw
      rw [nI_clamp (by omega), f1, ei, e3]
      exact h2 post hq
    · rw [hs, nI_clamp (show s < 2 ^ 31 by omega), l2, nI_clamp (show p < 2 ^ 31 by omega), nI_1]
      refine ⟨v8, fun _ => ⟨v8, fun k10 e10 => ⟨vp, vp, ?_⟩⟩, fun h => ?_⟩
      · have f1 : k10 404 0 p = z 404 0 p := by rw [e10, k3_ne (by omega)]
        rw [f1, ei, e10]
        exact h4 G hG
      · exact absurd ((nI_eq (show p < 2 ^ 31 by omega) (b := 64) (by decide)).mp h) (by omega)
/-- two states after something: the counts have grown by at most n -/
def Af_ (cf : Nat → Nat) (n a e : Nat) (k z : ka_T) : Prop := ∃ a' e' : Nat, a ≤ a' ∧ a' ≤ a + n ∧ e ≤ e' ∧ e' ≤ e + n ∧ Cp_ cf a' e' k z
theorem op_step (hb : Cb_ cf) (h : Cp_ cf a e k z) (ha : a < 2 ^ 31) (he : e < 2 ^ 31) : ∃ (r : Int32) (k' z' : ka_T), (r = -1 ∨ ∃ m : Nat, m < 128 ∧ r = nI m) ∧ Af_ cf 1 a e k' z' ∧ (∀ post : Int32 → ka_T → Prop, post r k' → q_X3_step cf post k) ∧ ∀ post : Int32 → ka_T → Prop, post r z' → q_X4_step cf post z := by
  have h8 := hb.2.1
  cases hn : nb_ z (cf 0) with
  | none =>
    have hnr : nr_o (nb_ z (cf 0)) = -1 := by rw [hn]; rfl
    refine ⟨-1, k, k3_up z 425 0 0 (-1), Or.inl rfl, ⟨a, e, Nat.le_refl _, by omega, Nat.le_refl _, by omega, ?_⟩, fun post hq => ?_, fun post hq => ?_⟩
    · have := Cp_st h (-1) (k3_up z 425 0 0 (-1) 426 0 0)
      rw [k3_id] at this
      exact this
    · unfold q_X3_step
      refine e_next hb h ?_
      rw [hnr]
      exact ⟨fun h0 => absurd h0 (by decide), fun _ => hq⟩
    · unfold q_X4_step
      refine m_next hb ?_
      rw [hnr]
      intro k6 e6
      have f1 : k6 425 0 0 = -1 := by rw [e6]; exact k3_same _ _ _ _ _
      refine ⟨fun h0 => absurd h0 (by rw [f1]; decide), fun _ => ?_⟩
      rw [e6]
      exact hq
  | some s =>
    obtain ⟨hs, h1⟩ := nb_in hn
    have hs8 : s < 8 := by omega
    have cs : (nI s).toNatClampNeg = s := nI_clamp (by omega)
    have hnr : nr_o (nb_ z (cf 0)) = nI s := by rw [hn]; rfl
    obtain ⟨z1, ez1⟩ : ∃ z1, z1 = k3_up (k3_up z 425 0 0 (nI s)) 426 0 0 0 := ⟨_, rfl⟩
    have hc : Cs_ cf a e k z1 s := ⟨by rw [ez1]; exact Cp_st h _ _, hs, by rw [ez1, k3_ne (by omega), k3_ne (by omega)]; exact h1, by rw [ez1, k3_ne (by omega)]; exact k3_same _ _ _ _ _, by rw [ez1]; exact k3_same _ _ _ _ _⟩
    obtain ⟨r4, k4, z4, ⟨g1, g2, g3⟩, w1, w2⟩ := op_word hb hc ha he
    have X3 : ∀ post : Int32 → ka_T → Prop, ((¬ r4 = 0 → (q_X3_end cf (fun k6 => post ((((16 : Int32) * (nI s)) + (8 : Int32)) + r4) k6) s ((2 : Int32) + r4) k4)) ∧ (r4 = 0 → (q_X3_markOf cf (fun r7 k7 => post (((16 : Int32) * (nI s)) + r7) k7) (k4 203 s 0) k4))) → q_X3_step cf post k := fun post hq => by
      unfold q_X3_step
      refine e_next hb h ?_
      rw [hnr]
      refine ⟨fun _ => ⟨vp_in_nI hs (by omega), fun t3 e3 _ => ?_⟩, fun h0 => absurd (nI_pos' (by omega)) h0⟩
      rw [cs] at e3
      subst e3
      exact w1 _ hq
    have X4 : ∀ post : Int32 → ka_T → Prop, q_X4_step_79 cf post z4 → q_X4_step cf post z := fun post hq => by
      unfold q_X4_step
      refine m_next hb ?_
      rw [hnr]
      intro k6 e6
      have f1 : k6 425 0 0 = nI s := by rw [e6]; exact k3_same _ _ _ _ _
      refine ⟨fun _ k8 e8 => ?_, fun h0 => absurd (by rw [f1]; exact nI_pos' (by omega)) h0⟩
      rw [e6, ← ez1] at e8
      subst e8
      exact w2 _ hq
    rcases g3 with ⟨r0, a', e', q1, q2, q3, q4, q5⟩ | ⟨⟨i, i1, i6, ri⟩, q5⟩
    · obtain ⟨t1, -, ⟨i, i4, t3⟩, -⟩ := q5.2.2 s hs
      have em : (16 : Int32) * nI s + nI (mk_ i) = nI (16 * s + mk_ i) := by rw [show (16 : Int32) = nI 16 from rfl, pk_mul, nI_add]
      have ml := mk_le i4
      refine ⟨nI (16 * s + mk_ i), k4, z4, Or.inr ⟨_, by omega, rfl⟩, ⟨a', e', q1, q2, q3, q4, q5⟩, fun post hq => X3 post ⟨fun hn => absurd r0 hn, fun _ => ?_⟩, fun post hq => X4 post ?_⟩
      · exact e_mark i4 (t1.trans t3) (by rw [em]; exact hq)
      · exact m_mark i4 hs8 g1 (g2.trans r0) t3 (by rw [em]; exact hq)
    · have em : ((16 : Int32) * nI s + 8) + r4 = nI (16 * s + 8 + i) := by rw [ri, show (16 : Int32) = nI 16 from rfl, pk_mul, show (8 : Int32) = nI 8 from rfl, nI_add, nI_add]
      have rn : ¬ r4 = 0 := by rw [ri]; exact nI_ne0 (by omega) (by omega)
      refine ⟨nI (16 * s + 8 + i), _, _, Or.inr ⟨_, by omega, rfl⟩, ⟨a, e, Nat.le_refl _, by omega, Nat.le_refl _, by omega, cp_end q5 (2 + r4)⟩, fun post hq => X3 post ⟨fun _ => e_end (by rw [em]; exact hq), fun h0 => absurd h0 rn⟩, fun post hq => X4 post ⟨fun h0 => ?_, fun _ => ?_⟩⟩
      · rw [g2, ri] at h0
        exact absurd h0 (nI_nle (by omega) (by omega))
      · rw [g1, g2]
        refine m_end hs8 ?_
        rw [k3_ne (by omega), k3_ne (by omega), g1, k3_ne (by omega), k3_ne (by omega), g2, em]
        exact hq
end OT
