/-! send and receive -/
section O9
variable {cf : Nat → Nat} {a e : Nat} {k z k' z' : ka_T} {s t c d p j f n q : Nat} {v x y o : Int32} {P : Int32 → ka_T → ka_T → Prop}
/-- one number is taken by both, or there is a trap: whatever stands around the reference's take -/
theorem op_oneN (hb : Cb_ cf) (h : Cs_ cf a e k z s) {K : Int32 → ka_T → (Int32 → ka_T → Prop) → Prop} {M : Int32 → ka_T → (ka_T → Prop) → Prop} {N : (ka_T → Prop) → Prop} (into : ∀ G : ka_T → Prop, q_X4_take cf (fun b k9 => M b k9 G) z → N G) (hp : ∀ r k' z', Ro_ cf a e s r k' z' → P r k' z')
    (hT : ∀ (z1 : ka_T) (G : ka_T → Prop), z1 425 0 0 = nI s → z1 426 0 0 = 1 → G z1 → M 0 z1 G)
    (hK : ∀ (d : Nat) (x : Int32) (k2 z2 : ka_T), d + 1 ≤ cf 1 → Cs_ cf a e k2 z2 s → k2 101 (2 * s) 0 = nI d → z2 412 0 s = nI d → (∀ j, j < d → k2 100 (2 * s) j = z2 413 s j) → k2 = k3_up k 101 (2 * s) 0 (nI d) → z2 = k3_up z 412 0 s (nI d) → ∀ B : Int32 → ka_T → Prop, (∀ r k', M x z2 (fun z' => P r k' z') → B r k') → K x k2 B) :
    ((1 : Int32) ≤ k 101 (2 * s) 0 → q_X1_pop cf (fun r2 k2 => K r2 k2 (fun r k' => N (fun z' => P r k' z'))) (2 * s) k) ∧ (¬ (1 : Int32) ≤ k 101 (2 * s) 0 → N (fun z' => P 1 k z')) := by
  obtain ⟨c, c1, c2, c3, c4⟩ := cs_count h
  have h8 := cs_8 hb h
  have h16 := hb.2.2.2.1
  have hs := h.2.2.2.1
  have ht := h.2.2.2.2
  rw [c2]
  refine ⟨fun h1 => ?_, fun h1 => ?_⟩
  · have hc : 1 ≤ c := Nat.not_lt.mp fun hh => i1_n hh h1
    obtain ⟨d, rfl⟩ : ∃ d, c = d + 1 := ⟨c - 1, by omega⟩
    obtain ⟨h3, c6⟩ := cs_p1 (d := d) h c1 c4
    refine e_pop c2 (by rw [pl_e]; omega) (by rw [pl_e]; omega) ?_
    rw [c4 d (by omega)]
    refine hK d _ _ _ c1 h3 (k3_same _ _ _ _ _) (k3_same _ _ _ _ _) c6 rfl rfl _ (fun r k' hM => into _ ?_)
    exact m_take hs h8 ht c3 (by omega) hM
  · have hc : c = 0 := by have : ¬ 1 ≤ c := fun hh => h1 (i1_le hh (by omega)); omega
    rw [hc] at c3
    exact into _ (m_take0 hs h8 ht c3 (hT _ _ (by rw [k3_ne (by omega)]; exact hs) (k3_same _ _ _ _ _) (hp _ _ _ (ro_t h 1 (by decide) (Or.inl rfl) (Or.inl rfl)))))
/-- what the reference's send does behind its take -/
def ms_ (cf : Nat → Nat) (x1 r3 : Int32) (k3 : ka_T) (post : ka_T → Prop) : Prop := ((k3 426 0 0) ≤ 0 → (q_X4_inState cf (fun r5 k5 => (r5 < 0 → (vp_in x1 4 ∧ (((nI (cf 3)) ≤ (k5 421 0 x1.toNatClampNeg) → (vp_in (k5 425 0 0) 8 ∧ (∀ k8 : ka_T, k8 = k3_up k5 418 0 (k5 425 0 0).toNatClampNeg r3 → (vp_in (k8 425 0 0) 8 ∧ (∀ k9 : ka_T, k9 = k3_up k8 417 0 (k8 425 0 0).toNatClampNeg x1 → (q_X4_set cf (fun k10 => post k10) (k9 425 0 0) (3 : Int32) k9)))))) ∧ (¬ (nI (cf 3)) ≤ (k5 421 0 x1.toNatClampNeg) → (q_X4_append cf (fun k11 => post k11) x1 r3 k5))))) ∧ (¬ r5 < 0 → (q_X4_give cf (fun k12 => q_X4_set cf (fun k13 => post k13) r5 (1 : Int32) k12) r5 r3 k5))) (4 : Int32) x1 (0 : Int32) k3)) ∧ (¬ (k3 426 0 0) ≤ 0 → (post k3))
theorem op_21 (hb : Cb_ cf) (h : Cs_ cf a e k z s) (ha : a < 2 ^ 31) (x : Int32) (hp : ∀ r k' z', Ro_ cf a e s r k' z' → P r k' z') : q_X3_send cf (fun r k' => q_X4_send cf (fun z' => P r k' z') x z) s x k := by
  have h8 := cs_8 hb h
  have h08 := hb.2.1
  have h16 := hb.2.2.2.1
  have h4 := hb.2.2.2.2.1
  have h6 := hb.2.2.2.2.2.2
  have ht := h.2.2.2.2
  rcases ix_q x hb with ⟨j, hj, rfl⟩ | ⟨x1, x2⟩
  · have ej : (nI j).toNatClampNeg = j := nI_clamp (by omega)
    have v4 : vp_in (nI j) 4 := vp_in_nI (by omega) (by decide)
    have into : ∀ G : ka_T → Prop, q_X4_take cf (fun b k9 => ms_ cf (nI j) b k9 G) z → q_X4_send cf G (nI j) z := fun G hG => m_qu1 hb hj ht ⟨fun _ => hG, fun hn => absurd rfl hn⟩
    refine e_qu1 hb hj ⟨fun _ => op_oneN (P := P) hb h (K := fun r4 k4 B => q_X3_firstWaiting cf (fun r5 k5 => (r5 = none → (vp_in (nI j) (cf 2) ∧ (∀ t6 : Nat, t6 = (nI j).toNatClampNeg → t6 < cf 2 → (q_X0_addLast cf (fun r7 k7 => (¬ r7 = 0 → (B 0 k7)) ∧ (r7 = 0 → (q_X3_waitAt cf (fun k9 => ∀ k10 : ka_T, k10 = k3_up k9 209 s 0 r4 → (B 0 k10)) s (3 : Int32) (nI j) k7))) t6 r4 k5)))) ∧ (∀ t5 : Nat, r5 = some t5 → t5 < cf 0 → (q_X1_push cf (fun r11 k11 => q_X3_enter cf (fun k12 => B 0 k12) t5 (1 : Int32) k11) (2 * t5) r4 k5))) (4 : Int32) (nI j) k4) (M := fun r3 k3 G => ms_ cf (nI j) r3 k3 G) into hp
      (fun z1 G s1 t1 hG => ⟨fun hn => absurd hn (by rw [t1]; decide), fun _ => hG⟩)
      (fun d y k2 z2 hd h2 kc zc c4 ek ez B hB => by
        have hs2 := h2.2.2.2.1
        have ht2 := h2.2.2.2.2
        have v8 : vp_in (z2 425 0 0) 8 := by rw [hs2]; exact vp_in_nI h8 (by decide)
        obtain ⟨F, hF, hKf, hMf⟩ := w_first (q := j) hb h2.1 ha 4 (by decide) (by omega)
        refine hKf _ ?_
        cases F with
        | none =>
          refine ⟨fun _ => ⟨vp_in_nI hj (by omega), fun t6 e6 _ => ?_⟩, fun t5 h9 => (by cases h9)⟩
          rw [ej] at e6
          subst e6
          obtain ⟨c, f, c1, f1, qk, qf, qz, q5⟩ := h2.1.1.2.2.2.2.2.2.2 t6 hj
          have mN : ∀ {G : ka_T → Prop}, (((nI (cf 3)) ≤ nI c → (vp_in (z2 425 0 0) 8 ∧ (∀ k8 : ka_T, k8 = k3_up z2 418 0 (z2 425 0 0).toNatClampNeg y → (vp_in (k8 425 0 0) 8 ∧ (∀ k9 : ka_T, k9 = k3_up k8 417 0 (k8 425 0 0).toNatClampNeg (nI t6) → (q_X4_set cf (fun k10 => G k10) (k9 425 0 0) (3 : Int32) k9)))))) ∧ (¬ (nI (cf 3)) ≤ nI c → (q_X4_append cf (fun k11 => G k11) (nI t6) y z2))) → ms_ cf (nI t6) y z2 G := fun hG => by
            refine ⟨fun _ => hMf _ (fun _ => ⟨fun _ => ⟨v4, ?_⟩, fun hn => absurd (by decide) hn⟩) (fun t h9 => (by cases h9)), fun hn => absurd (i0_le ht2) hn⟩
            rw [ej, qz]
            exact hG
          by_cases hc : c < cf 3
          · refine e_add hb qk qf f1 hc ⟨fun _ => hB _ _ (mN ⟨fun h9 => absurd h9 (nI_ge hc (by omega)), fun _ => m_append (by omega) qz (by omega) (hp _ _ _ (ro_cp (a' := a) (e' := e) ?_ ?_ (by omega) (by omega) (cp_add hb h2.1 qk qf qz f1 hc q5 y)))⟩), fun hn => absurd hn (by decide)⟩
            · rw [k3_ne (by omega), k3_ne (by omega)]; exact hs2
            · rw [k3_ne (by omega), k3_ne (by omega)]; exact ht2
          · have hc3 : c = cf 3 := by omega
            rw [hc3] at qk
            refine e_addF qk ⟨fun hn => absurd rfl hn, fun _ => e_enter (fun k1 e1 k10 e10 => hB _ _ (mN ⟨fun _ => ⟨v8, fun k8 e8 => ?_⟩, fun h9 => absurd (nI_le (by omega) (by omega)) h9⟩))⟩
            rw [hs2, nI_clamp (by omega)] at e8
            have g1 : k8 425 0 0 = nI s := by rw [e8, k3_ne (by omega)]; exact hs2
            rw [g1, nI_clamp (show s < 2 ^ 31 by omega)]
            refine ⟨vp_in_nI h8 (by decide), fun k9 e9 => ?_⟩
            have g2 : k9 425 0 0 = nI s := by rw [e9, k3_ne (by omega)]; exact g1
            rw [g2]
            have e10' : k10 = k3_up (k3_up (en_ k2 s (nI 3)) 208 s 0 (nI t6)) 209 s 0 y := by rw [e10, e1]; rfl
            have e9' : se_ k9 s 3 = se_ (k3_up (k3_up z2 418 0 s y) 417 0 s (nI t6)) s (nI 3) := by rw [e9, e8]; rfl
            refine m_set h8 (hp _ _ _ (ro_cp (a' := a + 1) (e' := e) ?_ ?_ (by omega) (by omega) (cp_wait hb h2 ha 3 (by decide) (fun h9 => absurd h9 (by decide)) (nI t6) y (Or.inr e10') (Or.inr e9') (fun _ => ⟨e10', e9'⟩))))
            · rw [se_o (by omega) (by omega)]; exact g2
            · rw [se_o (by omega) (by omega), e9, k3_ne (by omega), e8, k3_ne (by omega)]; exact ht2
        | some t =>
          obtain ⟨g1, g2, g3⟩ := hF t rfl
          have lt : ¬ z2 409 0 t = 0 := by rw [g2]; decide
          obtain ⟨-, -, -, ⟨c, c1, c2, c3, c5, c6⟩, -⟩ := ((h2.1.2.2 t g1).2.2.2 lt).2
          have hc := c6 g2
          refine ⟨fun h9 => (by cases h9), fun t5 h9 _ => ?_⟩
          cases h9
          refine e_push c2 (by rw [pl_e]; exact hc) (by rw [pl_e]; omega) (e_enter (hB _ _ ⟨fun _ => hMf _ (fun h9 => (by cases h9)) (fun t5 h9 => ?_), fun hn => absurd (i0_le ht2) hn⟩))
          cases h9
          refine ⟨fun hn => absurd hn (nI_pos (by omega)), fun _ => m_give (by omega) c3 (by omega) (m_set (by omega) (hp _ _ _ (ro_cp (a' := a + 1) (e' := e) ?_ ?_ (by omega) (by omega) (cp_give hb h2.1 g1 g2 ha c2 c3 hc c5 y))))⟩
          · rw [se_o (by omega) (by omega), k3_ne (by omega), k3_ne (by omega)]; exact hs2
          · rw [se_o (by omega) (by omega), k3_ne (by omega), k3_ne (by omega)]; exact ht2), fun hn => absurd hn (by decide)⟩
  · exact e_qu0 x1 ⟨fun hn => absurd rfl hn, fun _ => m_qu0 x2 ht ⟨fun hn => absurd hn (by decide), fun _ => hp _ _ _ (ro_t h 6 (by decide) (Or.inl rfl) (Or.inl rfl))⟩⟩
end O9
