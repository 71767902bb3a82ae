/-! more calls that ask, side by side -/
section OX
variable {cf : Nat → Nat} {a e : Nat} {k z : ka_T} {s t c d p j f n m : Nat} {v x y o q w : Int32}
theorem op_task (hb : Cb_ cf) (h : Cp_ cf a e k z) (x y : Int32) : Bo_ cf 64 a e (fun post => q_X3_task cf post x y k) (fun post => q_X4_task cf post x y z) := by
  have h8 := hb.2.1
  refine bo_live hb h x (A := fun r1 k1 post => (¬ r1 = 0 → (vp_in x (cf 0) ∧ (∀ t3 : Nat, t3 = x.toNatClampNeg → t3 < cf 0 → ((y = (0 : Int32) → (post (k1 204 t3 0) k1)) ∧ (y = (1 : Int32) → (post (k1 205 t3 0) k1)) ∧ (y = (2 : Int32) → (post (k1 101 (2 * t3) 0) k1)) ∧ (y = (3 : Int32) → (post (k1 101 (2 * t3 + 1) 0) k1)) ∧ (y = (4 : Int32) → (post (k1 207 t3 0) k1)) ∧ (y = (5 : Int32) → (post (k1 208 t3 0) k1)) ∧ (¬ y = (0 : Int32) → ¬ y = (1 : Int32) → ¬ y = (2 : Int32) → ¬ y = (3 : Int32) → ¬ y = (4 : Int32) → ¬ y = (5 : Int32) → (post (-2147483648 : Int32) k1)))))) ∧ (r1 = 0 → (post (-2147483648 : Int32) k1)))
    (B := fun r1 k1 post => (¬ r1 = 0 → ((y = (0 : Int32) → (vp_in x 8 ∧ (post (k1 411 0 x.toNatClampNeg) k1))) ∧ (y = (1 : Int32) → (vp_in x 8 ∧ (post (k1 410 0 x.toNatClampNeg) k1))) ∧ (y = (2 : Int32) → (vp_in x 8 ∧ (post (k1 412 0 x.toNatClampNeg) k1))) ∧ (y = (3 : Int32) → (vp_in x 8 ∧ (post (k1 414 0 x.toNatClampNeg) k1))) ∧ (y = (4 : Int32) → (vp_in x 8 ∧ ((¬ (k1 409 0 x.toNatClampNeg) = (2 : Int32) → (post (0 : Int32) k1)) ∧ ((k1 409 0 x.toNatClampNeg) = (2 : Int32) → (vp_in x 8 ∧ (post (k1 416 0 x.toNatClampNeg) k1)))))) ∧ (y = (5 : Int32) → (vp_in x 8 ∧ (((k1 409 0 x.toNatClampNeg) < (3 : Int32) → (post (-1 : Int32) k1)) ∧ (¬ (k1 409 0 x.toNatClampNeg) < (3 : Int32) → (vp_in x 8 ∧ (post (k1 417 0 x.toNatClampNeg) k1)))))) ∧ (¬ y = (0 : Int32) → ¬ y = (1 : Int32) → ¬ y = (2 : Int32) → ¬ y = (3 : Int32) → ¬ y = (4 : Int32) → ¬ y = (5 : Int32) → (post (-2147483648 : Int32) k1)))) ∧ (r1 = 0 → (post (-2147483648 : Int32) k1)))
    (bo_q h (-2147483648) (fun post hq => ⟨fun hh => absurd rfl hh, fun _ => hq⟩) (fun post hq => ⟨fun hh => absurd rfl hh, fun _ => hq⟩)) (fun t ht ex hl => ?_)
  subst ex
  have ct : (nI t).toNatClampNeg = t := nI_clamp (by omega)
  have v8 : vp_in (nI t) 8 := vp_in_nI (by omega) (by omega)
  have vt : vp_in (nI t) (cf 0) := vp_in_nI ht (by omega)
  obtain ⟨-, -, ⟨i, i4, t3⟩, tl⟩ := h.2.2 t ht
  obtain ⟨-, ⟨l1, -⟩, l2, l3, ⟨c, -, c2, c3, -⟩, ⟨f, -, f2, f3, -⟩, l6, l7, l8, l9, -⟩ := tl hl
  -- the class's and the reference's answer, when the number asked is y
  suffices hs : ∃ r : Int32, (∀ post : Int32 → ka_T → Prop, post r k → ((y = (0 : Int32) → (post (k 204 t 0) k)) ∧ (y = (1 : Int32) → (post (k 205 t 0) k)) ∧ (y = (2 : Int32) → (post (k 101 (2 * t) 0) k)) ∧ (y = (3 : Int32) → (post (k 101 (2 * t + 1) 0) k)) ∧ (y = (4 : Int32) → (post (k 207 t 0) k)) ∧ (y = (5 : Int32) → (post (k 208 t 0) k)) ∧ (¬ y = (0 : Int32) → ¬ y = (1 : Int32) → ¬ y = (2 : Int32) → ¬ y = (3 : Int32) → ¬ y = (4 : Int32) → ¬ y = (5 : Int32) → (post (-2147483648 : Int32) k)))) ∧ (∀ post : Int32 → ka_T → Prop, post r z → ((y = (0 : Int32) → (vp_in (nI t) 8 ∧ (post (z 411 0 t) z))) ∧ (y = (1 : Int32) → (vp_in (nI t) 8 ∧ (post (z 410 0 t) z))) ∧ (y = (2 : Int32) → (vp_in (nI t) 8 ∧ (post (z 412 0 t) z))) ∧ (y = (3 : Int32) → (vp_in (nI t) 8 ∧ (post (z 414 0 t) z))) ∧ (y = (4 : Int32) → (vp_in (nI t) 8 ∧ ((¬ (z 409 0 t) = (2 : Int32) → (post (0 : Int32) z)) ∧ ((z 409 0 t) = (2 : Int32) → (vp_in (nI t) 8 ∧ (post (z 416 0 t) z)))))) ∧ (y = (5 : Int32) → (vp_in (nI t) 8 ∧ (((z 409 0 t) < (3 : Int32) → (post (-1 : Int32) z)) ∧ (¬ (z 409 0 t) < (3 : Int32) → (vp_in (nI t) 8 ∧ (post (z 417 0 t) z)))))) ∧ (¬ y = (0 : Int32) → ¬ y = (1 : Int32) → ¬ y = (2 : Int32) → ¬ y = (3 : Int32) → ¬ y = (4 : Int32) → ¬ y = (5 : Int32) → (post (-2147483648 : Int32) z)))) by
    obtain ⟨r, hk, hz⟩ := hs
    exact bo_q h r (fun post hq => ⟨fun _ => ⟨vt, fun t3 e3 _ => by rw [ct] at e3; subst e3; exact hk post hq⟩, fun hh => absurd hh n01⟩) (fun post hq => ⟨fun _ => by rw [ct]; exact hz post hq, fun hh => absurd hh n01⟩)
  have go : ∀ r : Int32, (∀ post : Int32 → ka_T → Prop, post r k → ((y = (0 : Int32) → (post (k 204 t 0) k)) ∧ (y = (1 : Int32) → (post (k 205 t 0) k)) ∧ (y = (2 : Int32) → (post (k 101 (2 * t) 0) k)) ∧ (y = (3 : Int32) → (post (k 101 (2 * t + 1) 0) k)) ∧ (y = (4 : Int32) → (post (k 207 t 0) k)) ∧ (y = (5 : Int32) → (post (k 208 t 0) k)) ∧ (¬ y = (0 : Int32) → ¬ y = (1 : Int32) → ¬ y = (2 : Int32) → ¬ y = (3 : Int32) → ¬ y = (4 : Int32) → ¬ y = (5 : Int32) → (post (-2147483648 : Int32) k)))) → (∀ post : Int32 → ka_T → Prop, post r z → ((y = (0 : Int32) → (vp_in (nI t) 8 ∧ (post (z 411 0 t) z))) ∧ (y = (1 : Int32) → (vp_in (nI t) 8 ∧ (post (z 410 0 t) z))) ∧ (y = (2 : Int32) → (vp_in (nI t) 8 ∧ (post (z 412 0 t) z))) ∧ (y = (3 : Int32) → (vp_in (nI t) 8 ∧ (post (z 414 0 t) z))) ∧ (y = (4 : Int32) → (vp_in (nI t) 8 ∧ ((¬ (z 409 0 t) = (2 : Int32) → (post (0 : Int32) z)) ∧ ((z 409 0 t) = (2 : Int32) → (vp_in (nI t) 8 ∧ (post (z 416 0 t) z)))))) ∧ (y = (5 : Int32) → (vp_in (nI t) 8 ∧ (((z 409 0 t) < (3 : Int32) → (post (-1 : Int32) z)) ∧ (¬ (z 409 0 t) < (3 : Int32) → (vp_in (nI t) 8 ∧ (post (z 417 0 t) z)))))) ∧ (¬ y = (0 : Int32) → ¬ y = (1 : Int32) → ¬ y = (2 : Int32) → ¬ y = (3 : Int32) → ¬ y = (4 : Int32) → ¬ y = (5 : Int32) → (post (-2147483648 : Int32) z)))) → ∃ r : Int32, (∀ post : Int32 → ka_T → Prop, post r k → ((y = (0 : Int32) → (post (k 204 t 0) k)) ∧ (y = (1 : Int32) → (post (k 205 t 0) k)) ∧ (y = (2 : Int32) → (post (k 101 (2 * t) 0) k)) ∧ (y = (3 : Int32) → (post (k 101 (2 * t + 1) 0) k)) ∧ (y = (4 : Int32) → (post (k 207 t 0) k)) ∧ (y = (5 : Int32) → (post (k 208 t 0) k)) ∧ (¬ y = (0 : Int32) → ¬ y = (1 : Int32) → ¬ y = (2 : Int32) → ¬ y = (3 : Int32) → ¬ y = (4 : Int32) → ¬ y = (5 : Int32) → (post (-2147483648 : Int32) k)))) ∧ (∀ post : Int32 → ka_T → Prop, post r z → ((y = (0 : Int32) → (vp_in (nI t) 8 ∧ (post (z 411 0 t) z))) ∧ (y = (1 : Int32) → (vp_in (nI t) 8 ∧ (post (z 410 0 t) z))) ∧ (y = (2 : Int32) → (vp_in (nI t) 8 ∧ (post (z 412 0 t) z))) ∧ (y = (3 : Int32) → (vp_in (nI t) 8 ∧ (post (z 414 0 t) z))) ∧ (y = (4 : Int32) → (vp_in (nI t) 8 ∧ ((¬ (z 409 0 t) = (2 : Int32) → (post (0 : Int32) z)) ∧ ((z 409 0 t) = (2 : Int32) → (vp_in (nI t) 8 ∧ (post (z 416 0 t) z)))))) ∧ (y = (5 : Int32) → (vp_in (nI t) 8 ∧ (((z 409 0 t) < (3 : Int32) → (post (-1 : Int32) z)) ∧ (¬ (z 409 0 t) < (3 : Int32) → (vp_in (nI t) 8 ∧ (post (z 417 0 t) z)))))) ∧ (¬ y = (0 : Int32) → ¬ y = (1 : Int32) → ¬ y = (2 : Int32) → ¬ y = (3 : Int32) → ¬ y = (4 : Int32) → ¬ y = (5 : Int32) → (post (-2147483648 : Int32) z)))) := fun r hk hz => ⟨r, hk, hz⟩
  by_cases y0 : y = 0
  · subst y0
    refine go (z 411 0 t) (fun post hq => ⟨fun _ => by rw [l1]; exact hq, fun hh => absurd hh (by decide), fun hh => absurd hh (by decide), fun hh => absurd hh (by decide), fun hh => absurd hh (by decide), fun hh => absurd hh (by decide), fun hh => absurd rfl hh⟩) (fun post hq => ⟨fun _ => ⟨v8, hq⟩, fun hh => absurd hh (by decide), fun hh => absurd hh (by decide), fun hh => absurd hh (by decide), fun hh => absurd hh (by decide), fun hh => absurd hh (by decide), fun hh => absurd rfl hh⟩)
  by_cases y1 : y = 1
  · subst y1
    refine go (z 410 0 t) (fun post hq => ⟨fun hh => absurd hh (by decide), fun _ => by rw [l2]; exact hq, fun hh => absurd hh (by decide), fun hh => absurd hh (by decide), fun hh => absurd hh (by decide), fun hh => absurd hh (by decide), fun _ hh => absurd rfl hh⟩) (fun post hq => ⟨fun hh => absurd hh (by decide), fun _ => ⟨v8, hq⟩, fun hh => absurd hh (by decide), fun hh => absurd hh (by decide), fun hh => absurd hh (by decide), fun hh => absurd hh (by decide), fun _ hh => absurd rfl hh⟩)
  by_cases y2 : y = 2
  · subst y2
    refine go (nI c) (fun post hq => ⟨fun hh => absurd hh (by decide), fun hh => absurd hh (by decide), fun _ => by rw [c2]; exact hq, fun hh => absurd hh (by decide), fun hh => absurd hh (by decide), fun hh => absurd hh (by decide), fun _ _ hh => absurd rfl hh⟩) (fun post hq => ⟨fun hh => absurd hh (by decide), fun hh => absurd hh (by decide), fun _ => ⟨v8, by rw [c3]; exact hq⟩, fun hh => absurd hh (by decide), fun hh => absurd hh (by decide), fun hh => absurd hh (by decide), fun _ _ hh => absurd rfl hh⟩)
  by_cases y3 : y = 3
  · subst y3
    refine go (nI f) (fun post hq => ⟨fun hh => absurd hh (by decide), fun hh => absurd hh (by decide), fun hh => absurd hh (by decide), fun _ => by rw [f2]; exact hq, fun hh => absurd hh (by decide), fun hh => absurd hh (by decide), fun _ _ _ hh => absurd rfl hh⟩) (fun post hq => ⟨fun hh => absurd hh (by decide), fun hh => absurd hh (by decide), fun hh => absurd hh (by decide), fun _ => ⟨v8, by rw [f3]; exact hq⟩, fun hh => absurd hh (by decide), fun hh => absurd hh (by decide), fun _ _ _ hh => absurd rfl hh⟩)
  by_cases y4 : y = 4
  · subst y4
    by_cases s2 : z 409 0 t = 2
    · refine go (z 416 0 t) (fun post hq => ⟨fun hh => absurd hh (by decide), fun hh => absurd hh (by decide), fun hh => absurd hh (by decide), fun hh => absurd hh (by decide), fun _ => by rw [l6 s2]; exact hq, fun hh => absurd hh (by decide), fun _ _ _ _ hh => absurd rfl hh⟩) (fun post hq => ⟨fun hh => absurd hh (by decide), fun hh => absurd hh (by decide), fun hh => absurd hh (by decide), fun hh => absurd hh (by decide), fun _ => ⟨v8, fun hh => absurd s2 hh, fun _ => ⟨v8, hq⟩⟩, fun hh => absurd hh (by decide), fun _ _ _ _ hh => absurd rfl hh⟩)
    · refine go 0 (fun post hq => ⟨fun hh => absurd hh (by decide), fun hh => absurd hh (by decide), fun hh => absurd hh (by decide), fun hh => absurd hh (by decide), fun _ => by rw [l7 s2]; exact hq, fun hh => absurd hh (by decide), fun _ _ _ _ hh => absurd rfl hh⟩) (fun post hq => ⟨fun hh => absurd hh (by decide), fun hh => absurd hh (by decide), fun hh => absurd hh (by decide), fun hh => absurd hh (by decide), fun _ => ⟨v8, fun _ => hq, fun hh => absurd hh s2⟩, fun hh => absurd hh (by decide), fun _ _ _ _ hh => absurd rfl hh⟩)
  by_cases y5 : y = 5
  · subst y5
    by_cases s3 : 3 ≤ i
    · have e3 : 3 ≤ z 409 0 t := by rw [t3]; exact nI_le (a := 3) s3 (by omega)
      have n3 : ¬ z 409 0 t < 3 := by rw [t3]; exact nI_nlt (b := 3) s3 (by omega)
      refine go (z 417 0 t) (fun post hq => ⟨fun hh => absurd hh (by decide), fun hh => absurd hh (by decide), fun hh => absurd hh (by decide), fun hh => absurd hh (by decide), fun hh => absurd hh (by decide), fun _ => by rw [l8 e3]; exact hq, fun _ _ _ _ _ hh => absurd rfl hh⟩) (fun post hq => ⟨fun hh => absurd hh (by decide), fun hh => absurd hh (by decide), fun hh => absurd hh (by decide), fun hh => absurd hh (by decide), fun hh => absurd hh (by decide), fun _ => ⟨v8, fun hh => absurd hh n3, fun _ => ⟨v8, hq⟩⟩, fun _ _ _ _ _ hh => absurd rfl hh⟩)
    · have e3 : ¬ 3 ≤ z 409 0 t := by rw [t3]; exact nI_ge (b := 3) (by omega) (by omega)
      have n3 : z 409 0 t < 3 := by rw [t3]; exact nI_lt (b := 3) (by omega) (by omega)
      refine go (-1) (fun post hq => ⟨fun hh => absurd hh (by decide), fun hh => absurd hh (by decide), fun hh => absurd hh (by decide), fun hh => absurd hh (by decide), fun hh => absurd hh (by decide), fun _ => by rw [l9 e3]; exact hq, fun _ _ _ _ _ hh => absurd rfl hh⟩) (fun post hq => ⟨fun hh => absurd hh (by decide), fun hh => absurd hh (by decide), fun hh => absurd hh (by decide), fun hh => absurd hh (by decide), fun hh => absurd hh (by decide), fun _ => ⟨v8, fun _ => hq, fun hh => absurd n3 hh⟩, fun _ _ _ _ _ hh => absurd rfl hh⟩)
  exact go (-2147483648) (fun post hq => ⟨fun hh => absurd hh y0, fun hh => absurd hh y1, fun hh => absurd hh y2, fun hh => absurd hh y3, fun hh => absurd hh y4, fun hh => absurd hh y5, fun _ _ _ _ _ _ => hq⟩) (fun post hq => ⟨fun hh => absurd hh y0, fun hh => absurd hh y1, fun hh => absurd hh y2, fun hh => absurd hh y3, fun hh => absurd hh y4, fun hh => absurd hh y5, fun _ _ _ _ _ _ => hq⟩)
theorem nI_sub (hj : j < c) : nI c - 1 - nI j = nI (c - 1 - j) := by
  obtain ⟨d, rfl⟩ : ∃ d, c = d + j + 1 := ⟨c - 1 - j, by omega⟩
  rw [nI_pred, show d + j + 1 - 1 - j = d by omega, ← nI_add]
  exact Int32.add_sub_cancel _ _
/-- a number below a count, or not -/
theorem ix_c (y : Int32) (c : Nat) (hc : c < 2 ^ 31) : (∃ j, j < c ∧ y = nI j ∧ ¬ y < 0 ∧ ¬ nI c ≤ y ∧ y < nI c) ∨ y < 0 ∨ (¬ y < 0 ∧ nI c ≤ y ∧ ¬ y < nI c) := by
  by_cases h0 : y < 0
  · exact Or.inr (Or.inl h0)
  · obtain ⟨j, hj, ey⟩ := nI_of h0
    subst ey
    by_cases hjc : j < c
    · exact Or.inl ⟨j, hjc, rfl, h0, nI_ge hjc hc, nI_lt hjc hc⟩
    · exact Or.inr (Or.inr ⟨h0, nI_le (by omega) hj, nI_nlt (by omega) hj⟩)
theorem op_stack (hb : Cb_ cf) (h : Cp_ cf a e k z) (x y : Int32) : Bo_ cf 64 a e (fun post => q_X3_stack cf post x y k) (fun post => q_X4_stack cf post x y z) := by
  have h8 := hb.2.1
  have h16 := hb.2.2.2.1
  refine bo_live hb h x (A := fun r1 k1 post => (r1 = 0 → (post (-2147483648 : Int32) k1)) ∧ (¬ r1 = 0 → (vp_in x (cf 0) ∧ (∀ t3 : Nat, t3 = x.toNatClampNeg → t3 < cf 0 → (q_X1_fromTop cf (fun r4 k4 => post r4 k4) (2 * t3) y k1)))))
    (B := fun r1 k1 post => (r1 = 0 → (post (-2147483648 : Int32) k1)) ∧ (¬ r1 = 0 → ((y < 0 → (post (-2147483648 : Int32) k1)) ∧ (¬ y < 0 → (vp_in x 8 ∧ ((y < (k1 412 0 x.toNatClampNeg) → (vp_in x 8 ∧ (vp_in (((((16 : Int32) * x) + (k1 412 0 x.toNatClampNeg)) - (1 : Int32)) - y) 128 ∧ (post (k1 413 ((((((16 : Int32) * x) + (k1 412 0 x.toNatClampNeg)) - (1 : Int32)) - y).toNatClampNeg / 16) ((((((16 : Int32) * x) + (k1 412 0 x.toNatClampNeg)) - (1 : Int32)) - y).toNatClampNeg % 16)) k1)))) ∧ (¬ y < (k1 412 0 x.toNatClampNeg) → (post (-2147483648 : Int32) k1))))))))
    (bo_q h (-2147483648) (fun post hq => ⟨fun _ => hq, fun hh => absurd rfl hh⟩) (fun post hq => ⟨fun _ => hq, fun hh => absurd rfl hh⟩)) (fun t ht ex hl => ?_)
  subst ex
  have ct : (nI t).toNatClampNeg = t := nI_clamp (by omega)
  have v8 : vp_in (nI t) 8 := vp_in_nI (by omega) (by omega)
  have vt : vp_in (nI t) (cf 0) := vp_in_nI ht (by omega)
  obtain ⟨-, -, -, -, ⟨c, c1, c2, c3, c4, -⟩, -⟩ := ((h.2.2 t ht).2.2.2 hl)
  have K : ∀ {post : Int32 → ka_T → Prop}, q_X1_fromTop cf post (2 * t) y k → (((1 : Int32) = 0 → (post (-2147483648 : Int32) k)) ∧ (¬ (1 : Int32) = 0 → (vp_in (nI t) (cf 0) ∧ (∀ t3 : Nat, t3 = (nI t).toNatClampNeg → t3 < cf 0 → (q_X1_fromTop cf (fun r4 k4 => post r4 k4) (2 * t3) y k))))) := fun hq => ⟨fun hh => absurd hh n01, fun _ => ⟨vt, fun t3 e3 _ => by rw [ct] at e3; subst e3; exact hq⟩⟩
  rcases ix_c y c (by omega) with ⟨j, hj, ey, y0, y1, y2⟩ | hy | ⟨y0, y1, y2⟩
  · subst ey
    have e1 : (16 : Int32) * nI t + nI c - 1 - nI j = nI (16 * t + (c - 1 - j)) := by
      rw [show (16 : Int32) = nI 16 from rfl, pk_mul, nI_add, nI_sub (by omega)]
      congr 1
      omega
    refine bo_q h (z 413 t (c - 1 - j)) (fun post hq => K ⟨fun hh => absurd hh y0, fun _ => ⟨fun hh => absurd hh (by rw [c2]; exact y1), fun _ => ?_⟩⟩) (fun post hq => ⟨fun hh => absurd hh n01, fun _ => ⟨fun hh => absurd hh y0, fun _ => ⟨v8, ?_⟩⟩⟩)
    · rw [c2, nI_sub hj, nI_clamp (by omega), c4 _ (by omega)]
      exact ⟨vp_in_nI (by rw [pl_e]; omega) (by rw [pl_e]; omega), hq⟩
    · rw [ct, c3, e1, nI_clamp (by omega), show (16 * t + (c - 1 - j)) / 16 = t by omega, show (16 * t + (c - 1 - j)) % 16 = c - 1 - j by omega]
      exact ⟨fun _ => ⟨v8, vp_in_nI (by omega) (by decide), hq⟩, fun hh => absurd y2 hh⟩
  · exact bo_q h (-2147483648) (fun post hq => K ⟨fun _ => hq, fun hh => absurd hy hh⟩) (fun post hq => ⟨fun hh => absurd hh n01, fun _ => ⟨fun _ => hq, fun hh => absurd hy hh⟩⟩)
  · refine bo_q h (-2147483648) (fun post hq => K ⟨fun hh => absurd hh y0, fun _ => ⟨fun _ => hq, fun hh => absurd (by rw [c2]; exact y1) hh⟩⟩) (fun post hq => ⟨fun hh => absurd hh n01, fun _ => ⟨fun hh => absurd hh y0, fun _ => ⟨v8, ?_⟩⟩⟩)
    rw [ct, c3]
    exact ⟨fun hh => absurd hh y2, fun _ => hq⟩
theorem op_next (hb : Cb_ cf) (h : Cp_ cf a e k z) : Bo_ cf 64 a e (fun post => q_X3_next cf post k) (fun post => q_X4_next cf post z) :=
  bo_q h (nr_o (nb_ z (cf 0))) (fun post hq => e_next hb h hq) (fun post hq => m_next hb hq)
theorem op_emitted (h : Cp_ cf a e k z) : Bo_ cf 64 a e (fun post => q_X3_emitted cf post k) (fun post => q_X4_emitted cf post z) :=
  have g4 := h.1.2.2.2.1
  bo_q h (nI e) (fun post hq => by unfold q_X3_emitted; rw [g4.1]; exact hq) (fun post hq => by unfold q_X4_emitted; rw [g4.2]; exact hq)
theorem op_clock (h : Cp_ cf a e k z) : Bo_ cf 64 a e (fun post => q_X3_clock cf post k) (fun post => q_X4_clock cf post z) :=
  have g5 := h.1.2.2.2.2.1
  bo_q h (z 407 0 0) (fun post hq => by unfold q_X3_clock; rw [g5]; exact hq) (fun post hq => hq)
theorem op_memory (h : Cp_ cf a e k z) (x : Int32) : Bo_ cf 64 a e (fun post => q_X3_memory cf post x k) (fun post => q_X4_memory cf post x z) := by
  have g2 := h.1.2.1
  rcases ix_3 x (n := 16) (by decide) (by decide) with ⟨j, hj, ex⟩ | hx | ⟨h0, h1, h2, h3, -⟩
  · subst ex
    have cj : (nI j).toNatClampNeg = j := nI_clamp (by omega)
    have vj : vp_in (nI j) 16 := vp_in_nI hj (by decide)
    refine bo_q h (z 405 0 j) (fun post hq => e_cell1 hj ⟨fun hh => absurd hh n01, fun _ => ⟨vj, by rw [cj, g2 j hj]; exact hq⟩⟩) (fun post hq => ⟨fun hh => absurd hh (nI_pos (by omega)), fun _ => ⟨fun _ => ⟨vj, by rw [cj]; exact hq⟩, fun hh => absurd (nI_le (b := 15) (by omega) (by decide)) hh⟩⟩)
  · exact bo_q h (-2147483648) (fun post hq => e_cell0 (Or.inl hx) ⟨fun _ => hq, fun hh => absurd rfl hh⟩) (fun post hq => ⟨fun _ => hq, fun hh => absurd hx hh⟩)
  · exact bo_q h (-2147483648) (fun post hq => e_cell0 (Or.inr h1) ⟨fun _ => hq, fun hh => absurd rfl hh⟩) (fun post hq => ⟨fun hh => absurd hh h0, fun _ => ⟨fun hh => absurd hh h3, fun _ => hq⟩⟩)
theorem op_out (h : Cp_ cf a e k z) (he : e < 2 ^ 31) (x : Int32) : Bo_ cf 64 a e (fun post => q_X3_out cf post x k) (fun post => q_X4_out cf post x z) := by
  obtain ⟨-, -, g3, ⟨g4, g5⟩, -⟩ := h.1
  rcases ix_3 x (n := 32) (by decide) (by decide) with ⟨j, hj, ex⟩ | hx | ⟨h0, h1, h2, h3, -⟩
  · subst ex
    have n0 : ¬ nI j < 0 := nI_pos (by omega)
    have n32 : ¬ (32 : Int32) ≤ nI j := nI_ge (b := 32) hj (by decide)
    have n31 : ¬ (31 : Int32) < nI j := nI_nlt (a := 31) (by omega) (by decide)
    by_cases hje : j < e
    · have lt : nI j < nI e := nI_lt hje he
      have es := nI_sub hje
      have hm : (e - 1 - j) % 32 < 32 := Nat.mod_lt _ (by decide)
      refine bo_q h (z 424 0 ((e - 1 - j) % 32)) (fun post hq => ⟨fun hh => absurd hh n0, fun _ => ⟨fun hh => absurd hh n32, fun _ => ⟨fun _ => ?_, fun hh => absurd (by rw [g4]; exact lt) hh⟩⟩⟩) (fun post hq => ⟨fun hh => absurd hh n0, fun _ => ⟨fun hh => absurd hh n31, fun _ => ⟨fun _ => ?_, fun hh => absurd (by rw [g5]; exact lt) hh⟩⟩⟩)
      · unfold q_X3_outSlot
        rw [g4, es, sl_k (by omega)]
        show vp_in (nI ((e - 1 - j) % 32)) 32 ∧ post (k 304 0 (nI ((e - 1 - j) % 32)).toNatClampNeg) k
        rw [nI_clamp (by omega), g3 _ hm]
        exact ⟨vp_in_nI hm (by decide), hq⟩
      · rw [g5, es, sl_m (by omega), nI_clamp (by omega)]
        exact ⟨vp_in_nI hm (by decide), hq⟩
    · have nlt : ¬ nI j < nI e := nI_nlt (by omega) (by omega)
      exact bo_q h (-2147483648) (fun post hq => ⟨fun hh => absurd hh n0, fun _ => ⟨fun hh => absurd hh n32, fun _ => ⟨fun hh => absurd hh (by rw [g4]; exact nlt), fun _ => hq⟩⟩⟩) (fun post hq => ⟨fun hh => absurd hh n0, fun _ => ⟨fun hh => absurd hh n31, fun _ => ⟨fun hh => absurd hh (by rw [g5]; exact nlt), fun _ => hq⟩⟩⟩)
  · exact bo_q h (-2147483648) (fun post hq => ⟨fun _ => hq, fun hh => absurd hx hh⟩) (fun post hq => ⟨fun _ => hq, fun hh => absurd hx hh⟩)
  · exact bo_q h (-2147483648) (fun post hq => ⟨fun hh => absurd hh h0, fun _ => ⟨fun _ => hq, fun hh => absurd h1 hh⟩⟩) (fun post hq => ⟨fun hh => absurd hh h0, fun _ => ⟨fun _ => hq, fun hh => absurd h2 hh⟩⟩)
theorem op_queue (hb : Cb_ cf) (h : Cp_ cf a e k z) (x : Int32) : Bo_ cf 64 a e (fun post => q_X3_queue cf post x k) (fun post => q_X4_queue cf post x z) := by
  have h4 := hb.2.2.2.2.1
  rcases ix_c x (cf 2) (by omega) with ⟨j, hj, ex, x0, x1, x2⟩ | hx | ⟨x0, x1, x2⟩
  · obtain ⟨c, f, c1, c2, c3, c4, c5, -⟩ := h.1.2.2.2.2.2.2.2 j hj
    subst ex
    have cj : (nI j).toNatClampNeg = j := nI_clamp (by omega)
    refine bo_q h (nI c) (fun post hq => e_qu1 hb hj ⟨fun hh => absurd hh n01, fun _ => ⟨vp_in_nI hj (by omega), fun t3 e3 _ => ?_⟩⟩) (fun post hq => ⟨fun hh => absurd hh x0, fun _ => ⟨fun _ => ⟨vp_in_nI (by omega) (by omega), by rw [cj, c5]; exact hq⟩, fun hh => absurd x2 hh⟩⟩)
    rw [cj] at e3
    subst e3
    rw [c3]
    exact hq
  · exact bo_q h (-1) (fun post hq => e_qu0 (Or.inl hx) ⟨fun _ => hq, fun hh => absurd rfl hh⟩) (fun post hq => ⟨fun _ => hq, fun hh => absurd hx hh⟩)
  · exact bo_q h (-1) (fun post hq => e_qu0 (Or.inr x1) ⟨fun _ => hq, fun hh => absurd rfl hh⟩) (fun post hq => ⟨fun hh => absurd hh x0, fun _ => ⟨fun hh => absurd hh x2, fun _ => hq⟩⟩)
theorem op_queued (hb : Cb_ cf) (h : Cp_ cf a e k z) (x y : Int32) : Bo_ cf 64 a e (fun post => q_X3_queued cf post x y k) (fun post => q_X4_queued cf post x y z) := by
  have h4 := hb.2.2.2.2.1
  have h6 := hb.2.2.2.2.2.2
  rcases ix_c x (cf 2) (by omega) with ⟨q, hj, ex, x0, x1, x2⟩ | hx | ⟨x0, x1, x2⟩
  · obtain ⟨c, f, c1, c2, c3, c4, c5, c6⟩ := h.1.2.2.2.2.2.2.2 q hj
    subst ex
    have cj : (nI q).toNatClampNeg = q := nI_clamp (by omega)
    have v4 : vp_in (nI q) 4 := vp_in_nI (by omega) (by omega)
    have K : ∀ {post : Int32 → ka_T → Prop}, q_X0_fromFirst cf post q y k → q_X3_queued cf post (nI q) y k := fun hq => e_qu1 hb hj ⟨fun hh => absurd hh n01, fun _ => ⟨vp_in_nI hj (by omega), fun t3 e3 _ => by rw [cj] at e3; subst e3; exact hq⟩⟩
    rcases ix_c y c (by omega) with ⟨j, hjc, ey, y0, y1, y2⟩ | hy | ⟨y0, y1, y2⟩
    · subst ey
      have e1 : (6 : Int32) * nI q + nI j = nI (6 * q + j) := by rw [show (6 : Int32) = nI 6 from rfl, pk_mul, nI_add]
      have wl : wr_ cf (f + j) < cf 3 := by unfold wr_; split <;> omega
      refine bo_q h (z 422 q j) (fun post hq => K ⟨fun hh => absurd hh y0, fun _ => ⟨fun hh => absurd hh (by rw [c3]; exact y1), fun _ => e_slot hb c4 c2 (by omega) ?_⟩⟩) (fun post hq => ⟨fun hh => absurd hh x0, fun _ => ⟨fun hh => absurd hh x1, fun _ => ⟨fun hh => absurd hh y0, fun _ => ⟨v4, ?_⟩⟩⟩⟩)
      · rw [nI_clamp (by omega)]
        refine ⟨vp_in_nI wl (by omega), ?_⟩
        have := c6 j hjc
        unfold wr_
        rw [this]
        exact hq
      · rw [cj, c5, e1, nI_clamp (by omega), show (6 * q + j) / 6 = q by omega, show (6 * q + j) % 6 = j by omega]
        exact ⟨fun _ => ⟨vp_in_nI (by omega) (by decide), hq⟩, fun hh => absurd y2 hh⟩
    · exact bo_q h (-2147483648) (fun post hq => K ⟨fun _ => hq, fun hh => absurd hy hh⟩) (fun post hq => ⟨fun hh => absurd hh x0, fun _ => ⟨fun hh => absurd hh x1, fun _ => ⟨fun _ => hq, fun hh => absurd hy hh⟩⟩⟩)
    · refine bo_q h (-2147483648) (fun post hq => K ⟨fun hh => absurd hh y0, fun _ => ⟨fun _ => hq, fun hh => absurd (by rw [c3]; exact y1) hh⟩⟩) (fun post hq => ⟨fun hh => absurd hh x0, fun _ => ⟨fun hh => absurd hh x1, fun _ => ⟨fun hh => absurd hh y0, fun _ => ⟨v4, ?_⟩⟩⟩⟩)
      rw [cj, c5]
      exact ⟨fun hh => absurd hh y2, fun _ => hq⟩
  · exact bo_q h (-2147483648) (fun post hq => e_qu0 (Or.inl hx) ⟨fun _ => hq, fun hh => absurd rfl hh⟩) (fun post hq => ⟨fun _ => hq, fun hh => absurd hx hh⟩)
  · exact bo_q h (-2147483648) (fun post hq => e_qu0 (Or.inr x1) ⟨fun _ => hq, fun hh => absurd rfl hh⟩) (fun post hq => ⟨fun hh => absurd hh x0, fun _ => ⟨fun _ => hq, fun hh => absurd x1 hh⟩⟩)
end OX
