/-! what the class's small methods do, on numbers -/
theorem e_pop {cf : Nat → Nat} {post : Int32 → ka_T → Prop} {k : ka_T} {p c : Nat} (hc : k 101 p 0 = nI (c + 1)) (hl : c < pl_n cf p) (hb : pl_n cf p ≤ 16) (h : post (k 100 p c) (k3_up k 101 p 0 (nI c))) : q_X1_pop cf post p k := by
  intro k1 e1
  have e2 : k1 = k3_up k 101 p 0 (nI c) := by rw [e1, hc, nI_pred]
  have e3 : k1 101 p 0 = nI c := by rw [e2]; exact k3_same _ _ _ _ _
  refine ⟨by rw [e3]; exact vp_in_nI hl (by omega), ?_⟩
  rw [e3, nI_clamp (by omega)]
  have e4 : k1 100 p c = k 100 p c := by rw [e2]; exact k3_ne (by simp)
  rw [e4, e2]
  exact h
theorem e_push {cf : Nat → Nat} {post : Int32 → ka_T → Prop} {k : ka_T} {p c : Nat} {x : Int32} (hc : k 101 p 0 = nI c) (hl : c < pl_n cf p) (hb : pl_n cf p ≤ 16) (h : post 1 (k3_up (k3_up k 100 p c x) 101 p 0 (nI (c + 1)))) : q_X1_push cf post p x k := by
  refine ⟨fun _ => ⟨by rw [hc]; exact vp_in_nI hl (by omega), fun k2 e2 k3 e3 => ?_⟩, fun hn => absurd (by rw [hc]; exact nI_lt hl (by omega)) hn⟩
  rw [hc, nI_clamp (by omega)] at e2
  have e4 : k2 101 p 0 = nI c := by rw [e2, k3_ne (by simp)]; exact hc
  rw [e4, nI_1, e2] at e3
  rw [e3]
  exact h
theorem e_full {cf : Nat → Nat} {post : Int32 → ka_T → Prop} {k : ka_T} {p : Nat} {x : Int32} (hc : k 101 p 0 = nI (pl_n cf p)) (h : post 0 k) : q_X1_push cf post p x k :=
  ⟨fun hlt => (by rw [hc] at hlt; exact absurd hlt Int32.lt_irrefl), fun _ => h⟩
theorem e_put {cf : Nat → Nat} {post : Int32 → ka_T → Prop} {k : ka_T} {t c : Nat} {x : Int32} (hc : k 101 (2 * t) 0 = nI c) (hl : c < cf 1) (hb : cf 1 ≤ 16) (h : post 0 (k3_up (k3_up k 100 (2 * t) c x) 101 (2 * t) 0 (nI (c + 1)))) : q_X2_put cf post t x k := by
  unfold q_X2_put
  refine e_push hc (by rw [pl_e]; exact hl) (by rw [pl_e]; exact hb) ?_
  simpa using h
theorem e_putF {cf : Nat → Nat} {post : Int32 → ka_T → Prop} {k : ka_T} {t : Nat} {x : Int32} (hc : k 101 (2 * t) 0 = nI (cf 1)) (h : post 1 k) : q_X2_put cf post t x k := by
  unfold q_X2_put
  refine e_full (by rw [pl_e]; exact hc) ?_
  simpa using h
