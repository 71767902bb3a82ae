/-! what the reference's small methods do, on numbers -/
section EM
variable {cf : Nat → Nat} {z : ka_T} {s t c : Nat} {v w : Int32}
theorem m_fall0 {post : ka_T → Prop} (h : z 426 0 0 = 0) (hp : post (k3_up z 426 0 0 v)) : q_X4_fall cf post v z :=
  ⟨fun hn => absurd h hn, fun _ k3 e3 => by rw [e3]; exact hp⟩
theorem m_fall1 {post : ka_T → Prop} (h : ¬ z 426 0 0 = 0) (hp : post z) : q_X4_fall cf post v z :=
  ⟨fun _ k2 e2 => by rw [e2, k3_id]; exact hp, fun h0 => absurd h0 h⟩
theorem i0_le {x : Int32} (h : x = 0) : x ≤ 0 := by rw [h]; decide
theorem m_take {post : Int32 → ka_T → Prop} (hs : z 425 0 0 = nI s) (h8 : s < 8) (ht : z 426 0 0 = 0) (hd : z 412 0 s = nI (c + 1)) (hc : c < 16) (hp : post (z 413 s c) (k3_up z 412 0 s (nI c))) : q_X4_take cf post z := by
  have e1 : (z 425 0 0).toNatClampNeg = s := by rw [hs, nI_clamp (by omega)]
  have v8 : vp_in (z 425 0 0) 8 := by rw [hs]; exact vp_in_nI h8 (by decide)
  refine ⟨v8, fun _ => ⟨fun _ => ⟨v8, v8, fun k2 e2 => ?_⟩, fun hn => absurd (i0_le ht) hn⟩, fun h0 => ?_⟩
  · rw [e1, hd, nI_pred] at e2
    have f1 : k2 425 0 0 = nI s := by rw [e2, k3_ne (by omega)]; exact hs
    have f2 : k2 412 0 s = nI c := by rw [e2]; exact k3_same _ _ _ _ _
    have f5 : k2 413 s c = z 413 s c := by rw [e2, k3_ne (by omega)]
    have f4 : (16 : Int32) * nI s + nI c = nI (16 * s + c) := by rw [show (16 : Int32) = nI 16 from rfl, pk_mul, nI_add]
    rw [f1, nI_clamp (show s < 2 ^ 31 by omega), f2, f4, nI_clamp (show 16 * s + c < 2 ^ 31 by omega), show (16 * s + c) / 16 = s by omega, show (16 * s + c) % 16 = c by omega, f5]
    refine ⟨vp_in_nI h8 (by decide), vp_in_nI (by omega) (by decide), ?_⟩
    rw [e2]
    exact hp
  · rw [e1, hd] at h0
    exact absurd h0 (nI_ne0 (by omega) (by omega))
theorem m_take0 {post : Int32 → ka_T → Prop} (hs : z 425 0 0 = nI s) (h8 : s < 8) (ht : z 426 0 0 = 0) (hd : z 412 0 s = nI 0) (hp : post 0 (k3_up z 426 0 0 1)) : q_X4_take cf post z := by
  have e1 : (z 425 0 0).toNatClampNeg = s := by rw [hs, nI_clamp (by omega)]
  have v8 : vp_in (z 425 0 0) 8 := by rw [hs]; exact vp_in_nI h8 (by decide)
  refine ⟨v8, fun hn => absurd (by rw [e1]; exact hd) hn, fun _ => m_fall0 ht ⟨fun h => ?_, fun _ => hp⟩⟩
  rw [k3_same] at h
  exact absurd h (by decide)
theorem m_takeT {post : Int32 → ka_T → Prop} (hs : z 425 0 0 = nI s) (h8 : s < 8) (ht : ¬ z 426 0 0 ≤ 0) (hp : post 0 z) : q_X4_take cf post z := by
  have v8 : vp_in (z 425 0 0) 8 := by rw [hs]; exact vp_in_nI h8 (by decide)
  have h1 : q_X4_take_17 cf post z := ⟨fun h => absurd h ht, fun _ => hp⟩
  exact ⟨v8, fun _ => h1, fun _ => m_fall1 (fun h => ht (i0_le h)) h1⟩
theorem m_give {post : ka_T → Prop} (h8 : t < 8) (hd : z 412 0 t = nI c) (hc : c < 16) (hp : post (k3_up (k3_up z 413 t c v) 412 0 t (nI (c + 1)))) : q_X4_give cf post (nI t) v z := by
  have v8 : vp_in (nI t) 8 := vp_in_nI h8 (by decide)
  have f4 : (16 : Int32) * nI t + nI c = nI (16 * t + c) := by rw [show (16 : Int32) = nI 16 from rfl, pk_mul, nI_add]
  unfold q_X4_give
  rw [nI_clamp (show t < 2 ^ 31 by omega), hd, f4, nI_clamp (show 16 * t + c < 2 ^ 31 by omega), show (16 * t + c) / 16 = t by omega, show (16 * t + c) % 16 = c by omega]
  refine ⟨v8, vp_in_nI (by omega) (by decide), fun k1 e1 => ⟨v8, v8, fun k2 e2 => ?_⟩⟩
  have f1 : k1 412 0 t = nI c := by rw [e1, k3_ne (by omega)]; exact hd
  rw [f1, nI_1, e1] at e2
  rw [e2]
  exact hp
theorem m_put {post : ka_T → Prop} (hs : z 425 0 0 = nI s) (h8 : s < 8) (ht : z 426 0 0 = 0) (hd : z 412 0 s = nI c) (hc : c < cf 1) (h16 : cf 1 ≤ 16) (hp : post (k3_up (k3_up z 413 s c v) 412 0 s (nI (c + 1)))) : q_X4_put cf post v z := by
  have e1 : (z 425 0 0).toNatClampNeg = s := by rw [hs, nI_clamp (by omega)]
  have v8 : vp_in (z 425 0 0) 8 := by rw [hs]; exact vp_in_nI h8 (by decide)
  unfold q_X4_put
  rw [e1, hd]
  refine ⟨v8, fun _ => ⟨fun hn => absurd ht hn, fun _ => ?_⟩, fun h => ?_⟩
  · rw [hs]
    exact m_give h8 hd (by omega) hp
  · have := (nI_eq (show c < 2 ^ 31 by omega) (show cf 1 < 2 ^ 31 by omega)).mp h
    omega
theorem m_putF {post : ka_T → Prop} (hs : z 425 0 0 = nI s) (h8 : s < 8) (ht : z 426 0 0 = 0) (hd : z 412 0 s = nI (cf 1)) (hp : post (k3_up z 426 0 0 1)) : q_X4_put cf post v z := by
  have e1 : (z 425 0 0).toNatClampNeg = s := by rw [hs, nI_clamp (by omega)]
  have v8 : vp_in (z 425 0 0) 8 := by rw [hs]; exact vp_in_nI h8 (by decide)
  refine ⟨v8, fun hn => absurd (by rw [e1]; exact hd) hn, fun _ => m_fall0 ht ⟨fun _ => hp, fun h => ?_⟩⟩
  rw [k3_same] at h
  exact absurd h (by decide)
theorem m_putT {post : ka_T → Prop} (hs : z 425 0 0 = nI s) (h8 : s < 8) (ht : ¬ z 426 0 0 = 0) (hp : post z) : q_X4_put cf post v z := by
  have v8 : vp_in (z 425 0 0) 8 := by rw [hs]; exact vp_in_nI h8 (by decide)
  exact ⟨v8, fun _ => ⟨fun _ => hp, fun h => absurd h ht⟩, fun _ => m_fall1 ht ⟨fun _ => hp, fun h => absurd h ht⟩⟩
/-- a task enters a state -/
def se_ (z : ka_T) (t : Nat) (v : Int32) : ka_T := k3_up (k3_up (k3_up z 409 0 t v) 419 0 t (z 408 0 0)) 408 0 0 (z 408 0 0 + 1)
theorem m_set {post : ka_T → Prop} (h8 : t < 8) (hp : post (se_ z t v)) : q_X4_set cf post (nI t) v z := by
  have v8 : vp_in (nI t) 8 := vp_in_nI h8 (by decide)
  unfold q_X4_set
  rw [nI_clamp (show t < 2 ^ 31 by omega)]
  refine ⟨v8, fun k1 e1 => ⟨v8, fun k2 e2 k3 e3 => ?_⟩⟩
  have f1 : k1 408 0 0 = z 408 0 0 := by rw [e1, k3_ne (by omega)]
  have f2 : k2 408 0 0 = z 408 0 0 := by rw [e2, k3_ne (by omega)]; exact f1
  rw [f2, e2, f1, e1] at e3
  rw [e3]
  exact hp
theorem m_end {post : ka_T → Prop} (h8 : t < 8) (hp : post (k3_up (k3_up z 409 0 t 0) 420 0 t v)) : q_X4_end cf post (nI t) v z := by
  have v8 : vp_in (nI t) 8 := vp_in_nI h8 (by decide)
  unfold q_X4_end
  rw [nI_clamp (show t < 2 ^ 31 by omega)]
  refine ⟨v8, fun k1 e1 => ⟨v8, fun k2 e2 => ?_⟩⟩
  rw [e2, e1]
  exact hp
/-- the class's: a task enters a state -/
def en_ (k : ka_T) (t : Nat) (v : Int32) : ka_T := k3_up (k3_up (k3_up (k3_up (k3_up k 203 t 0 v) 206 t 0 (k 307 0 0)) 307 0 0 (k 307 0 0 + 1)) 207 t 0 0) 208 t 0 (-1)
theorem e_enter {post : ka_T → Prop} {k : ka_T} (hp : post (en_ k t v)) : q_X3_enter cf post t v k := by
  intro k1 e1 k2 e2 k3 e3 k4 e4 k5 e5
  have f1 : k1 307 0 0 = k 307 0 0 := by rw [e1, k3_ne (by omega)]
  have f2 : k2 307 0 0 = k 307 0 0 := by rw [e2, k3_ne (by omega)]; exact f1
  rw [e5, e4, e3, f2, e2, f1, e1]
  exact hp
theorem e_end {post : ka_T → Prop} {k : ka_T} (hp : post (k3_up (k3_up k 203 t 0 0) 210 t 0 v)) : q_X3_end cf post t v k := by
  intro k1 e1 k2 e2
  rw [e2, e1]
  exact hp
end EM
