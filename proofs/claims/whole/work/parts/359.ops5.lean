/-! a task enters a state, ends, emits -/
section O5
variable {cf : Nat → Nat} {a e : Nat} {k z k' z' : ka_T} {s t c d p j f n : Nat} {v x o : Int32} {P : Int32 → ka_T → ka_T → Prop}
theorem en_203 : en_ k t v 203 t 0 = v := by simp [en_, k3_up]
theorem en_206 : en_ k t v 206 t 0 = k 307 0 0 := by simp [en_, k3_up]
theorem en_207 : en_ k t v 207 t 0 = 0 := by simp [en_, k3_up]
theorem en_208 : en_ k t v 208 t 0 = -1 := by simp [en_, k3_up]
theorem en_307 : en_ k t v 307 0 0 = k 307 0 0 + 1 := by simp [en_, k3_up]
theorem en_o (h : ¬ ((f = 203 ∨ f = 206 ∨ f = 207 ∨ f = 208) ∧ n = t)) (h2 : ¬ f = 307) : en_ k t v f n j = k f n j := by
  unfold en_
  rw [k3_ne (by omega), k3_ne (by omega), k3_ne (by omega), k3_ne (by omega), k3_ne (by omega)]
theorem se_409 : se_ z t v 409 0 t = v := by simp [se_, k3_up]
theorem se_419 : se_ z t v 419 0 t = z 408 0 0 := by simp [se_, k3_up]
theorem se_408 : se_ z t v 408 0 0 = z 408 0 0 + 1 := by simp [se_, k3_up]
theorem se_o (h : ¬ ((f = 409 ∨ f = 419) ∧ n = 0 ∧ j = t)) (h2 : ¬ f = 408) : se_ z t v f n j = z f n j := by
  unfold se_
  rw [k3_ne (by omega), k3_ne (by omega), k3_ne (by omega)]
theorem Cp_ent (h : Cx_ cf a e k z t) (ha : a < 2 ^ 31) (i : Nat) (hi : 1 ≤ i ∧ i ≤ 4) (hk : ∀ f n j, ¬ KO_ t f n → k' f n j = k f n j) (hz : ∀ f n j, ¬ ZO_ t f n j → z' f n j = z f n j) (h307 : k' 307 0 0 = nI (a + 1)) (h408 : z' 408 0 0 = nI (a + 1)) (h203 : k' 203 t 0 = nI i) (h409 : z' 409 0 t = nI i) (h419 : z' 419 0 t = nI a) (h210 : k' 210 t 0 = z' 420 0 t) (hl : Cl_ cf k' z' t) : Cp_ cf (a + 1) e k' z' := by
  refine Cp_gen h (by omega) hk hz ⟨h307, h408⟩ ⟨by rw [h203, h409], h210, ⟨i, hi.2, h409⟩, fun _ => ⟨⟨a, by omega, h419⟩, hl⟩⟩ (fun _ u hu hus hul h9 => ?_)
  obtain ⟨⟨b, hb1, hb2⟩, -⟩ := (h.2.2.1 u hu hus).2.2.2 hul
  rw [hb2, h419] at h9
  have := (nI_eq (show b < 2 ^ 31 by omega) ha).mp h9
  omega
theorem Cl_ent (hl : Cl_ cf k z t) (h16 : cf 1 ≤ 16) (i : Nat) (hi : 1 ≤ i ∧ i ≤ 4) (h409 : z' 409 0 t = nI i)
    (e204 : k' 204 t 0 = k 204 t 0) (e205 : k' 205 t 0 = k 205 t 0) (e100 : ∀ j, k' 100 (2 * t) j = k 100 (2 * t) j) (e100b : ∀ j, k' 100 (2 * t + 1) j = k 100 (2 * t + 1) j) (e101 : k' 101 (2 * t) 0 = k 101 (2 * t) 0) (e101b : k' 101 (2 * t + 1) 0 = k 101 (2 * t + 1) 0)
    (d410 : z' 410 0 t = z 410 0 t) (d411 : z' 411 0 t = z 411 0 t) (d412 : z' 412 0 t = z 412 0 t) (d413 : ∀ j, z' 413 t j = z 413 t j) (d414 : z' 414 0 t = z 414 0 t) (d415 : ∀ j, z' 415 t j = z 415 t j) (h206 : k' 206 t 0 = z' 419 0 t)
    (h4 : i = 4 → ∀ c, c ≤ cf 1 → z 412 0 t = nI c → c < cf 1) (w2 : i = 2 → k' 207 t 0 = z' 416 0 t) (w0 : ¬ i = 2 → k' 207 t 0 = 0) (q3 : 3 ≤ i → k' 208 t 0 = z' 417 0 t) (q0 : ¬ 3 ≤ i → k' 208 t 0 = -1) (s3 : i = 3 → k' 209 t 0 = z' 418 0 t) : Cl_ cf k' z' t := by
  obtain ⟨⟨l1, l1b⟩, l2, l3, ⟨c, c1, c2, c3, c4, c5⟩, ⟨f, f1, f2, f3, f4⟩, -⟩ := hl
  have eq : ∀ m : Nat, m < 8 → (z' 409 0 t = nI m ↔ i = m) := fun m hm => by rw [h409]; exact nI_eq (by omega) (by omega)
  have le : 3 ≤ z' 409 0 t ↔ 3 ≤ i := by rw [h409]; exact nI_leI (a := 3) (by decide) (by omega)
  refine ⟨⟨by rw [e204, d411]; exact l1, by rw [d411]; exact l1b⟩, by rw [e205, d410]; exact l2, h206, ⟨c, c1, by rw [e101]; exact c2, by rw [d412]; exact c3, fun j hj => by rw [e100, d413]; exact c4 j hj, fun h => h4 ((eq 4 (by decide)).mp h) c c1 c3⟩, ⟨f, f1, by rw [e101b]; exact f2, by rw [d414]; exact f3, fun j hj => by rw [e100b, d415]; exact f4 j hj⟩, fun h => w2 ((eq 2 (by decide)).mp h), fun h => w0 (fun hh => h ((eq 2 (by decide)).mpr hh)), fun h => q3 (le.mp h), fun h => q0 (fun hh => h (le.mpr hh)), fun h => s3 ((eq 3 (by decide)).mp h)⟩
/-- back among the ready -/
theorem cp_ready (hb : Cb_ cf) (h : Cp_ cf a e k z) (ht : t < cf 0) (hl : ¬ z 409 0 t = 0) (ha : a < 2 ^ 31) : Cp_ cf (a + 1) e (en_ k t 1) (se_ z t 1) := by
  have g := h.1.2.2.2.2.2.1
  obtain ⟨t1, t2, t3, t4⟩ := h.2.2 t ht
  obtain ⟨tb, l⟩ := t4 hl
  refine Cp_ent (Cp_x h ht) ha 1 (by decide) (fun f n j hn => en_o (fun hh => hn (by unfold KO_; omega)) (fun hh => hn (by unfold KO_; omega))) (fun f n j hn => se_o (fun hh => hn (by unfold ZO_; omega)) (fun hh => hn (by unfold ZO_; omega))) (by rw [en_307, g.1, nI_1]) (by rw [se_408, g.2, nI_1]) en_203 se_409 (by rw [se_419]; exact g.2) (by rw [en_o (by omega) (by omega), se_o (by omega) (by omega)]; exact t2) ?_
  exact Cl_ent l hb.2.2.2.1 1 (by decide) se_409 (en_o (by omega) (by omega)) (en_o (by omega) (by omega)) (fun j => en_o (by omega) (by omega)) (fun j => en_o (by omega) (by omega)) (en_o (by omega) (by omega)) (en_o (by omega) (by omega)) (se_o (by omega) (by omega)) (se_o (by omega) (by omega)) (se_o (by omega) (by omega)) (fun j => se_o (by omega) (by omega)) (se_o (by omega) (by omega)) (fun j => se_o (by omega) (by omega)) (by rw [en_206, se_419, g.1, g.2]) (fun h => absurd h (by decide)) (fun h => absurd h (by decide)) (fun _ => en_207) (fun h => absurd h (by decide)) (fun _ => en_208) (fun h => absurd h (by decide))
theorem ro_cp {a' e' : Nat} (hs : z 425 0 0 = nI s) (ht : z 426 0 0 = 0) (ha : a ≤ a' ∧ a' ≤ a + 1) (he : e ≤ e' ∧ e' ≤ e + 1) (h : Cp_ cf a' e' k z) : Ro_ cf a e s 0 k z := ⟨hs, ht, Or.inl ⟨rfl, a', e', ha.1, ha.2, he.1, he.2, h⟩⟩
theorem m_tk {post : ka_T → Prop} (hs : z 425 0 0 = nI s) (ht : z 426 0 0 = 0) (h : q_X4_set cf post (nI s) 1 z) : q_X4_taskOp cf post 16 x z :=
  ⟨fun _ => ⟨fun _ => ⟨fun _ => ⟨fun hn => absurd hn (by decide), fun _ => by rw [hs]; exact h, fun hn => absurd hn (by decide), fun hn => absurd hn (by decide), fun hn => absurd hn (by decide), fun _ hn => absurd rfl hn⟩, fun hn => absurd (i0_le ht) hn⟩, fun hn => absurd rfl hn⟩, fun hn => absurd hn (by decide)⟩
theorem op_16 (hb : Cb_ cf) (h : Cs_ cf a e k z s) (ha : a < 2 ^ 31) (x : Int32) (hp : ∀ r k' z', Ro_ cf a e s r k' z' → P r k' z') : q_X3_enter cf (fun k7 => q_X4_taskOp cf (fun z' => P 0 k7 z') 16 x z) s 1 k :=
  e_enter (m_tk h.2.2.2.1 h.2.2.2.2 (m_set (cs_8 hb h) (hp _ _ _ (ro_cp (a' := a + 1) (e' := e) (by rw [se_o (by omega) (by omega)]; exact h.2.2.2.1) (by rw [se_o (by omega) (by omega)]; exact h.2.2.2.2) (by omega) (by omega) (cp_ready hb h.1 h.2.1 (cs_live h) ha)))))
/-- a task ends -/
theorem cp_end (h : Cx_ cf a e k z t) (v : Int32) : Cp_ cf a e (k3_up (k3_up k 203 t 0 0) 210 t 0 v) (k3_up (k3_up z 409 0 t 0) 420 0 t v) := by
  have g := h.1.2.2.2.2.2.1
  have z0 : k3_up (k3_up z 409 0 t 0) 420 0 t v 409 0 t = 0 := by rw [k3_ne (by omega), k3_same]
  refine Cp_gen h (Nat.le_refl _) (fun f n j hn => by rw [k3_ne (fun hh => hn (by unfold KO_; omega)), k3_ne (fun hh => hn (by unfold KO_; omega))]) (fun f n j hn => by rw [k3_ne (fun hh => hn (by unfold ZO_; omega)), k3_ne (fun hh => hn (by unfold ZO_; omega))]) ⟨by rw [k3_ne (by omega), k3_ne (by omega)]; exact g.1, by rw [k3_ne (by omega), k3_ne (by omega)]; exact g.2⟩ ⟨by rw [z0, k3_ne (by omega), k3_same], by rw [k3_same, k3_same], ⟨0, by decide, z0⟩, fun hn => absurd z0 hn⟩ (fun hn => absurd z0 hn)
theorem op_0 (hb : Cb_ cf) (h : Cs_ cf a e k z s) (hp : ∀ r k' z', Ro_ cf a e s r k' z' → P r k' z') : q_X3_end cf (fun k2 => q_X4_end cf (fun z' => P 0 k2 z') (z 425 0 0) 1 z) s 1 k := by
  rw [h.2.2.2.1]
  exact e_end (m_end (cs_8 hb h) (hp _ _ _ (ro_cp (a' := a) (e' := e) (by rw [k3_ne (by omega), k3_ne (by omega)]; exact h.2.2.2.1) (by rw [k3_ne (by omega), k3_ne (by omega)]; exact h.2.2.2.2) (by omega) (by omega) (cp_end (Cp_x h.1 h.2.1) 1))))
/-- the reference's ops that take a number first -/
theorem m_tk1 {post : ka_T → Prop} (ho : o = 15 ∨ o = 20 ∨ o = 25) (h : q_X4_take cf (fun r24 k24 => q_X4_taskOp_38 cf post o x r24 k24) z) : q_X4_taskOp cf post o x z := by
  have n18 : ¬ o = 18 := by rcases ho with rfl | rfl | rfl <;> decide
  have n16 : ¬ o = 16 := by rcases ho with rfl | rfl | rfl <;> decide
  have n17 : ¬ o = 17 := by rcases ho with rfl | rfl | rfl <;> decide
  exact ⟨fun _ => ⟨fun hn => absurd hn n16, fun _ => ⟨fun _ => h, fun hn => absurd hn n17⟩⟩, fun hn => absurd hn n18⟩
theorem cs_emit (h : Cs_ cf a e k z s) (v : Int32) (he : e < 2 ^ 31) : Cp_ cf a (e + 1) (k3_up (k3_up k 304 0 (e % 32) v) 305 0 0 (nI (e + 1))) (k3_up (k3_up z 424 0 (e % 32) v) 423 0 0 (nI (e + 1))) := by
  obtain ⟨hp, hs, h1, h2, h3⟩ := h
  obtain ⟨g1, g2, g3, g4, g5, g6, g7, g8⟩ := hp.1
  refine Cp_glob hp (fun f n i hf => by rw [k3_ne (by omega), k3_ne (by omega)]) (fun f n i hf hf2 => by rw [k3_ne (by omega), k3_ne (by omega)]) ⟨fun i hi => ?_, fun i hi => ?_, fun i hi => ?_, ⟨k3_same _ _ _ _ _, k3_same _ _ _ _ _⟩, ?_, ⟨?_, ?_⟩, ?_, fun q hq => Cq_keep (g8 q hq) (fun f i hf => by rw [k3_ne (by omega), k3_ne (by omega)]) (by rw [k3_ne (by omega), k3_ne (by omega)]) (fun i => by rw [k3_ne (by omega), k3_ne (by omega)])⟩
  · rw [k3_ne (by omega), k3_ne (by omega), k3_ne (by omega), k3_ne (by omega)]; exact g1 i hi
  · rw [k3_ne (by omega), k3_ne (by omega), k3_ne (by omega), k3_ne (by omega)]; exact g2 i hi
  · have q1 : k3_up (k3_up k 304 0 (e % 32) v) 305 0 0 (nI (e + 1)) 304 0 i = k3_up k 304 0 (e % 32) v 304 0 i := k3_ne (by omega)
    have q2 : k3_up (k3_up z 424 0 (e % 32) v) 423 0 0 (nI (e + 1)) 424 0 i = k3_up z 424 0 (e % 32) v 424 0 i := k3_ne (by omega)
    rw [q1, q2]
    by_cases e1 : i = e % 32
    · rw [← e1, k3_same, k3_same]
    · rw [k3_ne (by omega), k3_ne (by omega)]; exact g3 i hi
  · rw [k3_ne (by omega), k3_ne (by omega), k3_ne (by omega), k3_ne (by omega)]; exact g5
  · rw [k3_ne (by omega), k3_ne (by omega)]; exact g6.1
  · rw [k3_ne (by omega), k3_ne (by omega)]; exact g6.2
  · rw [k3_ne (by omega), k3_ne (by omega), k3_ne (by omega), k3_ne (by omega)]; exact g7
theorem sl_k (he : e < 2 ^ 31) : nI e &&& 31 = nI (e % 32) := pk_andN (n := e) (by omega) (m := 31) 5 (by decide)
theorem sl_m (he : e < 2 ^ 31) : nI e - nI e / 32 * 32 = nI (e % 32) := pk_rem (a := e) (d := 32) he (by decide) (by decide)
theorem op_15 (hb : Cb_ cf) (h : Cs_ cf a e k z s) (he : e < 2 ^ 31) (x : Int32) (hp : ∀ r k' z', Ro_ cf a e s r k' z' → P r k' z') : q_X3_emit cf (fun r k' => q_X4_taskOp cf (fun z' => P r k' z') 15 x z) s k := by
  have ke : k 305 0 0 = nI e := h.1.1.2.2.2.1.1
  have key := op_one (P := P) hb h (K := fun r3 k3 B => vp_in (nI (e % 32)) 32 ∧ (∀ k4 : ka_T, k4 = k3_up k3 304 0 (nI (e % 32)).toNatClampNeg r3 → (∀ k5 : ka_T, k5 = k3_up k4 305 0 0 ((k4 305 0 0) + 1) → B 0 k5))) (M := fun y0 k0 G => q_X4_taskOp_38 cf G 15 x y0 k0) hp
    (fun z1 G s1 t1 hG => ⟨fun hn => absurd hn (by rw [t1]; decide), fun _ => hG⟩)
    (fun d y k2 z2 hd h2 kc zc c4 ek ez B hB => ⟨vp_in_nI (by omega) (by decide), fun k4 e4 k5 e5 => hB _ _ ?_⟩)
  · unfold q_X3_emit
    refine ⟨fun h1 => ?_, fun h1 => m_tk1 (Or.inl rfl) (key.2 h1)⟩
    simp only [q_X3_outSlot]
    rw [ke, sl_k he]
    exact mo_pop (fun _ _ hq => ⟨hq.1, fun k4 e4 k5 e5 => m_tk1 (Or.inl rfl) (hq.2 k4 e4 k5 e5)⟩) (key.1 h1)
  · have ke2 : k2 305 0 0 = nI e := h2.1.1.2.2.2.1.1
    have ze2 : z2 423 0 0 = nI e := h2.1.1.2.2.2.1.2
    rw [nI_clamp (by omega)] at e4
    have f1 : k4 305 0 0 = nI e := by rw [e4, k3_ne (by omega)]; exact ke2
    rw [f1, nI_1, e4] at e5
    refine ⟨fun _ => ⟨fun _ => ?_, fun hn => absurd hn (by decide), fun hn => absurd hn (by decide), fun hn => absurd hn (by decide), fun hn => absurd hn (by decide), fun hn => absurd rfl hn⟩, fun hn => absurd (i0_le h2.2.2.2.2) hn⟩
    rw [ze2, sl_m he, nI_clamp (by omega)]
    refine ⟨vp_in_nI (by omega) (by decide), fun k7 e7 k8 e8 => ?_⟩
    have f2 : k7 423 0 0 = nI e := by rw [e7, k3_ne (by omega)]; exact ze2
    rw [f2, nI_1, e7] at e8
    rw [e5, e8]
    exact hp _ _ _ (ro_cp (a' := a) (e' := e + 1) (by rw [k3_ne (by omega), k3_ne (by omega)]; exact h2.2.2.2.1) (by rw [k3_ne (by omega), k3_ne (by omega)]; exact h2.2.2.2.2) (by omega) (by omega) (cs_emit h2 y he))
theorem m_tkT {G : ka_T → Prop} (t1 : z 426 0 0 = 1) (hG : G z) : q_X4_taskOp_38 cf G o x v z := ⟨fun hn => absurd hn (by rw [t1]; decide), fun _ => hG⟩
theorem cp_sleep (hb : Cb_ cf) (h : Cs_ cf a e k z s) (ha : a < 2 ^ 31) (w : Int32) : Cp_ cf (a + 1) e (k3_up (en_ k s 2) 207 s 0 w) (se_ (k3_up z 416 0 s w) s 2) := by
  have g := h.1.1.2.2.2.2.2.1
  obtain ⟨t1, t2, t3, t4⟩ := h.1.2.2 s h.2.1
  have l := cs_l h
  have g2 : k3_up z 416 0 s w 408 0 0 = nI a := by rw [k3_ne (by omega)]; exact g.2
  refine Cp_ent (Cp_x h.1 h.2.1) ha 2 (by decide) (fun f n j hn => by rw [k3_ne (fun hh => hn (by unfold KO_; omega))]; exact en_o (fun hh => hn (by unfold KO_; omega)) (fun hh => hn (by unfold KO_; omega))) (fun f n j hn => by rw [se_o (fun hh => hn (by unfold ZO_; omega)) (fun hh => hn (by unfold ZO_; omega)), k3_ne (fun hh => hn (by unfold ZO_; omega))]) (by rw [k3_ne (by omega), en_307, g.1, nI_1]) (by rw [se_408, g2, nI_1]) (by rw [k3_ne (by omega)]; exact en_203) se_409 (by rw [se_419]; exact g2) (by rw [k3_ne (by omega), en_o (by omega) (by omega), se_o (by omega) (by omega), k3_ne (by omega)]; exact t2) ?_
  exact Cl_ent l hb.2.2.2.1 2 (by decide) se_409 (by rw [k3_ne (by omega)]; exact en_o (by omega) (by omega)) (by rw [k3_ne (by omega)]; exact en_o (by omega) (by omega)) (fun j => by rw [k3_ne (by omega)]; exact en_o (by omega) (by omega)) (fun j => by rw [k3_ne (by omega)]; exact en_o (by omega) (by omega)) (by rw [k3_ne (by omega)]; exact en_o (by omega) (by omega)) (by rw [k3_ne (by omega)]; exact en_o (by omega) (by omega)) (by rw [se_o (by omega) (by omega)]; exact k3_ne (by omega)) (by rw [se_o (by omega) (by omega)]; exact k3_ne (by omega)) (by rw [se_o (by omega) (by omega)]; exact k3_ne (by omega)) (fun j => by rw [se_o (by omega) (by omega)]; exact k3_ne (by omega)) (by rw [se_o (by omega) (by omega)]; exact k3_ne (by omega)) (fun j => by rw [se_o (by omega) (by omega)]; exact k3_ne (by omega)) (by rw [k3_ne (by omega), en_206, se_419, g.1, g2]) (fun h => absurd h (by decide)) (fun _ => by rw [k3_same, se_o (by omega) (by omega), k3_same]) (fun h => absurd rfl h) (fun h => absurd h (by decide)) (fun _ => by rw [k3_ne (by omega)]; exact en_208) (fun h => absurd h (by decide))
theorem op_20 (hb : Cb_ cf) (h : Cs_ cf a e k z s) (ha : a < 2 ^ 31) (x : Int32) (hp : ∀ r k' z', Ro_ cf a e s r k' z' → P r k' z') : q_X3_sleep cf (fun r k' => q_X4_taskOp cf (fun z' => P r k' z') 20 x z) s k := by
  have h8 := cs_8 hb h
  have key := op_one (P := P) hb h (K := fun r2 k2 B => (r2 ≤ 0 → B 0 k2) ∧ (¬ r2 ≤ 0 → q_X3_enter cf (fun k4 => ∀ k5 : ka_T, k5 = k3_up k4 207 s 0 ((k4 306 0 0) + (if (1000 : Int32) < r2 then (1000 : Int32) else r2)) → B 0 k5) s 2 k2)) (M := fun y0 k0 G => q_X4_taskOp_38 cf G 20 x y0 k0) hp
    (fun z1 G s1 t1 hG => m_tkT t1 hG)
    (fun d y k2 z2 hd h2 kc zc c4 ek ez B hB => ?_)
  · refine ⟨fun h1 => mo_pop (fun _ _ hq => ⟨fun h2 => m_tk1 (Or.inr (Or.inl rfl)) (hq.1 h2), fun h2 => ?_⟩) (key.1 h1), fun h1 => m_tk1 (Or.inr (Or.inl rfl)) (key.2 h1)⟩
    exact fun k1 e1 k2 e2 k3 e3 k4 e4 k5 e5 k6 e6 => m_tk1 (Or.inr (Or.inl rfl)) (hq.2 h2 k1 e1 k2 e2 k3 e3 k4 e4 k5 e5 k6 e6)
  · have ht2 := h2.2.2.2.2
    have hs2 := h2.2.2.2.1
    have ec := h2.1.1.2.2.2.2.1
    have v8 : vp_in (z2 425 0 0) 8 := by rw [hs2]; exact vp_in_nI h8 (by decide)
    refine ⟨fun hy => hB _ _ ⟨fun _ => ⟨fun hn => absurd hn (by decide), fun hn => absurd hn (by decide), fun hn => absurd hn (by decide), fun hn => absurd hn (by decide), fun _ => ⟨fun _ => hp _ _ _ (ro_ok h2), fun hn => absurd hy hn⟩, fun _ _ _ _ hn => absurd rfl hn⟩, fun hn => absurd (i0_le ht2) hn⟩, fun hy => e_enter (fun k5 e5 => hB _ _ ⟨fun _ => ⟨fun hn => absurd hn (by decide), fun hn => absurd hn (by decide), fun hn => absurd hn (by decide), fun hn => absurd hn (by decide), fun _ => ⟨fun hn => absurd hn hy, fun _ => ?_⟩, fun _ _ _ _ hn => absurd rfl hn⟩, fun hn => absurd (i0_le ht2) hn⟩)⟩
    rw [en_o (by omega) (by omega), ec] at e5
    have fin : ∀ w : Int32, w = z2 407 0 0 + (if (1000 : Int32) < y then 1000 else y) → ∀ k15 : ka_T, k15 = k3_up z2 416 0 (z2 425 0 0).toNatClampNeg w → q_X4_set cf (fun k16 => P 0 k5 k16) (k15 425 0 0) 2 k15 := fun w hw k15 e15 => by
      rw [hs2, nI_clamp (by omega)] at e15
      have q1 : k15 425 0 0 = nI s := by rw [e15, k3_ne (by omega)]; exact hs2
      rw [q1]
      refine m_set h8 (hp _ _ _ (ro_cp (a' := a + 1) (e' := e) ?_ ?_ (by omega) (by omega) ?_))
      · rw [se_o (by omega) (by omega)]; exact q1
      · rw [se_o (by omega) (by omega), e15, k3_ne (by omega)]; exact ht2
      · rw [e5, e15, ← hw]
        exact cp_sleep hb h2 ha w
    refine ⟨fun hge => ⟨v8, fun k15 e15 => fin _ ?_ k15 e15⟩, fun hlt => ⟨v8, fun k15 e15 => fin _ ?_ k15 e15⟩⟩
    · by_cases h9 : (1000 : Int32) < y
      · rw [if_pos h9]
      · rw [if_neg h9]
        have : y = 1000 := by
          rw [Int32.lt_iff_toInt_lt] at h9
          rw [Int32.le_iff_toInt_le] at hge
          exact Int32.toInt_inj.mp (by omega)
        rw [this]
    · rw [if_neg (fun h9 => hlt (by rw [Int32.lt_iff_toInt_lt] at h9; rw [Int32.le_iff_toInt_le]; omega))]
end O5
