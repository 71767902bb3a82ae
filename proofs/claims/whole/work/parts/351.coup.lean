/-! the two states beside each other -/
/-- a live task -/
def Cl_ (cf : Nat → Nat) (k z : ka_T) (t : Nat) : Prop :=
  (k 204 t 0 = z 411 0 t ∧ ∃ a : Nat, a ≤ 64 ∧ z 411 0 t = nI a) ∧ k 205 t 0 = z 410 0 t ∧ k 206 t 0 = z 419 0 t ∧
  (∃ c : Nat, c ≤ cf 1 ∧ k 101 (2 * t) 0 = nI c ∧ z 412 0 t = nI c ∧ (∀ j, j < c → k 100 (2 * t) j = z 413 t j) ∧ (z 409 0 t = 4 → c < cf 1)) ∧
  (∃ f : Nat, f ≤ 4 ∧ k 101 (2 * t + 1) 0 = nI f ∧ z 414 0 t = nI f ∧ ∀ j, j < f → k 100 (2 * t + 1) j = z 415 t j ∧ ∃ a : Nat, a ≤ 64 ∧ z 415 t j = nI a) ∧
  (z 409 0 t = 2 → k 207 t 0 = z 416 0 t) ∧ (¬ z 409 0 t = 2 → k 207 t 0 = 0) ∧ (3 ≤ z 409 0 t → k 208 t 0 = z 417 0 t) ∧ (¬ 3 ≤ z 409 0 t → k 208 t 0 = -1) ∧ (z 409 0 t = 3 → k 209 t 0 = z 418 0 t)
/-- any task: a is the next ticket -/
def Ct_ (cf : Nat → Nat) (a : Nat) (k z : ka_T) (t : Nat) : Prop :=
  k 203 t 0 = z 409 0 t ∧ k 210 t 0 = z 420 0 t ∧ (∃ i : Nat, i ≤ 4 ∧ z 409 0 t = nI i) ∧ (¬ z 409 0 t = 0 → (∃ b : Nat, b < a ∧ z 419 0 t = nI b) ∧ Cl_ cf k z t)
/-- a queue -/
def Cq_ (cf : Nat → Nat) (k z : ka_T) (q : Nat) : Prop :=
  ∃ c f : Nat, c ≤ cf 3 ∧ f < cf 3 ∧ k 2 q 0 = nI c ∧ k 1 q 0 = nI f ∧ z 421 0 q = nI c ∧ ∀ j, j < c → k 0 q (if f + j < cf 3 then f + j else f + j - cf 3) = z 422 q j
/-- what belongs to no task; a: the next ticket, e: how many were emitted -/
def Cg_ (cf : Nat → Nat) (a e : Nat) (k z : ka_T) : Prop :=
  (∀ j, j < 64 → k 302 0 j = z 404 0 j) ∧ (∀ j, j < 16 → k 303 0 j = z 405 0 j) ∧ (∀ j, j < 32 → k 304 0 j = z 424 0 j) ∧
  (k 305 0 0 = nI e ∧ z 423 0 0 = nI e) ∧ k 306 0 0 = z 407 0 0 ∧ (k 307 0 0 = nI a ∧ z 408 0 0 = nI a) ∧ (k 308 0 0 = z 406 0 0 ∧ (z 406 0 0 = 0 ∨ z 406 0 0 = 1)) ∧ ∀ q, q < cf 2 → Cq_ cf k z q
/-- tickets of live tasks are apart -/
def Cd_ (cf : Nat → Nat) (z : ka_T) : Prop := ∀ t u, t < cf 0 → u < cf 0 → ¬ z 409 0 t = 0 → ¬ z 409 0 u = 0 → z 419 0 t = z 419 0 u → t = u
def Cp_ (cf : Nat → Nat) (a e : Nat) (k z : ka_T) : Prop := Cg_ cf a e k z ∧ Cd_ cf z ∧ ∀ t, t < cf 0 → Ct_ cf a k z t
/-- the same, of task s its state and reason alone -/
def Cx_ (cf : Nat → Nat) (a e : Nat) (k z : ka_T) (s : Nat) : Prop := Cg_ cf a e k z ∧ Cd_ cf z ∧ (∀ t, t < cf 0 → ¬ t = s → Ct_ cf a k z t) ∧ k 203 s 0 = z 409 0 s ∧ k 210 s 0 = z 420 0 s
/-- in a step: s runs, no trap yet -/
def Cs_ (cf : Nat → Nat) (a e : Nat) (k z : ka_T) (s : Nat) : Prop := Cp_ cf a e k z ∧ s < cf 0 ∧ z 409 0 s = 1 ∧ z 425 0 0 = nI s ∧ z 426 0 0 = 0
theorem pl_e (cf : Nat → Nat) (t : Nat) : pl_n cf (2 * t) = cf 1 := by simp [pl_n]
theorem pl_o (cf : Nat → Nat) (t : Nat) : pl_n cf (2 * t + 1) = 4 := by
  have h : ¬ (2 * t + 1) % 2 = 0 := by omega
  simp [pl_n, h]
theorem k3_id (x : ka_T) (f n j : Nat) : k3_up x f n j (x f n j) = x := by
  funext f' n' j'
  simp only [k3_up]
  by_cases h : f' = f ∧ n' = n ∧ j' = j
  · rw [if_pos h, h.1, h.2.1, h.2.2]
  · rw [if_neg h]
theorem k3_ne {x : ka_T} {f n j f' n' j' : Nat} {v : Int32} (h : ¬ (f' = f ∧ n' = n ∧ j' = j)) : k3_up x f n j v f' n' j' = x f' n' j' := if_neg h
theorem k3_eq {x : ka_T} {f n j f' n' j' : Nat} {v : Int32} (h : f' = f ∧ n' = n ∧ j' = j) : k3_up x f n j v f' n' j' = v := if_pos h
/-- a task of which nothing was touched -/
theorem Ct_keep {cf : Nat → Nat} {a a' : Nat} {k z k' z' : ka_T} {t : Nat} (h : Ct_ cf a k z t) (ha : a ≤ a')
    (h1 : ∀ f, f < 211 → 203 ≤ f → k' f t 0 = k f t 0) (h2 : k' 101 (2 * t) 0 = k 101 (2 * t) 0) (h3 : k' 101 (2 * t + 1) 0 = k 101 (2 * t + 1) 0) (h4 : ∀ j, k' 100 (2 * t) j = k 100 (2 * t) j) (h5 : ∀ j, k' 100 (2 * t + 1) j = k 100 (2 * t + 1) j)
    (h6 : ∀ f, f < 421 → 409 ≤ f → ¬ f = 413 → ¬ f = 415 → z' f 0 t = z f 0 t) (h7 : ∀ j, z' 413 t j = z 413 t j) (h8 : ∀ j, z' 415 t j = z 415 t j) : Ct_ cf a' k' z' t := by
  obtain ⟨g1, g2, g3, g4⟩ := h
  have e203 := h1 203 (by decide) (by decide)
  have e204 := h1 204 (by decide) (by decide)
  have e205 := h1 205 (by decide) (by decide)
  have e206 := h1 206 (by decide) (by decide)
  have e207 := h1 207 (by decide) (by decide)
  have e208 := h1 208 (by decide) (by decide)
  have e209 := h1 209 (by decide) (by decide)
  have e210 := h1 210 (by decide) (by decide)
  have d409 := h6 409 (by decide) (by decide) (by decide) (by decide)
  have d410 := h6 410 (by decide) (by decide) (by decide) (by decide)
  have d411 := h6 411 (by decide) (by decide) (by decide) (by decide)
  have d412 := h6 412 (by decide) (by decide) (by decide) (by decide)
  have d414 := h6 414 (by decide) (by decide) (by decide) (by decide)
  have d416 := h6 416 (by decide) (by decide) (by decide) (by decide)
  have d417 := h6 417 (by decide) (by decide) (by decide) (by decide)
  have d418 := h6 418 (by decide) (by decide) (by decide) (by decide)
  have d419 := h6 419 (by decide) (by decide) (by decide) (by decide)
  have d420 := h6 420 (by decide) (by decide) (by decide) (by decide)
  refine ⟨by rw [e203, d409]; exact g1, by rw [e210, d420]; exact g2, by rw [d409]; exact g3, fun hl => ?_⟩
  rw [d409] at hl
  obtain ⟨⟨b, hb, hb2⟩, c1⟩ := g4 hl
  refine ⟨⟨b, by omega, by rw [d419]; exact hb2⟩, ?_⟩
  unfold Cl_ at c1 ⊢
  simp only [e203, e204, e205, e206, e207, e208, e209, h2, h3, h4, h5, h7, h8, d409, d410, d411, d412, d414, d416, d417, d418, d419]
  exact c1
/-- what of the class's state belongs to task s (and the next ticket) -/
def KO_ (s f n : Nat) : Prop := ((203 ≤ f ∧ f < 211) ∧ n = s) ∨ ((f = 100 ∨ f = 101) ∧ (n = 2 * s ∨ n = 2 * s + 1)) ∨ f = 307
/-- what of the reference's state belongs to task s (and the next ticket, self, trap) -/
def ZO_ (s f n j : Nat) : Prop := ((409 ≤ f ∧ f < 421) ∧ ¬ f = 413 ∧ ¬ f = 415 ∧ n = 0 ∧ j = s) ∨ ((f = 413 ∨ f = 415) ∧ n = s) ∨ f = 408 ∨ f = 425 ∨ f = 426
theorem Cq_keep {cf : Nat → Nat} {k z k' z' : ka_T} {q : Nat} (h : Cq_ cf k z q) (h1 : ∀ f j, f < 3 → k' f q j = k f q j) (h2 : z' 421 0 q = z 421 0 q) (h3 : ∀ j, z' 422 q j = z 422 q j) : Cq_ cf k' z' q := by
  obtain ⟨c, f, g1, g2, g3, g4, g5, g6⟩ := h
  refine ⟨c, f, g1, g2, by rw [h1 2 0 (by decide)]; exact g3, by rw [h1 1 0 (by decide)]; exact g4, by rw [h2]; exact g5, fun j hj => ?_⟩
  rw [h1 0 _ (by decide), h3]
  exact g6 j hj
theorem Cg_task {cf : Nat → Nat} {a a' e : Nat} {k z k' z' : ka_T} {s : Nat} (h : Cg_ cf a e k z) (hk : ∀ f n j, ¬ KO_ s f n → k' f n j = k f n j) (hz : ∀ f n j, ¬ ZO_ s f n j → z' f n j = z f n j) (hg : k' 307 0 0 = nI a' ∧ z' 408 0 0 = nI a') : Cg_ cf a' e k' z' := by
  obtain ⟨g1, g2, g3, g4, g5, g6, g7, g8⟩ := h
  refine ⟨fun j hj => ?_, fun j hj => ?_, fun j hj => ?_, ⟨?_, ?_⟩, ?_, hg, ?_, fun q hq => ?_⟩
  · rw [hk 302 0 j (by unfold KO_; omega), hz 404 0 j (by unfold ZO_; omega)]; exact g1 j hj
  · rw [hk 303 0 j (by unfold KO_; omega), hz 405 0 j (by unfold ZO_; omega)]; exact g2 j hj
  · rw [hk 304 0 j (by unfold KO_; omega), hz 424 0 j (by unfold ZO_; omega)]; exact g3 j hj
  · rw [hk 305 0 0 (by unfold KO_; omega)]; exact g4.1
  · rw [hz 423 0 0 (by unfold ZO_; omega)]; exact g4.2
  · rw [hk 306 0 0 (by unfold KO_; omega), hz 407 0 0 (by unfold ZO_; omega)]; exact g5
  · rw [hk 308 0 0 (by unfold KO_; omega), hz 406 0 0 (by unfold ZO_; omega)]; exact g7
  · exact Cq_keep (g8 q hq) (fun f j hf => hk f q j (by unfold KO_; omega)) (hz 421 0 q (by unfold ZO_; omega)) (fun j => hz 422 q j (by unfold ZO_; omega))
theorem Ct_other {cf : Nat → Nat} {a a' : Nat} {k z k' z' : ka_T} {s t : Nat} (h : Ct_ cf a k z t) (ha : a ≤ a') (hts : ¬ t = s) (hk : ∀ f n j, ¬ KO_ s f n → k' f n j = k f n j) (hz : ∀ f n j, ¬ ZO_ s f n j → z' f n j = z f n j) : Ct_ cf a' k' z' t :=
  Ct_keep h ha (fun f h1 h2 => hk f t 0 (by unfold KO_; omega)) (hk 101 _ 0 (by unfold KO_; omega)) (hk 101 _ 0 (by unfold KO_; omega)) (fun j => hk 100 _ j (by unfold KO_; omega)) (fun j => hk 100 _ j (by unfold KO_; omega)) (fun f h1 h2 h3 h4 => hz f 0 t (by unfold ZO_; omega)) (fun j => hz 413 t j (by unfold ZO_; omega)) (fun j => hz 415 t j (by unfold ZO_; omega))
/-- task s was worked on, and holds again -/
theorem Cp_gen {cf : Nat → Nat} {a a' e : Nat} {k z k' z' : ka_T} {s : Nat} (h : Cx_ cf a e k z s) (ha : a ≤ a') (hk : ∀ f n j, ¬ KO_ s f n → k' f n j = k f n j) (hz : ∀ f n j, ¬ ZO_ s f n j → z' f n j = z f n j) (hg : k' 307 0 0 = nI a' ∧ z' 408 0 0 = nI a') (ht : Ct_ cf a' k' z' s) (hd : ¬ z' 409 0 s = 0 → ∀ u, u < cf 0 → ¬ u = s → ¬ z 409 0 u = 0 → ¬ z 419 0 u = z' 419 0 s) : Cp_ cf a' e k' z' := by
  obtain ⟨g1, g2, g3, g4, g5⟩ := h
  refine ⟨Cg_task g1 hk hz hg, fun t u h1 h2 h3 h4 h5 => ?_, fun t h1 => ?_⟩
  · have o409 : ∀ t, ¬ t = s → z' 409 0 t = z 409 0 t := fun t hts => hz 409 0 t (by unfold ZO_; omega)
    have o419 : ∀ t, ¬ t = s → z' 419 0 t = z 419 0 t := fun t hts => hz 419 0 t (by unfold ZO_; omega)
    by_cases e1 : t = s
    · by_cases e2 : u = s
      · rw [e1, e2]
      · subst e1
        rw [o409 u e2] at h4
        rw [o419 u e2] at h5
        exact absurd h5.symm (hd h3 u h2 e2 h4)
    · by_cases e2 : u = s
      · subst e2
        rw [o409 t e1] at h3
        rw [o419 t e1] at h5
        exact absurd h5 (hd h4 t h1 e1 h3)
      · rw [o409 t e1] at h3
        rw [o409 u e2] at h4
        rw [o419 t e1, o419 u e2] at h5
        exact g2 t u h1 h2 h3 h4 h5
  · by_cases e1 : t = s
    · subst e1; exact ht
    · exact Ct_other (g3 t h1 e1) ha e1 hk hz
/-- task s was worked on, and is about to end -/
theorem Cx_gen {cf : Nat → Nat} {a e : Nat} {k z k' z' : ka_T} {s : Nat} (h : Cx_ cf a e k z s) (hk : ∀ f n j, ¬ KO_ s f n → k' f n j = k f n j) (hz : ∀ f n j, ¬ ZO_ s f n j → z' f n j = z f n j) (hg : k' 307 0 0 = k 307 0 0 ∧ z' 408 0 0 = z 408 0 0) (h3 : k' 203 s 0 = k 203 s 0) (h4 : k' 210 s 0 = k 210 s 0) (h5 : z' 409 0 s = z 409 0 s) (h6 : z' 420 0 s = z 420 0 s) (h7 : z' 419 0 s = z 419 0 s) : Cx_ cf a e k' z' s := by
  obtain ⟨g1, g2, g3, g4, g5⟩ := h
  have q := g1.2.2.2.2.2.1
  have o409 : ∀ t, z' 409 0 t = z 409 0 t := fun t => by
    by_cases e1 : t = s
    · rw [e1]; exact h5
    · exact hz 409 0 t (by unfold ZO_; omega)
  have o419 : ∀ t, z' 419 0 t = z 419 0 t := fun t => by
    by_cases e1 : t = s
    · rw [e1]; exact h7
    · exact hz 419 0 t (by unfold ZO_; omega)
  refine ⟨Cg_task g1 hk hz ⟨by rw [hg.1]; exact q.1, by rw [hg.2]; exact q.2⟩, fun t u h1 h2 h3 h4 h5 => ?_, fun t h1 e1 => Ct_other (g3 t h1 e1) (Nat.le_refl _) e1 hk hz, by rw [h3, h5]; exact g4, by rw [h4, h6]; exact g5⟩
  rw [o409] at h3 h4
  rw [o419, o419] at h5
  exact g2 t u h1 h2 h3 h4 h5
theorem Cp_x {cf : Nat → Nat} {a e : Nat} {k z : ka_T} {s : Nat} (h : Cp_ cf a e k z) (hs : s < cf 0) : Cx_ cf a e k z s := ⟨h.1, h.2.1, fun t h1 _ => h.2.2 t h1, (h.2.2 s hs).1, (h.2.2 s hs).2.1⟩
