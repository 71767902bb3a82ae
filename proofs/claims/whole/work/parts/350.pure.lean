/-! rows about first, least and counted places below n: no machine here -/
def ct_n (P : Nat → Bool) (g : Nat → Nat) (x : Nat) : Nat → Nat
  | 0 => 0
  | n + 1 => if P n = true ∧ g n < x then ct_n P g x n + 1 else ct_n P g x n
def fm_n (P : Nat → Bool) (g : Nat → Nat) : Nat → Option Nat
  | 0 => none
  | n + 1 => match fm_n P g n with
    | none => if P n = true then some n else none
    | some b => if P n = true ∧ g n < g b then some n else some b
def ff_n (R : Nat → Bool) : Nat → Option Nat
  | 0 => none
  | n + 1 => match ff_n R n with
    | some b => some b
    | none => if R n = true then some n else none
theorem ff_some {R : Nat → Bool} : ∀ {n b : Nat}, ff_n R n = some b → b < n ∧ R b = true ∧ ∀ i, i < b → R i = false := by
  intro n
  induction n with
  | zero => intro b h; simp [ff_n] at h
  | succ n ih =>
    intro b h
    unfold ff_n at h
    cases hf : ff_n R n with
    | some c =>
      rw [hf] at h
      simp only [Option.some.injEq] at h
      subst h
      obtain ⟨h1, h2, h3⟩ := ih hf
      exact ⟨by omega, h2, h3⟩
    | none =>
      rw [hf] at h
      by_cases hR : R n = true
      · simp only [hR, if_true, Option.some.injEq] at h
        subst h
        refine ⟨by omega, hR, fun i hi => ?_⟩
        have hn : ∀ m, ff_n R m = none → ∀ i, i < m → R i = false := by
          intro m
          induction m with
          | zero => intro _ i hi; omega
          | succ m im =>
            intro hm i hi
            unfold ff_n at hm
            cases hq : ff_n R m with
            | some c => rw [hq] at hm; simp at hm
            | none =>
              rw [hq] at hm
              by_cases hRm : R m = true
              · simp [hRm] at hm
              · by_cases e : i = m
                · subst e; simpa using hRm
                · exact im hq i (by omega)
        exact hn n hf i hi
      · simp [hR] at h
theorem ff_none {R : Nat → Bool} : ∀ {n : Nat}, ff_n R n = none → ∀ i, i < n → R i = false := by
  intro n
  induction n with
  | zero => intro _ i hi; omega
  | succ m im =>
    intro hm i hi
    unfold ff_n at hm
    cases hq : ff_n R m with
    | some c => rw [hq] at hm; simp at hm
    | none =>
      rw [hq] at hm
      by_cases hRm : R m = true
      · simp [hRm] at hm
      · by_cases e : i = m
        · subst e; simpa using hRm
        · exact im hq i (by omega)
theorem ff_is {R : Nat → Bool} {n b : Nat} (hb : b < n) (h : R b = true) (hf : ∀ i, i < b → R i = false) : ff_n R n = some b := by
  cases e : ff_n R n with
  | none => have := ff_none e b hb; rw [h] at this; cases this
  | some c =>
    obtain ⟨h1, h2, h3⟩ := ff_some e
    by_cases h4 : c < b
    · have := hf c h4; rw [h2] at this; cases this
    · by_cases h5 : b < c
      · have := h3 b h5; rw [h] at this; cases this
      · have : c = b := by omega
        rw [this]
theorem ff_no {R : Nat → Bool} {n : Nat} (h : ∀ i, i < n → R i = false) : ff_n R n = none := by
  cases e : ff_n R n with
  | none => rfl
  | some c => obtain ⟨h1, h2, -⟩ := ff_some e; have := h c h1; rw [h2] at this; cases this
theorem fm_some {P : Nat → Bool} {g : Nat → Nat} : ∀ {n b : Nat}, fm_n P g n = some b → b < n ∧ P b = true ∧ (∀ i, i < n → P i = true → g b ≤ g i) ∧ ∀ i, i < b → P i = true → g b < g i := by
  intro n
  induction n with
  | zero => intro b h; simp [fm_n] at h
  | succ n ih =>
    intro b h
    unfold fm_n at h
    cases hf : fm_n P g n with
    | none =>
      rw [hf] at h
      have hn : ∀ m, fm_n P g m = none → ∀ i, i < m → P i = true → False := by
        intro m
        induction m with
        | zero => intro _ i hi; omega
        | succ m im =>
          intro hm i hi hP
          unfold fm_n at hm
          cases hq : fm_n P g m with
          | some c => rw [hq] at hm; simp only at hm; split at hm <;> cases hm
          | none =>
            rw [hq] at hm
            by_cases hPm : P m = true
            · simp [hPm] at hm
            · by_cases e : i = m
              · subst e; exact hPm hP
              · exact im hq i (by omega) hP
      by_cases hP : P n = true
      · simp only [hP, if_true, Option.some.injEq] at h
        subst h
        refine ⟨by omega, hP, fun i hi hPi => ?_, fun i hi hPi => (hn n hf i hi hPi).elim⟩
        by_cases e : i = n
        · subst e; exact Nat.le_refl _
        · exact (hn n hf i (by omega) hPi).elim
      · simp [hP] at h
    | some c =>
      rw [hf] at h
      obtain ⟨h1, h2, h3, h4⟩ := ih hf
      simp only at h
      by_cases hc : P n = true ∧ g n < g c
      · rw [if_pos hc] at h
        simp only [Option.some.injEq] at h
        subst h
        refine ⟨by omega, hc.1, fun i hi hPi => ?_, fun i hi hPi => ?_⟩
        · by_cases e : i = n
          · subst e; exact Nat.le_refl _
          · have := h3 i (by omega) hPi; omega
        · have := h3 i hi hPi; omega
      · rw [if_neg hc] at h
        simp only [Option.some.injEq] at h
        subst h
        refine ⟨by omega, h2, fun i hi hPi => ?_, h4⟩
        by_cases e : i = n
        · subst e
          by_cases hlt : g i < g c
          · exact (hc ⟨hPi, hlt⟩).elim
          · omega
        · exact h3 i (by omega) hPi
theorem fm_none {P : Nat → Bool} {g : Nat → Nat} : ∀ {n : Nat}, fm_n P g n = none → ∀ i, i < n → P i = false := by
  intro m
  induction m with
  | zero => intro _ i hi; omega
  | succ m im =>
    intro hm i hi
    unfold fm_n at hm
    cases hq : fm_n P g m with
    | some c => rw [hq] at hm; simp only at hm; split at hm <;> cases hm
    | none =>
      rw [hq] at hm
      by_cases hPm : P m = true
      · simp [hPm] at hm
      · by_cases e : i = m
        · subst e; simpa using hPm
        · exact im hq i (by omega)
theorem ct_0 {P : Nat → Bool} {g : Nat → Nat} {x : Nat} : ∀ {n : Nat}, ct_n P g x n = 0 → ∀ i, i < n → P i = true → x ≤ g i := by
  intro n
  induction n with
  | zero => intro _ i hi; omega
  | succ n ih =>
    intro h i hi hP
    unfold ct_n at h
    by_cases hc : P n = true ∧ g n < x
    · rw [if_pos hc] at h; omega
    · rw [if_neg hc] at h
      by_cases e : i = n
      · subst e
        by_cases hlt : g i < x
        · exact (hc ⟨hP, hlt⟩).elim
        · omega
      · exact ih h i (by omega) hP
theorem ct_no {P : Nat → Bool} {g : Nat → Nat} {x : Nat} : ∀ {n : Nat}, (∀ i, i < n → P i = true → x ≤ g i) → ct_n P g x n = 0 := by
  intro n
  induction n with
  | zero => intro _; rfl
  | succ n ih =>
    intro h
    unfold ct_n
    rw [if_neg (fun hc => by have := h n (by omega) hc.1; omega)]
    exact ih (fun i hi hP => h i (by omega) hP)
theorem ct_le {P : Nat → Bool} {g : Nat → Nat} {x : Nat} : ∀ n : Nat, ct_n P g x n ≤ n := by
  intro n
  induction n with
  | zero => exact Nat.le_refl _
  | succ n ih => unfold ct_n; split <;> omega
/-- the least one, first among equals, is the first one that has none before it -/
theorem fm_ff (P : Nat → Bool) (g : Nat → Nat) (n : Nat) : fm_n P g n = ff_n (fun t => P t && decide (ct_n P g (g t) n = 0)) n := by
  cases e : fm_n P g n with
  | none =>
    symm
    apply ff_no
    intro i hi
    simp [fm_none e i hi]
  | some b =>
    obtain ⟨h1, h2, h3, h4⟩ := fm_some e
    symm
    refine ff_is h1 ?_ (fun i hi => ?_)
    · have : ct_n P g (g b) n = 0 := ct_no (fun i hi hP => h3 i hi hP)
      simp [h2, this]
    · by_cases hP : P i = true
      · have hne : ct_n P g (g i) n ≠ 0 := fun h0 => by
          have a := ct_0 h0 b h1 h2
          have c := h4 i hi hP
          omega
        simp [hne]
      · simp [hP]
theorem ct_yes {P : Nat → Bool} {g : Nat → Nat} {x n : Nat} (h : P n = true ∧ g n < x) : ct_n P g x (n + 1) = ct_n P g x n + 1 := if_pos h
theorem ct_nay {P : Nat → Bool} {g : Nat → Nat} {x n : Nat} (h : ¬ (P n = true ∧ g n < x)) : ct_n P g x (n + 1) = ct_n P g x n := if_neg h
/-- counting one more -/
theorem ct_one {P : Nat → Bool} {g : Nat → Nat} {x y u : Nat} (hxy : ∀ w, P w = true → (g w < y ↔ (g w < x ∨ w = u))) (hu : ¬ g u < x) (hPu : P u = true) : ∀ n : Nat, ct_n P g y n = if u < n then ct_n P g x n + 1 else ct_n P g x n := by
  intro n
  induction n with
  | zero => simp [ct_n]
  | succ n ih =>
    by_cases hP : P n = true
    · have hw := hxy n hP
      by_cases e : n = u
      · subst e
        have a1 : g n < y := hw.mpr (Or.inr rfl)
        rw [ct_yes ⟨hP, a1⟩, ct_nay (fun h => hu h.2), ih, if_neg (Nat.lt_irrefl n), if_pos (Nat.lt_succ_self n)]
      · by_cases h : g n < x
        · rw [ct_yes ⟨hP, hw.mpr (Or.inl h)⟩, ct_yes ⟨hP, h⟩, ih]
          split <;> split <;> omega
        · have hy : ¬ g n < y := fun hh => by rcases hw.mp hh with h1 | h1; exact h h1; exact e h1
          rw [ct_nay (fun hh => hy hh.2), ct_nay (fun hh => h hh.2), ih]
          split <;> split <;> omega
    · have e : n ≠ u := fun e => hP (e ▸ hPu)
      rw [ct_nay (fun hh => hP hh.1), ct_nay (fun hh => hP hh.1), ih]
      split <;> split <;> omega
theorem ct_mono {P : Nat → Bool} {g : Nat → Nat} {x y : Nat} (h : x ≤ y) : ∀ n : Nat, ct_n P g x n ≤ ct_n P g y n := by
  intro n
  induction n with
  | zero => exact Nat.le_refl _
  | succ n ih =>
    unfold ct_n
    by_cases h1 : P n = true ∧ g n < x
    · rw [if_pos h1, if_pos ⟨h1.1, Nat.lt_of_lt_of_le h1.2 h⟩]; omega
    · rw [if_neg h1]
      by_cases h2 : P n = true ∧ g n < y
      · rw [if_pos h2]; omega
      · rw [if_neg h2]; exact ih
/-- where tickets are apart the ranks have no gap -/
theorem ct_rank {P : Nat → Bool} {g : Nat → Nat} {n : Nat} (hd : ∀ i j, i < n → j < n → P i = true → P j = true → g i = g j → i = j) (hout : ∀ i, P i = true → i < n) : ∀ k t, P t = true → k ≤ ct_n P g (g t) n → ∃ u, P u = true ∧ ct_n P g (g u) n = k := by
  intro k
  induction k with
  | zero =>
    intro t hP _
    cases e : fm_n P g n with
    | none => have := fm_none e t (hout t hP); rw [hP] at this; cases this
    | some b =>
      obtain ⟨h1, h2, h3, -⟩ := fm_some e
      exact ⟨b, h2, ct_no (fun i hi hPi => h3 i hi hPi)⟩
  | succ k ih =>
    intro t hP hk
    obtain ⟨u, hPu, hcu⟩ := ih t hP (by omega)
    have htu : g u < g t := by
      by_cases h : g u < g t
      · exact h
      · have := ct_mono (P := P) (g := g) (Nat.not_lt.mp h) n
        omega
    cases e : fm_n (fun i => P i && decide (g u < g i)) g n with
    | none =>
      have := fm_none e t (hout t hP)
      simp [hP, htu] at this
    | some v =>
      obtain ⟨h1, h2, h3, -⟩ := fm_some e
      simp only [Bool.and_eq_true, decide_eq_true_eq] at h2
      refine ⟨v, h2.1, ?_⟩
      have hun := hout u hPu
      have := ct_one (P := P) (g := g) (x := g u) (y := g v) (u := u) (fun w hw => by
        constructor
        · intro hwv
          by_cases e2 : g u < g w
          · have := h3 w (hout w hw) (by simp [hw, e2])
            omega
          · by_cases e3 : g w < g u
            · exact Or.inl e3
            · exact Or.inr (hd w u (hout w hw) hun hw hPu (by omega))
        · intro h
          rcases h with h | h
          · omega
          · subst h; exact h2.2) (Nat.lt_irrefl _) hPu n
      rw [this, if_pos hun, hcu]
