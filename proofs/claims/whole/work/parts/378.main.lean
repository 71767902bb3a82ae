/-! the law's loop -/
section OZ
variable {cf : Nat → Nat} {a e : Nat} {k z : ka_T} {xs : Nat → Int32} {L : Nat}
theorem cp_00 (hb : Cb_ cf) : Cp_ cf 0 0 k00_ z00_ := by
  refine ⟨⟨fun _ _ => rfl, fun _ _ => rfl, fun _ _ => rfl, ⟨rfl, rfl⟩, rfl, ⟨rfl, rfl⟩, ⟨rfl, Or.inl rfl⟩, fun q _ => ⟨0, 0, Nat.zero_le _, hb.2.2.2.2.2.1, rfl, rfl, rfl, fun j hj => absurd hj (Nat.not_lt_zero _)⟩⟩, fun t u _ _ h _ _ => absurd rfl h, fun t _ => ⟨rfl, rfl, ⟨0, by decide, rfl⟩, fun h => absurd rfl h⟩⟩
theorem lw_exit {p : Nat} (hp : p < 2 ^ 31) (hp4 : 4 ≤ p) (hL : L ≤ 2052) (h : L < p + 4) : (Int32.ofNat L - 4) < nI p := by
  show nI L - nI 4 < nI p
  by_cases h4 : 4 ≤ L
  · obtain ⟨d, rfl⟩ : ∃ d, L = d + 4 := ⟨L - 4, by omega⟩
    rw [← nI_add, Int32.add_sub_cancel]
    exact nI_lt (by omega) hp
  · have : nI L - nI 4 < 0 := by
      match L, h4 with
      | 0, _ => decide
      | 1, _ => decide
      | 2, _ => decide
      | 3, _ => decide
      | n + 4, h4 => exact absurd (by omega) h4
    exact Int32.lt_of_lt_of_le this (nI_pos' hp)
theorem lw_go {p : Nat} (hp : p + 4 ≤ L) (hL : L ≤ 2052) : ¬ (Int32.ofNat L - 4) < nI p := by
  show ¬ nI L - nI 4 < nI p
  obtain ⟨d, rfl⟩ : ∃ d, L = d + 4 := ⟨L - 4, by omega⟩
  rw [← nI_add, Int32.add_sub_cancel]
  exact nI_nlt (by omega) (by omega)
theorem main_l (hb : Cb_ cf) (hL : L ≤ 2052) : ∀ d p a e (k z : ka_T), 4 ≤ p → p ≤ 4096 → d ≤ 1024 → L < p + 4 + 4 * d → a + 64 * d < 2 ^ 30 → e + 64 * d < 2 ^ 30 → Cp_ cf a e k z → q_law_l cf xs L (d + 1) (nI p) k z := by
  intro d
  induction d with
  | zero =>
    intro p a e k z p4 pm _ h1 ha he h
    have := lw_exit (p := p) (by omega) p4 hL (by omega)
    exact ⟨fun _ => trivial, fun hh => absurd this hh⟩
  | succ d ih =>
    intro p a e k z p4 pm d4 h1 ha he h
    by_cases hp : p + 4 ≤ L
    · have nx : ∀ k' z', Af_ cf 64 a e k' z' → q_law_l cf xs L (d + 1) (nI p + 4) k' z' := fun k' z' hf => by
        obtain ⟨a', e', f1, f2, f3, f4, f5⟩ := hf
        rw [show nI p + 4 = nI (p + 4) from nI_add p 4]
        exact ih (p + 4) a' e' k' z' (by omega) (by omega) (by omega) (by omega) (by omega) (by omega) f5
      have v0 : vp_in (nI p) L := vp_in_nI (by omega) (by omega)
      have v1 : vp_in (nI p + 1) L := by rw [show nI p + 1 = nI (p + 1) from nI_add p 1]; exact vp_in_nI (by omega) (by omega)
      have v2 : vp_in (nI p + 2) L := by rw [show nI p + 2 = nI (p + 2) from nI_add p 2]; exact vp_in_nI (by omega) (by omega)
      have v3 : vp_in (nI p + 3) L := by rw [show nI p + 3 = nI (p + 3) from nI_add p 3]; exact vp_in_nI (by omega) (by omega)
      have ng := lw_go hp hL
      refine ⟨fun hh => absurd hh ng, fun _ => ⟨v0, fun _ => ?_, fun _ => ?_, fun _ => ?_, fun _ => ?_, fun _ => ?_, fun _ => ?_, fun _ => ?_, fun _ => ?_, fun _ => ?_, fun _ => ?_, fun _ => ?_, fun _ => ?_, fun _ => ?_, fun _ => ?_, fun _ => ?_, fun _ => ?_, fun _ => ?_, fun _ => ?_, fun _ _ _ _ _ _ _ _ _ _ _ _ _ _ _ _ _ _ => nx k z (Af_0 h 64)⟩⟩
      · obtain ⟨r, k', z', f, w1, w2⟩ := op_poke hb h  (xs (nI p + 1).toNatClampNeg) (xs (nI p + 2).toNatClampNeg)
        exact ⟨v1, v2, w1 _ ⟨v1, v2, w2 _ ⟨fun _ => nx k' z' f, fun hh => absurd rfl hh⟩⟩⟩
      · obtain ⟨r, k', z', f, w1, w2⟩ := op_spawn hb h (by omega) (xs (nI p + 1).toNatClampNeg) (xs (nI p + 2).toNatClampNeg)
        exact ⟨v1, v2, w1 _ ⟨v1, v2, w2 _ ⟨fun _ => nx k' z' f, fun hh => absurd rfl hh⟩⟩⟩
      · obtain ⟨r, k', z', -, f, w1, w2⟩ := op_step hb h (by omega) (by omega)
        exact w1 _ (w2 _ ⟨fun _ => nx k' z' (Af_mo f (by decide)), fun hh => absurd rfl hh⟩)
      · obtain ⟨r, k', z', f, w1, w2⟩ := op_run hb h (by omega) (by omega) (xs (nI p + 1).toNatClampNeg)
        exact ⟨v1, w1 _ ⟨v1, w2 _ ⟨fun _ => nx k' z' f, fun hh => absurd rfl hh⟩⟩⟩
      · obtain ⟨r, k', z', f, w1, w2⟩ := op_tick hb h (by omega) 
        exact w1 _ (w2 _ ⟨fun _ => nx k' z' f, fun hh => absurd rfl hh⟩)
      · obtain ⟨r, k', z', f, w1, w2⟩ := op_kill hb h  (xs (nI p + 1).toNatClampNeg)
        exact ⟨v1, w1 _ ⟨v1, w2 _ ⟨fun _ => nx k' z' f, fun hh => absurd rfl hh⟩⟩⟩
      · obtain ⟨r, k', z', f, w1, w2⟩ := op_state hb h  (xs (nI p + 1).toNatClampNeg)
        exact ⟨v1, w1 _ ⟨v1, w2 _ ⟨fun _ => nx k' z' f, fun hh => absurd rfl hh⟩⟩⟩
      · obtain ⟨r, k', z', f, w1, w2⟩ := op_task hb h  (xs (nI p + 1).toNatClampNeg) (xs (nI p + 2).toNatClampNeg)
        exact ⟨v1, v2, w1 _ ⟨v1, v2, w2 _ ⟨fun _ => nx k' z' f, fun hh => absurd rfl hh⟩⟩⟩
      · obtain ⟨r, k', z', f, w1, w2⟩ := op_stack hb h  (xs (nI p + 1).toNatClampNeg) (xs (nI p + 2).toNatClampNeg)
        exact ⟨v1, v2, w1 _ ⟨v1, v2, w2 _ ⟨fun _ => nx k' z' f, fun hh => absurd rfl hh⟩⟩⟩
      · obtain ⟨r, k', z', f, w1, w2⟩ := op_next hb h  
        exact w1 _ (w2 _ ⟨fun _ => nx k' z' f, fun hh => absurd rfl hh⟩)
      · obtain ⟨r, k', z', f, w1, w2⟩ := op_queue hb h  (xs (nI p + 1).toNatClampNeg)
        exact ⟨v1, w1 _ ⟨v1, w2 _ ⟨fun _ => nx k' z' f, fun hh => absurd rfl hh⟩⟩⟩
      · obtain ⟨r, k', z', f, w1, w2⟩ := op_queued hb h  (xs (nI p + 1).toNatClampNeg) (xs (nI p + 2).toNatClampNeg)
        exact ⟨v1, v2, w1 _ ⟨v1, v2, w2 _ ⟨fun _ => nx k' z' f, fun hh => absurd rfl hh⟩⟩⟩
      · refine ⟨v1, v2, fun y0 => ⟨v3, ?_⟩, fun y0 => ⟨v3, ?_⟩⟩
        · obtain ⟨r, k', z', f, w1, w2⟩ := op_waiter hb h (by omega) (xs (nI p + 1).toNatClampNeg) 0 (xs (nI p + 3).toNatClampNeg)
          exact w1 _ ⟨v1, v2, fun _ => ⟨v3, w2 _ ⟨fun _ => nx k' z' f, fun hh => absurd rfl hh⟩⟩, fun hh => absurd y0 hh⟩
        · obtain ⟨r, k', z', f, w1, w2⟩ := op_waiter hb h (by omega) (xs (nI p + 1).toNatClampNeg) 1 (xs (nI p + 3).toNatClampNeg)
          exact w1 _ ⟨v1, v2, fun hh => absurd hh y0, fun _ => ⟨v3, w2 _ ⟨fun _ => nx k' z' f, fun hh => absurd rfl hh⟩⟩⟩
      · obtain ⟨r, k', z', f, w1, w2⟩ := op_memory h  (xs (nI p + 1).toNatClampNeg)
        exact ⟨v1, w1 _ ⟨v1, w2 _ ⟨fun _ => nx k' z' f, fun hh => absurd rfl hh⟩⟩⟩
      · obtain ⟨r, k', z', f, w1, w2⟩ := op_emitted h  
        exact w1 _ (w2 _ ⟨fun _ => nx k' z' f, fun hh => absurd rfl hh⟩)
      · obtain ⟨r, k', z', f, w1, w2⟩ := op_out h (by omega) (xs (nI p + 1).toNatClampNeg)
        exact ⟨v1, w1 _ ⟨v1, w2 _ ⟨fun _ => nx k' z' f, fun hh => absurd rfl hh⟩⟩⟩
      · obtain ⟨r, k', z', f, w1, w2⟩ := op_why hb h  (xs (nI p + 1).toNatClampNeg)
        exact ⟨v1, w1 _ ⟨v1, w2 _ ⟨fun _ => nx k' z' f, fun hh => absurd rfl hh⟩⟩⟩
      · obtain ⟨r, k', z', f, w1, w2⟩ := op_clock h  
        exact w1 _ (w2 _ ⟨fun _ => nx k' z' f, fun hh => absurd rfl hh⟩)
    · have := lw_exit (p := p) (by omega) p4 hL (by omega)
      exact ⟨fun _ => trivial, fun hh => absurd this hh⟩
end OZ
