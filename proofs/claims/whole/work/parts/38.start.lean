/-! the walk of the law's body -/
theorem pure_main {cf : Nat → Nat} (hb : Cb_ cf) (xs : Nat → Int32) {L : Nat} (hL : L ≤ 2052) : ∃ nf : Nat, q_law_l cf xs L nf (4 : Int32) k00_ z00_ :=
  ⟨513 + 1, main_l hb hL 513 4 0 0 k00_ z00_ (by decide) (by decide) (by decide) (by omega) (by decide) (by decide) (cp_00 hb)⟩
theorem whole_start {p : Program} {e : Env} {s : State} {m : MethodId} {below : List Frame} {meth : Method} {c : Code} (l : Launch) {b L : Nat} {xs : Nat → Int32} (hL : L ≤ 2052) (C0 : lw_At p s m meth c b L xs) : W p l e room_1 s m #[Value.ref b] below meth c s.heap [] 0 0 (lw_Z below #[Value.ref b] s) (entryFrame m ([Value.ref b] : List Value).toArray 4) := by
  obtain ⟨hx, hbc, hr, hml, hown, hts, hX, hbl, hk, -⟩ := id C0
  refine lw_head hL C0 (fun D cA cf ad H locs ls hcb S hl hw => ?_)
  obtain ⟨nf, hq⟩ := pure_main hcb xs hL
  exact b_law_l S hr hk hX hbl nf (4 : Int32) k00_ z00_ _ _ _ hl hw hq
