/-! near, nearest, and the law's cell -/
def nr_ (x lo hi : Int32) : Int32 := if x < lo then lo else if hi < x then hi else x
theorem nr_alt {x lo hi : Int32} (h : lo ≤ hi) : (if lo < (if x < hi then x else hi) then (if x < hi then x else hi) else lo) = nr_ x lo hi := by
  unfold nr_
  simp only [Int32.lt_iff_toInt_lt, Int32.le_iff_toInt_le] at *
  by_cases h1 : x.toInt < lo.toInt
  · rw [if_pos h1]
    by_cases h2 : x.toInt < hi.toInt
    · rw [if_pos h2, if_neg (by omega)]
    · omega
  · rw [if_neg h1]
    by_cases h2 : x.toInt < hi.toInt
    · rw [if_pos h2, if_neg (show ¬ hi.toInt < x.toInt by omega)]
      by_cases h3 : lo.toInt < x.toInt
      · rw [if_pos h3]
      · rw [if_neg h3]; exact Int32.toInt_inj.mp (by omega)
    · rw [if_neg h2]
      by_cases h3 : hi.toInt < x.toInt
      · rw [if_pos h3]
        by_cases h4 : lo.toInt < hi.toInt
        · rw [if_pos h4]
        · rw [if_neg h4]; exact Int32.toInt_inj.mp (by omega)
      · rw [if_neg h3]
        by_cases h4 : lo.toInt < hi.toInt
        · rw [if_pos h4]; exact Int32.toInt_inj.mp (by omega)
        · rw [if_neg h4]; exact Int32.toInt_inj.mp (by omega)
theorem nr_in {x lo hi : Int32} {a b : Nat} (ha : lo.toInt = a) (hb : hi.toInt = b) (h : a ≤ b) : ∃ n : Nat, a ≤ n ∧ n ≤ b ∧ nr_ x lo hi = nI n := by
  have hb2 : b < 2 ^ 31 := by
    have := Int32.toInt_lt hi
    omega
  have key : ∀ y : Int32, (a : Int) ≤ y.toInt → y.toInt ≤ b → ∃ n : Nat, a ≤ n ∧ n ≤ b ∧ y = nI n := fun y h1 h2 =>
    ⟨y.toInt.toNat, by omega, by omega, Int32.toInt_inj.mp (by rw [nI_toInt (by omega)]; omega)⟩
  unfold nr_
  simp only [Int32.lt_iff_toInt_lt]
  by_cases h1 : x.toInt < lo.toInt
  · rw [if_pos h1]; exact key lo (by omega) (by omega)
  · rw [if_neg h1]
    by_cases h2 : hi.toInt < x.toInt
    · rw [if_pos h2]; exact key hi (by omega) (by omega)
    · rw [if_neg h2]; exact key x (by omega) (by omega)
section KN
variable {p : Program} {l : Launch} {e : Env} {R : Room} {s : State} {m : MethodId} {args : Array Value} {below : List Frame} {meth : Method} {c : Code} {H : Heap} {locs : List Loc} {cells slots : Nat} {Q : State → Prop}
variable {D : va_G} {A : Nat → Prop} {tys : List (ClassId × FieldType)}
abbrev rmX4_near : Room := { frames := 0, cells := 0, slots := 0, locals := 0 }
set_option maxRecDepth 100000 in
set_option maxHeartbeats 4000000 in
theorem c_X4_near (ws : va_W) (x0 x1 x2 : Int32) : Met l yX4_near wsX4_near rmX4_near (va_Pc [.int x0, .int x1, .int x2] (Wz_ D tys A ws)) (va_Qi (fun (r : Int32) (_ : Unit) => r = nr_ x0 x1 x2) (fun _ t => Wz_ D tys A ws t) A) 0 0 A := by
  refine kc_met (by decide +kernel) [.int x0, .int x1, .int x2] (Nat.le_of_ble_eq_true rfl) (fun p e s m args below meth c ls S hr hk hin hw hl => ?_)
  replace hl : lv_has ls 3 [(0, .int x0), (1, .int x1), (2, .int x2)] := hl
  refine lv_iload_n S.1 S.2.1 dX4_near_0 rfl (lv_at hl 0 rfl) ?_
  refine lv_iload_n S.1 S.2.1 dX4_near_1 rfl (lv_at hl 1 rfl) ?_
  refine lv_icmp_ge (tgt := 9) S.1 S.2.1 dX4_near_2 rfl (fun h1 => ?_) (fun h1 => ?_)
  · refine lv_iload_n S.1 S.2.1 dX4_near_9 rfl (lv_at hl 0 rfl) ?_
    refine lv_iload_n S.1 S.2.1 dX4_near_10 rfl (lv_at hl 2 rfl) ?_
    have h1' : ¬ x0 < x1 := by rw [Int32.lt_iff_toInt_lt]; rw [Int32.le_iff_toInt_le] at h1; omega
    refine lv_icmp_le (tgt := 18) S.1 S.2.1 dX4_near_11 rfl (fun h2 => ?_) (fun h2 => ?_)
    · refine lv_iload_n S.1 S.2.1 dX4_near_18 rfl (lv_at hl 0 rfl) ?_
      have h2' : ¬ x2 < x0 := by rw [Int32.lt_iff_toInt_lt]; rw [Int32.le_iff_toInt_le] at h2; omega
      exact kc_reti S hr hk hw (by unfold nr_; rw [if_neg h1', if_neg h2']) dX4_near_19
    · refine lv_iload_n S.1 S.2.1 dX4_near_14 rfl (lv_at hl 2 rfl) ?_
      refine lv_goto (tgt := 19) S.1 S.2.1 dX4_near_15 rfl ?_
      have h2' : x2 < x0 := by rw [Int32.lt_iff_toInt_lt]; rw [Int32.le_iff_toInt_le] at h2; omega
      exact kc_reti S hr hk hw (by unfold nr_; rw [if_neg h1', if_pos h2']) dX4_near_19
  · refine lv_iload_n S.1 S.2.1 dX4_near_5 rfl (lv_at hl 1 rfl) ?_
    refine lv_goto (tgt := 19) S.1 S.2.1 dX4_near_6 rfl ?_
    have h1' : x0 < x1 := by rw [Int32.lt_iff_toInt_lt]; rw [Int32.le_iff_toInt_le] at h1; omega
    exact kc_reti S hr hk hw (by unfold nr_; rw [if_pos h1']) dX4_near_19
abbrev rmX3_nearest : Room := { frames := 1, cells := 0, slots := 0, locals := 21 }
set_option maxRecDepth 100000 in
set_option maxHeartbeats 4000000 in
theorem c_X3_nearest (ws : va_W) (x0 x1 x2 : Int32) (h : x1 ≤ x2) : Met l yX3_nearest wsX3_nearest rmX3_nearest (va_Pc [.int x0, .int x1, .int x2] (Wz_ D tys A ws)) (va_Qi (fun (r : Int32) (_ : Unit) => r = nr_ x0 x1 x2) (fun _ t => Wz_ D tys A ws t) A) 0 0 A := by
  refine kc_met (by decide +kernel) [.int x0, .int x1, .int x2] (Nat.le_of_ble_eq_true rfl) (fun p e s m args below meth c ls S hr hk hin hw hl => ?_)
  replace hl : lv_has ls 3 [(0, .int x0), (1, .int x1), (2, .int x2)] := hl
  refine lv_iload_n S.1 S.2.1 dX3_nearest_0 rfl (lv_at hl 1 rfl) ?_
  refine lv_iload_n S.1 S.2.1 dX3_nearest_1 rfl (lv_at hl 2 rfl) ?_
  refine lv_iload_n S.1 S.2.1 dX3_nearest_2 rfl (lv_at hl 0 rfl) ?_
  refine va_mmin S.1 S.2.1 (S.2.2.1.trans hl.1.symm) S.2.2.2.1 (S.2.2.2.2 _ wl_X3_156) (S.2.2.2.2 _ wst_math_min) (S.2.2.2.2 _ wn_math) (S.2.2.2.2 _ wc_math_min) (Nat.le_of_ble_eq_true rfl) (Nat.le_of_ble_eq_true rfl) (Nat.zero_le _) (Nat.zero_le _) dX3_nearest_3 ?_
  refine va_mmax S.1 S.2.1 (S.2.2.1.trans hl.1.symm) S.2.2.2.1 (S.2.2.2.2 _ wl_X3_161) (S.2.2.2.2 _ wst_math_max) (S.2.2.2.2 _ wn_math) (S.2.2.2.2 _ wc_math_max) (Nat.le_of_ble_eq_true rfl) (Nat.le_of_ble_eq_true rfl) (Nat.zero_le _) (Nat.zero_le _) dX3_nearest_6 ?_
  exact kc_reti S hr hk hw (nr_alt h) dX3_nearest_9
/-- the law's own reading of the script -/
def ce_s (L : Nat) (xs : Nat → Int32) (k : Nat) : Int32 := if k < L then xs k else 0
end KN
