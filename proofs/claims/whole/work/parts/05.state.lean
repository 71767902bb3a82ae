/-! printed by wip/whole/gen.py: the cells of both objects by their keys; a row for each field and array -/
def pl_n (cf : Nat → Nat) (n : Nat) : Nat := if n % 2 = 0 then cf 1 else 4
abbrev tys_3 (cA : Nat → ClassId) : List (ClassId × FieldType) := [(cA 0, .int), (cA 1, .object "TaskKernel$Task"), (cA 2, .object "TaskKernel$Mailbox")]
def kt_ (n : Nat) : List (Nat × Nat) := (List.range n).flatMap (fun i => [(6, i), (7, 2 * i), (8, 2 * i), (7, 2 * i + 1), (8, 2 * i + 1)])
def kq_ (n : Nat) : List (Nat × Nat) := (List.range n).flatMap (fun i => [(9, i), (10, i)])
def ks_k (cf : Nat → Nat) : List (Nat × Nat) := [(0, 0), (3, 0), (4, 0), (5, 0), (1, 0)] ++ (kt_ (cf 0) ++ ((2, 0) :: kq_ (cf 2)))
def ks_a (cf : Nat → Nat) : List (Nat × Nat) := ks_k cf ++ [(11, 0), (12, 0), (13, 0), (14, 0), (15, 0), (16, 0), (17, 0), (18, 0), (19, 0), (20, 0), (21, 0), (22, 0), (23, 0), (24, 0), (25, 0), (26, 0), (27, 0), (28, 0)]
theorem km_0 {cf : Nat → Nat} : ((0, 0) : Nat × Nat) ∈ ks_a cf := List.mem_append_left _ (List.mem_append_left _ (by decide))
theorem km_3 {cf : Nat → Nat} : ((3, 0) : Nat × Nat) ∈ ks_a cf := List.mem_append_left _ (List.mem_append_left _ (by decide))
theorem km_4 {cf : Nat → Nat} : ((4, 0) : Nat × Nat) ∈ ks_a cf := List.mem_append_left _ (List.mem_append_left _ (by decide))
theorem km_5 {cf : Nat → Nat} : ((5, 0) : Nat × Nat) ∈ ks_a cf := List.mem_append_left _ (List.mem_append_left _ (by decide))
theorem km_1 {cf : Nat → Nat} : ((1, 0) : Nat × Nat) ∈ ks_a cf := List.mem_append_left _ (List.mem_append_left _ (by decide))
theorem km_2 {cf : Nat → Nat} : ((2, 0) : Nat × Nat) ∈ ks_a cf := List.mem_append_left _ (List.mem_append_right _ (List.mem_append_right _ List.mem_cons_self))
theorem km_11 {cf : Nat → Nat} : ((11, 0) : Nat × Nat) ∈ ks_a cf := List.mem_append_right _ (by decide)
theorem km_12 {cf : Nat → Nat} : ((12, 0) : Nat × Nat) ∈ ks_a cf := List.mem_append_right _ (by decide)
theorem km_13 {cf : Nat → Nat} : ((13, 0) : Nat × Nat) ∈ ks_a cf := List.mem_append_right _ (by decide)
theorem km_14 {cf : Nat → Nat} : ((14, 0) : Nat × Nat) ∈ ks_a cf := List.mem_append_right _ (by decide)
theorem km_15 {cf : Nat → Nat} : ((15, 0) : Nat × Nat) ∈ ks_a cf := List.mem_append_right _ (by decide)
theorem km_16 {cf : Nat → Nat} : ((16, 0) : Nat × Nat) ∈ ks_a cf := List.mem_append_right _ (by decide)
theorem km_17 {cf : Nat → Nat} : ((17, 0) : Nat × Nat) ∈ ks_a cf := List.mem_append_right _ (by decide)
theorem km_18 {cf : Nat → Nat} : ((18, 0) : Nat × Nat) ∈ ks_a cf := List.mem_append_right _ (by decide)
theorem km_19 {cf : Nat → Nat} : ((19, 0) : Nat × Nat) ∈ ks_a cf := List.mem_append_right _ (by decide)
theorem km_20 {cf : Nat → Nat} : ((20, 0) : Nat × Nat) ∈ ks_a cf := List.mem_append_right _ (by decide)
theorem km_21 {cf : Nat → Nat} : ((21, 0) : Nat × Nat) ∈ ks_a cf := List.mem_append_right _ (by decide)
theorem km_22 {cf : Nat → Nat} : ((22, 0) : Nat × Nat) ∈ ks_a cf := List.mem_append_right _ (by decide)
theorem km_23 {cf : Nat → Nat} : ((23, 0) : Nat × Nat) ∈ ks_a cf := List.mem_append_right _ (by decide)
theorem km_24 {cf : Nat → Nat} : ((24, 0) : Nat × Nat) ∈ ks_a cf := List.mem_append_right _ (by decide)
theorem km_25 {cf : Nat → Nat} : ((25, 0) : Nat × Nat) ∈ ks_a cf := List.mem_append_right _ (by decide)
theorem km_26 {cf : Nat → Nat} : ((26, 0) : Nat × Nat) ∈ ks_a cf := List.mem_append_right _ (by decide)
theorem km_27 {cf : Nat → Nat} : ((27, 0) : Nat × Nat) ∈ ks_a cf := List.mem_append_right _ (by decide)
theorem km_28 {cf : Nat → Nat} : ((28, 0) : Nat × Nat) ∈ ks_a cf := List.mem_append_right _ (by decide)
theorem km_6 {cf : Nat → Nat} {n : Nat} (h : n < cf 0) : ((6, n) : Nat × Nat) ∈ ks_a cf := List.mem_append_left _ (List.mem_append_right _ (List.mem_append_left _ (by
  simp only [kt_, List.mem_flatMap, List.mem_range]
  refine ⟨n, by omega, ?_⟩
  first | (simp; done) | (simp; omega))))
theorem km_7 {cf : Nat → Nat} {n : Nat} (h : n < 2 * cf 0) : ((7, n) : Nat × Nat) ∈ ks_a cf := List.mem_append_left _ (List.mem_append_right _ (List.mem_append_left _ (by
  simp only [kt_, List.mem_flatMap, List.mem_range]
  refine ⟨n / 2, by omega, ?_⟩
  first | (simp; done) | (simp; omega))))
theorem km_8 {cf : Nat → Nat} {n : Nat} (h : n < 2 * cf 0) : ((8, n) : Nat × Nat) ∈ ks_a cf := List.mem_append_left _ (List.mem_append_right _ (List.mem_append_left _ (by
  simp only [kt_, List.mem_flatMap, List.mem_range]
  refine ⟨n / 2, by omega, ?_⟩
  first | (simp; done) | (simp; omega))))
theorem km_9 {cf : Nat → Nat} {n : Nat} (h : n < cf 2) : ((9, n) : Nat × Nat) ∈ ks_a cf := List.mem_append_left _ (List.mem_append_right _ (List.mem_append_right _ (List.mem_cons_of_mem _ (by
  simp only [kq_, List.mem_flatMap, List.mem_range]
  refine ⟨n, by omega, ?_⟩
  first | (simp; done) | (simp; omega)))))
theorem km_10 {cf : Nat → Nat} {n : Nat} (h : n < cf 2) : ((10, n) : Nat × Nat) ∈ ks_a cf := List.mem_append_left _ (List.mem_append_right _ (List.mem_append_right _ (List.mem_cons_of_mem _ (by
  simp only [kq_, List.mem_flatMap, List.mem_range]
  refine ⟨n, by omega, ?_⟩
  first | (simp; done) | (simp; omega)))))
theorem vl_n {cf : Nat → Nat} {n : Nat} (h : n < cf 0) : 2 * n < 2 * cf 0 := by omega
theorem vl_f {cf : Nat → Nat} {n : Nat} (h : n < cf 0) : 2 * n + 1 < 2 * cf 0 := by omega
def fx_0 (cf : Nat → Nat) (ad : Nat × Nat → Nat) (ka : ka_T) (n : Nat) : List Value := [.ref (ad (1, 0)), .ref (ad (2, 0)), .ref (ad (3, 0)), .ref (ad (4, 0)), .ref (ad (5, 0)), .int (ka 305 n 0), .int (ka 306 n 0), .int (ka 307 n 0), .int (ka 308 n 0)]
def fx_6 (cf : Nat → Nat) (ad : Nat × Nat → Nat) (ka : ka_T) (n : Nat) : List Value := [.int (nI n), .ref (ad (7, 2 * n)), .ref (ad (7, 2 * n + 1)), .int (ka 203 n 0), .int (ka 204 n 0), .int (ka 205 n 0), .int (ka 206 n 0), .int (ka 207 n 0), .int (ka 208 n 0), .int (ka 209 n 0), .int (ka 210 n 0)]
def fx_7 (cf : Nat → Nat) (ad : Nat × Nat → Nat) (ka : ka_T) (n : Nat) : List Value := [.ref (ad (8, n)), .int (ka 101 n 0)]
def fx_9 (cf : Nat → Nat) (ad : Nat × Nat → Nat) (ka : ka_T) (n : Nat) : List Value := [.ref (ad (10, n)), .int (ka 1 n 0), .int (ka 2 n 0)]
def fx_11 (cf : Nat → Nat) (ad : Nat × Nat → Nat) (mo : ka_T) (n : Nat) : List Value := [.int (nI (cf 0)), .int (nI (cf 1)), .int (nI (cf 2)), .int (nI (cf 3)), .ref (ad (12, 0)), .ref (ad (13, 0)), .int (mo 406 n 0), .int (mo 407 n 0), .int (mo 408 n 0), .ref (ad (14, 0)), .ref (ad (15, 0)), .ref (ad (16, 0)), .ref (ad (17, 0)), .ref (ad (18, 0)), .ref (ad (19, 0)), .ref (ad (20, 0)), .ref (ad (21, 0)), .ref (ad (22, 0)), .ref (ad (23, 0)), .ref (ad (24, 0)), .ref (ad (25, 0)), .ref (ad (26, 0)), .ref (ad (27, 0)), .int (mo 423 n 0), .ref (ad (28, 0)), .int (mo 425 n 0), .int (mo 426 n 0)]
def ce_l (cA : Nat → ClassId) (cf : Nat → Nat) (ad : Nat × Nat → Nat) (ka mo : ka_T) (q : Nat × Nat) : va_E := match q.1 with
  | 0 => .inr (3, fx_0 cf ad ka q.2)
  | 1 => .inl (cA 1, cf 0, .inr (.inr (.inr (.inr (fun i => if i < cf 0 then some (ad (6, i)) else none)))))
  | 2 => .inl (cA 2, cf 2, .inr (.inr (.inr (.inr (fun i => if i < cf 2 then some (ad (9, i)) else none)))))
  | 3 => .inl (cA 0, 64, .inl (ka 302 q.2))
  | 4 => .inl (cA 0, 16, .inl (ka 303 q.2))
  | 5 => .inl (cA 0, 32, .inl (ka 304 q.2))
  | 6 => .inr (2, fx_6 cf ad ka q.2)
  | 7 => .inr (1, fx_7 cf ad ka q.2)
  | 8 => .inl (cA 0, (pl_n cf q.2), .inl (ka 100 q.2))
  | 9 => .inr (0, fx_9 cf ad ka q.2)
  | 10 => .inl (cA 0, (cf 3), .inl (ka 0 q.2))
  | 11 => .inr (4, fx_11 cf ad mo q.2)
  | 12 => .inl (cA 0, 64, .inl (mo 404 q.2))
  | 13 => .inl (cA 0, 16, .inl (mo 405 q.2))
  | 14 => .inl (cA 0, 8, .inl (mo 409 q.2))
  | 15 => .inl (cA 0, 8, .inl (mo 410 q.2))
  | 16 => .inl (cA 0, 8, .inl (mo 411 q.2))
  | 17 => .inl (cA 0, 8, .inl (mo 412 q.2))
  | 18 => .inl (cA 0, 128, .inl (fun j => if q.2 = 0 then mo 413 (j / 16) (j % 16) else 0))
  | 19 => .inl (cA 0, 8, .inl (mo 414 q.2))
  | 20 => .inl (cA 0, 32, .inl (fun j => if q.2 = 0 then mo 415 (j / 4) (j % 4) else 0))
  | 21 => .inl (cA 0, 8, .inl (mo 416 q.2))
  | 22 => .inl (cA 0, 8, .inl (mo 417 q.2))
  | 23 => .inl (cA 0, 8, .inl (mo 418 q.2))
  | 24 => .inl (cA 0, 8, .inl (mo 419 q.2))
  | 25 => .inl (cA 0, 8, .inl (mo 420 q.2))
  | 26 => .inl (cA 0, 4, .inl (mo 421 q.2))
  | 27 => .inl (cA 0, 24, .inl (fun j => if q.2 = 0 then mo 422 (j / 6) (j % 6) else 0))
  | 28 => .inl (cA 0, 32, .inl (mo 424 q.2))
  | _ => .inl (cA 0, 0, .inl (fun _ => 0))
abbrev Wo_ (D : va_G) (cA : Nat → ClassId) (cf : Nat → Nat) (ad : Nat × Nat → Nat) (A : Nat → Prop) (ka mo : ka_T) (s : State) (H : Heap) (locs : List Loc) : Prop := Wg_ D (tys_3 cA) A (ks_a cf) ad (ce_l cA cf ad ka mo) s H locs
abbrev Wx_ (D : va_G) (cA : Nat → ClassId) (cf : Nat → Nat) (ad : Nat × Nat → Nat) (A : Nat → Prop) (ka mo : ka_T) (U : State) : Prop := Wu_ D (tys_3 cA) A (ks_a cf) ad (ce_l cA cf ad ka mo) U
theorem up_tw (x : ka_T) (f d j : Nat) (v : Int32) (hd : 0 < d) : upd (fun i => x f (i / d) (i % d)) j v = fun i => k3_up x f (j / d) (j % d) v f (i / d) (i % d) := by
  funext i
  by_cases h : i = j
  · subst h; simp [upd, k3_up]
  · have h2 : ¬ (i / d = j / d ∧ i % d = j % d) := fun hh => h (by rw [← Nat.div_add_mod i d, ← Nat.div_add_mod j d, hh.1, hh.2])
    simp only [upd, k3_up, if_neg h]
    rw [if_neg (fun hh => h2 ⟨hh.2.1, hh.2.2⟩)]
theorem cu_1 {cA : Nat → ClassId} {cf : Nat → Nat} {ad : Nat × Nat → Nat} {ka mo : ka_T} {n : Nat} {v : Int32} {j : Nat} : kk_up (ce_l cA cf ad ka mo) (9, n) (.inr (0, (fx_9 cf ad ka n).set 1 (.int v))) = ce_l cA cf ad (k3_up ka 1 n 0 v) mo := by
  funext q
  obtain ⟨k, n9⟩ := q
  by_cases hk : k = 9
  · subst hk
    by_cases hn : n9 = n
    · subst hn; simp [kk_up, ce_l, fx_9, k3_up, upd]
    · have h9 : ¬ ((9, n9) : Nat × Nat) = (9, n) := fun h => hn (Prod.mk.inj h).2
      simp [kk_up, h9, ce_l, fx_9, k3_up, hn]
  · have h9 : ¬ ((k, n9) : Nat × Nat) = (9, n) := fun h => hk (Prod.mk.inj h).1
    simp only [kk_up, if_neg h9]
    exact match k, hk with | 0, _ => rfl | 1, _ => rfl | 2, _ => rfl | 3, _ => rfl | 4, _ => rfl | 5, _ => rfl | 6, _ => rfl | 7, _ => rfl | 8, _ => rfl | 9, h => absurd rfl h | 10, _ => rfl | 11, _ => rfl | 12, _ => rfl | 13, _ => rfl | 14, _ => rfl | 15, _ => rfl | 16, _ => rfl | 17, _ => rfl | 18, _ => rfl | 19, _ => rfl | 20, _ => rfl | 21, _ => rfl | 22, _ => rfl | 23, _ => rfl | 24, _ => rfl | 25, _ => rfl | 26, _ => rfl | 27, _ => rfl | 28, _ => rfl | _ + 29, _ => rfl
theorem cu_2 {cA : Nat → ClassId} {cf : Nat → Nat} {ad : Nat × Nat → Nat} {ka mo : ka_T} {n : Nat} {v : Int32} {j : Nat} : kk_up (ce_l cA cf ad ka mo) (9, n) (.inr (0, (fx_9 cf ad ka n).set 2 (.int v))) = ce_l cA cf ad (k3_up ka 2 n 0 v) mo := by
  funext q
  obtain ⟨k, n9⟩ := q
  by_cases hk : k = 9
  · subst hk
    by_cases hn : n9 = n
    · subst hn; simp [kk_up, ce_l, fx_9, k3_up, upd]
    · have h9 : ¬ ((9, n9) : Nat × Nat) = (9, n) := fun h => hn (Prod.mk.inj h).2
      simp [kk_up, h9, ce_l, fx_9, k3_up, hn]
  · have h9 : ¬ ((k, n9) : Nat × Nat) = (9, n) := fun h => hk (Prod.mk.inj h).1
    simp only [kk_up, if_neg h9]
    exact match k, hk with | 0, _ => rfl | 1, _ => rfl | 2, _ => rfl | 3, _ => rfl | 4, _ => rfl | 5, _ => rfl | 6, _ => rfl | 7, _ => rfl | 8, _ => rfl | 9, h => absurd rfl h | 10, _ => rfl | 11, _ => rfl | 12, _ => rfl | 13, _ => rfl | 14, _ => rfl | 15, _ => rfl | 16, _ => rfl | 17, _ => rfl | 18, _ => rfl | 19, _ => rfl | 20, _ => rfl | 21, _ => rfl | 22, _ => rfl | 23, _ => rfl | 24, _ => rfl | 25, _ => rfl | 26, _ => rfl | 27, _ => rfl | 28, _ => rfl | _ + 29, _ => rfl
theorem cu_101 {cA : Nat → ClassId} {cf : Nat → Nat} {ad : Nat × Nat → Nat} {ka mo : ka_T} {n : Nat} {v : Int32} {j : Nat} : kk_up (ce_l cA cf ad ka mo) (7, n) (.inr (1, (fx_7 cf ad ka n).set 1 (.int v))) = ce_l cA cf ad (k3_up ka 101 n 0 v) mo := by
  funext q
  obtain ⟨k, n9⟩ := q
  by_cases hk : k = 7
  · subst hk
    by_cases hn : n9 = n
    · subst hn; simp [kk_up, ce_l, fx_7, k3_up, upd]
    · have h9 : ¬ ((7, n9) : Nat × Nat) = (7, n) := fun h => hn (Prod.mk.inj h).2
      simp [kk_up, h9, ce_l, fx_7, k3_up, hn]
  · have h9 : ¬ ((k, n9) : Nat × Nat) = (7, n) := fun h => hk (Prod.mk.inj h).1
    simp only [kk_up, if_neg h9]
    exact match k, hk with | 0, _ => rfl | 1, _ => rfl | 2, _ => rfl | 3, _ => rfl | 4, _ => rfl | 5, _ => rfl | 6, _ => rfl | 7, h => absurd rfl h | 8, _ => rfl | 9, _ => rfl | 10, _ => rfl | 11, _ => rfl | 12, _ => rfl | 13, _ => rfl | 14, _ => rfl | 15, _ => rfl | 16, _ => rfl | 17, _ => rfl | 18, _ => rfl | 19, _ => rfl | 20, _ => rfl | 21, _ => rfl | 22, _ => rfl | 23, _ => rfl | 24, _ => rfl | 25, _ => rfl | 26, _ => rfl | 27, _ => rfl | 28, _ => rfl | _ + 29, _ => rfl
theorem cu_203 {cA : Nat → ClassId} {cf : Nat → Nat} {ad : Nat × Nat → Nat} {ka mo : ka_T} {n : Nat} {v : Int32} {j : Nat} : kk_up (ce_l cA cf ad ka mo) (6, n) (.inr (2, (fx_6 cf ad ka n).set 3 (.int v))) = ce_l cA cf ad (k3_up ka 203 n 0 v) mo := by
  funext q
  obtain ⟨k, n9⟩ := q
  by_cases hk : k = 6
  · subst hk
    by_cases hn : n9 = n
    · subst hn; simp [kk_up, ce_l, fx_6, k3_up, upd]
    · have h9 : ¬ ((6, n9) : Nat × Nat) = (6, n) := fun h => hn (Prod.mk.inj h).2
      simp [kk_up, h9, ce_l, fx_6, k3_up, hn]
  · have h9 : ¬ ((k, n9) : Nat × Nat) = (6, n) := fun h => hk (Prod.mk.inj h).1
    simp only [kk_up, if_neg h9]
    exact match k, hk with | 0, _ => rfl | 1, _ => rfl | 2, _ => rfl | 3, _ => rfl | 4, _ => rfl | 5, _ => rfl | 6, h => absurd rfl h | 7, _ => rfl | 8, _ => rfl | 9, _ => rfl | 10, _ => rfl | 11, _ => rfl | 12, _ => rfl | 13, _ => rfl | 14, _ => rfl | 15, _ => rfl | 16, _ => rfl | 17, _ => rfl | 18, _ => rfl | 19, _ => rfl | 20, _ => rfl | 21, _ => rfl | 22, _ => rfl | 23, _ => rfl | 24, _ => rfl | 25, _ => rfl | 26, _ => rfl | 27, _ => rfl | 28, _ => rfl | _ + 29, _ => rfl
theorem cu_204 {cA : Nat → ClassId} {cf : Nat → Nat} {ad : Nat × Nat → Nat} {ka mo : ka_T} {n : Nat} {v : Int32} {j : Nat} : kk_up (ce_l cA cf ad ka mo) (6, n) (.inr (2, (fx_6 cf ad ka n).set 4 (.int v))) = ce_l cA cf ad (k3_up ka 204 n 0 v) mo := by
  funext q
  obtain ⟨k, n9⟩ := q
  by_cases hk : k = 6
  · subst hk
    by_cases hn : n9 = n
    · subst hn; simp [kk_up, ce_l, fx_6, k3_up, upd]
    · have h9 : ¬ ((6, n9) : Nat × Nat) = (6, n) := fun h => hn (Prod.mk.inj h).2
      simp [kk_up, h9, ce_l, fx_6, k3_up, hn]
  · have h9 : ¬ ((k, n9) : Nat × Nat) = (6, n) := fun h => hk (Prod.mk.inj h).1
    simp only [kk_up, if_neg h9]
    exact match k, hk with | 0, _ => rfl | 1, _ => rfl | 2, _ => rfl | 3, _ => rfl | 4, _ => rfl | 5, _ => rfl | 6, h => absurd rfl h | 7, _ => rfl | 8, _ => rfl | 9, _ => rfl | 10, _ => rfl | 11, _ => rfl | 12, _ => rfl | 13, _ => rfl | 14, _ => rfl | 15, _ => rfl | 16, _ => rfl | 17, _ => rfl | 18, _ => rfl | 19, _ => rfl | 20, _ => rfl | 21, _ => rfl | 22, _ => rfl | 23, _ => rfl | 24, _ => rfl | 25, _ => rfl | 26, _ => rfl | 27, _ => rfl | 28, _ => rfl | _ + 29, _ => rfl
theorem cu_205 {cA : Nat → ClassId} {cf : Nat → Nat} {ad : Nat × Nat → Nat} {ka mo : ka_T} {n : Nat} {v : Int32} {j : Nat} : kk_up (ce_l cA cf ad ka mo) (6, n) (.inr (2, (fx_6 cf ad ka n).set 5 (.int v))) = ce_l cA cf ad (k3_up ka 205 n 0 v) mo := by
  funext q
  obtain ⟨k, n9⟩ := q
  by_cases hk : k = 6
  · subst hk
    by_cases hn : n9 = n
    · subst hn; simp [kk_up, ce_l, fx_6, k3_up, upd]
    · have h9 : ¬ ((6, n9) : Nat × Nat) = (6, n) := fun h => hn (Prod.mk.inj h).2
      simp [kk_up, h9, ce_l, fx_6, k3_up, hn]
  · have h9 : ¬ ((k, n9) : Nat × Nat) = (6, n) := fun h => hk (Prod.mk.inj h).1
    simp only [kk_up, if_neg h9]
    exact match k, hk with | 0, _ => rfl | 1, _ => rfl | 2, _ => rfl | 3, _ => rfl | 4, _ => rfl | 5, _ => rfl | 6, h => absurd rfl h | 7, _ => rfl | 8, _ => rfl | 9, _ => rfl | 10, _ => rfl | 11, _ => rfl | 12, _ => rfl | 13, _ => rfl | 14, _ => rfl | 15, _ => rfl | 16, _ => rfl | 17, _ => rfl | 18, _ => rfl | 19, _ => rfl | 20, _ => rfl | 21, _ => rfl | 22, _ => rfl | 23, _ => rfl | 24, _ => rfl | 25, _ => rfl | 26, _ => rfl | 27, _ => rfl | 28, _ => rfl | _ + 29, _ => rfl
theorem cu_206 {cA : Nat → ClassId} {cf : Nat → Nat} {ad : Nat × Nat → Nat} {ka mo : ka_T} {n : Nat} {v : Int32} {j : Nat} : kk_up (ce_l cA cf ad ka mo) (6, n) (.inr (2, (fx_6 cf ad ka n).set 6 (.int v))) = ce_l cA cf ad (k3_up ka 206 n 0 v) mo := by
  funext q
  obtain ⟨k, n9⟩ := q
  by_cases hk : k = 6
  · subst hk
    by_cases hn : n9 = n
    · subst hn; simp [kk_up, ce_l, fx_6, k3_up, upd]
    · have h9 : ¬ ((6, n9) : Nat × Nat) = (6, n) := fun h => hn (Prod.mk.inj h).2
      simp [kk_up, h9, ce_l, fx_6, k3_up, hn]
  · have h9 : ¬ ((k, n9) : Nat × Nat) = (6, n) := fun h => hk (Prod.mk.inj h).1
    simp only [kk_up, if_neg h9]
    exact match k, hk with | 0, _ => rfl | 1, _ => rfl | 2, _ => rfl | 3, _ => rfl | 4, _ => rfl | 5, _ => rfl | 6, h => absurd rfl h | 7, _ => rfl | 8, _ => rfl | 9, _ => rfl | 10, _ => rfl | 11, _ => rfl | 12, _ => rfl | 13, _ => rfl | 14, _ => rfl | 15, _ => rfl | 16, _ => rfl | 17, _ => rfl | 18, _ => rfl | 19, _ => rfl | 20, _ => rfl | 21, _ => rfl | 22, _ => rfl | 23, _ => rfl | 24, _ => rfl | 25, _ => rfl | 26, _ => rfl | 27, _ => rfl | 28, _ => rfl | _ + 29, _ => rfl
theorem cu_207 {cA : Nat → ClassId} {cf : Nat → Nat} {ad : Nat × Nat → Nat} {ka mo : ka_T} {n : Nat} {v : Int32} {j : Nat} : kk_up (ce_l cA cf ad ka mo) (6, n) (.inr (2, (fx_6 cf ad ka n).set 7 (.int v))) = ce_l cA cf ad (k3_up ka 207 n 0 v) mo := by
  funext q
  obtain ⟨k, n9⟩ := q
  by_cases hk : k = 6
  · subst hk
    by_cases hn : n9 = n
    · subst hn; simp [kk_up, ce_l, fx_6, k3_up, upd]
    · have h9 : ¬ ((6, n9) : Nat × Nat) = (6, n) := fun h => hn (Prod.mk.inj h).2
      simp [kk_up, h9, ce_l, fx_6, k3_up, hn]
  · have h9 : ¬ ((k, n9) : Nat × Nat) = (6, n) := fun h => hk (Prod.mk.inj h).1
    simp only [kk_up, if_neg h9]
    exact match k, hk with | 0, _ => rfl | 1, _ => rfl | 2, _ => rfl | 3, _ => rfl | 4, _ => rfl | 5, _ => rfl | 6, h => absurd rfl h | 7, _ => rfl | 8, _ => rfl | 9, _ => rfl | 10, _ => rfl | 11, _ => rfl | 12, _ => rfl | 13, _ => rfl | 14, _ => rfl | 15, _ => rfl | 16, _ => rfl | 17, _ => rfl | 18, _ => rfl | 19, _ => rfl | 20, _ => rfl | 21, _ => rfl | 22, _ => rfl | 23, _ => rfl | 24, _ => rfl | 25, _ => rfl | 26, _ => rfl | 27, _ => rfl | 28, _ => rfl | _ + 29, _ => rfl
theorem cu_208 {cA : Nat → ClassId} {cf : Nat → Nat} {ad : Nat × Nat → Nat} {ka mo : ka_T} {n : Nat} {v : Int32} {j : Nat} : kk_up (ce_l cA cf ad ka mo) (6, n) (.inr (2, (fx_6 cf ad ka n).set 8 (.int v))) = ce_l cA cf ad (k3_up ka 208 n 0 v) mo := by
  funext q
  obtain ⟨k, n9⟩ := q
  by_cases hk : k = 6
  · subst hk
    by_cases hn : n9 = n
    · subst hn; simp [kk_up, ce_l, fx_6, k3_up, upd]
    · have h9 : ¬ ((6, n9) : Nat × Nat) = (6, n) := fun h => hn (Prod.mk.inj h).2
      simp [kk_up, h9, ce_l, fx_6, k3_up, hn]
  · have h9 : ¬ ((k, n9) : Nat × Nat) = (6, n) := fun h => hk (Prod.mk.inj h).1
    simp only [kk_up, if_neg h9]
    exact match k, hk with | 0, _ => rfl | 1, _ => rfl | 2, _ => rfl | 3, _ => rfl | 4, _ => rfl | 5, _ => rfl | 6, h => absurd rfl h | 7, _ => rfl | 8, _ => rfl | 9, _ => rfl | 10, _ => rfl | 11, _ => rfl | 12, _ => rfl | 13, _ => rfl | 14, _ => rfl | 15, _ => rfl | 16, _ => rfl | 17, _ => rfl | 18, _ => rfl | 19, _ => rfl | 20, _ => rfl | 21, _ => rfl | 22, _ => rfl | 23, _ => rfl | 24, _ => rfl | 25, _ => rfl | 26, _ => rfl | 27, _ => rfl | 28, _ => rfl | _ + 29, _ => rfl
theorem cu_209 {cA : Nat → ClassId} {cf : Nat → Nat} {ad : Nat × Nat → Nat} {ka mo : ka_T} {n : Nat} {v : Int32} {j : Nat} : kk_up (ce_l cA cf ad ka mo) (6, n) (.inr (2, (fx_6 cf ad ka n).set 9 (.int v))) = ce_l cA cf ad (k3_up ka 209 n 0 v) mo := by
  funext q
  obtain ⟨k, n9⟩ := q
  by_cases hk : k = 6
  · subst hk
    by_cases hn : n9 = n
    · subst hn; simp [kk_up, ce_l, fx_6, k3_up, upd]
    · have h9 : ¬ ((6, n9) : Nat × Nat) = (6, n) := fun h => hn (Prod.mk.inj h).2
      simp [kk_up, h9, ce_l, fx_6, k3_up, hn]
  · have h9 : ¬ ((k, n9) : Nat × Nat) = (6, n) := fun h => hk (Prod.mk.inj h).1
    simp only [kk_up, if_neg h9]
    exact match k, hk with | 0, _ => rfl | 1, _ => rfl | 2, _ => rfl | 3, _ => rfl | 4, _ => rfl | 5, _ => rfl | 6, h => absurd rfl h | 7, _ => rfl | 8, _ => rfl | 9, _ => rfl | 10, _ => rfl | 11, _ => rfl | 12, _ => rfl | 13, _ => rfl | 14, _ => rfl | 15, _ => rfl | 16, _ => rfl | 17, _ => rfl | 18, _ => rfl | 19, _ => rfl | 20, _ => rfl | 21, _ => rfl | 22, _ => rfl | 23, _ => rfl | 24, _ => rfl | 25, _ => rfl | 26, _ => rfl | 27, _ => rfl | 28, _ => rfl | _ + 29, _ => rfl
theorem cu_210 {cA : Nat → ClassId} {cf : Nat → Nat} {ad : Nat × Nat → Nat} {ka mo : ka_T} {n : Nat} {v : Int32} {j : Nat} : kk_up (ce_l cA cf ad ka mo) (6, n) (.inr (2, (fx_6 cf ad ka n).set 10 (.int v))) = ce_l cA cf ad (k3_up ka 210 n 0 v) mo := by
  funext q
  obtain ⟨k, n9⟩ := q
  by_cases hk : k = 6
  · subst hk
    by_cases hn : n9 = n
    · subst hn; simp [kk_up, ce_l, fx_6, k3_up, upd]
    · have h9 : ¬ ((6, n9) : Nat × Nat) = (6, n) := fun h => hn (Prod.mk.inj h).2
      simp [kk_up, h9, ce_l, fx_6, k3_up, hn]
  · have h9 : ¬ ((k, n9) : Nat × Nat) = (6, n) := fun h => hk (Prod.mk.inj h).1
    simp only [kk_up, if_neg h9]
    exact match k, hk with | 0, _ => rfl | 1, _ => rfl | 2, _ => rfl | 3, _ => rfl | 4, _ => rfl | 5, _ => rfl | 6, h => absurd rfl h | 7, _ => rfl | 8, _ => rfl | 9, _ => rfl | 10, _ => rfl | 11, _ => rfl | 12, _ => rfl | 13, _ => rfl | 14, _ => rfl | 15, _ => rfl | 16, _ => rfl | 17, _ => rfl | 18, _ => rfl | 19, _ => rfl | 20, _ => rfl | 21, _ => rfl | 22, _ => rfl | 23, _ => rfl | 24, _ => rfl | 25, _ => rfl | 26, _ => rfl | 27, _ => rfl | 28, _ => rfl | _ + 29, _ => rfl
theorem cu_305 {cA : Nat → ClassId} {cf : Nat → Nat} {ad : Nat × Nat → Nat} {ka mo : ka_T} {n : Nat} {v : Int32} {j : Nat} : kk_up (ce_l cA cf ad ka mo) (0, n) (.inr (3, (fx_0 cf ad ka n).set 5 (.int v))) = ce_l cA cf ad (k3_up ka 305 n 0 v) mo := by
  funext q
  obtain ⟨k, n9⟩ := q
  by_cases hk : k = 0
  · subst hk
    by_cases hn : n9 = n
    · subst hn; simp [kk_up, ce_l, fx_0, k3_up, upd]
    · have h9 : ¬ ((0, n9) : Nat × Nat) = (0, n) := fun h => hn (Prod.mk.inj h).2
      simp [kk_up, h9, ce_l, fx_0, k3_up, hn]
  · have h9 : ¬ ((k, n9) : Nat × Nat) = (0, n) := fun h => hk (Prod.mk.inj h).1
    simp only [kk_up, if_neg h9]
    exact match k, hk with | 0, h => absurd rfl h | 1, _ => rfl | 2, _ => rfl | 3, _ => rfl | 4, _ => rfl | 5, _ => rfl | 6, _ => rfl | 7, _ => rfl | 8, _ => rfl | 9, _ => rfl | 10, _ => rfl | 11, _ => rfl | 12, _ => rfl | 13, _ => rfl | 14, _ => rfl | 15, _ => rfl | 16, _ => rfl | 17, _ => rfl | 18, _ => rfl | 19, _ => rfl | 20, _ => rfl | 21, _ => rfl | 22, _ => rfl | 23, _ => rfl | 24, _ => rfl | 25, _ => rfl | 26, _ => rfl | 27, _ => rfl | 28, _ => rfl | _ + 29, _ => rfl
theorem cu_306 {cA : Nat → ClassId} {cf : Nat → Nat} {ad : Nat × Nat → Nat} {ka mo : ka_T} {n : Nat} {v : Int32} {j : Nat} : kk_up (ce_l cA cf ad ka mo) (0, n) (.inr (3, (fx_0 cf ad ka n).set 6 (.int v))) = ce_l cA cf ad (k3_up ka 306 n 0 v) mo := by
  funext q
  obtain ⟨k, n9⟩ := q
  by_cases hk : k = 0
  · subst hk
    by_cases hn : n9 = n
    · subst hn; simp [kk_up, ce_l, fx_0, k3_up, upd]
    · have h9 : ¬ ((0, n9) : Nat × Nat) = (0, n) := fun h => hn (Prod.mk.inj h).2
      simp [kk_up, h9, ce_l, fx_0, k3_up, hn]
  · have h9 : ¬ ((k, n9) : Nat × Nat) = (0, n) := fun h => hk (Prod.mk.inj h).1
    simp only [kk_up, if_neg h9]
    exact match k, hk with | 0, h => absurd rfl h | 1, _ => rfl | 2, _ => rfl | 3, _ => rfl | 4, _ => rfl | 5, _ => rfl | 6, _ => rfl | 7, _ => rfl | 8, _ => rfl | 9, _ => rfl | 10, _ => rfl | 11, _ => rfl | 12, _ => rfl | 13, _ => rfl | 14, _ => rfl | 15, _ => rfl | 16, _ => rfl | 17, _ => rfl | 18, _ => rfl | 19, _ => rfl | 20, _ => rfl | 21, _ => rfl | 22, _ => rfl | 23, _ => rfl | 24, _ => rfl | 25, _ => rfl | 26, _ => rfl | 27, _ => rfl | 28, _ => rfl | _ + 29, _ => rfl
theorem cu_307 {cA : Nat → ClassId} {cf : Nat → Nat} {ad : Nat × Nat → Nat} {ka mo : ka_T} {n : Nat} {v : Int32} {j : Nat} : kk_up (ce_l cA cf ad ka mo) (0, n) (.inr (3, (fx_0 cf ad ka n).set 7 (.int v))) = ce_l cA cf ad (k3_up ka 307 n 0 v) mo := by
  funext q
  obtain ⟨k, n9⟩ := q
  by_cases hk : k = 0
  · subst hk
    by_cases hn : n9 = n
    · subst hn; simp [kk_up, ce_l, fx_0, k3_up, upd]
    · have h9 : ¬ ((0, n9) : Nat × Nat) = (0, n) := fun h => hn (Prod.mk.inj h).2
      simp [kk_up, h9, ce_l, fx_0, k3_up, hn]
  · have h9 : ¬ ((k, n9) : Nat × Nat) = (0, n) := fun h => hk (Prod.mk.inj h).1
    simp only [kk_up, if_neg h9]
    exact match k, hk with | 0, h => absurd rfl h | 1, _ => rfl | 2, _ => rfl | 3, _ => rfl | 4, _ => rfl | 5, _ => rfl | 6, _ => rfl | 7, _ => rfl | 8, _ => rfl | 9, _ => rfl | 10, _ => rfl | 11, _ => rfl | 12, _ => rfl | 13, _ => rfl | 14, _ => rfl | 15, _ => rfl | 16, _ => rfl | 17, _ => rfl | 18, _ => rfl | 19, _ => rfl | 20, _ => rfl | 21, _ => rfl | 22, _ => rfl | 23, _ => rfl | 24, _ => rfl | 25, _ => rfl | 26, _ => rfl | 27, _ => rfl | 28, _ => rfl | _ + 29, _ => rfl
theorem cu_308 {cA : Nat → ClassId} {cf : Nat → Nat} {ad : Nat × Nat → Nat} {ka mo : ka_T} {n : Nat} {v : Int32} {j : Nat} : kk_up (ce_l cA cf ad ka mo) (0, n) (.inr (3, (fx_0 cf ad ka n).set 8 (.int v))) = ce_l cA cf ad (k3_up ka 308 n 0 v) mo := by
  funext q
  obtain ⟨k, n9⟩ := q
  by_cases hk : k = 0
  · subst hk
    by_cases hn : n9 = n
    · subst hn; simp [kk_up, ce_l, fx_0, k3_up, upd]
    · have h9 : ¬ ((0, n9) : Nat × Nat) = (0, n) := fun h => hn (Prod.mk.inj h).2
      simp [kk_up, h9, ce_l, fx_0, k3_up, hn]
  · have h9 : ¬ ((k, n9) : Nat × Nat) = (0, n) := fun h => hk (Prod.mk.inj h).1
    simp only [kk_up, if_neg h9]
    exact match k, hk with | 0, h => absurd rfl h | 1, _ => rfl | 2, _ => rfl | 3, _ => rfl | 4, _ => rfl | 5, _ => rfl | 6, _ => rfl | 7, _ => rfl | 8, _ => rfl | 9, _ => rfl | 10, _ => rfl | 11, _ => rfl | 12, _ => rfl | 13, _ => rfl | 14, _ => rfl | 15, _ => rfl | 16, _ => rfl | 17, _ => rfl | 18, _ => rfl | 19, _ => rfl | 20, _ => rfl | 21, _ => rfl | 22, _ => rfl | 23, _ => rfl | 24, _ => rfl | 25, _ => rfl | 26, _ => rfl | 27, _ => rfl | 28, _ => rfl | _ + 29, _ => rfl
theorem cu_406 {cA : Nat → ClassId} {cf : Nat → Nat} {ad : Nat × Nat → Nat} {ka mo : ka_T} {n : Nat} {v : Int32} {j : Nat} : kk_up (ce_l cA cf ad ka mo) (11, n) (.inr (4, (fx_11 cf ad mo n).set 6 (.int v))) = ce_l cA cf ad ka (k3_up mo 406 n 0 v) := by
  funext q
  obtain ⟨k, n9⟩ := q
  by_cases hk : k = 11
  · subst hk
    by_cases hn : n9 = n
    · subst hn; simp [kk_up, ce_l, fx_11, k3_up, upd]
    · have h9 : ¬ ((11, n9) : Nat × Nat) = (11, n) := fun h => hn (Prod.mk.inj h).2
      simp [kk_up, h9, ce_l, fx_11, k3_up, hn]
  · have h9 : ¬ ((k, n9) : Nat × Nat) = (11, n) := fun h => hk (Prod.mk.inj h).1
    simp only [kk_up, if_neg h9]
    exact match k, hk with | 0, _ => rfl | 1, _ => rfl | 2, _ => rfl | 3, _ => rfl | 4, _ => rfl | 5, _ => rfl | 6, _ => rfl | 7, _ => rfl | 8, _ => rfl | 9, _ => rfl | 10, _ => rfl | 11, h => absurd rfl h | 12, _ => rfl | 13, _ => rfl | 14, _ => rfl | 15, _ => rfl | 16, _ => rfl | 17, _ => rfl | 18, _ => rfl | 19, _ => rfl | 20, _ => rfl | 21, _ => rfl | 22, _ => rfl | 23, _ => rfl | 24, _ => rfl | 25, _ => rfl | 26, _ => rfl | 27, _ => rfl | 28, _ => rfl | _ + 29, _ => rfl
theorem cu_407 {cA : Nat → ClassId} {cf : Nat → Nat} {ad : Nat × Nat → Nat} {ka mo : ka_T} {n : Nat} {v : Int32} {j : Nat} : kk_up (ce_l cA cf ad ka mo) (11, n) (.inr (4, (fx_11 cf ad mo n).set 7 (.int v))) = ce_l cA cf ad ka (k3_up mo 407 n 0 v) := by
  funext q
  obtain ⟨k, n9⟩ := q
  by_cases hk : k = 11
  · subst hk
    by_cases hn : n9 = n
    · subst hn; simp [kk_up, ce_l, fx_11, k3_up, upd]
    · have h9 : ¬ ((11, n9) : Nat × Nat) = (11, n) := fun h => hn (Prod.mk.inj h).2
      simp [kk_up, h9, ce_l, fx_11, k3_up, hn]
  · have h9 : ¬ ((k, n9) : Nat × Nat) = (11, n) := fun h => hk (Prod.mk.inj h).1
    simp only [kk_up, if_neg h9]
    exact match k, hk with | 0, _ => rfl | 1, _ => rfl | 2, _ => rfl | 3, _ => rfl | 4, _ => rfl | 5, _ => rfl | 6, _ => rfl | 7, _ => rfl | 8, _ => rfl | 9, _ => rfl | 10, _ => rfl | 11, h => absurd rfl h | 12, _ => rfl | 13, _ => rfl | 14, _ => rfl | 15, _ => rfl | 16, _ => rfl | 17, _ => rfl | 18, _ => rfl | 19, _ => rfl | 20, _ => rfl | 21, _ => rfl | 22, _ => rfl | 23, _ => rfl | 24, _ => rfl | 25, _ => rfl | 26, _ => rfl | 27, _ => rfl | 28, _ => rfl | _ + 29, _ => rfl
theorem cu_408 {cA : Nat → ClassId} {cf : Nat → Nat} {ad : Nat × Nat → Nat} {ka mo : ka_T} {n : Nat} {v : Int32} {j : Nat} : kk_up (ce_l cA cf ad ka mo) (11, n) (.inr (4, (fx_11 cf ad mo n).set 8 (.int v))) = ce_l cA cf ad ka (k3_up mo 408 n 0 v) := by
  funext q
  obtain ⟨k, n9⟩ := q
  by_cases hk : k = 11
  · subst hk
    by_cases hn : n9 = n
    · subst hn; simp [kk_up, ce_l, fx_11, k3_up, upd]
    · have h9 : ¬ ((11, n9) : Nat × Nat) = (11, n) := fun h => hn (Prod.mk.inj h).2
      simp [kk_up, h9, ce_l, fx_11, k3_up, hn]
  · have h9 : ¬ ((k, n9) : Nat × Nat) = (11, n) := fun h => hk (Prod.mk.inj h).1
    simp only [kk_up, if_neg h9]
    exact match k, hk with | 0, _ => rfl | 1, _ => rfl | 2, _ => rfl | 3, _ => rfl | 4, _ => rfl | 5, _ => rfl | 6, _ => rfl | 7, _ => rfl | 8, _ => rfl | 9, _ => rfl | 10, _ => rfl | 11, h => absurd rfl h | 12, _ => rfl | 13, _ => rfl | 14, _ => rfl | 15, _ => rfl | 16, _ => rfl | 17, _ => rfl | 18, _ => rfl | 19, _ => rfl | 20, _ => rfl | 21, _ => rfl | 22, _ => rfl | 23, _ => rfl | 24, _ => rfl | 25, _ => rfl | 26, _ => rfl | 27, _ => rfl | 28, _ => rfl | _ + 29, _ => rfl
theorem cu_423 {cA : Nat → ClassId} {cf : Nat → Nat} {ad : Nat × Nat → Nat} {ka mo : ka_T} {n : Nat} {v : Int32} {j : Nat} : kk_up (ce_l cA cf ad ka mo) (11, n) (.inr (4, (fx_11 cf ad mo n).set 23 (.int v))) = ce_l cA cf ad ka (k3_up mo 423 n 0 v) := by
  funext q
  obtain ⟨k, n9⟩ := q
  by_cases hk : k = 11
  · subst hk
    by_cases hn : n9 = n
    · subst hn; simp [kk_up, ce_l, fx_11, k3_up, upd]
    · have h9 : ¬ ((11, n9) : Nat × Nat) = (11, n) := fun h => hn (Prod.mk.inj h).2
      simp [kk_up, h9, ce_l, fx_11, k3_up, hn]
  · have h9 : ¬ ((k, n9) : Nat × Nat) = (11, n) := fun h => hk (Prod.mk.inj h).1
    simp only [kk_up, if_neg h9]
    exact match k, hk with | 0, _ => rfl | 1, _ => rfl | 2, _ => rfl | 3, _ => rfl | 4, _ => rfl | 5, _ => rfl | 6, _ => rfl | 7, _ => rfl | 8, _ => rfl | 9, _ => rfl | 10, _ => rfl | 11, h => absurd rfl h | 12, _ => rfl | 13, _ => rfl | 14, _ => rfl | 15, _ => rfl | 16, _ => rfl | 17, _ => rfl | 18, _ => rfl | 19, _ => rfl | 20, _ => rfl | 21, _ => rfl | 22, _ => rfl | 23, _ => rfl | 24, _ => rfl | 25, _ => rfl | 26, _ => rfl | 27, _ => rfl | 28, _ => rfl | _ + 29, _ => rfl
theorem cu_425 {cA : Nat → ClassId} {cf : Nat → Nat} {ad : Nat × Nat → Nat} {ka mo : ka_T} {n : Nat} {v : Int32} {j : Nat} : kk_up (ce_l cA cf ad ka mo) (11, n) (.inr (4, (fx_11 cf ad mo n).set 25 (.int v))) = ce_l cA cf ad ka (k3_up mo 425 n 0 v) := by
  funext q
  obtain ⟨k, n9⟩ := q
  by_cases hk : k = 11
  · subst hk
    by_cases hn : n9 = n
    · subst hn; simp [kk_up, ce_l, fx_11, k3_up, upd]
    · have h9 : ¬ ((11, n9) : Nat × Nat) = (11, n) := fun h => hn (Prod.mk.inj h).2
      simp [kk_up, h9, ce_l, fx_11, k3_up, hn]
  · have h9 : ¬ ((k, n9) : Nat × Nat) = (11, n) := fun h => hk (Prod.mk.inj h).1
    simp only [kk_up, if_neg h9]
    exact match k, hk with | 0, _ => rfl | 1, _ => rfl | 2, _ => rfl | 3, _ => rfl | 4, _ => rfl | 5, _ => rfl | 6, _ => rfl | 7, _ => rfl | 8, _ => rfl | 9, _ => rfl | 10, _ => rfl | 11, h => absurd rfl h | 12, _ => rfl | 13, _ => rfl | 14, _ => rfl | 15, _ => rfl | 16, _ => rfl | 17, _ => rfl | 18, _ => rfl | 19, _ => rfl | 20, _ => rfl | 21, _ => rfl | 22, _ => rfl | 23, _ => rfl | 24, _ => rfl | 25, _ => rfl | 26, _ => rfl | 27, _ => rfl | 28, _ => rfl | _ + 29, _ => rfl
theorem cu_426 {cA : Nat → ClassId} {cf : Nat → Nat} {ad : Nat × Nat → Nat} {ka mo : ka_T} {n : Nat} {v : Int32} {j : Nat} : kk_up (ce_l cA cf ad ka mo) (11, n) (.inr (4, (fx_11 cf ad mo n).set 26 (.int v))) = ce_l cA cf ad ka (k3_up mo 426 n 0 v) := by
  funext q
  obtain ⟨k, n9⟩ := q
  by_cases hk : k = 11
  · subst hk
    by_cases hn : n9 = n
    · subst hn; simp [kk_up, ce_l, fx_11, k3_up, upd]
    · have h9 : ¬ ((11, n9) : Nat × Nat) = (11, n) := fun h => hn (Prod.mk.inj h).2
      simp [kk_up, h9, ce_l, fx_11, k3_up, hn]
  · have h9 : ¬ ((k, n9) : Nat × Nat) = (11, n) := fun h => hk (Prod.mk.inj h).1
    simp only [kk_up, if_neg h9]
    exact match k, hk with | 0, _ => rfl | 1, _ => rfl | 2, _ => rfl | 3, _ => rfl | 4, _ => rfl | 5, _ => rfl | 6, _ => rfl | 7, _ => rfl | 8, _ => rfl | 9, _ => rfl | 10, _ => rfl | 11, h => absurd rfl h | 12, _ => rfl | 13, _ => rfl | 14, _ => rfl | 15, _ => rfl | 16, _ => rfl | 17, _ => rfl | 18, _ => rfl | 19, _ => rfl | 20, _ => rfl | 21, _ => rfl | 22, _ => rfl | 23, _ => rfl | 24, _ => rfl | 25, _ => rfl | 26, _ => rfl | 27, _ => rfl | 28, _ => rfl | _ + 29, _ => rfl
theorem cu_302 {cA : Nat → ClassId} {cf : Nat → Nat} {ad : Nat × Nat → Nat} {ka mo : ka_T} {n : Nat} {v : Int32} {j : Nat} : kk_up (ce_l cA cf ad ka mo) (3, n) (.inl (cA 0, 64, .inl (upd (ka 302 n) j v))) = ce_l cA cf ad (k3_up ka 302 n j v) mo := by
  funext q
  obtain ⟨k, n9⟩ := q
  by_cases hk : k = 3
  · subst hk
    by_cases hn : n9 = n
    · subst hn; simp only [kk_up, ce_l, if_true]; congr 3; refine congrArg Sum.inl ?_; funext i; simp [k3_up, upd]
    · have h9 : ¬ ((3, n9) : Nat × Nat) = (3, n) := fun h => hn (Prod.mk.inj h).2
      simp only [kk_up, if_neg h9, ce_l]; congr 3; refine congrArg Sum.inl ?_; funext i; simp [k3_up, hn]
  · have h9 : ¬ ((k, n9) : Nat × Nat) = (3, n) := fun h => hk (Prod.mk.inj h).1
    simp only [kk_up, if_neg h9]
    exact match k, hk with | 0, _ => rfl | 1, _ => rfl | 2, _ => rfl | 3, h => absurd rfl h | 4, _ => rfl | 5, _ => rfl | 6, _ => rfl | 7, _ => rfl | 8, _ => rfl | 9, _ => rfl | 10, _ => rfl | 11, _ => rfl | 12, _ => rfl | 13, _ => rfl | 14, _ => rfl | 15, _ => rfl | 16, _ => rfl | 17, _ => rfl | 18, _ => rfl | 19, _ => rfl | 20, _ => rfl | 21, _ => rfl | 22, _ => rfl | 23, _ => rfl | 24, _ => rfl | 25, _ => rfl | 26, _ => rfl | 27, _ => rfl | 28, _ => rfl | _ + 29, _ => rfl
theorem cu_303 {cA : Nat → ClassId} {cf : Nat → Nat} {ad : Nat × Nat → Nat} {ka mo : ka_T} {n : Nat} {v : Int32} {j : Nat} : kk_up (ce_l cA cf ad ka mo) (4, n) (.inl (cA 0, 16, .inl (upd (ka 303 n) j v))) = ce_l cA cf ad (k3_up ka 303 n j v) mo := by
  funext q
  obtain ⟨k, n9⟩ := q
  by_cases hk : k = 4
  · subst hk
    by_cases hn : n9 = n
    · subst hn; simp only [kk_up, ce_l, if_true]; congr 3; refine congrArg Sum.inl ?_; funext i; simp [k3_up, upd]
    · have h9 : ¬ ((4, n9) : Nat × Nat) = (4, n) := fun h => hn (Prod.mk.inj h).2
      simp only [kk_up, if_neg h9, ce_l]; congr 3; refine congrArg Sum.inl ?_; funext i; simp [k3_up, hn]
  · have h9 : ¬ ((k, n9) : Nat × Nat) = (4, n) := fun h => hk (Prod.mk.inj h).1
    simp only [kk_up, if_neg h9]
    exact match k, hk with | 0, _ => rfl | 1, _ => rfl | 2, _ => rfl | 3, _ => rfl | 4, h => absurd rfl h | 5, _ => rfl | 6, _ => rfl | 7, _ => rfl | 8, _ => rfl | 9, _ => rfl | 10, _ => rfl | 11, _ => rfl | 12, _ => rfl | 13, _ => rfl | 14, _ => rfl | 15, _ => rfl | 16, _ => rfl | 17, _ => rfl | 18, _ => rfl | 19, _ => rfl | 20, _ => rfl | 21, _ => rfl | 22, _ => rfl | 23, _ => rfl | 24, _ => rfl | 25, _ => rfl | 26, _ => rfl | 27, _ => rfl | 28, _ => rfl | _ + 29, _ => rfl
theorem cu_304 {cA : Nat → ClassId} {cf : Nat → Nat} {ad : Nat × Nat → Nat} {ka mo : ka_T} {n : Nat} {v : Int32} {j : Nat} : kk_up (ce_l cA cf ad ka mo) (5, n) (.inl (cA 0, 32, .inl (upd (ka 304 n) j v))) = ce_l cA cf ad (k3_up ka 304 n j v) mo := by
  funext q
  obtain ⟨k, n9⟩ := q
  by_cases hk : k = 5
  · subst hk
    by_cases hn : n9 = n
    · subst hn; simp only [kk_up, ce_l, if_true]; congr 3; refine congrArg Sum.inl ?_; funext i; simp [k3_up, upd]
    · have h9 : ¬ ((5, n9) : Nat × Nat) = (5, n) := fun h => hn (Prod.mk.inj h).2
      simp only [kk_up, if_neg h9, ce_l]; congr 3; refine congrArg Sum.inl ?_; funext i; simp [k3_up, hn]
  · have h9 : ¬ ((k, n9) : Nat × Nat) = (5, n) := fun h => hk (Prod.mk.inj h).1
    simp only [kk_up, if_neg h9]
    exact match k, hk with | 0, _ => rfl | 1, _ => rfl | 2, _ => rfl | 3, _ => rfl | 4, _ => rfl | 5, h => absurd rfl h | 6, _ => rfl | 7, _ => rfl | 8, _ => rfl | 9, _ => rfl | 10, _ => rfl | 11, _ => rfl | 12, _ => rfl | 13, _ => rfl | 14, _ => rfl | 15, _ => rfl | 16, _ => rfl | 17, _ => rfl | 18, _ => rfl | 19, _ => rfl | 20, _ => rfl | 21, _ => rfl | 22, _ => rfl | 23, _ => rfl | 24, _ => rfl | 25, _ => rfl | 26, _ => rfl | 27, _ => rfl | 28, _ => rfl | _ + 29, _ => rfl
theorem cu_100 {cA : Nat → ClassId} {cf : Nat → Nat} {ad : Nat × Nat → Nat} {ka mo : ka_T} {n : Nat} {v : Int32} {j : Nat} : kk_up (ce_l cA cf ad ka mo) (8, n) (.inl (cA 0, (pl_n cf n), .inl (upd (ka 100 n) j v))) = ce_l cA cf ad (k3_up ka 100 n j v) mo := by
  funext q
  obtain ⟨k, n9⟩ := q
  by_cases hk : k = 8
  · subst hk
    by_cases hn : n9 = n
    · subst hn; simp only [kk_up, ce_l, if_true]; congr 3; refine congrArg Sum.inl ?_; funext i; simp [k3_up, upd]
    · have h9 : ¬ ((8, n9) : Nat × Nat) = (8, n) := fun h => hn (Prod.mk.inj h).2
      simp only [kk_up, if_neg h9, ce_l]; congr 3; refine congrArg Sum.inl ?_; funext i; simp [k3_up, hn]
  · have h9 : ¬ ((k, n9) : Nat × Nat) = (8, n) := fun h => hk (Prod.mk.inj h).1
    simp only [kk_up, if_neg h9]
    exact match k, hk with | 0, _ => rfl | 1, _ => rfl | 2, _ => rfl | 3, _ => rfl | 4, _ => rfl | 5, _ => rfl | 6, _ => rfl | 7, _ => rfl | 8, h => absurd rfl h | 9, _ => rfl | 10, _ => rfl | 11, _ => rfl | 12, _ => rfl | 13, _ => rfl | 14, _ => rfl | 15, _ => rfl | 16, _ => rfl | 17, _ => rfl | 18, _ => rfl | 19, _ => rfl | 20, _ => rfl | 21, _ => rfl | 22, _ => rfl | 23, _ => rfl | 24, _ => rfl | 25, _ => rfl | 26, _ => rfl | 27, _ => rfl | 28, _ => rfl | _ + 29, _ => rfl
theorem cu_0 {cA : Nat → ClassId} {cf : Nat → Nat} {ad : Nat × Nat → Nat} {ka mo : ka_T} {n : Nat} {v : Int32} {j : Nat} : kk_up (ce_l cA cf ad ka mo) (10, n) (.inl (cA 0, (cf 3), .inl (upd (ka 0 n) j v))) = ce_l cA cf ad (k3_up ka 0 n j v) mo := by
  funext q
  obtain ⟨k, n9⟩ := q
  by_cases hk : k = 10
  · subst hk
    by_cases hn : n9 = n
    · subst hn; simp only [kk_up, ce_l, if_true]; congr 3; refine congrArg Sum.inl ?_; funext i; simp [k3_up, upd]
    · have h9 : ¬ ((10, n9) : Nat × Nat) = (10, n) := fun h => hn (Prod.mk.inj h).2
      simp only [kk_up, if_neg h9, ce_l]; congr 3; refine congrArg Sum.inl ?_; funext i; simp [k3_up, hn]
  · have h9 : ¬ ((k, n9) : Nat × Nat) = (10, n) := fun h => hk (Prod.mk.inj h).1
    simp only [kk_up, if_neg h9]
    exact match k, hk with | 0, _ => rfl | 1, _ => rfl | 2, _ => rfl | 3, _ => rfl | 4, _ => rfl | 5, _ => rfl | 6, _ => rfl | 7, _ => rfl | 8, _ => rfl | 9, _ => rfl | 10, h => absurd rfl h | 11, _ => rfl | 12, _ => rfl | 13, _ => rfl | 14, _ => rfl | 15, _ => rfl | 16, _ => rfl | 17, _ => rfl | 18, _ => rfl | 19, _ => rfl | 20, _ => rfl | 21, _ => rfl | 22, _ => rfl | 23, _ => rfl | 24, _ => rfl | 25, _ => rfl | 26, _ => rfl | 27, _ => rfl | 28, _ => rfl | _ + 29, _ => rfl
theorem cu_404 {cA : Nat → ClassId} {cf : Nat → Nat} {ad : Nat × Nat → Nat} {ka mo : ka_T} {n : Nat} {v : Int32} {j : Nat} : kk_up (ce_l cA cf ad ka mo) (12, n) (.inl (cA 0, 64, .inl (upd (mo 404 n) j v))) = ce_l cA cf ad ka (k3_up mo 404 n j v) := by
  funext q
  obtain ⟨k, n9⟩ := q
  by_cases hk : k = 12
  · subst hk
    by_cases hn : n9 = n
    · subst hn; simp only [kk_up, ce_l, if_true]; congr 3; refine congrArg Sum.inl ?_; funext i; simp [k3_up, upd]
    · have h9 : ¬ ((12, n9) : Nat × Nat) = (12, n) := fun h => hn (Prod.mk.inj h).2
      simp only [kk_up, if_neg h9, ce_l]; congr 3; refine congrArg Sum.inl ?_; funext i; simp [k3_up, hn]
  · have h9 : ¬ ((k, n9) : Nat × Nat) = (12, n) := fun h => hk (Prod.mk.inj h).1
    simp only [kk_up, if_neg h9]
    exact match k, hk with | 0, _ => rfl | 1, _ => rfl | 2, _ => rfl | 3, _ => rfl | 4, _ => rfl | 5, _ => rfl | 6, _ => rfl | 7, _ => rfl | 8, _ => rfl | 9, _ => rfl | 10, _ => rfl | 11, _ => rfl | 12, h => absurd rfl h | 13, _ => rfl | 14, _ => rfl | 15, _ => rfl | 16, _ => rfl | 17, _ => rfl | 18, _ => rfl | 19, _ => rfl | 20, _ => rfl | 21, _ => rfl | 22, _ => rfl | 23, _ => rfl | 24, _ => rfl | 25, _ => rfl | 26, _ => rfl | 27, _ => rfl | 28, _ => rfl | _ + 29, _ => rfl
theorem cu_405 {cA : Nat → ClassId} {cf : Nat → Nat} {ad : Nat × Nat → Nat} {ka mo : ka_T} {n : Nat} {v : Int32} {j : Nat} : kk_up (ce_l cA cf ad ka mo) (13, n) (.inl (cA 0, 16, .inl (upd (mo 405 n) j v))) = ce_l cA cf ad ka (k3_up mo 405 n j v) := by
  funext q
  obtain ⟨k, n9⟩ := q
  by_cases hk : k = 13
  · subst hk
    by_cases hn : n9 = n
    · subst hn; simp only [kk_up, ce_l, if_true]; congr 3; refine congrArg Sum.inl ?_; funext i; simp [k3_up, upd]
    · have h9 : ¬ ((13, n9) : Nat × Nat) = (13, n) := fun h => hn (Prod.mk.inj h).2
      simp only [kk_up, if_neg h9, ce_l]; congr 3; refine congrArg Sum.inl ?_; funext i; simp [k3_up, hn]
  · have h9 : ¬ ((k, n9) : Nat × Nat) = (13, n) := fun h => hk (Prod.mk.inj h).1
    simp only [kk_up, if_neg h9]
    exact match k, hk with | 0, _ => rfl | 1, _ => rfl | 2, _ => rfl | 3, _ => rfl | 4, _ => rfl | 5, _ => rfl | 6, _ => rfl | 7, _ => rfl | 8, _ => rfl | 9, _ => rfl | 10, _ => rfl | 11, _ => rfl | 12, _ => rfl | 13, h => absurd rfl h | 14, _ => rfl | 15, _ => rfl | 16, _ => rfl | 17, _ => rfl | 18, _ => rfl | 19, _ => rfl | 20, _ => rfl | 21, _ => rfl | 22, _ => rfl | 23, _ => rfl | 24, _ => rfl | 25, _ => rfl | 26, _ => rfl | 27, _ => rfl | 28, _ => rfl | _ + 29, _ => rfl
theorem cu_409 {cA : Nat → ClassId} {cf : Nat → Nat} {ad : Nat × Nat → Nat} {ka mo : ka_T} {n : Nat} {v : Int32} {j : Nat} : kk_up (ce_l cA cf ad ka mo) (14, n) (.inl (cA 0, 8, .inl (upd (mo 409 n) j v))) = ce_l cA cf ad ka (k3_up mo 409 n j v) := by
  funext q
  obtain ⟨k, n9⟩ := q
  by_cases hk : k = 14
  · subst hk
    by_cases hn : n9 = n
    · subst hn; simp only [kk_up, ce_l, if_true]; congr 3; refine congrArg Sum.inl ?_; funext i; simp [k3_up, upd]
    · have h9 : ¬ ((14, n9) : Nat × Nat) = (14, n) := fun h => hn (Prod.mk.inj h).2
      simp only [kk_up, if_neg h9, ce_l]; congr 3; refine congrArg Sum.inl ?_; funext i; simp [k3_up, hn]
  · have h9 : ¬ ((k, n9) : Nat × Nat) = (14, n) := fun h => hk (Prod.mk.inj h).1
    simp only [kk_up, if_neg h9]
    exact match k, hk with | 0, _ => rfl | 1, _ => rfl | 2, _ => rfl | 3, _ => rfl | 4, _ => rfl | 5, _ => rfl | 6, _ => rfl | 7, _ => rfl | 8, _ => rfl | 9, _ => rfl | 10, _ => rfl | 11, _ => rfl | 12, _ => rfl | 13, _ => rfl | 14, h => absurd rfl h | 15, _ => rfl | 16, _ => rfl | 17, _ => rfl | 18, _ => rfl | 19, _ => rfl | 20, _ => rfl | 21, _ => rfl | 22, _ => rfl | 23, _ => rfl | 24, _ => rfl | 25, _ => rfl | 26, _ => rfl | 27, _ => rfl | 28, _ => rfl | _ + 29, _ => rfl
theorem cu_410 {cA : Nat → ClassId} {cf : Nat → Nat} {ad : Nat × Nat → Nat} {ka mo : ka_T} {n : Nat} {v : Int32} {j : Nat} : kk_up (ce_l cA cf ad ka mo) (15, n) (.inl (cA 0, 8, .inl (upd (mo 410 n) j v))) = ce_l cA cf ad ka (k3_up mo 410 n j v) := by
  funext q
  obtain ⟨k, n9⟩ := q
  by_cases hk : k = 15
  · subst hk
    by_cases hn : n9 = n
    · subst hn; simp only [kk_up, ce_l, if_true]; congr 3; refine congrArg Sum.inl ?_; funext i; simp [k3_up, upd]
    · have h9 : ¬ ((15, n9) : Nat × Nat) = (15, n) := fun h => hn (Prod.mk.inj h).2
      simp only [kk_up, if_neg h9, ce_l]; congr 3; refine congrArg Sum.inl ?_; funext i; simp [k3_up, hn]
  · have h9 : ¬ ((k, n9) : Nat × Nat) = (15, n) := fun h => hk (Prod.mk.inj h).1
    simp only [kk_up, if_neg h9]
    exact match k, hk with | 0, _ => rfl | 1, _ => rfl | 2, _ => rfl | 3, _ => rfl | 4, _ => rfl | 5, _ => rfl | 6, _ => rfl | 7, _ => rfl | 8, _ => rfl | 9, _ => rfl | 10, _ => rfl | 11, _ => rfl | 12, _ => rfl | 13, _ => rfl | 14, _ => rfl | 15, h => absurd rfl h | 16, _ => rfl | 17, _ => rfl | 18, _ => rfl | 19, _ => rfl | 20, _ => rfl | 21, _ => rfl | 22, _ => rfl | 23, _ => rfl | 24, _ => rfl | 25, _ => rfl | 26, _ => rfl | 27, _ => rfl | 28, _ => rfl | _ + 29, _ => rfl
theorem cu_411 {cA : Nat → ClassId} {cf : Nat → Nat} {ad : Nat × Nat → Nat} {ka mo : ka_T} {n : Nat} {v : Int32} {j : Nat} : kk_up (ce_l cA cf ad ka mo) (16, n) (.inl (cA 0, 8, .inl (upd (mo 411 n) j v))) = ce_l cA cf ad ka (k3_up mo 411 n j v) := by
  funext q
  obtain ⟨k, n9⟩ := q
  by_cases hk : k = 16
  · subst hk
    by_cases hn : n9 = n
    · subst hn; simp only [kk_up, ce_l, if_true]; congr 3; refine congrArg Sum.inl ?_; funext i; simp [k3_up, upd]
    · have h9 : ¬ ((16, n9) : Nat × Nat) = (16, n) := fun h => hn (Prod.mk.inj h).2
      simp only [kk_up, if_neg h9, ce_l]; congr 3; refine congrArg Sum.inl ?_; funext i; simp [k3_up, hn]
  · have h9 : ¬ ((k, n9) : Nat × Nat) = (16, n) := fun h => hk (Prod.mk.inj h).1
    simp only [kk_up, if_neg h9]
    exact match k, hk with | 0, _ => rfl | 1, _ => rfl | 2, _ => rfl | 3, _ => rfl | 4, _ => rfl | 5, _ => rfl | 6, _ => rfl | 7, _ => rfl | 8, _ => rfl | 9, _ => rfl | 10, _ => rfl | 11, _ => rfl | 12, _ => rfl | 13, _ => rfl | 14, _ => rfl | 15, _ => rfl | 16, h => absurd rfl h | 17, _ => rfl | 18, _ => rfl | 19, _ => rfl | 20, _ => rfl | 21, _ => rfl | 22, _ => rfl | 23, _ => rfl | 24, _ => rfl | 25, _ => rfl | 26, _ => rfl | 27, _ => rfl | 28, _ => rfl | _ + 29, _ => rfl
theorem cu_412 {cA : Nat → ClassId} {cf : Nat → Nat} {ad : Nat × Nat → Nat} {ka mo : ka_T} {n : Nat} {v : Int32} {j : Nat} : kk_up (ce_l cA cf ad ka mo) (17, n) (.inl (cA 0, 8, .inl (upd (mo 412 n) j v))) = ce_l cA cf ad ka (k3_up mo 412 n j v) := by
  funext q
  obtain ⟨k, n9⟩ := q
  by_cases hk : k = 17
  · subst hk
    by_cases hn : n9 = n
    · subst hn; simp only [kk_up, ce_l, if_true]; congr 3; refine congrArg Sum.inl ?_; funext i; simp [k3_up, upd]
    · have h9 : ¬ ((17, n9) : Nat × Nat) = (17, n) := fun h => hn (Prod.mk.inj h).2
      simp only [kk_up, if_neg h9, ce_l]; congr 3; refine congrArg Sum.inl ?_; funext i; simp [k3_up, hn]
  · have h9 : ¬ ((k, n9) : Nat × Nat) = (17, n) := fun h => hk (Prod.mk.inj h).1
    simp only [kk_up, if_neg h9]
    exact match k, hk with | 0, _ => rfl | 1, _ => rfl | 2, _ => rfl | 3, _ => rfl | 4, _ => rfl | 5, _ => rfl | 6, _ => rfl | 7, _ => rfl | 8, _ => rfl | 9, _ => rfl | 10, _ => rfl | 11, _ => rfl | 12, _ => rfl | 13, _ => rfl | 14, _ => rfl | 15, _ => rfl | 16, _ => rfl | 17, h => absurd rfl h | 18, _ => rfl | 19, _ => rfl | 20, _ => rfl | 21, _ => rfl | 22, _ => rfl | 23, _ => rfl | 24, _ => rfl | 25, _ => rfl | 26, _ => rfl | 27, _ => rfl | 28, _ => rfl | _ + 29, _ => rfl
theorem cu_413 {cA : Nat → ClassId} {cf : Nat → Nat} {ad : Nat × Nat → Nat} {ka mo : ka_T} {v : Int32} {j : Nat} : kk_up (ce_l cA cf ad ka mo) (18, 0) (.inl (cA 0, 128, .inl (upd (fun j => mo 413 (j / 16) (j % 16)) j v))) = ce_l cA cf ad ka (k3_up mo 413 (j / 16) (j % 16) v) := by
  funext q
  obtain ⟨k, n9⟩ := q
  by_cases hk : k = 18
  · subst hk
    by_cases hn : n9 = 0
    · subst hn
      rw [up_tw mo 413 16 j v (by decide)]
      simp [kk_up, ce_l]
    · have h9 : ¬ ((18, n9) : Nat × Nat) = (18, 0) := fun h => hn (Prod.mk.inj h).2
      simp [kk_up, h9, ce_l, hn]
  · have h9 : ¬ ((k, n9) : Nat × Nat) = (18, 0) := fun h => hk (Prod.mk.inj h).1
    simp only [kk_up, if_neg h9]
    exact match k, hk with | 0, _ => rfl | 1, _ => rfl | 2, _ => rfl | 3, _ => rfl | 4, _ => rfl | 5, _ => rfl | 6, _ => rfl | 7, _ => rfl | 8, _ => rfl | 9, _ => rfl | 10, _ => rfl | 11, _ => rfl | 12, _ => rfl | 13, _ => rfl | 14, _ => rfl | 15, _ => rfl | 16, _ => rfl | 17, _ => rfl | 18, h => absurd rfl h | 19, _ => rfl | 20, _ => rfl | 21, _ => rfl | 22, _ => rfl | 23, _ => rfl | 24, _ => rfl | 25, _ => rfl | 26, _ => rfl | 27, _ => rfl | 28, _ => rfl | _ + 29, _ => rfl
theorem cu_414 {cA : Nat → ClassId} {cf : Nat → Nat} {ad : Nat × Nat → Nat} {ka mo : ka_T} {n : Nat} {v : Int32} {j : Nat} : kk_up (ce_l cA cf ad ka mo) (19, n) (.inl (cA 0, 8, .inl (upd (mo 414 n) j v))) = ce_l cA cf ad ka (k3_up mo 414 n j v) := by
  funext q
  obtain ⟨k, n9⟩ := q
  by_cases hk : k = 19
  · subst hk
    by_cases hn : n9 = n
    · subst hn; simp only [kk_up, ce_l, if_true]; congr 3; refine congrArg Sum.inl ?_; funext i; simp [k3_up, upd]
    · have h9 : ¬ ((19, n9) : Nat × Nat) = (19, n) := fun h => hn (Prod.mk.inj h).2
      simp only [kk_up, if_neg h9, ce_l]; congr 3; refine congrArg Sum.inl ?_; funext i; simp [k3_up, hn]
  · have h9 : ¬ ((k, n9) : Nat × Nat) = (19, n) := fun h => hk (Prod.mk.inj h).1
    simp only [kk_up, if_neg h9]
    exact match k, hk with | 0, _ => rfl | 1, _ => rfl | 2, _ => rfl | 3, _ => rfl | 4, _ => rfl | 5, _ => rfl | 6, _ => rfl | 7, _ => rfl | 8, _ => rfl | 9, _ => rfl | 10, _ => rfl | 11, _ => rfl | 12, _ => rfl | 13, _ => rfl | 14, _ => rfl | 15, _ => rfl | 16, _ => rfl | 17, _ => rfl | 18, _ => rfl | 19, h => absurd rfl h | 20, _ => rfl | 21, _ => rfl | 22, _ => rfl | 23, _ => rfl | 24, _ => rfl | 25, _ => rfl | 26, _ => rfl | 27, _ => rfl | 28, _ => rfl | _ + 29, _ => rfl
theorem cu_415 {cA : Nat → ClassId} {cf : Nat → Nat} {ad : Nat × Nat → Nat} {ka mo : ka_T} {v : Int32} {j : Nat} : kk_up (ce_l cA cf ad ka mo) (20, 0) (.inl (cA 0, 32, .inl (upd (fun j => mo 415 (j / 4) (j % 4)) j v))) = ce_l cA cf ad ka (k3_up mo 415 (j / 4) (j % 4) v) := by
  funext q
  obtain ⟨k, n9⟩ := q
  by_cases hk : k = 20
  · subst hk
    by_cases hn : n9 = 0
    · subst hn
      rw [up_tw mo 415 4 j v (by decide)]
      simp [kk_up, ce_l]
    · have h9 : ¬ ((20, n9) : Nat × Nat) = (20, 0) := fun h => hn (Prod.mk.inj h).2
      simp [kk_up, h9, ce_l, hn]
  · have h9 : ¬ ((k, n9) : Nat × Nat) = (20, 0) := fun h => hk (Prod.mk.inj h).1
    simp only [kk_up, if_neg h9]
    exact match k, hk with | 0, _ => rfl | 1, _ => rfl | 2, _ => rfl | 3, _ => rfl | 4, _ => rfl | 5, _ => rfl | 6, _ => rfl | 7, _ => rfl | 8, _ => rfl | 9, _ => rfl | 10, _ => rfl | 11, _ => rfl | 12, _ => rfl | 13, _ => rfl | 14, _ => rfl | 15, _ => rfl | 16, _ => rfl | 17, _ => rfl | 18, _ => rfl | 19, _ => rfl | 20, h => absurd rfl h | 21, _ => rfl | 22, _ => rfl | 23, _ => rfl | 24, _ => rfl | 25, _ => rfl | 26, _ => rfl | 27, _ => rfl | 28, _ => rfl | _ + 29, _ => rfl
theorem cu_416 {cA : Nat → ClassId} {cf : Nat → Nat} {ad : Nat × Nat → Nat} {ka mo : ka_T} {n : Nat} {v : Int32} {j : Nat} : kk_up (ce_l cA cf ad ka mo) (21, n) (.inl (cA 0, 8, .inl (upd (mo 416 n) j v))) = ce_l cA cf ad ka (k3_up mo 416 n j v) := by
  funext q
  obtain ⟨k, n9⟩ := q
  by_cases hk : k = 21
  · subst hk
    by_cases hn : n9 = n
    · subst hn; simp only [kk_up, ce_l, if_true]; congr 3; refine congrArg Sum.inl ?_; funext i; simp [k3_up, upd]
    · have h9 : ¬ ((21, n9) : Nat × Nat) = (21, n) := fun h => hn (Prod.mk.inj h).2
      simp only [kk_up, if_neg h9, ce_l]; congr 3; refine congrArg Sum.inl ?_; funext i; simp [k3_up, hn]
  · have h9 : ¬ ((k, n9) : Nat × Nat) = (21, n) := fun h => hk (Prod.mk.inj h).1
    simp only [kk_up, if_neg h9]
    exact match k, hk with | 0, _ => rfl | 1, _ => rfl | 2, _ => rfl | 3, _ => rfl | 4, _ => rfl | 5, _ => rfl | 6, _ => rfl | 7, _ => rfl | 8, _ => rfl | 9, _ => rfl | 10, _ => rfl | 11, _ => rfl | 12, _ => rfl | 13, _ => rfl | 14, _ => rfl | 15, _ => rfl | 16, _ => rfl | 17, _ => rfl | 18, _ => rfl | 19, _ => rfl | 20, _ => rfl | 21, h => absurd rfl h | 22, _ => rfl | 23, _ => rfl | 24, _ => rfl | 25, _ => rfl | 26, _ => rfl | 27, _ => rfl | 28, _ => rfl | _ + 29, _ => rfl
theorem cu_417 {cA : Nat → ClassId} {cf : Nat → Nat} {ad : Nat × Nat → Nat} {ka mo : ka_T} {n : Nat} {v : Int32} {j : Nat} : kk_up (ce_l cA cf ad ka mo) (22, n) (.inl (cA 0, 8, .inl (upd (mo 417 n) j v))) = ce_l cA cf ad ka (k3_up mo 417 n j v) := by
  funext q
  obtain ⟨k, n9⟩ := q
  by_cases hk : k = 22
  · subst hk
    by_cases hn : n9 = n
    · subst hn; simp only [kk_up, ce_l, if_true]; congr 3; refine congrArg Sum.inl ?_; funext i; simp [k3_up, upd]
    · have h9 : ¬ ((22, n9) : Nat × Nat) = (22, n) := fun h => hn (Prod.mk.inj h).2
      simp only [kk_up, if_neg h9, ce_l]; congr 3; refine congrArg Sum.inl ?_; funext i; simp [k3_up, hn]
  · have h9 : ¬ ((k, n9) : Nat × Nat) = (22, n) := fun h => hk (Prod.mk.inj h).1
    simp only [kk_up, if_neg h9]
    exact match k, hk with | 0, _ => rfl | 1, _ => rfl | 2, _ => rfl | 3, _ => rfl | 4, _ => rfl | 5, _ => rfl | 6, _ => rfl | 7, _ => rfl | 8, _ => rfl | 9, _ => rfl | 10, _ => rfl | 11, _ => rfl | 12, _ => rfl | 13, _ => rfl | 14, _ => rfl | 15, _ => rfl | 16, _ => rfl | 17, _ => rfl | 18, _ => rfl | 19, _ => rfl | 20, _ => rfl | 21, _ => rfl | 22, h => absurd rfl h | 23, _ => rfl | 24, _ => rfl | 25, _ => rfl | 26, _ => rfl | 27, _ => rfl | 28, _ => rfl | _ + 29, _ => rfl
theorem cu_418 {cA : Nat → ClassId} {cf : Nat → Nat} {ad : Nat × Nat → Nat} {ka mo : ka_T} {n : Nat} {v : Int32} {j : Nat} : kk_up (ce_l cA cf ad ka mo) (23, n) (.inl (cA 0, 8, .inl (upd (mo 418 n) j v))) = ce_l cA cf ad ka (k3_up mo 418 n j v) := by
  funext q
  obtain ⟨k, n9⟩ := q
  by_cases hk : k = 23
  · subst hk
    by_cases hn : n9 = n
    · subst hn; simp only [kk_up, ce_l, if_true]; congr 3; refine congrArg Sum.inl ?_; funext i; simp [k3_up, upd]
    · have h9 : ¬ ((23, n9) : Nat × Nat) = (23, n) := fun h => hn (Prod.mk.inj h).2
      simp only [kk_up, if_neg h9, ce_l]; congr 3; refine congrArg Sum.inl ?_; funext i; simp [k3_up, hn]
  · have h9 : ¬ ((k, n9) : Nat × Nat) = (23, n) := fun h => hk (Prod.mk.inj h).1
    simp only [kk_up, if_neg h9]
    exact match k, hk with | 0, _ => rfl | 1, _ => rfl | 2, _ => rfl | 3, _ => rfl | 4, _ => rfl | 5, _ => rfl | 6, _ => rfl | 7, _ => rfl | 8, _ => rfl | 9, _ => rfl | 10, _ => rfl | 11, _ => rfl | 12, _ => rfl | 13, _ => rfl | 14, _ => rfl | 15, _ => rfl | 16, _ => rfl | 17, _ => rfl | 18, _ => rfl | 19, _ => rfl | 20, _ => rfl | 21, _ => rfl | 22, _ => rfl | 23, h => absurd rfl h | 24, _ => rfl | 25, _ => rfl | 26, _ => rfl | 27, _ => rfl | 28, _ => rfl | _ + 29, _ => rfl
theorem cu_419 {cA : Nat → ClassId} {cf : Nat → Nat} {ad : Nat × Nat → Nat} {ka mo : ka_T} {n : Nat} {v : Int32} {j : Nat} : kk_up (ce_l cA cf ad ka mo) (24, n) (.inl (cA 0, 8, .inl (upd (mo 419 n) j v))) = ce_l cA cf ad ka (k3_up mo 419 n j v) := by
  funext q
  obtain ⟨k, n9⟩ := q
  by_cases hk : k = 24
  · subst hk
    by_cases hn : n9 = n
    · subst hn; simp only [kk_up, ce_l, if_true]; congr 3; refine congrArg Sum.inl ?_; funext i; simp [k3_up, upd]
    · have h9 : ¬ ((24, n9) : Nat × Nat) = (24, n) := fun h => hn (Prod.mk.inj h).2
      simp only [kk_up, if_neg h9, ce_l]; congr 3; refine congrArg Sum.inl ?_; funext i; simp [k3_up, hn]
  · have h9 : ¬ ((k, n9) : Nat × Nat) = (24, n) := fun h => hk (Prod.mk.inj h).1
    simp only [kk_up, if_neg h9]
    exact match k, hk with | 0, _ => rfl | 1, _ => rfl | 2, _ => rfl | 3, _ => rfl | 4, _ => rfl | 5, _ => rfl | 6, _ => rfl | 7, _ => rfl | 8, _ => rfl | 9, _ => rfl | 10, _ => rfl | 11, _ => rfl | 12, _ => rfl | 13, _ => rfl | 14, _ => rfl | 15, _ => rfl | 16, _ => rfl | 17, _ => rfl | 18, _ => rfl | 19, _ => rfl | 20, _ => rfl | 21, _ => rfl | 22, _ => rfl | 23, _ => rfl | 24, h => absurd rfl h | 25, _ => rfl | 26, _ => rfl | 27, _ => rfl | 28, _ => rfl | _ + 29, _ => rfl
theorem cu_420 {cA : Nat → ClassId} {cf : Nat → Nat} {ad : Nat × Nat → Nat} {ka mo : ka_T} {n : Nat} {v : Int32} {j : Nat} : kk_up (ce_l cA cf ad ka mo) (25, n) (.inl (cA 0, 8, .inl (upd (mo 420 n) j v))) = ce_l cA cf ad ka (k3_up mo 420 n j v) := by
  funext q
  obtain ⟨k, n9⟩ := q
  by_cases hk : k = 25
  · subst hk
    by_cases hn : n9 = n
    · subst hn; simp only [kk_up, ce_l, if_true]; congr 3; refine congrArg Sum.inl ?_; funext i; simp [k3_up, upd]
    · have h9 : ¬ ((25, n9) : Nat × Nat) = (25, n) := fun h => hn (Prod.mk.inj h).2
      simp only [kk_up, if_neg h9, ce_l]; congr 3; refine congrArg Sum.inl ?_; funext i; simp [k3_up, hn]
  · have h9 : ¬ ((k, n9) : Nat × Nat) = (25, n) := fun h => hk (Prod.mk.inj h).1
    simp only [kk_up, if_neg h9]
    exact match k, hk with | 0, _ => rfl | 1, _ => rfl | 2, _ => rfl | 3, _ => rfl | 4, _ => rfl | 5, _ => rfl | 6, _ => rfl | 7, _ => rfl | 8, _ => rfl | 9, _ => rfl | 10, _ => rfl | 11, _ => rfl | 12, _ => rfl | 13, _ => rfl | 14, _ => rfl | 15, _ => rfl | 16, _ => rfl | 17, _ => rfl | 18, _ => rfl | 19, _ => rfl | 20, _ => rfl | 21, _ => rfl | 22, _ => rfl | 23, _ => rfl | 24, _ => rfl | 25, h => absurd rfl h | 26, _ => rfl | 27, _ => rfl | 28, _ => rfl | _ + 29, _ => rfl
theorem cu_421 {cA : Nat → ClassId} {cf : Nat → Nat} {ad : Nat × Nat → Nat} {ka mo : ka_T} {n : Nat} {v : Int32} {j : Nat} : kk_up (ce_l cA cf ad ka mo) (26, n) (.inl (cA 0, 4, .inl (upd (mo 421 n) j v))) = ce_l cA cf ad ka (k3_up mo 421 n j v) := by
  funext q
  obtain ⟨k, n9⟩ := q
  by_cases hk : k = 26
  · subst hk
    by_cases hn : n9 = n
    · subst hn; simp only [kk_up, ce_l, if_true]; congr 3; refine congrArg Sum.inl ?_; funext i; simp [k3_up, upd]
    · have h9 : ¬ ((26, n9) : Nat × Nat) = (26, n) := fun h => hn (Prod.mk.inj h).2
      simp only [kk_up, if_neg h9, ce_l]; congr 3; refine congrArg Sum.inl ?_; funext i; simp [k3_up, hn]
  · have h9 : ¬ ((k, n9) : Nat × Nat) = (26, n) := fun h => hk (Prod.mk.inj h).1
    simp only [kk_up, if_neg h9]
    exact match k, hk with | 0, _ => rfl | 1, _ => rfl | 2, _ => rfl | 3, _ => rfl | 4, _ => rfl | 5, _ => rfl | 6, _ => rfl | 7, _ => rfl | 8, _ => rfl | 9, _ => rfl | 10, _ => rfl | 11, _ => rfl | 12, _ => rfl | 13, _ => rfl | 14, _ => rfl | 15, _ => rfl | 16, _ => rfl | 17, _ => rfl | 18, _ => rfl | 19, _ => rfl | 20, _ => rfl | 21, _ => rfl | 22, _ => rfl | 23, _ => rfl | 24, _ => rfl | 25, _ => rfl | 26, h => absurd rfl h | 27, _ => rfl | 28, _ => rfl | _ + 29, _ => rfl
theorem cu_422 {cA : Nat → ClassId} {cf : Nat → Nat} {ad : Nat × Nat → Nat} {ka mo : ka_T} {v : Int32} {j : Nat} : kk_up (ce_l cA cf ad ka mo) (27, 0) (.inl (cA 0, 24, .inl (upd (fun j => mo 422 (j / 6) (j % 6)) j v))) = ce_l cA cf ad ka (k3_up mo 422 (j / 6) (j % 6) v) := by
  funext q
  obtain ⟨k, n9⟩ := q
  by_cases hk : k = 27
  · subst hk
    by_cases hn : n9 = 0
    · subst hn
      rw [up_tw mo 422 6 j v (by decide)]
      simp [kk_up, ce_l]
    · have h9 : ¬ ((27, n9) : Nat × Nat) = (27, 0) := fun h => hn (Prod.mk.inj h).2
      simp [kk_up, h9, ce_l, hn]
  · have h9 : ¬ ((k, n9) : Nat × Nat) = (27, 0) := fun h => hk (Prod.mk.inj h).1
    simp only [kk_up, if_neg h9]
    exact match k, hk with | 0, _ => rfl | 1, _ => rfl | 2, _ => rfl | 3, _ => rfl | 4, _ => rfl | 5, _ => rfl | 6, _ => rfl | 7, _ => rfl | 8, _ => rfl | 9, _ => rfl | 10, _ => rfl | 11, _ => rfl | 12, _ => rfl | 13, _ => rfl | 14, _ => rfl | 15, _ => rfl | 16, _ => rfl | 17, _ => rfl | 18, _ => rfl | 19, _ => rfl | 20, _ => rfl | 21, _ => rfl | 22, _ => rfl | 23, _ => rfl | 24, _ => rfl | 25, _ => rfl | 26, _ => rfl | 27, h => absurd rfl h | 28, _ => rfl | _ + 29, _ => rfl
theorem cu_424 {cA : Nat → ClassId} {cf : Nat → Nat} {ad : Nat × Nat → Nat} {ka mo : ka_T} {n : Nat} {v : Int32} {j : Nat} : kk_up (ce_l cA cf ad ka mo) (28, n) (.inl (cA 0, 32, .inl (upd (mo 424 n) j v))) = ce_l cA cf ad ka (k3_up mo 424 n j v) := by
  funext q
  obtain ⟨k, n9⟩ := q
  by_cases hk : k = 28
  · subst hk
    by_cases hn : n9 = n
    · subst hn; simp only [kk_up, ce_l, if_true]; congr 3; refine congrArg Sum.inl ?_; funext i; simp [k3_up, upd]
    · have h9 : ¬ ((28, n9) : Nat × Nat) = (28, n) := fun h => hn (Prod.mk.inj h).2
      simp only [kk_up, if_neg h9, ce_l]; congr 3; refine congrArg Sum.inl ?_; funext i; simp [k3_up, hn]
  · have h9 : ¬ ((k, n9) : Nat × Nat) = (28, n) := fun h => hk (Prod.mk.inj h).1
    simp only [kk_up, if_neg h9]
    exact match k, hk with | 0, _ => rfl | 1, _ => rfl | 2, _ => rfl | 3, _ => rfl | 4, _ => rfl | 5, _ => rfl | 6, _ => rfl | 7, _ => rfl | 8, _ => rfl | 9, _ => rfl | 10, _ => rfl | 11, _ => rfl | 12, _ => rfl | 13, _ => rfl | 14, _ => rfl | 15, _ => rfl | 16, _ => rfl | 17, _ => rfl | 18, _ => rfl | 19, _ => rfl | 20, _ => rfl | 21, _ => rfl | 22, _ => rfl | 23, _ => rfl | 24, _ => rfl | 25, _ => rfl | 26, _ => rfl | 27, _ => rfl | 28, h => absurd rfl h | _ + 29, _ => rfl
