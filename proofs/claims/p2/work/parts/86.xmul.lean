/-! products: bitCount, isBeyond, squaredCosines, putRows; the sums never reach the least long -/
def bnd (B : Nat) (C : List sT) : Prop := ∀ q ∈ C, q.2.toInt.natAbs ≤ B
theorem i64_add' {a b : Int64} (h : a.toInt.natAbs + b.toInt.natAbs < 9223372036854775808) : (a + b).toInt = a.toInt + b.toInt := by
  rw [Int64.toInt_add, Int.bmod_eq_of_le]
  · have : (2 ^ 64 : Nat) / 2 = 9223372036854775808 := by decide
    omega
  · have : ((2 ^ 64 : Nat) + 1) / 2 = 9223372036854775808 := by decide
    omega
theorem sIns_bnd {B M : Nat} {C : List sT} {k : Int32} {v : Int64} (h : bnd B C) (hv : v.toInt.natAbs ≤ M) (hB : B + M < 9223372036854775808) : bnd (B + M) (sIns k v C) := by
  induction C with
  | nil => intro q hq; rw [sIns, List.mem_singleton] at hq; rw [hq]; show v.toInt.natAbs ≤ B + M; omega
  | cons a t ih =>
    obtain ⟨x, y⟩ := a
    have hy : y.toInt.natAbs ≤ B := h (x, y) (List.mem_cons_self ..)
    have ht : bnd B t := fun q hq => h q (List.mem_cons_of_mem _ hq)
    intro q hq
    rw [sIns] at hq
    split at hq
    · rcases List.mem_cons.mp hq with e | e
      · rw [e]; show y.toInt.natAbs ≤ B + M; omega
      · exact ih ht q e
    · split at hq
      · rcases List.mem_cons.mp hq with e | e
        · rw [e]; show (y + v).toInt.natAbs ≤ B + M; rw [i64_add' (by omega)]; omega
        · have := ht q e; omega
      · rcases List.mem_cons.mp hq with e | e
        · rw [e]; show v.toInt.natAbs ≤ B + M; omega
        · have := h q e; omega
theorem sPuts_bnd {M : Nat} {P : List sT} (hM : bnd M P) : ∀ {B : Nat} {C : List sT}, bnd B C → B + M * P.length < 9223372036854775808 → bnd (B + M * P.length) (sPuts C P) := by
  induction P with
  | nil => intro B C h _; exact h
  | cons a t ih =>
    intro B C h hB
    have ha := hM a (List.mem_cons_self ..)
    have ht : bnd M t := fun q hq => hM q (List.mem_cons_of_mem _ hq)
    rw [List.length_cons, Nat.mul_succ] at hB ⊢
    have h1 := sIns_bnd (k := a.1) h ha (by omega)
    have h2 := ih ht h1 (by omega)
    intro q hq
    have := h2 q hq
    omega
theorem bnd_min {B : Nat} {C : List sT} (h : bnd B C) (hB : B < 9223372036854775808) : noMin C := fun q hq e => by have := h q hq; omega
theorem bnd_ok {n : Nat} {S : List sT} (h : sOK n S) : bnd 1000000000000 S := fun q hq => by
  have := (h.2.2 q hq).2.1
  have := (Bool.and_eq_true_iff.mp this).1
  rw [inZ_t] at this; omega
theorem i64_mul' {a b : Int64} (h : a.toInt.natAbs * b.toInt.natAbs < 9223372036854775808) : (a * b).toInt = a.toInt * b.toInt := by
  have e : (a.toInt * b.toInt).natAbs = a.toInt.natAbs * b.toInt.natAbs := Int.natAbs_mul _ _
  rw [Int64.toInt_mul, Int.bmod_eq_of_le]
  · have : (2 ^ 64 : Nat) / 2 = 9223372036854775808 := by decide
    omega
  · have : ((2 ^ 64 : Nat) + 1) / 2 = 9223372036854775808 := by decide
    omega
theorem sScale_bnd {n : Nat} {S : List sT} {v : Int64} {m : Nat} (h : sOK n S) (hv : v.toInt.natAbs ≤ m) (hm : m ≤ 3) : bnd (m * 1000000000000) (sScale v S) := by
  intro q hq
  obtain ⟨p, hp, e⟩ := List.mem_map.mp hq
  have h1 := bnd_ok h p hp
  rw [← e]
  show (v * p.2).toInt.natAbs ≤ _
  have h2 : v.toInt.natAbs * p.2.toInt.natAbs ≤ m * 1000000000000 := Nat.mul_le_mul hv h1
  rw [i64_mul' (by omega), Int.natAbs_mul]; exact h2
theorem joinC_min {n : Nat} {X Y : List sT} {v : Int32} (hX : sOK n X) (hY : sOK n Y) (hv : inZ v.toInt (-3) 3 = true) : noMin (joinC X Y v) := by
  rw [inZ_t] at hv
  have h1 := sScale_bnd (v := 1) (m := 1) hX (by decide) (by decide)
  have h2 := sScale_bnd (v := v.toInt64) (m := 3) hY (by rw [i64_of]; omega) (by decide)
  have hl : (sScale 1 X).length ≤ 300 := by unfold sScale; rw [List.length_map]; exact hX.2.1
  have hl2 : (sScale v.toInt64 Y).length ≤ 300 := by unfold sScale; rw [List.length_map]; exact hY.2.1
  have h3 := sPuts_bnd h1 (B := 0) (C := []) (fun q hq => by cases hq) (by omega)
  have h4 := sPuts_bnd h2 h3 (by omega)
  exact bnd_min h4 (by omega)
theorem noMin_of {n : Nat} {S P : List sT} {m : Nat} (hP : bnd (m * 1000000000000) P) (hl : m * P.length ≤ 2000000) : noMin (sPuts [] P) := by
  have h3 := sPuts_bnd hP (B := 0) (C := []) (fun q hq => by cases hq) (by
    have : m * 1000000000000 * P.length = (m * P.length) * 1000000000000 := by rw [Nat.mul_assoc, Nat.mul_comm 1000000000000, ← Nat.mul_assoc]
    omega)
  refine bnd_min h3 ?_
  have : m * 1000000000000 * P.length = (m * P.length) * 1000000000000 := by rw [Nat.mul_assoc, Nat.mul_comm 1000000000000, ← Nat.mul_assoc]
  omega
def kpc (cs : Nat → List sT) (i : Nat) (F : Option (List sT)) : Nat → List sT := match F with
  | some S => va_up cs i S
  | none => cs
abbrev kX4_joinSums : gw_K := (yX4_joinSums, cX4_joinSums, 4, { frames := 3, cells := 0, slots := 0, locals := 84 }, (some .boolean))
theorem ok_X4_joinSums : gw_calV kX4_joinSums 3 := ⟨⟨wd_353, wd_58, by decide, by decide, by decide +kernel⟩, wd_352, wd_18⟩
set_option maxHeartbeats 4000000 in
set_option maxRecDepth 100000 in
theorem s_joinSums (l : Launch) (cy : Nat → ClassId) (a0 : Nat) (sa : Nat → Nat) (cs : Nat → List sT) (w : va_W) (i j : Nat) (v : Int32) (hx : xsP cy a0 sa cs w) (hi : i < 18) (hj : j < 18) (hli : (cs i).length ≤ 300) (hlj : (cs j).length ≤ 300) (hm : noMin (joinC (cs i) (cs j) v)) : gw_M l kX4_joinSums cy [.ref (a0), .ref (sa (3 * i)), .ref (sa (3 * j)), .int (v)] w (fun r w' => r = some (.int (bI (keepS (joinC (cs i) (cs j) v)).isSome)) ∧ xsP cy a0 sa (kpc cs i (keepS (joinC (cs i) (cs j) v))) w') := by
  refine gw_M.mk (lv := [some (.ref (a0)), some (.ref (sa (3 * i))), some (.ref (sa (3 * j))), some (.int (v))]) (by decide) (Nat.le_of_ble_eq_true rfl) rfl ?_
  generalize hpost : (fun r w' => r = some (.int (bI (keepS (joinC (cs i) (cs j) v)).isSome)) ∧ xsP cy a0 sa (kpc cs i (keepS (joinC (cs i) (cs j) v))) w' : gw_Q) = post
  refine gw_aload_n dX4_joinSums_0 rfl ?_
  refine gw_callH (As := []) (st := []) (s_begin l cy a0 sa cs w hx) ok_X4_begin (xsP_has hx) rfl rfl wd_354 rfl rfl dX4_joinSums_1 (by decide) (by decide) (Nat.le_of_ble_eq_true rfl) (fun r1 w1 hp1 => ?_)
  obtain ⟨rfl, h1⟩ := hp1
  refine gw_W.norm (st' := []) (k1 := 0) (k2 := 0) rfl rfl rfl ?_
  refine gw_aload_n dX4_joinSums_4 rfl ?_
  refine gw_aload_n dX4_joinSums_5 rfl ?_
  refine gw_iconst (v := nI (1)) dX4_joinSums_6 (by decide) ?_
  refine gw_callH (As := [.ref (sa (3 * i)), .int (nI (1))]) (st := []) (s_putSum l cy a0 sa cs [] w1 i (nI 1) h1 hi (by simp only [List.length_nil]; omega)) ok_X4_putSum (xsQ_has h1) rfl rfl wd_355 rfl rfl dX4_joinSums_7 (by decide) (by decide) (Nat.le_of_ble_eq_true rfl) (fun r7 w7 hp7 => ?_)
  obtain ⟨rfl, h7⟩ := hp7
  refine gw_W.norm (st' := []) (k1 := 0) (k2 := 0) rfl rfl rfl ?_
  refine gw_aload_n dX4_joinSums_10 rfl ?_
  refine gw_aload_n dX4_joinSums_11 rfl ?_
  refine gw_iload_n dX4_joinSums_12 rfl ?_
  refine gw_callH (As := [.ref (sa (3 * j)), .int (v)]) (st := []) (s_putSum l cy a0 sa cs (sPuts [] (sScale (nI 1).toInt64 (cs i))) w7 j v h7 hj (by have q2 := sPuts_len [] (sScale (nI 1).toInt64 (cs i)); have q3 : (sScale (nI 1).toInt64 (cs i)).length = (cs i).length := List.length_map _; simp only [List.length_nil] at q2; omega)) ok_X4_putSum (xsQ_has h7) rfl rfl wd_355 rfl rfl dX4_joinSums_13 (by decide) (by decide) (Nat.le_of_ble_eq_true rfl) (fun r13 w13 hp13 => ?_)
  obtain ⟨rfl, h13⟩ := hp13
  refine gw_W.norm (st' := []) (k1 := 0) (k2 := 0) rfl rfl rfl ?_
  refine gw_aload_n dX4_joinSums_16 rfl ?_
  refine gw_aload_n dX4_joinSums_17 rfl ?_
  refine gw_callH (As := [.ref (sa (3 * i))]) (st := []) (s_settle l cy a0 sa cs (joinC (cs i) (cs j) v) w13 i h13 hi hm) ok_X4_settle (xsQ_has h13) rfl rfl wd_356 rfl rfl dX4_joinSums_18 (by decide) (by decide) (Nat.le_of_ble_eq_true rfl) (fun r18 w18 hp18 => ?_)
  obtain ⟨rfl, h18⟩ := hp18
  refine gw_W.norm (st' := [.int (bI (keepS (joinC (cs i) (cs j) v)).isSome)]) (k1 := 0) (k2 := 0) rfl rfl rfl ?_
  refine gw_zret (?_) (by decide) (by decide) rfl (bI_nar _) dX4_joinSums_21
  subst hpost
  exact ⟨rfl, h18⟩
def pc16 (x : Nat) : Nat := x % 2 + x / 2 % 2 + x / 4 % 2 + x / 8 % 2
abbrev kJ6_bitCount_0f7a4 : gw_K := (yJ6_bitCount_0f7a4, cJ6_bitCount_0f7a4, 1, { frames := 0, cells := 0, slots := 0, locals := 0 }, (some .int))
theorem ok_J6_bitCount_0f7a4 : gw_calS kJ6_bitCount_0f7a4 1 := ⟨⟨wd_447, wd_65, by decide, by decide, by decide +kernel⟩, wd_446⟩
set_option maxHeartbeats 4000000 in
set_option maxRecDepth 100000 in
theorem c_bitCount (l : Launch) (cy : Nat → ClassId) (x : Nat) (hx : x < 16) (w : va_W) : gw_M l kJ6_bitCount_0f7a4 cy [.int (nI (x))] w (fun r w' => r = some (.int (nI (pc16 x))) ∧ w' = w) := by
  refine gw_M.mk (lv := [some (.int (nI (x)))]) (by decide) (Nat.le_of_ble_eq_true rfl) rfl ?_
  generalize hpost : (fun r w' => r = some (.int (nI (pc16 x))) ∧ w' = w : gw_Q) = post
  refine gw_iload_n dJ6_bitCount_0f7a4_0 rfl ?_
  refine gw_iload_n dJ6_bitCount_0f7a4_1 rfl ?_
  refine gw_iconst (v := nI (1)) dJ6_bitCount_0f7a4_2 (by decide) ?_
  refine gw_iushr (v := nI (x / 2)) dJ6_bitCount_0f7a4_3 (pk_ushrN (by omega) _ 1 (by decide)) ?_
  refine gw_ldcw dJ6_bitCount_0f7a4_4 wd_448 ?_
  refine gw_iand dJ6_bitCount_0f7a4_7 ?_
  refine gw_topi (y := nI (x / 2 % 2 + x / 8 % 2 * 4)) (by rcases (show x = 0 ∨ x = 1 ∨ x = 2 ∨ x = 3 ∨ x = 4 ∨ x = 5 ∨ x = 6 ∨ x = 7 ∨ x = 8 ∨ x = 9 ∨ x = 10 ∨ x = 11 ∨ x = 12 ∨ x = 13 ∨ x = 14 ∨ x = 15 by omega) with rfl | rfl | rfl | rfl | rfl | rfl | rfl | rfl | rfl | rfl | rfl | rfl | rfl | rfl | rfl | rfl <;> decide) ?_
  refine gw_isub dJ6_bitCount_0f7a4_8 ?_
  refine gw_topi (y := nI ((x % 4 - x / 2 % 2 + (x / 4 % 4 - x / 8 % 2) * 4))) (by rcases (show x = 0 ∨ x = 1 ∨ x = 2 ∨ x = 3 ∨ x = 4 ∨ x = 5 ∨ x = 6 ∨ x = 7 ∨ x = 8 ∨ x = 9 ∨ x = 10 ∨ x = 11 ∨ x = 12 ∨ x = 13 ∨ x = 14 ∨ x = 15 by omega) with rfl | rfl | rfl | rfl | rfl | rfl | rfl | rfl | rfl | rfl | rfl | rfl | rfl | rfl | rfl | rfl <;> decide) ?_
  refine gw_istore_n dJ6_bitCount_0f7a4_9 (by decide) rfl ?_
  refine gw_iload_n dJ6_bitCount_0f7a4_10 rfl ?_
  refine gw_ldcw dJ6_bitCount_0f7a4_11 wd_449 ?_
  refine gw_iand dJ6_bitCount_0f7a4_14 ?_
  refine gw_topi (y := nI (x % 4 - x / 2 % 2)) (by rcases (show x = 0 ∨ x = 1 ∨ x = 2 ∨ x = 3 ∨ x = 4 ∨ x = 5 ∨ x = 6 ∨ x = 7 ∨ x = 8 ∨ x = 9 ∨ x = 10 ∨ x = 11 ∨ x = 12 ∨ x = 13 ∨ x = 14 ∨ x = 15 by omega) with rfl | rfl | rfl | rfl | rfl | rfl | rfl | rfl | rfl | rfl | rfl | rfl | rfl | rfl | rfl | rfl <;> decide) ?_
  refine gw_iload_n dJ6_bitCount_0f7a4_15 rfl ?_
  refine gw_iconst (v := nI (2)) dJ6_bitCount_0f7a4_16 (by decide) ?_
  refine gw_iushr (v := nI (x / 4 % 4 - x / 8 % 2)) dJ6_bitCount_0f7a4_17 (by rcases (show x = 0 ∨ x = 1 ∨ x = 2 ∨ x = 3 ∨ x = 4 ∨ x = 5 ∨ x = 6 ∨ x = 7 ∨ x = 8 ∨ x = 9 ∨ x = 10 ∨ x = 11 ∨ x = 12 ∨ x = 13 ∨ x = 14 ∨ x = 15 by omega) with rfl | rfl | rfl | rfl | rfl | rfl | rfl | rfl | rfl | rfl | rfl | rfl | rfl | rfl | rfl | rfl <;> decide) ?_
  refine gw_ldcw dJ6_bitCount_0f7a4_18 wd_449 ?_
  refine gw_iand dJ6_bitCount_0f7a4_21 ?_
  refine gw_topi (y := nI (x / 4 % 4 - x / 8 % 2)) (by rcases (show x = 0 ∨ x = 1 ∨ x = 2 ∨ x = 3 ∨ x = 4 ∨ x = 5 ∨ x = 6 ∨ x = 7 ∨ x = 8 ∨ x = 9 ∨ x = 10 ∨ x = 11 ∨ x = 12 ∨ x = 13 ∨ x = 14 ∨ x = 15 by omega) with rfl | rfl | rfl | rfl | rfl | rfl | rfl | rfl | rfl | rfl | rfl | rfl | rfl | rfl | rfl | rfl <;> decide) ?_
  refine gw_iadd dJ6_bitCount_0f7a4_22 ?_
  refine gw_topi (y := nI (pc16 x)) (by rcases (show x = 0 ∨ x = 1 ∨ x = 2 ∨ x = 3 ∨ x = 4 ∨ x = 5 ∨ x = 6 ∨ x = 7 ∨ x = 8 ∨ x = 9 ∨ x = 10 ∨ x = 11 ∨ x = 12 ∨ x = 13 ∨ x = 14 ∨ x = 15 by omega) with rfl | rfl | rfl | rfl | rfl | rfl | rfl | rfl | rfl | rfl | rfl | rfl | rfl | rfl | rfl | rfl <;> decide) ?_
  refine gw_istore_n dJ6_bitCount_0f7a4_23 (by decide) rfl ?_
  refine gw_iload_n dJ6_bitCount_0f7a4_24 rfl ?_
  refine gw_iload_n dJ6_bitCount_0f7a4_25 rfl ?_
  refine gw_iconst (v := nI (4)) dJ6_bitCount_0f7a4_26 (by decide) ?_
  refine gw_iushr (v := nI (0)) dJ6_bitCount_0f7a4_27 (by rcases (show x = 0 ∨ x = 1 ∨ x = 2 ∨ x = 3 ∨ x = 4 ∨ x = 5 ∨ x = 6 ∨ x = 7 ∨ x = 8 ∨ x = 9 ∨ x = 10 ∨ x = 11 ∨ x = 12 ∨ x = 13 ∨ x = 14 ∨ x = 15 by omega) with rfl | rfl | rfl | rfl | rfl | rfl | rfl | rfl | rfl | rfl | rfl | rfl | rfl | rfl | rfl | rfl <;> decide) ?_
  refine gw_iadd dJ6_bitCount_0f7a4_28 ?_
  refine gw_topi (y := nI (pc16 x)) (by rcases (show x = 0 ∨ x = 1 ∨ x = 2 ∨ x = 3 ∨ x = 4 ∨ x = 5 ∨ x = 6 ∨ x = 7 ∨ x = 8 ∨ x = 9 ∨ x = 10 ∨ x = 11 ∨ x = 12 ∨ x = 13 ∨ x = 14 ∨ x = 15 by omega) with rfl | rfl | rfl | rfl | rfl | rfl | rfl | rfl | rfl | rfl | rfl | rfl | rfl | rfl | rfl | rfl <;> decide) ?_
  refine gw_ldcw dJ6_bitCount_0f7a4_29 wd_450 ?_
  refine gw_iand dJ6_bitCount_0f7a4_32 ?_
  refine gw_topi (y := nI (pc16 x)) (by rcases (show x = 0 ∨ x = 1 ∨ x = 2 ∨ x = 3 ∨ x = 4 ∨ x = 5 ∨ x = 6 ∨ x = 7 ∨ x = 8 ∨ x = 9 ∨ x = 10 ∨ x = 11 ∨ x = 12 ∨ x = 13 ∨ x = 14 ∨ x = 15 by omega) with rfl | rfl | rfl | rfl | rfl | rfl | rfl | rfl | rfl | rfl | rfl | rfl | rfl | rfl | rfl | rfl <;> decide) ?_
  refine gw_istore_n dJ6_bitCount_0f7a4_33 (by decide) rfl ?_
  refine gw_iload_n dJ6_bitCount_0f7a4_34 rfl ?_
  refine gw_iload_n dJ6_bitCount_0f7a4_35 rfl ?_
  refine gw_bipush (v := nI (8)) dJ6_bitCount_0f7a4_36 (by decide) ?_
  refine gw_iushr (v := nI (0)) dJ6_bitCount_0f7a4_38 (by rcases (show x = 0 ∨ x = 1 ∨ x = 2 ∨ x = 3 ∨ x = 4 ∨ x = 5 ∨ x = 6 ∨ x = 7 ∨ x = 8 ∨ x = 9 ∨ x = 10 ∨ x = 11 ∨ x = 12 ∨ x = 13 ∨ x = 14 ∨ x = 15 by omega) with rfl | rfl | rfl | rfl | rfl | rfl | rfl | rfl | rfl | rfl | rfl | rfl | rfl | rfl | rfl | rfl <;> decide) ?_
  refine gw_iadd dJ6_bitCount_0f7a4_39 ?_
  refine gw_topi (y := nI (pc16 x)) (by rcases (show x = 0 ∨ x = 1 ∨ x = 2 ∨ x = 3 ∨ x = 4 ∨ x = 5 ∨ x = 6 ∨ x = 7 ∨ x = 8 ∨ x = 9 ∨ x = 10 ∨ x = 11 ∨ x = 12 ∨ x = 13 ∨ x = 14 ∨ x = 15 by omega) with rfl | rfl | rfl | rfl | rfl | rfl | rfl | rfl | rfl | rfl | rfl | rfl | rfl | rfl | rfl | rfl <;> decide) ?_
  refine gw_istore_n dJ6_bitCount_0f7a4_40 (by decide) rfl ?_
  refine gw_iload_n dJ6_bitCount_0f7a4_41 rfl ?_
  refine gw_iload_n dJ6_bitCount_0f7a4_42 rfl ?_
  refine gw_bipush (v := nI (16)) dJ6_bitCount_0f7a4_43 (by decide) ?_
  refine gw_iushr (v := nI (0)) dJ6_bitCount_0f7a4_45 (by rcases (show x = 0 ∨ x = 1 ∨ x = 2 ∨ x = 3 ∨ x = 4 ∨ x = 5 ∨ x = 6 ∨ x = 7 ∨ x = 8 ∨ x = 9 ∨ x = 10 ∨ x = 11 ∨ x = 12 ∨ x = 13 ∨ x = 14 ∨ x = 15 by omega) with rfl | rfl | rfl | rfl | rfl | rfl | rfl | rfl | rfl | rfl | rfl | rfl | rfl | rfl | rfl | rfl <;> decide) ?_
  refine gw_iadd dJ6_bitCount_0f7a4_46 ?_
  refine gw_topi (y := nI (pc16 x)) (by rcases (show x = 0 ∨ x = 1 ∨ x = 2 ∨ x = 3 ∨ x = 4 ∨ x = 5 ∨ x = 6 ∨ x = 7 ∨ x = 8 ∨ x = 9 ∨ x = 10 ∨ x = 11 ∨ x = 12 ∨ x = 13 ∨ x = 14 ∨ x = 15 by omega) with rfl | rfl | rfl | rfl | rfl | rfl | rfl | rfl | rfl | rfl | rfl | rfl | rfl | rfl | rfl | rfl <;> decide) ?_
  refine gw_istore_n dJ6_bitCount_0f7a4_47 (by decide) rfl ?_
  refine gw_iload_n dJ6_bitCount_0f7a4_48 rfl ?_
  refine gw_bipush (v := nI (63)) dJ6_bitCount_0f7a4_49 (by decide) ?_
  refine gw_iand dJ6_bitCount_0f7a4_51 ?_
  refine gw_topi (y := nI (pc16 x)) (by rcases (show x = 0 ∨ x = 1 ∨ x = 2 ∨ x = 3 ∨ x = 4 ∨ x = 5 ∨ x = 6 ∨ x = 7 ∨ x = 8 ∨ x = 9 ∨ x = 10 ∨ x = 11 ∨ x = 12 ∨ x = 13 ∨ x = 14 ∨ x = 15 by omega) with rfl | rfl | rfl | rfl | rfl | rfl | rfl | rfl | rfl | rfl | rfl | rfl | rfl | rfl | rfl | rfl <;> decide) ?_
  refine gw_iret (?_) (by decide) (by decide) rfl dJ6_bitCount_0f7a4_52
  subst hpost
  exact ⟨rfl, rfl⟩
theorem abs_n {x : Int64} (h : ¬ x.toInt = -9223372036854775808) : (if 0 < x then x else -x).toInt = (x.toInt.natAbs : Int) := by
  have h1 := Int64.le_toInt x; have h2 := Int64.toInt_lt x
  by_cases h0 : 0 < x
  · rw [if_pos h0]; rw [i64_lt] at h0
    have h0 : 0 < x.toInt := h0
    omega
  · rw [if_neg h0]; rw [i64_lt] at h0
    have h0 : ¬ 0 < x.toInt := h0
    rw [Int64.toInt_neg, Int.bmod_eq_of_le]
    · omega
    · have : (2 ^ 64 : Nat) / 2 = 9223372036854775808 := by decide
      omega
    · have : ((2 ^ 64 : Nat) + 1) / 2 = 9223372036854775808 := by decide
      omega
theorem bey_eq {v u : Int64} (hv : ¬ v.toInt = -9223372036854775808) (h0 : ¬ u = 0) (hu : u.toInt.natAbs ≤ 1000000000000) : (if 0 < v then v else -v) ≤ (1000000000000 : Int64) / (if 0 < u then u else -u) ↔ prIn v u = true := by
  have hz : ¬ u.toInt = 0 := fun e => h0 (Int64.toInt_inj.mp e)
  have e1 : ((1000000000000 : Int64) / (if 0 < u then u else -u)).toInt = 1000000000000 / (u.toInt.natAbs : Int) := by
    rw [Int64.toInt_div, abs_n (by omega), show (1000000000000 : Int64).toInt = 1000000000000 from by decide, Int.tdiv_eq_ediv_of_nonneg (by decide)]
    have h2 : (0 : Int) ≤ 1000000000000 / (u.toInt.natAbs : Int) := Int.ediv_nonneg (by decide) (by omega)
    have h3 : (1000000000000 : Int) / (u.toInt.natAbs : Int) ≤ 1000000000000 := Int.ediv_le_self _ (by decide)
    rw [Int.bmod_eq_of_le]
    · have : (2 ^ 64 : Nat) / 2 = 9223372036854775808 := by decide
      omega
    · have : ((2 ^ 64 : Nat) + 1) / 2 = 9223372036854775808 := by decide
      omega
  rw [i64_le, e1, abs_n hv]
  unfold prIn
  rw [inZ_t]
  generalize (1000000000000 : Int) / (u.toInt.natAbs : Int) = z
  omega
theorem abs_n0 {u : Int64} (h0 : ¬ u = 0) : ¬ (if 0 < u then u else -u) = 0 := by
  intro e
  split at e
  · exact h0 e
  · exact h0 (by rw [← Int64.neg_neg (a := u), e]; rfl)
abbrev kX4_isBeyond : gw_K := (yX4_isBeyond, cX4_isBeyond, 4, { frames := 1, cells := 0, slots := 0, locals := 60 }, (some .boolean))
theorem ok_X4_isBeyond : gw_calS kX4_isBeyond 2 := ⟨⟨wd_436, wd_58, by decide, by decide, by decide +kernel⟩, wd_435⟩
set_option maxHeartbeats 4000000 in
set_option maxRecDepth 100000 in
theorem c_isBeyond (l : Launch) (cy : Nat → ClassId) (v u : Int64) (hv : ¬ v.toInt = -9223372036854775808) (h0 : ¬ u = 0) (hu : u.toInt.natAbs ≤ 1000000000000) (w : va_W) : gw_M l kX4_isBeyond cy [.long (v), .long (u)] w (fun r w' => r = some (.int (bI (!prIn v u))) ∧ w' = w) := by
  refine gw_M.mk (lv := [some (.long (v)), none, some (.long (u)), none]) (by decide) (Nat.le_of_ble_eq_true rfl) rfl ?_
  generalize hpost : (fun r w' => r = some (.int (bI (!prIn v u))) ∧ w' = w : gw_Q) = post
  refine gw_lload_n dX4_isBeyond_0 rfl ?_
  refine gw_lconst (v := (0 : Int64)) dX4_isBeyond_1 (by decide) ?_
  refine gw_lcmp dX4_isBeyond_2 ?_
  refine gw_if_eq (tgt := 26) dX4_isBeyond_3 (by decide) (fun c3 => ?_) (fun c3 => ?_)
  · rw [lg_cmp_eq] at c3
    exact absurd c3 h0
  · refine gw_lload_n dX4_isBeyond_6 rfl ?_
    refine gw_mabsL wd_319 wd_320 wd_59 wd_c_abs ⟨by decide, Nat.le_of_ble_eq_true rfl, Nat.zero_le _, Nat.zero_le _⟩ dX4_isBeyond_7 ?_
    refine gw_ldc2 dX4_isBeyond_10 wd_322 ?_
    refine gw_lload_n dX4_isBeyond_13 rfl ?_
    refine gw_mabsL wd_319 wd_320 wd_59 wd_c_abs ⟨by decide, Nat.le_of_ble_eq_true rfl, Nat.zero_le _, Nat.zero_le _⟩ dX4_isBeyond_14 ?_
    refine gw_ldiv dX4_isBeyond_17 (abs_n0 h0) ?_
    refine gw_lcmp dX4_isBeyond_18 ?_
    refine gw_if_le (tgt := 26) dX4_isBeyond_19 (by decide) (fun c19 => ?_) (fun c19 => ?_)
    · rw [lg_cmp_le, bey_eq hv h0 hu] at c19
      refine gw_iconst (v := nI (0)) dX4_isBeyond_26 (by decide) ?_
      refine gw_zret (?_) (by decide) (by decide) rfl (by decide) dX4_isBeyond_27
      subst hpost
      refine ⟨?_, rfl⟩
      first
        | (rw [c19]; rfl)
        | (cases hb : prIn v u with
           | true => exact absurd hb c19
           | false => rfl)
    · rw [lg_cmp_le, bey_eq hv h0 hu] at c19
      refine gw_iconst (v := nI (1)) dX4_isBeyond_22 (by decide) ?_
      refine gw_goto (tgt := 27) dX4_isBeyond_23 (by decide) ?_
      refine gw_zret (?_) (by decide) (by decide) rfl (by decide) dX4_isBeyond_27
      subst hpost
      refine ⟨?_, rfl⟩
      first
        | (rw [c19]; rfl)
        | (cases hb : prIn v u with
           | true => exact absurd hb c19
           | false => rfl)
theorem bit01 : ∀ so, so < 16 → ∀ x, x < 4 → ((nI so >>> (nI x &&& 31)) &&& nI 1 = 0 ↔ ¬ (nI so >>> (nI x &&& 31)) &&& nI 1 = nI 1) := by decide
theorem mRow_0 (pl : Int32) (so x : Nat) : mRow pl so x = pl + mRow (nI 0) so x := by
  induction x with
  | zero => rw [mRow, mRow]; exact (Int32.add_zero pl).symm
  | succ x ih =>
    rw [mRow, mRow]
    split
    · rw [ih, Int32.add_assoc]
    · exact ih
abbrev kX4_squaredCosines : gw_K := (yX4_squaredCosines, cX4_squaredCosines, 3, { frames := 2, cells := 0, slots := 0, locals := 40 }, (some .int))
theorem ok_X4_squaredCosines : gw_calS kX4_squaredCosines 1 := ⟨⟨wd_444, wd_58, by decide, by decide, by decide +kernel⟩, wd_443⟩
set_option maxHeartbeats 4000000 in
set_option maxRecDepth 100000 in
theorem c_squaredCosines (l : Launch) (cy : Nat → ClassId) (so : Nat) (hs : so < 16) (w : va_W) : gw_M l kX4_squaredCosines cy [.int (nI (so))] w (fun r w' => r = some (.int (mRow (nI 0) so 4)) ∧ w' = w) := by
  refine gw_M.mk (lv := [some (.int (nI (so))), none, none]) (by decide) (Nat.le_of_ble_eq_true rfl) rfl ?_
  generalize hpost : (fun r w' => r = some (.int (mRow (nI 0) so 4)) ∧ w' = w : gw_Q) = post
  refine gw_iconst (v := nI (0)) dX4_squaredCosines_0 (by decide) ?_
  refine gw_topi (y := mRow (nI 0) so 0) (by rw [mRow]) ?_
  refine gw_istore_n dX4_squaredCosines_1 (by decide) rfl ?_
  refine gw_iconst (v := nI (0)) dX4_squaredCosines_2 (by decide) ?_
  refine gw_istore_n dX4_squaredCosines_3 (by decide) rfl ?_
  have cut4 : ∀ (fu : Nat) (x : Nat), (x ≤ 4) → (4 - x) < fu → gw_W l kX4_squaredCosines cy (gw_R kX4_squaredCosines post) w 0 0 4 [some (.int (nI (so))), some (.int (mRow (nI 0) so x)), some (.int (nI (x)))] [] := by
    intro fu
    induction fu with
    | zero => intro x x1 hfu; exact absurd hfu (Nat.not_lt_zero _)
    | succ fu ih4 =>
      intro x x1 hfu
      refine gw_iload_n dX4_squaredCosines_4 rfl ?_
      refine gw_iconst (v := nI (4)) dX4_squaredCosines_5 (by decide) ?_
      refine gw_icmpN_ge (tgt := 32) dX4_squaredCosines_6 (by decide) (by omega) (by omega) (fun c6 => ?_) (fun c6 => ?_)
      · have e1 : x = 4 := by omega
        subst e1
        refine gw_iload_n dX4_squaredCosines_32 rfl ?_
        refine gw_iret (?_) (by decide) (by decide) rfl dX4_squaredCosines_33
        subst hpost
        exact ⟨rfl, rfl⟩
      · refine gw_iload_n dX4_squaredCosines_9 rfl ?_
        refine gw_iload_n dX4_squaredCosines_10 rfl ?_
        refine gw_ishr dX4_squaredCosines_11 ?_
        refine gw_iconst (v := nI (1)) dX4_squaredCosines_12 (by decide) ?_
        refine gw_iand dX4_squaredCosines_13 ?_
        refine gw_if_eq (tgt := 26) dX4_squaredCosines_14 (by decide) (fun c14 => ?_) (fun c14 => ?_)
        · rw [bit01 so hs x (by omega)] at c14
          have e2 : mRow (nI 0) so (x + 1) = mRow (nI 0) so x := by rw [mRow, if_neg c14]
          rw [← e2]
          refine gw_iinc (v := nI (x + 1)) dX4_squaredCosines_26 rfl (nI_add _ 1) (by decide) rfl ?_
          refine gw_goto (tgt := 4) dX4_squaredCosines_29 (by decide) ?_
          refine ih4 (x + 1) (by omega) ?_
          omega
        · rw [bit01 so hs x (by omega), Classical.not_not] at c14
          refine gw_iload_n dX4_squaredCosines_17 rfl ?_
          refine gw_iconst (v := nI (2)) dX4_squaredCosines_18 (by decide) ?_
          refine gw_iload_n dX4_squaredCosines_19 rfl ?_
          refine gw_callSN (As := [.int (nI (x))]) (st := [.int (nI (2)), .int (mRow (nI 0) so x)]) (c_oneCosine l cy (x) (by omega) w) ok_X11_oneCosine (host := "SpinBench") (by decide +kernel) rfl rfl dX4_squaredCosines_20 (by decide) (by decide) (Nat.le_of_ble_eq_true rfl) (fun r20 w20 hp20 => ?_)
          obtain ⟨rfl, hw20⟩ := hp20
          rw [hw20]
          clear hw20 w20
          refine gw_W.norm (st' := [.int (mOneC (nI (x))), .int (nI (2)), .int (mRow (nI 0) so x)]) (k1 := 0) (k2 := 0) rfl rfl rfl ?_
          refine gw_imul dX4_squaredCosines_23 ?_
          refine gw_iadd dX4_squaredCosines_24 ?_
          refine gw_topi (y := mRow (nI 0) so (x + 1)) (by rw [mRow, if_pos c14]) ?_
          refine gw_istore_n dX4_squaredCosines_25 (by decide) rfl ?_
          refine gw_iinc (v := nI (x + 1)) dX4_squaredCosines_26 rfl (nI_add _ 1) (by decide) rfl ?_
          refine gw_goto (tgt := 4) dX4_squaredCosines_29 (by decide) ?_
          refine ih4 (x + 1) (by omega) ?_
          omega
  refine cut4 _ (0) (Nat.zero_le _) (Nat.lt_succ_self _)
