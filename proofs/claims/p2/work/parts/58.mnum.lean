def isTm (σ : aS) (s t : Int32) : Bool := inZ s.toInt (-1) 7 && inZ t.toInt 0 (((sSm σ (mPl s)).length : Int) - 1)
def spNumber (σ : aS) (s t : Int32) : Int64 × aS := if isTm σ s t = true then (((sSm σ (mPl s)).getD (tI t) (0, 0)).2, σ) else (-1000001, σ)
def powS (k v : Int32) : Int32 := if v.toInt < 0 then mProd k else if tI v % 2 = 0 then mCos k (nI (tI v / 2)) else mSin k (nI (tI v / 2))
def spPower (σ : aS) (s t v : Int32) : Int32 × aS := if isTm σ s t = true ∧ inZ v.toInt (-1) 7 = true then (powS ((sSm σ (mPl s)).getD (tI t) (0, 0)).1 v, σ) else (-1000001, σ)
theorem isTm_eq {n : Nat} {σ : aS} {s t : Int32} {a6 a7 : Nat → Int32} {b8 : Nat → Int64} (h : mI3 n σ.2.2.1 a6 a7 b8) : (inZ s.toInt (-1) 7 && inZ t.toInt 0 ((a6 (mPl s)).toInt - 1)) = isTm σ s t := by
  unfold isTm
  by_cases hs : inZ s.toInt (-1) 7 = true
  · obtain ⟨a1, a2, -, -⟩ := mI3_take h (mPl_lt hs)
    rw [a1, nI_toInt (by omega)]
  · rw [Bool.not_eq_true] at hs; rw [hs]; rfl
theorem isTm_t {n : Nat} {σ : aS} {s t : Int32} {a6 a7 : Nat → Int32} {b8 : Nat → Int64} (h : mI3 n σ.2.2.1 a6 a7 b8) (ht : isTm σ s t = true) : inZ s.toInt (-1) 7 = true ∧ mPl s < 9 ∧ t = nI (tI t) ∧ tI t < 300 ∧ a7 (300 * mPl s + tI t) = ((sSm σ (mPl s)).getD (tI t) (0, 0)).1 ∧ b8 (300 * mPl s + tI t) = ((sSm σ (mPl s)).getD (tI t) (0, 0)).2 := by
  unfold isTm at ht
  rw [Bool.and_eq_true] at ht
  obtain ⟨hs, h2⟩ := ht
  obtain ⟨a1, a2, a3, -⟩ := mI3_take h (mPl_lt hs)
  have h3 : tI t < (sSm σ (mPl s)).length := by rw [inZ_t] at h2; unfold tI; omega
  have a2 : (sSm σ (mPl s)).length ≤ 300 := a2
  have h4 : (sSm σ (mPl s)).getD (tI t) (0, 0) = (a7 (300 * mPl s + tI t), b8 (300 * mPl s + tI t)) := by
    rw [List.getD_eq_getElem?_getD, show sSm σ (mPl s) = takeS a7 b8 (300 * mPl s) (sSm σ (mPl s)).length from a3.symm, takeS_get h3]; rfl
  exact ⟨hs, mPl_lt hs, tI_eq h2, by omega, by rw [h4], by rw [h4]⟩
theorem tm_len {n : Nat} {sm : Nat → List sT} {a6 a7 : Nat → Int32} {b8 : Nat → Int64} (h : mI3 n sm a6 a7 b8) : ∀ j, j < 9 → ∃ z : Nat, a6 j = nI z ∧ z ≤ 300 := fun j hj => ⟨_, (mI3_take h hj).1, (mI3_take h hj).2.1⟩
abbrev kX12_number : gw_K := (yX12_number, cX12_number, 3, { frames := 3, cells := 0, slots := 0, locals := 67 }, (some .long))
theorem ok_X12_number : gw_calV kX12_number 2 := ⟨⟨wd_1031, wd_62, by decide, by decide, by decide +kernel⟩, wd_1029, wd_1030⟩
set_option maxHeartbeats 4000000 in
set_option maxRecDepth 100000 in
theorem t_mnumber (l : Launch) (cy : Nat → ClassId) (ad : Nat → Nat) (iv : Nat → Int32) (ia : Nat → Nat → Int32) (la : Nat → Nat → Int64) (σ : aS) (hI : mInv σ iv ia la) (s t : Int32) : gw_M l kX12_number cy [.ref (ad 0), .int (s), .int (t)] (mW cy ad iv ia la) (mPostL cy ad (spNumber σ s t)) := by
  refine gw_M.mk (lv := [some (.ref (ad 0)), some (.int (s)), some (.int (t))]) (by decide) (Nat.le_of_ble_eq_true rfl) rfl ?_
  generalize hpost : (mPostL cy ad (spNumber σ s t) : gw_Q) = post
  obtain ⟨i1, i2, i3, i4, i5, i6, i7, i8⟩ := hI
  refine gw_aload_n dX12_number_0 rfl ?_
  refine gw_iload_n dX12_number_1 rfl ?_
  refine gw_iload_n dX12_number_2 rfl ?_
  refine gw_callV 0 (As := [.int (s), .int (t)]) (st := []) (c_misTerm l cy ad iv ia la (s) (t) (tm_len i3)) ok_X12_isTerm rfl rfl rfl wd_1032 rfl rfl dX12_number_3 (by decide) (by decide) (Nat.le_of_ble_eq_true rfl) (fun r3 w3 hp3 => ?_)
  obtain ⟨rfl, rfl⟩ := hp3
  refine gw_W.norm (st' := [.int (bI (inZ (s).toInt (-1) 7 && inZ (t).toInt 0 ((ia 6 (mPl (s))).toInt - 1)))]) (k1 := 0) (k2 := 0) rfl rfl rfl ?_
  refine gw_if_eq (tgt := 27) dX12_number_6 (by decide) (fun c6 => ?_) (fun c6 => ?_)
  · rw [bI_0, isTm_eq i3] at c6
    refine gw_ldc2 dX12_number_27 wd_1036 ?_
    refine gw_lret (?_) (by decide) (by decide) rfl dX12_number_30
    subst hpost
    unfold spNumber
    first
      | (rw [if_pos c6]; exact ⟨rfl, iv, ia, la, rfl, i1, i2, i3, i4, i5, i6, i7, i8⟩)
      | (rw [if_neg (by rw [c6]; decide)]; exact ⟨rfl, iv, ia, la, rfl, i1, i2, i3, i4, i5, i6, i7, i8⟩)
  · rw [bI_n0, isTm_eq i3] at c6
    obtain ⟨d1, d2, d3, d4, d5, d6⟩ := isTm_t i3 c6
    refine gw_aload_n dX12_number_9 rfl ?_
    refine gm_get_number rfl dX12_number_10 ?_
    refine gw_sipush (v := nI (300)) dX12_number_13 (by decide) ?_
    refine gw_iload_n dX12_number_16 rfl ?_
    refine gw_callS (As := [.int (s)]) (st := [.int (nI (300)), .ref (ad 8)]) (c_mplaceOf l cy (s) (d1) (mW cy ad iv ia la)) ok_X12_placeOf wd_933 rfl rfl dX12_number_17 (by decide) (by decide) (Nat.le_of_ble_eq_true rfl) (fun r17 w17 hp17 => ?_)
    obtain ⟨rfl, rfl⟩ := hp17
    refine gw_W.norm (st' := [.int (nI (mPl (s))), .int (nI (300)), .ref (ad 8)]) (k1 := 0) (k2 := 0) rfl rfl rfl ?_
    refine gw_imulN dX12_number_20 ?_
    refine gw_iload_n dX12_number_21 rfl ?_
    refine gw_topi (y := nI (tI t)) (d3) ?_
    refine gw_iaddN dX12_number_22 ?_
    refine gm_ld_number (j := (300 * (mPl (s))) + (tI t)) (rfl) (by omega) dX12_number_23 ?_
    refine gw_topl (y := ((sSm σ (mPl s)).getD (tI t) (0, 0)).2) (d6) ?_
    refine gw_goto (tgt := 30) dX12_number_24 (by decide) ?_
    refine gw_lret (?_) (by decide) (by decide) rfl dX12_number_30
    subst hpost
    unfold spNumber
    first
      | (rw [if_pos c6]; exact ⟨rfl, iv, ia, la, rfl, i1, i2, i3, i4, i5, i6, i7, i8⟩)
      | (rw [if_neg (by rw [c6]; decide)]; exact ⟨rfl, iv, ia, la, rfl, i1, i2, i3, i4, i5, i6, i7, i8⟩)
abbrev kX12_powerOf : gw_K := (yX12_powerOf, cX12_powerOf, 2, { frames := 1, cells := 0, slots := 0, locals := 21 }, (some .int))
theorem ok_X12_powerOf : gw_calS kX12_powerOf 2 := ⟨⟨wd_1043, wd_62, by decide, by decide, by decide +kernel⟩, wd_1042⟩
set_option maxHeartbeats 4000000 in
set_option maxRecDepth 100000 in
theorem c_mpowerOf (l : Launch) (cy : Nat → ClassId) (k v : Int32) (hv : inZ v.toInt (-1) 7 = true) (w : va_W) : gw_M l kX12_powerOf cy [.int (k), .int (v)] w (fun r w' => r = some (.int (powS k v)) ∧ w' = w) := by
  refine gw_M.mk (lv := [some (.int (k)), some (.int (v))]) (by decide) (Nat.le_of_ble_eq_true rfl) rfl ?_
  generalize hpost : (fun r w' => r = some (.int (powS k v)) ∧ w' = w : gw_Q) = post
  refine gw_iload_n dX12_powerOf_0 rfl ?_
  refine gw_if_ge (tgt := 11) dX12_powerOf_1 (by decide) (fun c1 => ?_) (fun c1 => ?_)
  · rw [i32_le] at c1
    have c1 : 0 ≤ v.toInt := c1
    have hv9 := tI_of c1
    have hv7 : tI v ≤ 7 := by rw [inZ_t] at hv; unfold tI; omega
    refine gw_iload_n dX12_powerOf_11 rfl ?_
    refine gw_topi (y := nI (tI v)) (hv9) ?_
    refine gw_iconst (v := nI (2)) dX12_powerOf_12 (by decide) ?_
    refine gw_iremN dX12_powerOf_13 (by omega) (by omega) (by omega) ?_
    refine gw_ifN_ne (tgt := 27) dX12_powerOf_14 (by decide) (by omega) (fun c14 => ?_) (fun c14 => ?_)
    · refine gw_iload_n dX12_powerOf_27 rfl ?_
      refine gw_iload_n dX12_powerOf_28 rfl ?_
      refine gw_topi (y := nI (tI v)) (hv9) ?_
      refine gw_iconst (v := nI (2)) dX12_powerOf_29 (by decide) ?_
      refine gw_idivN dX12_powerOf_30 (by omega) (by omega) (by omega) ?_
      refine gw_callS (As := [.int (k), .int (nI ((tI v) / (2)))]) (st := []) (c_msine l cy (k) (nI ((tI v) / (2))) w) ok_X12_sine wd_1018 rfl rfl dX12_powerOf_31 (by decide) (by decide) (Nat.le_of_ble_eq_true rfl) (fun r31 w31 hp31 => ?_)
      obtain ⟨rfl, rfl⟩ := hp31
      refine gw_W.norm (st' := [.int (mSin (k) (nI ((tI v) / (2))))]) (k1 := 0) (k2 := 0) rfl rfl rfl ?_
      refine gw_iret (?_) (by decide) (by decide) rfl dX12_powerOf_34
      subst hpost
      refine ⟨?_, rfl⟩
      unfold powS
      first
        | rw [if_pos (by omega)]
        | rw [if_neg (by omega), if_pos c14]
        | rw [if_neg (by omega), if_neg c14]
    · refine gw_iload_n dX12_powerOf_17 rfl ?_
      refine gw_iload_n dX12_powerOf_18 rfl ?_
      refine gw_topi (y := nI (tI v)) (hv9) ?_
      refine gw_iconst (v := nI (2)) dX12_powerOf_19 (by decide) ?_
      refine gw_idivN dX12_powerOf_20 (by omega) (by omega) (by omega) ?_
      refine gw_callS (As := [.int (k), .int (nI ((tI v) / (2)))]) (st := []) (c_mcosine l cy (k) (nI ((tI v) / (2))) w) ok_X12_cosine wd_962 rfl rfl dX12_powerOf_21 (by decide) (by decide) (Nat.le_of_ble_eq_true rfl) (fun r21 w21 hp21 => ?_)
      obtain ⟨rfl, rfl⟩ := hp21
      refine gw_W.norm (st' := [.int (mCos (k) (nI ((tI v) / (2))))]) (k1 := 0) (k2 := 0) rfl rfl rfl ?_
      refine gw_goto (tgt := 34) dX12_powerOf_24 (by decide) ?_
      refine gw_iret (?_) (by decide) (by decide) rfl dX12_powerOf_34
      subst hpost
      refine ⟨?_, rfl⟩
      unfold powS
      first
        | rw [if_pos (by omega)]
        | rw [if_neg (by omega), if_pos c14]
        | rw [if_neg (by omega), if_neg c14]
  · rw [i32_le] at c1
    have c1 : ¬ 0 ≤ v.toInt := c1
    refine gw_iload_n dX12_powerOf_4 rfl ?_
    refine gw_callS (As := [.int (k)]) (st := []) (c_mproductOf l cy (k) w) ok_X12_productOf wd_992 rfl rfl dX12_powerOf_5 (by decide) (by decide) (Nat.le_of_ble_eq_true rfl) (fun r5 w5 hp5 => ?_)
    obtain ⟨rfl, rfl⟩ := hp5
    refine gw_W.norm (st' := [.int (mProd (k))]) (k1 := 0) (k2 := 0) rfl rfl rfl ?_
    refine gw_goto (tgt := 34) dX12_powerOf_8 (by decide) ?_
    refine gw_iret (?_) (by decide) (by decide) rfl dX12_powerOf_34
    subst hpost
    refine ⟨?_, rfl⟩
    unfold powS
    first
      | rw [if_pos (by omega)]
      | rw [if_neg (by omega), if_pos c14]
      | rw [if_neg (by omega), if_neg c14]
abbrev kX12_power : gw_K := (yX12_power, cX12_power, 4, { frames := 3, cells := 0, slots := 0, locals := 67 }, (some .int))
theorem ok_X12_power : gw_calV kX12_power 3 := ⟨⟨wd_1040, wd_62, by decide, by decide, by decide +kernel⟩, wd_1038, wd_1039⟩
set_option maxHeartbeats 4000000 in
set_option maxRecDepth 100000 in
theorem t_mpower (l : Launch) (cy : Nat → ClassId) (ad : Nat → Nat) (iv : Nat → Int32) (ia : Nat → Nat → Int32) (la : Nat → Nat → Int64) (σ : aS) (hI : mInv σ iv ia la) (s t v : Int32) : gw_M l kX12_power cy [.ref (ad 0), .int (s), .int (t), .int (v)] (mW cy ad iv ia la) (mPost cy ad (spPower σ s t v)) := by
  refine gw_M.mk (lv := [some (.ref (ad 0)), some (.int (s)), some (.int (t)), some (.int (v))]) (by decide) (Nat.le_of_ble_eq_true rfl) rfl ?_
  generalize hpost : (mPost cy ad (spPower σ s t v) : gw_Q) = post
  obtain ⟨i1, i2, i3, i4, i5, i6, i7, i8⟩ := hI
  refine gw_aload_n dX12_power_0 rfl ?_
  refine gw_iload_n dX12_power_1 rfl ?_
  refine gw_iload_n dX12_power_2 rfl ?_
  refine gw_callV 0 (As := [.int (s), .int (t)]) (st := []) (c_misTerm l cy ad iv ia la (s) (t) (tm_len i3)) ok_X12_isTerm rfl rfl rfl wd_1032 rfl rfl dX12_power_3 (by decide) (by decide) (Nat.le_of_ble_eq_true rfl) (fun r3 w3 hp3 => ?_)
  obtain ⟨rfl, rfl⟩ := hp3
  refine gw_W.norm (st' := [.int (bI (inZ (s).toInt (-1) 7 && inZ (t).toInt 0 ((ia 6 (mPl (s))).toInt - 1)))]) (k1 := 0) (k2 := 0) rfl rfl rfl ?_
  refine gw_if_eq (tgt := 45) dX12_power_6 (by decide) (fun c6 => ?_) (fun c6 => ?_)
  · rw [bI_0, isTm_eq i3] at c6
    refine gw_ldc dX12_power_45 wd_903 ?_
    refine gw_iret (?_) (by decide) (by decide) rfl dX12_power_47
    subst hpost
    unfold spPower
    first
      | (rw [if_pos ⟨c6, c21⟩]; exact ⟨rfl, iv, ia, la, rfl, i1, i2, i3, i4, i5, i6, i7, i8⟩)
      | (rw [if_neg (fun h => by first | exact absurd h.1 (by rw [c6]; decide) | exact absurd h.2 (by rw [c21]; decide))]; exact ⟨rfl, iv, ia, la, rfl, i1, i2, i3, i4, i5, i6, i7, i8⟩)
  · rw [bI_n0, isTm_eq i3] at c6
    obtain ⟨d1, d2, d3, d4, d5, d6⟩ := isTm_t i3 c6
    refine gw_iload_n dX12_power_9 rfl ?_
    refine gw_i2l dX12_power_10 rfl ?_
    refine gw_ldc2 dX12_power_11 wd_932 ?_
    refine gw_ldc2 dX12_power_14 wd_898 ?_
    refine gw_callS (As := [.long ((v).toInt64), .long (((-1) : Int64)), .long ((7 : Int64))]) (st := []) (c_min l cy ((v).toInt64) (((-1) : Int64)) ((7 : Int64)) (mW cy ad iv ia la)) ok_X12_in wd_899 rfl rfl dX12_power_17 (by decide) (by decide) (Nat.le_of_ble_eq_true rfl) (fun r17 w17 hp17 => ?_)
    obtain ⟨rfl, rfl⟩ := hp17
    refine gw_W.norm (st' := [.int (bI (inZ ((v).toInt64).toInt (((-1) : Int64)).toInt ((7 : Int64)).toInt))]) (k1 := 0) (k2 := 0) rfl rfl rfl ?_
    refine gw_if_eq (tgt := 45) dX12_power_20 (by decide) (fun c20 => ?_) (fun c20 => ?_)
    · rw [bI_0, i64_of] at c20
      have c21 : inZ v.toInt (-1) 7 = false := c20
      refine gw_ldc dX12_power_45 wd_903 ?_
      refine gw_iret (?_) (by decide) (by decide) rfl dX12_power_47
      subst hpost
      unfold spPower
      first
        | (rw [if_pos ⟨c6, c21⟩]; exact ⟨rfl, iv, ia, la, rfl, i1, i2, i3, i4, i5, i6, i7, i8⟩)
        | (rw [if_neg (fun h => by first | exact absurd h.1 (by rw [c6]; decide) | exact absurd h.2 (by rw [c21]; decide))]; exact ⟨rfl, iv, ia, la, rfl, i1, i2, i3, i4, i5, i6, i7, i8⟩)
    · rw [bI_n0, i64_of] at c20
      have c21 : inZ v.toInt (-1) 7 = true := c20
      refine gw_aload_n dX12_power_23 rfl ?_
      refine gm_get_key rfl dX12_power_24 ?_
      refine gw_sipush (v := nI (300)) dX12_power_27 (by decide) ?_
      refine gw_iload_n dX12_power_30 rfl ?_
      refine gw_callS (As := [.int (s)]) (st := [.int (nI (300)), .ref (ad 7)]) (c_mplaceOf l cy (s) (d1) (mW cy ad iv ia la)) ok_X12_placeOf wd_933 rfl rfl dX12_power_31 (by decide) (by decide) (Nat.le_of_ble_eq_true rfl) (fun r31 w31 hp31 => ?_)
      obtain ⟨rfl, rfl⟩ := hp31
      refine gw_W.norm (st' := [.int (nI (mPl (s))), .int (nI (300)), .ref (ad 7)]) (k1 := 0) (k2 := 0) rfl rfl rfl ?_
      refine gw_imulN dX12_power_34 ?_
      refine gw_iload_n dX12_power_35 rfl ?_
      refine gw_topi (y := nI (tI t)) (d3) ?_
      refine gw_iaddN dX12_power_36 ?_
      refine gm_ld_key (j := (300 * (mPl (s))) + (tI t)) (rfl) (by omega) dX12_power_37 ?_
      refine gw_topi (y := ((sSm σ (mPl s)).getD (tI t) (0, 0)).1) (d5) ?_
      refine gw_iload_n dX12_power_38 rfl ?_
      refine gw_callS (As := [.int (((sSm σ (mPl s)).getD (tI t) (0, 0)).1), .int (v)]) (st := []) (c_mpowerOf l cy (((sSm σ (mPl s)).getD (tI t) (0, 0)).1) (v) c21 (mW cy ad iv ia la)) ok_X12_powerOf wd_1041 rfl rfl dX12_power_39 (by decide) (by decide) (Nat.le_of_ble_eq_true rfl) (fun r39 w39 hp39 => ?_)
      obtain ⟨rfl, rfl⟩ := hp39
      refine gw_W.norm (st' := [.int (powS (((sSm σ (mPl s)).getD (tI t) (0, 0)).1) (v))]) (k1 := 0) (k2 := 0) rfl rfl rfl ?_
      refine gw_goto (tgt := 47) dX12_power_42 (by decide) ?_
      refine gw_iret (?_) (by decide) (by decide) rfl dX12_power_47
      subst hpost
      unfold spPower
      first
        | (rw [if_pos ⟨c6, c21⟩]; exact ⟨rfl, iv, ia, la, rfl, i1, i2, i3, i4, i5, i6, i7, i8⟩)
        | (rw [if_neg (fun h => by first | exact absurd h.1 (by rw [c6]; decide) | exact absurd h.2 (by rw [c21]; decide))]; exact ⟨rfl, iv, ia, la, rfl, i1, i2, i3, i4, i5, i6, i7, i8⟩)
