abbrev kX12_kept : gw_K := (yX12_kept, cX12_kept, 2, { frames := 2, cells := 0, slots := 0, locals := 50 }, (some .int))
theorem ok_X12_kept : gw_calV kX12_kept 1 := ⟨⟨wd_955, wd_62, by decide, by decide, by decide +kernel⟩, wd_954, wd_37⟩
set_option maxHeartbeats 4000000 in
set_option maxRecDepth 100000 in
theorem c_mkept (l : Launch) (cy : Nat → ClassId) (ad : Nat → Nat) (iv : Nat → Int32) (ia : Nat → Nat → Int32) (la : Nat → Nat → Int64) (n t : Nat) (hn : iv 9 = nI n) (hlt : n ≤ 1000) (ht : t < 18) : gw_M l kX12_kept cy [.ref (ad 0), .int (nI (t))] (mW cy ad iv ia la) (fun r w' => ∃ F : Option (List sT), F = keepS (takeS (ia 10) (la 11) 0 n) ∧ r = ansN F ∧ (F = none → w' = mW cy ad iv ia la) ∧ ∀ S, F = some S → ∃ (kk : Nat → Int32) (nn : Nat → Int64), w' = mW cy ad iv (va_up (va_up ia 6 (upd (ia 6) t (nI S.length))) 7 kk) (va_up la 8 nn) ∧ takeS kk nn (300 * t) S.length = S ∧ ∀ j, (j < 300 * t ∨ 300 * t + 300 ≤ j) → kk j = ia 7 j ∧ nn j = la 8 j) := by
  refine gw_M.mk (lv := [some (.ref (ad 0)), some (.int (nI (t)))]) (by decide) (Nat.le_of_ble_eq_true rfl) rfl ?_
  generalize hpost : (fun r w' => ∃ F : Option (List sT), F = keepS (takeS (ia 10) (la 11) 0 n) ∧ r = ansN F ∧ (F = none → w' = mW cy ad iv ia la) ∧ ∀ S, F = some S → ∃ (kk : Nat → Int32) (nn : Nat → Int64), w' = mW cy ad iv (va_up (va_up ia 6 (upd (ia 6) t (nI S.length))) 7 kk) (va_up la 8 nn) ∧ takeS kk nn (300 * t) S.length = S ∧ ∀ j, (j < 300 * t ∨ 300 * t + 300 ≤ j) → kk j = ia 7 j ∧ nn j = la 8 j : gw_Q) = post
  refine gw_aload_n dX12_kept_0 rfl ?_
  refine gw_iload_n dX12_kept_1 rfl ?_
  refine gw_callV 0 (As := [.int (nI (t))]) (st := []) (c_mkeep l cy ad iv ia la (n) (t) (hn) (hlt) (ht)) ok_X12_keep rfl rfl rfl wd_956 rfl rfl dX12_kept_2 (by decide) (by decide) (Nat.le_of_ble_eq_true rfl) (fun r2 w2 hp2 => ?_)
  obtain ⟨F2, hF2, rfl, hN2, hS2⟩ := hp2
  cases F2 with
  | none =>
    obtain rfl := hN2 rfl
    refine gw_W.norm (st' := [.int (nI (0))]) (k1 := 0) (k2 := 0) rfl rfl rfl ?_
    refine gw_ifN_eq (tgt := 17) dX12_kept_5 (by decide) (by omega) (fun _ => ?_) (fun h => absurd h (by decide))
    refine gw_ldc dX12_kept_17 wd_965 ?_
    refine gw_iret (?_) (by decide) (by decide) rfl dX12_kept_19
    subst hpost
    first
      | exact ⟨none, hF2, rfl, fun _ => rfl, fun S h => by cases h⟩
      | exact ⟨some S2, hF2, rfl, fun h => (by cases h), fun S h => (by cases h; exact ⟨kk2, nn2, rfl, hT2, hO2⟩)⟩
  | some S2 =>
    obtain ⟨kk2, nn2, rfl, hT2, hO2⟩ := hS2 S2 rfl
    refine gw_W.norm (st' := [.int (nI (1))]) (k1 := 0) (k2 := 0) rfl rfl rfl ?_
    refine gw_W.wd (w' := (mW cy ad iv (va_up (va_up ia 6 (upd (ia 6) (t) (nI (S2.length)))) 7 (kk2)) (va_up la 8 (nn2)))) rfl ?_
    refine gw_ifN_eq (tgt := 17) dX12_kept_5 (by decide) (by omega) (fun h => absurd h (by decide)) (fun _ => ?_)
    refine gw_aload_n dX12_kept_8 rfl ?_
    refine gm_get_many rfl dX12_kept_9 ?_
    refine gw_iload_n dX12_kept_12 rfl ?_
    refine gm_ld_many (j := t) (rfl) (by omega) dX12_kept_13 ?_
    refine gw_topi (y := (upd (ia 6) (t) (nI (S2.length))) (t)) rfl ?_
    refine gw_topi (y := nI (S2.length)) (pk_us) ?_
    refine gw_goto (tgt := 19) dX12_kept_14 (by decide) ?_
    refine gw_iret (?_) (by decide) (by decide) rfl dX12_kept_19
    subst hpost
    first
      | exact ⟨none, hF2, rfl, fun _ => rfl, fun S h => by cases h⟩
      | exact ⟨some S2, hF2, rfl, fun h => (by cases h), fun S h => (by cases h; exact ⟨kk2, nn2, rfl, hT2, hO2⟩)⟩
abbrev kX12_isTerm : gw_K := (yX12_isTerm, cX12_isTerm, 3, { frames := 2, cells := 0, slots := 0, locals := 45 }, (some .boolean))
theorem ok_X12_isTerm : gw_calV kX12_isTerm 2 := ⟨⟨wd_1035, wd_62, by decide, by decide, by decide +kernel⟩, wd_1034, wd_45⟩
set_option maxHeartbeats 4000000 in
set_option maxRecDepth 100000 in
theorem c_misTerm (l : Launch) (cy : Nat → ClassId) (ad : Nat → Nat) (iv : Nat → Int32) (ia : Nat → Nat → Int32) (la : Nat → Nat → Int64) (s t : Int32) (hm : ∀ j, j < 9 → ∃ z : Nat, ia 6 j = nI z ∧ z ≤ 300) : gw_M l kX12_isTerm cy [.ref (ad 0), .int (s), .int (t)] (mW cy ad iv ia la) (fun r w' => r = some (.int (bI (inZ s.toInt (-1) 7 && inZ t.toInt 0 ((ia 6 (mPl s)).toInt - 1)))) ∧ w' = mW cy ad iv ia la) := by
  refine gw_M.mk (lv := [some (.ref (ad 0)), some (.int (s)), some (.int (t))]) (by decide) (Nat.le_of_ble_eq_true rfl) rfl ?_
  generalize hpost : (fun r w' => r = some (.int (bI (inZ s.toInt (-1) 7 && inZ t.toInt 0 ((ia 6 (mPl s)).toInt - 1)))) ∧ w' = mW cy ad iv ia la : gw_Q) = post
  refine gw_iload_n dX12_isTerm_0 rfl ?_
  refine gw_callS (As := [.int (s)]) (st := []) (c_misShelf l cy (s) (mW cy ad iv ia la)) ok_X12_isShelf wd_929 rfl rfl dX12_isTerm_1 (by decide) (by decide) (Nat.le_of_ble_eq_true rfl) (fun r1 w1 hp1 => ?_)
  obtain ⟨rfl, rfl⟩ := hp1
  refine gw_W.norm (st' := [.int (bI (inZ (s).toInt (-1) 7))]) (k1 := 0) (k2 := 0) rfl rfl rfl ?_
  refine gw_if_eq (tgt := 32) dX12_isTerm_4 (by decide) (fun c4 => ?_) (fun c4 => ?_)
  · rw [bI_0] at c4
    refine gw_iconst (v := nI (0)) dX12_isTerm_32 (by decide) ?_
    refine gw_zret (?_) (by decide) (by decide) rfl (by decide) dX12_isTerm_33
    subst hpost
    refine ⟨?_, rfl⟩
    first
      | (rw [c4]; rfl)
      | (rw [i64_of, i64_of, i32_sub1 _ (by omega)] at c25
         rw [c4, hz, nI_toInt (by omega)]
         rw [show inZ t.toInt 0 ((z : Int) - 1) = _ from c25]; rfl)
  · rw [bI_n0] at c4
    refine gw_iload_n dX12_isTerm_7 rfl ?_
    refine gw_i2l dX12_isTerm_8 rfl ?_
    refine gw_lconst (v := (0 : Int64)) dX12_isTerm_9 (by decide) ?_
    refine gw_aload_n dX12_isTerm_10 rfl ?_
    refine gm_get_many rfl dX12_isTerm_11 ?_
    refine gw_iload_n dX12_isTerm_14 rfl ?_
    refine gw_callS (As := [.int (s)]) (st := [.ref (ad 6), .long ((0 : Int64)), .long ((t).toInt64)]) (c_mplaceOf l cy (s) (c4) (mW cy ad iv ia la)) ok_X12_placeOf wd_933 rfl rfl dX12_isTerm_15 (by decide) (by decide) (Nat.le_of_ble_eq_true rfl) (fun r15 w15 hp15 => ?_)
    obtain ⟨rfl, rfl⟩ := hp15
    refine gw_W.norm (st' := [.int (nI (mPl (s))), .ref (ad 6), .long ((0 : Int64)), .long ((t).toInt64)]) (k1 := 0) (k2 := 0) rfl rfl rfl ?_
    obtain ⟨z, hz, hz3⟩ := hm _ (mPl_lt c4)
    refine gm_ld_many (j := mPl (s)) (rfl) (by have := mPl_lt c4; omega) dX12_isTerm_18 ?_
    refine gw_topi (y := nI (z)) (hz) ?_
    refine gw_iconst (v := nI (1)) dX12_isTerm_19 (by decide) ?_
    refine gw_isub dX12_isTerm_20 ?_
    refine gw_i2l dX12_isTerm_21 rfl ?_
    refine gw_callS (As := [.long ((t).toInt64), .long ((0 : Int64)), .long (((nI (z)) - (nI (1))).toInt64)]) (st := []) (c_min l cy ((t).toInt64) ((0 : Int64)) (((nI (z)) - (nI (1))).toInt64) (mW cy ad iv ia la)) ok_X12_in wd_899 rfl rfl dX12_isTerm_22 (by decide) (by decide) (Nat.le_of_ble_eq_true rfl) (fun r22 w22 hp22 => ?_)
    obtain ⟨rfl, rfl⟩ := hp22
    refine gw_W.norm (st' := [.int (bI (inZ ((t).toInt64).toInt ((0 : Int64)).toInt (((nI (z)) - (nI (1))).toInt64).toInt))]) (k1 := 0) (k2 := 0) rfl rfl rfl ?_
    refine gw_if_eq (tgt := 32) dX12_isTerm_25 (by decide) (fun c25 => ?_) (fun c25 => ?_)
    · rw [bI_0] at c25
      refine gw_iconst (v := nI (0)) dX12_isTerm_32 (by decide) ?_
      refine gw_zret (?_) (by decide) (by decide) rfl (by decide) dX12_isTerm_33
      subst hpost
      refine ⟨?_, rfl⟩
      first
        | (rw [c4]; rfl)
        | (rw [i64_of, i64_of, i32_sub1 _ (by omega)] at c25
           rw [c4, hz, nI_toInt (by omega)]
           rw [show inZ t.toInt 0 ((z : Int) - 1) = _ from c25]; rfl)
    · rw [bI_n0] at c25
      refine gw_iconst (v := nI (1)) dX12_isTerm_28 (by decide) ?_
      refine gw_goto (tgt := 33) dX12_isTerm_29 (by decide) ?_
      refine gw_zret (?_) (by decide) (by decide) rfl (by decide) dX12_isTerm_33
      subst hpost
      refine ⟨?_, rfl⟩
      first
        | (rw [c4]; rfl)
        | (rw [i64_of, i64_of, i32_sub1 _ (by omega)] at c25
           rw [c4, hz, nI_toInt (by omega)]
           rw [show inZ t.toInt 0 ((z : Int) - 1) = _ from c25]; rfl)
abbrev kX12_come : gw_K := (yX12_come, cX12_come, 6, { frames := 0, cells := 0, slots := 0, locals := 0 }, (some .int))
theorem ok_X12_come : gw_calV kX12_come 5 := ⟨⟨wd_1073, wd_62, by decide, by decide, by decide +kernel⟩, wd_1072, wd_48⟩
set_option maxHeartbeats 4000000 in
set_option maxRecDepth 100000 in
theorem c_mcome (l : Launch) (cy : Nat → ClassId) (ad : Nat → Nat) (iv : Nat → Int32) (ia : Nat → Nat → Int32) (la : Nat → Nat → Int64) (n : Nat) (a b d e f : Int32) (hn : iv 12 = nI n) (h40 : n ≤ 40) : gw_M l kX12_come cy [.ref (ad 0), .int (a), .int (b), .int (d), .int (e), .int (f)] (mW cy ad iv ia la) (fun r w' => (n = 40 → r = some (.int (-1000003)) ∧ w' = mW cy ad iv ia la) ∧ (n < 40 → r = some (.int (nI n)) ∧ w' = mW cy ad (va_up iv 12 (nI (n + 1))) (va_up (va_up (va_up (va_up (va_up ia 13 (upd (ia 13) n a)) 14 (upd (ia 14) n b)) 15 (upd (ia 15) n d)) 16 (upd (ia 16) n e)) 17 (upd (ia 17) n f)) la)) := by
  refine gw_M.mk (lv := [some (.ref (ad 0)), some (.int (a)), some (.int (b)), some (.int (d)), some (.int (e)), some (.int (f))]) (by decide) (Nat.le_of_ble_eq_true rfl) rfl ?_
  generalize hpost : (fun r w' => (n = 40 → r = some (.int (-1000003)) ∧ w' = mW cy ad iv ia la) ∧ (n < 40 → r = some (.int (nI n)) ∧ w' = mW cy ad (va_up iv 12 (nI (n + 1))) (va_up (va_up (va_up (va_up (va_up ia 13 (upd (ia 13) n a)) 14 (upd (ia 14) n b)) 15 (upd (ia 15) n d)) 16 (upd (ia 16) n e)) 17 (upd (ia 17) n f)) la) : gw_Q) = post
  refine gw_aload_n dX12_come_0 rfl ?_
  refine gm_get_ops rfl dX12_come_1 ?_
  refine gw_topi (y := nI (n)) (hn) ?_
  refine gw_bipush (v := nI (40)) dX12_come_4 (by decide) ?_
  refine gw_icmpN_ne (tgt := 12) dX12_come_6 (by decide) (by omega) (by omega) (fun c6 => ?_) (fun c6 => ?_)
  · refine gw_aload_n dX12_come_12 rfl ?_
    refine gm_get_kind rfl dX12_come_13 ?_
    refine gw_aload_n dX12_come_16 rfl ?_
    refine gm_get_ops rfl dX12_come_17 ?_
    refine gw_topi (y := nI (n)) (hn) ?_
    refine gw_iload_n dX12_come_20 rfl ?_
    refine gm_st_kind (j := n) (rfl) (by omega) dX12_come_21 ?_
    refine gw_W.wd (w' := (mW cy ad iv (va_up ia 13 (upd (ia 13) (n) (a))) la)) rfl ?_
    refine gw_aload_n dX12_come_22 rfl ?_
    refine gm_get_set rfl dX12_come_23 ?_
    refine gw_aload_n dX12_come_26 rfl ?_
    refine gm_get_ops rfl dX12_come_27 ?_
    refine gw_topi (y := nI (n)) (hn) ?_
    refine gw_iload_n dX12_come_30 rfl ?_
    refine gm_st_set (j := n) (rfl) (by omega) dX12_come_31 ?_
    refine gw_W.wd (w' := (mW cy ad iv (va_up (va_up ia 13 (upd (ia 13) (n) (a))) 14 (upd (ia 14) (n) (b))) la)) rfl ?_
    refine gw_aload_n dX12_come_32 rfl ?_
    refine gm_get_phase rfl dX12_come_33 ?_
    refine gw_aload_n dX12_come_36 rfl ?_
    refine gm_get_ops rfl dX12_come_37 ?_
    refine gw_topi (y := nI (n)) (hn) ?_
    refine gw_iload_n dX12_come_40 rfl ?_
    refine gm_st_phase (j := n) (rfl) (by omega) dX12_come_41 ?_
    refine gw_W.wd (w' := (mW cy ad iv (va_up (va_up (va_up ia 13 (upd (ia 13) (n) (a))) 14 (upd (ia 14) (n) (b))) 15 (upd (ia 15) (n) (d))) la)) rfl ?_
    refine gw_aload_n dX12_come_42 rfl ?_
    refine gm_get_turns rfl dX12_come_43 ?_
    refine gw_aload_n dX12_come_46 rfl ?_
    refine gm_get_ops rfl dX12_come_47 ?_
    refine gw_topi (y := nI (n)) (hn) ?_
    refine gw_iload dX12_come_50 rfl ?_
    refine gm_st_turns (j := n) (rfl) (by omega) dX12_come_52 ?_
    refine gw_W.wd (w' := (mW cy ad iv (va_up (va_up (va_up (va_up ia 13 (upd (ia 13) (n) (a))) 14 (upd (ia 14) (n) (b))) 15 (upd (ia 15) (n) (d))) 16 (upd (ia 16) (n) (e))) la)) rfl ?_
    refine gw_aload_n dX12_come_53 rfl ?_
    refine gm_get_table rfl dX12_come_54 ?_
    refine gw_aload_n dX12_come_57 rfl ?_
    refine gm_get_ops rfl dX12_come_58 ?_
    refine gw_topi (y := nI (n)) (hn) ?_
    refine gw_iload dX12_come_61 rfl ?_
    refine gm_st_table (j := n) (rfl) (by omega) dX12_come_63 ?_
    refine gw_W.wd (w' := (mW cy ad iv (va_up (va_up (va_up (va_up (va_up ia 13 (upd (ia 13) (n) (a))) 14 (upd (ia 14) (n) (b))) 15 (upd (ia 15) (n) (d))) 16 (upd (ia 16) (n) (e))) 17 (upd (ia 17) (n) (f))) la)) rfl ?_
    refine gw_aload_n dX12_come_64 rfl ?_
    refine gw_dup dX12_come_65 rfl ?_
    refine gm_get_ops rfl dX12_come_66 ?_
    refine gw_topi (y := nI (n)) (hn) ?_
    refine gw_iconst (v := nI (1)) dX12_come_69 (by decide) ?_
    refine gw_iaddN dX12_come_70 ?_
    refine gm_put_ops rfl dX12_come_71 ?_
    refine gw_W.wd (w' := (mW cy ad (va_up iv 12 (nI (n + 1))) (va_up (va_up (va_up (va_up (va_up ia 13 (upd (ia 13) (n) (a))) 14 (upd (ia 14) (n) (b))) 15 (upd (ia 15) (n) (d))) 16 (upd (ia 16) (n) (e))) 17 (upd (ia 17) (n) (f))) la)) rfl ?_
    refine gw_aload_n dX12_come_74 rfl ?_
    refine gm_get_ops rfl dX12_come_75 ?_
    refine gw_topi (y := nI (n + 1)) (rfl) ?_
    refine gw_iconst (v := nI (1)) dX12_come_78 (by decide) ?_
    refine gw_isubN dX12_come_79 (by omega) ?_
    refine gw_iret (?_) (by decide) (by decide) rfl dX12_come_80
    subst hpost
    first
      | exact ⟨fun _ => ⟨rfl, rfl⟩, fun h => absurd h (by omega)⟩
      | exact ⟨fun h => absurd h (by omega), fun _ => ⟨rfl, rfl⟩⟩
  · refine gw_ldc dX12_come_9 wd_965 ?_
    refine gw_iret (?_) (by decide) (by decide) rfl dX12_come_11
    subst hpost
    first
      | exact ⟨fun _ => ⟨rfl, rfl⟩, fun h => absurd h (by omega)⟩
      | exact ⟨fun h => absurd h (by omega), fun _ => ⟨rfl, rfl⟩⟩
abbrev kX12_begins : gw_K := (yX12_begins, cX12_begins, 2, { frames := 0, cells := 0, slots := 0, locals := 0 }, none)
theorem ok_X12_begins : gw_calV kX12_begins 1 := ⟨⟨wd_1127, wd_62, by decide, by decide, by decide +kernel⟩, wd_1126, wd_51⟩
set_option maxHeartbeats 4000000 in
set_option maxRecDepth 100000 in
theorem c_mbegins (l : Launch) (cy : Nat → ClassId) (ad : Nat → Nat) (iv : Nat → Int32) (ia : Nat → Nat → Int32) (la : Nat → Nat → Int64) (b : Int32) (n : Nat) (hn : iv 21 = nI n) (h16 : n ≤ 16) : gw_M l kX12_begins cy [.ref (ad 0), .int (b)] (mW cy ad iv ia la) (fun r w' => r = none ∧ w' = (if n < 16 then mW cy ad (va_up iv 21 (nI (n + 1))) (va_up ia 20 (upd (ia 20) n b)) la else mW cy ad iv ia la)) := by
  refine gw_M.mk (lv := [some (.ref (ad 0)), some (.int (b))]) (by decide) (Nat.le_of_ble_eq_true rfl) rfl ?_
  generalize hpost : (fun r w' => r = none ∧ w' = (if n < 16 then mW cy ad (va_up iv 21 (nI (n + 1))) (va_up ia 20 (upd (ia 20) n b)) la else mW cy ad iv ia la) : gw_Q) = post
  refine gw_aload_n dX12_begins_0 rfl ?_
  refine gm_get_traced rfl dX12_begins_1 ?_
  refine gw_topi (y := nI (n)) (hn) ?_
  refine gw_bipush (v := nI (16)) dX12_begins_4 (by decide) ?_
  refine gw_icmpN_ge (tgt := 29) dX12_begins_6 (by decide) (by omega) (by omega) (fun c6 => ?_) (fun c6 => ?_)
  · refine gw_vret (?_) (by decide) (by decide) rfl dX12_begins_29
    subst hpost
    exact ⟨rfl, by first | rw [if_pos (by omega)] | rw [if_neg (by omega)]⟩
  · refine gw_aload_n dX12_begins_9 rfl ?_
    refine gm_get_trace rfl dX12_begins_10 ?_
    refine gw_aload_n dX12_begins_13 rfl ?_
    refine gm_get_traced rfl dX12_begins_14 ?_
    refine gw_topi (y := nI (n)) (hn) ?_
    refine gw_iload_n dX12_begins_17 rfl ?_
    refine gm_st_trace (j := n) (rfl) (by omega) dX12_begins_18 ?_
    refine gw_W.wd (w' := (mW cy ad iv (va_up ia 20 (upd (ia 20) (n) (b))) la)) rfl ?_
    refine gw_aload_n dX12_begins_19 rfl ?_
    refine gw_dup dX12_begins_20 rfl ?_
    refine gm_get_traced rfl dX12_begins_21 ?_
    refine gw_topi (y := nI (n)) (hn) ?_
    refine gw_iconst (v := nI (1)) dX12_begins_24 (by decide) ?_
    refine gw_iaddN dX12_begins_25 ?_
    refine gm_put_traced rfl dX12_begins_26 ?_
    refine gw_W.wd (w' := (mW cy ad (va_up iv 21 (nI (n + 1))) (va_up ia 20 (upd (ia 20) (n) (b))) la)) rfl ?_
    refine gw_vret (?_) (by decide) (by decide) rfl dX12_begins_29
    subst hpost
    exact ⟨rfl, by first | rw [if_pos (by omega)] | rw [if_neg (by omega)]⟩
