abbrev kX12_add : gw_K := (yX12_add, cX12_add, 4, { frames := 3, cells := 0, slots := 0, locals := 71 }, (some .int))
theorem ok_X12_add : gw_calV kX12_add 3 := ⟨⟨wd_939, wd_62, by decide, by decide, by decide +kernel⟩, wd_937, wd_938⟩
set_option maxHeartbeats 4000000 in
set_option maxRecDepth 100000 in
theorem t_madd (l : Launch) (cy : Nat → ClassId) (ad : Nat → Nat) (iv : Nat → Int32) (ia : Nat → Nat → Int32) (la : Nat → Nat → Int64) (σ : aS) (hI : mInv σ iv ia la) (s p v : Int32) : gw_M l kX12_add cy [.ref (ad 0), .int (s), .int (p), .int (v)] (mW cy ad iv ia la) (mPost cy ad (spAdd σ s p v)) := by
  refine gw_M.mk (lv := [some (.ref (ad 0)), some (.int (s)), some (.int (p)), some (.int (v))]) (by decide) (Nat.le_of_ble_eq_true rfl) rfl ?_
  generalize hpost : (mPost cy ad (spAdd σ s p v) : gw_Q) = post
  obtain ⟨i1, i2, i3, i4, i5, i6, i7, i8⟩ := hI
  refine gw_iload_n dX12_add_0 rfl ?_
  refine gw_callS (As := [.int (s)]) (st := []) (c_misShelf l cy (s) (mW cy ad iv ia la)) ok_X12_isShelf wd_929 rfl rfl dX12_add_1 (by decide) (by decide) (Nat.le_of_ble_eq_true rfl) (fun r1 w1 hp1 => ?_)
  obtain ⟨rfl, rfl⟩ := hp1
  refine gw_W.norm (st' := [.int (bI (inZ (s).toInt (-1) 7))]) (k1 := 0) (k2 := 0) rfl rfl rfl ?_
  refine gw_if_eq (tgt := 15) dX12_add_4 (by decide) (fun c4 => ?_) (fun c4 => ?_)
  · rw [bI_0] at c4
    refine gw_ldc dX12_add_15 wd_903 ?_
    refine gw_iret (?_) (by decide) (by decide) rfl dX12_add_17
    subst hpost
    unfold spAdd
    rw [if_neg (fun h => by first | exact absurd h.1 (by rw [c4]; decide) | exact absurd h.2 (by rw [c12]; decide))]
    exact ⟨rfl, iv, ia, la, rfl, i1, i2, i3, i4, i5, i6, i7, i8⟩
  · rw [bI_n0] at c4
    refine gw_aload_n dX12_add_7 rfl ?_
    refine gw_iload_n dX12_add_8 rfl ?_
    refine gw_callV 0 (As := [.int (p)]) (st := []) (c_misProduct l cy ad iv ia la (p) (4 ^ σ.1) i1.2.2.2 (Nat.pow_pos (by decide)) (by have := pow4_le i1.2.1; omega)) ok_X12_isProduct rfl rfl rfl wd_940 rfl rfl dX12_add_9 (by decide) (by decide) (Nat.le_of_ble_eq_true rfl) (fun r9 w9 hp9 => ?_)
    obtain ⟨rfl, rfl⟩ := hp9
    refine gw_W.norm (st' := [.int (bI (inZ (p).toInt 0 ((4 ^ σ.1 : Nat) - 1)))]) (k1 := 0) (k2 := 0) rfl rfl rfl ?_
    refine gw_if_ne (tgt := 18) dX12_add_12 (by decide) (fun c12 => ?_) (fun c12 => ?_)
    · rw [bI_n0] at c12
      have ha9 := mPl_lt c4
      obtain ⟨a1, a2, a3, a4⟩ := mI3_take i3 ha9
      have a2 : (sSm σ (mPl s)).length ≤ 300 := a2
      obtain ⟨jo, jk⟩ := addC_ok (v := v) i1.2.1 c12 a4
      refine gw_aload_n dX12_add_18 rfl ?_
      refine gw_iconst (v := nI (0)) dX12_add_19 (by decide) ?_
      refine gm_put_made rfl dX12_add_20 ?_
      refine gw_W.wd (w' := (mW cy ad (va_up iv 9 (nI (0))) ia la)) rfl ?_
      refine gw_aload_n dX12_add_23 rfl ?_
      refine gw_iload_n dX12_add_24 rfl ?_
      refine gw_callS (As := [.int (s)]) (st := [.ref (ad 0)]) (c_mplaceOf l cy (s) (c4) (mW cy ad (va_up iv 9 (nI (0))) ia la)) ok_X12_placeOf wd_933 rfl rfl dX12_add_25 (by decide) (by decide) (Nat.le_of_ble_eq_true rfl) (fun r25 w25 hp25 => ?_)
      obtain ⟨rfl, rfl⟩ := hp25
      refine gw_W.norm (st' := [.int (nI (mPl (s))), .ref (ad 0)]) (k1 := 0) (k2 := 0) rfl rfl rfl ?_
      refine gw_lconst (v := (1 : Int64)) dX12_add_28 (by decide) ?_
      refine gw_callV 0 (As := [.int (nI (mPl (s))), .long ((1 : Int64))]) (st := []) (c_mputAll l cy ad (va_up iv 9 (nI (0))) ia la (0) (mPl (s)) ((sSm σ (mPl s)).length) ((1 : Int64)) (rfl) (a1) (by omega) (a2) (by omega) (by exact List.Pairwise.nil)) ok_X12_putAll rfl rfl rfl wd_944 rfl rfl dX12_add_29 (by decide) (by decide) (Nat.le_of_ble_eq_true rfl) (fun r29 w29 hp29 => ?_)
      obtain ⟨rfl, m29, kk29, nn29, rfl, hT29⟩ := hp29
      have hT29 : takeS kk29 nn29 0 m29 = sPuts (takeS (ia 10) (la 11) 0 (0)) (sScale ((1 : Int64)) (takeS (ia 7) (la 8) (300 * (mPl (s))) ((sSm σ (mPl s)).length))) := hT29
      refine gw_W.wd (w' := (mW cy ad (va_up iv 9 (nI (m29))) (va_up ia 10 (kk29)) (va_up la 11 (nn29)))) rfl ?_
      refine gw_W.norm (st' := []) (k1 := 0) (k2 := 0) rfl rfl rfl ?_
      have hT29 : takeS kk29 nn29 0 m29 = sPuts [] (sScale 1 (sSm σ (mPl s))) := by rw [a3] at hT29; exact hT29
      have hs29 : sOrd (takeS kk29 nn29 0 m29) := by rw [hT29]; exact sPuts_ord List.Pairwise.nil
      have hm29 : m29 ≤ 300 := by
        have q1 := congrArg List.length hT29
        have q2 := sPuts_len [] (sScale 1 (sSm σ (mPl s)))
        rw [takeS_len] at q1
        simp only [sScale, List.length_map, List.length_nil] at q2; simp only [sScale] at q1; omega
      refine gw_aload_n dX12_add_32 rfl ?_
      refine gw_iload_n dX12_add_33 rfl ?_
      refine gw_bipush (v := nI (20)) dX12_add_34 (by decide) ?_
      refine gw_ishl dX12_add_36 ?_
      refine gw_iload_n dX12_add_37 rfl ?_
      refine gw_i2l dX12_add_38 rfl ?_
      refine gw_callV 0 (As := [.int ((p) <<< ((nI (20)) &&& 31)), .long ((v).toInt64)]) (st := []) (c_mput l cy ad (va_up iv 9 (nI (m29))) (va_up ia 10 (kk29)) (va_up la 11 (nn29)) (m29) ((p) <<< ((nI (20)) &&& 31)) ((v).toInt64) rfl (by omega) (hs29)) ok_X12_put rfl rfl rfl wd_948 rfl rfl dX12_add_39 (by decide) (by decide) (Nat.le_of_ble_eq_true rfl) (fun r39 w39 hp39 => ?_)
      obtain ⟨rfl, n39, kk39, nn39, rfl, hT39⟩ := hp39
      have hT39 : takeS kk39 nn39 0 n39 = sIns ((p) <<< ((nI (20)) &&& 31)) ((v).toInt64) (takeS (kk29) (nn29) 0 m29) := hT39
      refine gw_W.wd (w' := (mW cy ad (va_up iv 9 (nI (n39))) (va_up ia 10 (kk39)) (va_up la 11 (nn39)))) rfl ?_
      have hl39 := put_len hT39
      have eC : takeS kk39 nn39 0 n39 = addC (sSm σ (mPl s)) p v := by rw [hT39, hT29]; rfl
      refine gw_W.norm (st' := []) (k1 := 0) (k2 := 0) rfl rfl rfl ?_
      refine gw_aload_n dX12_add_42 rfl ?_
      refine gw_iload_n dX12_add_43 rfl ?_
      refine gw_callS (As := [.int (s)]) (st := [.ref (ad 0)]) (c_mplaceOf l cy (s) (c4) (mW cy ad (va_up iv 9 (nI (n39))) (va_up ia 10 (kk39)) (va_up la 11 (nn39)))) ok_X12_placeOf wd_933 rfl rfl dX12_add_44 (by decide) (by decide) (Nat.le_of_ble_eq_true rfl) (fun r44 w44 hp44 => ?_)
      obtain ⟨rfl, rfl⟩ := hp44
      refine gw_W.norm (st' := [.int (nI (mPl (s))), .ref (ad 0)]) (k1 := 0) (k2 := 0) rfl rfl rfl ?_
      refine gw_callV 0 (As := [.int (nI (mPl (s)))]) (st := []) (c_mkept l cy ad (va_up iv 9 (nI (n39))) (va_up ia 10 (kk39)) (va_up la 11 (nn39)) n39 (mPl (s)) rfl (by omega) (by omega)) ok_X12_kept rfl rfl rfl wd_952 rfl rfl dX12_add_47 (by decide) (by decide) (Nat.le_of_ble_eq_true rfl) (fun r47 w47 hp47 => ?_)
      obtain ⟨F47, hF47, rfl, hN47, hS47⟩ := hp47
      have hF47 : F47 = keepS (addC (sSm σ (mPl s)) p v) := hF47.trans (congrArg keepS eC)
      cases F47 with
      | none =>
        obtain rfl := hN47 rfl
        refine gw_W.norm (st' := [.int ((-1000003 : Int32))]) (k1 := 0) (k2 := 0) rfl rfl rfl ?_
        refine gw_W.wd (w' := (mW cy ad (va_up iv 9 (nI (n39))) (va_up ia 10 (kk39)) (va_up la 11 (nn39)))) rfl ?_
        refine gw_iret (?_) (by decide) (by decide) rfl dX12_add_50
        subst hpost
        unfold spAdd
        rw [if_pos ⟨c4, c12⟩, ← hF47]
        first
          | exact ⟨rfl, _, _, _, rfl, i1, i2, i3, i4, i5, i6, i7, i8⟩
          | exact ⟨rfl, _, _, _, rfl, i1, i2, mI3_set i3 ha9 (keepS_ok jo jk hF47.symm) hT47 hO47, i4, i5, i6, i7, i8⟩
      | some S47 =>
        obtain ⟨kk47, nn47, rfl, hT47, hO47⟩ := hS47 S47 rfl
        refine gw_W.norm (st' := [.int (nI (S47.length))]) (k1 := 0) (k2 := 0) rfl rfl rfl ?_
        refine gw_W.wd (w' := (mW cy ad (va_up iv 9 (nI (n39))) (va_up (va_up (va_up ia 6 (upd (ia 6) (mPl (s)) (nI (S47.length)))) 7 (kk47)) 10 (kk39)) (va_up (va_up la 8 (nn47)) 11 (nn39)))) rfl ?_
        refine gw_iret (?_) (by decide) (by decide) rfl dX12_add_50
        subst hpost
        unfold spAdd
        rw [if_pos ⟨c4, c12⟩, ← hF47]
        first
          | exact ⟨rfl, _, _, _, rfl, i1, i2, i3, i4, i5, i6, i7, i8⟩
          | exact ⟨rfl, _, _, _, rfl, i1, i2, mI3_set i3 ha9 (keepS_ok jo jk hF47.symm) hT47 hO47, i4, i5, i6, i7, i8⟩
    · rw [bI_0] at c12
      refine gw_ldc dX12_add_15 wd_903 ?_
      refine gw_iret (?_) (by decide) (by decide) rfl dX12_add_17
      subst hpost
      unfold spAdd
      rw [if_neg (fun h => by first | exact absurd h.1 (by rw [c4]; decide) | exact absurd h.2 (by rw [c12]; decide))]
      exact ⟨rfl, iv, ia, la, rfl, i1, i2, i3, i4, i5, i6, i7, i8⟩
abbrev kX12_quarter : gw_K := (yX12_quarter, cX12_quarter, 3, { frames := 3, cells := 0, slots := 0, locals := 77 }, (some .int))
theorem ok_X12_quarter : gw_calV kX12_quarter 2 := ⟨⟨wd_987, wd_62, by decide, by decide, by decide +kernel⟩, wd_985, wd_986⟩
set_option maxHeartbeats 4000000 in
set_option maxRecDepth 100000 in
theorem t_mquarter (l : Launch) (cy : Nat → ClassId) (ad : Nat → Nat) (iv : Nat → Int32) (ia : Nat → Nat → Int32) (la : Nat → Nat → Int64) (σ : aS) (hI : mInv σ iv ia la) (p q : Int32) : gw_M l kX12_quarter cy [.ref (ad 0), .int (p), .int (q)] (mW cy ad iv ia la) (mPost cy ad (spQuarter σ p q)) := by
  refine gw_M.mk (lv := [some (.ref (ad 0)), some (.int (p)), some (.int (q))]) (by decide) (Nat.le_of_ble_eq_true rfl) rfl ?_
  generalize hpost : (mPost cy ad (spQuarter σ p q) : gw_Q) = post
  obtain ⟨i1, i2, i3, i4, i5, i6, i7, i8⟩ := hI
  refine gw_aload_n dX12_quarter_0 rfl ?_
  refine gw_iload_n dX12_quarter_1 rfl ?_
  refine gw_callV 0 (As := [.int (p)]) (st := []) (c_misProduct l cy ad iv ia la (p) (4 ^ σ.1) i1.2.2.2 (Nat.pow_pos (by decide)) (by have := pow4_le i1.2.1; omega)) ok_X12_isProduct rfl rfl rfl wd_940 rfl rfl dX12_quarter_2 (by decide) (by decide) (Nat.le_of_ble_eq_true rfl) (fun r2 w2 hp2 => ?_)
  obtain ⟨rfl, rfl⟩ := hp2
  refine gw_W.norm (st' := [.int (bI (inZ (p).toInt 0 ((4 ^ σ.1 : Nat) - 1)))]) (k1 := 0) (k2 := 0) rfl rfl rfl ?_
  refine gw_if_eq (tgt := 20) dX12_quarter_5 (by decide) (fun c5 => ?_) (fun c5 => ?_)
  · rw [bI_0] at c5
    refine gw_ldc dX12_quarter_20 wd_903 ?_
    refine gw_iret (?_) (by decide) (by decide) rfl dX12_quarter_22
    subst hpost
    unfold spQuarter
    rw [if_neg (fun h => by first | exact absurd h.1 (by rw [c5]; decide) | exact absurd h.2 (by rw [cq]; decide))]
    exact ⟨rfl, iv, ia, la, rfl, i1, i2, i3, i4, i5, i6, i7, i8⟩
  · rw [bI_n0] at c5
    refine gw_iload_n dX12_quarter_8 rfl ?_
    refine gw_i2l dX12_quarter_9 rfl ?_
    refine gw_lconst (v := (0 : Int64)) dX12_quarter_10 (by decide) ?_
    refine gw_ldc2 dX12_quarter_11 wd_979 ?_
    refine gw_callS (As := [.long ((q).toInt64), .long ((0 : Int64)), .long ((3 : Int64))]) (st := []) (c_min l cy ((q).toInt64) ((0 : Int64)) ((3 : Int64)) (mW cy ad iv ia la)) ok_X12_in wd_899 rfl rfl dX12_quarter_14 (by decide) (by decide) (Nat.le_of_ble_eq_true rfl) (fun r14 w14 hp14 => ?_)
    obtain ⟨rfl, rfl⟩ := hp14
    refine gw_W.norm (st' := [.int (bI (inZ ((q).toInt64).toInt ((0 : Int64)).toInt ((3 : Int64)).toInt))]) (k1 := 0) (k2 := 0) rfl rfl rfl ?_
    refine gw_if_ne (tgt := 23) dX12_quarter_17 (by decide) (fun c17 => ?_) (fun c17 => ?_)
    · rw [bI_n0, i64_of] at c17
      have cq : inZ q.toInt 0 3 = true := c17
      obtain ⟨a1, a2, a3, a4⟩ := mI3_take i3 (t := 8) (by decide)
      have hg : tI p < 4 ^ σ.1 := by rw [inZ_t] at c5; unfold tI; omega
      have hks : ∀ j, j < (sSm σ 8).length → keyOK σ.1 (ia 7 (2400 + j)) := fun j hj => a4 (ia 7 (2400 + j), la 8 (2400 + j)) (by
        have q1 : (ia 7 (2400 + j), la 8 (2400 + j)) ∈ takeS (ia 7) (la 8) (300 * 8) (sSm σ 8).length := takeS_mem.mpr ⟨j, hj, rfl⟩
        rw [a3] at q1; exact q1)
      obtain ⟨jo, jk⟩ := quartC_ok (q := tI q) i1.2.1 hg a4
      refine gw_aload_n dX12_quarter_23 rfl ?_
      refine gw_iload_n dX12_quarter_24 rfl ?_
      refine gw_topi (y := nI (tI p)) (tI_eq c5) ?_
      refine gw_iload_n dX12_quarter_25 rfl ?_
      refine gw_topi (y := nI (tI q)) (tI_eq cq) ?_
      refine gw_callV 0 (As := [.int (nI (tI p)), .int (nI (tI q))]) (st := []) (c_mturnQuarter l cy ad iv ia la σ.1 (tI p) (sSm σ 8).length i1.2.2.1 i1.2.1 hg a1 a2 hks (tI q) (tI_lt cq)) ok_X12_turnQuarter rfl rfl rfl wd_988 rfl rfl dX12_quarter_26 (by decide) (by decide) (Nat.le_of_ble_eq_true rfl) (fun r26 w26 hp26 => ?_)
      obtain ⟨sg, hr, m, k1, n1, hN, hS⟩ := hp26
      rw [a3] at hN hS
      subst hr
      cases hF : keepS (quartC σ.1 (tI p) (tI q) (sSm σ 8)) with
      | none =>
        obtain rfl := hN hF
        refine gw_W.norm (st' := []) (k1 := 0) (k2 := 0) rfl rfl rfl ?_
        refine gw_W.wd (w' := (mW cy ad (va_up (va_up iv 9 (nI (m))) 24 (sg)) (va_up ia 10 (k1)) (va_up la 11 (n1)))) rfl ?_
        refine gw_aload_n dX12_quarter_29 rfl ?_
        refine gm_get_many rfl dX12_quarter_30 ?_
        refine gw_bipush (v := nI (8)) dX12_quarter_33 (by decide) ?_
        refine gm_ld_many (j := 8) (rfl) (by decide) dX12_quarter_35 ?_
        refine gw_topi (y := (ia 6) (8)) rfl ?_
        refine gw_iret (?_) (by decide) (by decide) rfl dX12_quarter_36
        subst hpost
        unfold spQuarter
        rw [if_pos ⟨c5, cq⟩, hF]
        first
          | exact ⟨congrArg (fun z => some (Value.int z)) a1, _, _, _, rfl, i1, i2, i3, i4, i5, i6, i7, i8⟩
          | exact ⟨rfl, _, _, _, rfl, i1, i2, mI3_set i3 (by decide) (keepS_ok jo jk hF) hT hO, i4, i5, i6, i7, i8⟩
      | some S =>
        obtain ⟨kk, nn, rfl, hT, hO⟩ := hS S hF
        refine gw_W.norm (st' := []) (k1 := 0) (k2 := 0) rfl rfl rfl ?_
        refine gw_W.wd (w' := (mW cy ad (va_up (va_up iv 9 (nI (m))) 24 (sg)) (va_up (va_up (va_up ia 6 (upd (ia 6) 8 (nI (S.length)))) 7 (kk)) 10 (k1)) (va_up (va_up la 8 (nn)) 11 (n1)))) rfl ?_
        refine gw_aload_n dX12_quarter_29 rfl ?_
        refine gm_get_many rfl dX12_quarter_30 ?_
        refine gw_bipush (v := nI (8)) dX12_quarter_33 (by decide) ?_
        refine gm_ld_many (j := 8) (rfl) (by decide) dX12_quarter_35 ?_
        refine gw_topi (y := (upd (ia 6) 8 (nI (S.length))) (8)) rfl ?_
        refine gw_iret (?_) (by decide) (by decide) rfl dX12_quarter_36
        subst hpost
        unfold spQuarter
        rw [if_pos ⟨c5, cq⟩, hF]
        first
          | exact ⟨congrArg (fun z => some (Value.int z)) a1, _, _, _, rfl, i1, i2, i3, i4, i5, i6, i7, i8⟩
          | exact ⟨rfl, _, _, _, rfl, i1, i2, mI3_set i3 (by decide) (keepS_ok jo jk hF) hT hO, i4, i5, i6, i7, i8⟩
    · rw [bI_0, i64_of] at c17
      have cq : inZ q.toInt 0 3 = false := c17
      refine gw_ldc dX12_quarter_20 wd_903 ?_
      refine gw_iret (?_) (by decide) (by decide) rfl dX12_quarter_22
      subst hpost
      unfold spQuarter
      rw [if_neg (fun h => by first | exact absurd h.1 (by rw [c5]; decide) | exact absurd h.2 (by rw [cq]; decide))]
      exact ⟨rfl, iv, ia, la, rfl, i1, i2, i3, i4, i5, i6, i7, i8⟩
