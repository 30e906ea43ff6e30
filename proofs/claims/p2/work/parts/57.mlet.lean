abbrev kX12_letter : gw_K := (yX12_letter, cX12_letter, 4, { frames := 3, cells := 0, slots := 0, locals := 80 }, (some .int))
theorem ok_X12_letter : gw_calV kX12_letter 3 := ⟨⟨wd_1007, wd_62, by decide, by decide, by decide +kernel⟩, wd_1005, wd_1006⟩
set_option maxHeartbeats 4000000 in
set_option maxRecDepth 100000 in
theorem t_mletter (l : Launch) (cy : Nat → ClassId) (ad : Nat → Nat) (iv : Nat → Int32) (ia : Nat → Nat → Int32) (la : Nat → Nat → Int64) (σ : aS) (hI : mInv σ iv ia la) (p x way : Int32) : gw_M l kX12_letter cy [.ref (ad 0), .int (p), .int (x), .int (way)] (mW cy ad iv ia la) (mPost cy ad (spLetter σ p x way)) := by
  refine gw_M.mk (lv := [some (.ref (ad 0)), some (.int (p)), some (.int (x)), some (.int (way))]) (by decide) (Nat.le_of_ble_eq_true rfl) rfl ?_
  generalize hpost : (mPost cy ad (spLetter σ p x way) : gw_Q) = post
  obtain ⟨i1, i2, i3, i4, i5, i6, i7, i8⟩ := hI
  refine gw_aload_n dX12_letter_0 rfl ?_
  refine gw_iload_n dX12_letter_1 rfl ?_
  refine gw_callV 0 (As := [.int (p)]) (st := []) (c_misProduct l cy ad iv ia la (p) (4 ^ σ.1) i1.2.2.2 (Nat.pow_pos (by decide)) (by have := pow4_le i1.2.1; omega)) ok_X12_isProduct rfl rfl rfl wd_940 rfl rfl dX12_letter_2 (by decide) (by decide) (Nat.le_of_ble_eq_true rfl) (fun r2 w2 hp2 => ?_)
  obtain ⟨rfl, rfl⟩ := hp2
  refine gw_W.norm (st' := [.int (bI (inZ (p).toInt 0 ((4 ^ σ.1 : Nat) - 1)))]) (k1 := 0) (k2 := 0) rfl rfl rfl ?_
  refine gw_if_eq (tgt := 27) dX12_letter_5 (by decide) (fun c5 => ?_) (fun c5 => ?_)
  · rw [bI_0] at c5
    refine gw_ldc dX12_letter_27 wd_903 ?_
    refine gw_iret (?_) (by decide) (by decide) rfl dX12_letter_29
    subst hpost
    unfold spLetter
    rw [if_neg (fun h => by first | exact absurd h.1 (by rw [c5]; decide) | exact absurd h.2.1 (by rw [cx]; decide) | exact absurd h.2.2 cw)]
    exact ⟨rfl, iv, ia, la, rfl, i1, i2, i3, i4, i5, i6, i7, i8⟩
  · rw [bI_n0] at c5
    refine gw_iload_n dX12_letter_8 rfl ?_
    refine gw_i2l dX12_letter_9 rfl ?_
    refine gw_lconst (v := (0 : Int64)) dX12_letter_10 (by decide) ?_
    refine gw_ldc2 dX12_letter_11 wd_979 ?_
    refine gw_callS (As := [.long ((x).toInt64), .long ((0 : Int64)), .long ((3 : Int64))]) (st := []) (c_min l cy ((x).toInt64) ((0 : Int64)) ((3 : Int64)) (mW cy ad iv ia la)) ok_X12_in wd_899 rfl rfl dX12_letter_14 (by decide) (by decide) (Nat.le_of_ble_eq_true rfl) (fun r14 w14 hp14 => ?_)
    obtain ⟨rfl, rfl⟩ := hp14
    refine gw_W.norm (st' := [.int (bI (inZ ((x).toInt64).toInt ((0 : Int64)).toInt ((3 : Int64)).toInt))]) (k1 := 0) (k2 := 0) rfl rfl rfl ?_
    refine gw_if_eq (tgt := 27) dX12_letter_17 (by decide) (fun c17 => ?_) (fun c17 => ?_)
    · rw [bI_0, i64_of] at c17
      have cx : inZ x.toInt 0 3 = false := c17
      refine gw_ldc dX12_letter_27 wd_903 ?_
      refine gw_iret (?_) (by decide) (by decide) rfl dX12_letter_29
      subst hpost
      unfold spLetter
      rw [if_neg (fun h => by first | exact absurd h.1 (by rw [c5]; decide) | exact absurd h.2.1 (by rw [cx]; decide) | exact absurd h.2.2 cw)]
      exact ⟨rfl, iv, ia, la, rfl, i1, i2, i3, i4, i5, i6, i7, i8⟩
    · rw [bI_n0, i64_of] at c17
      have cx : inZ x.toInt 0 3 = true := c17
      refine gw_iload_n dX12_letter_20 rfl ?_
      refine gw_callS (As := [.int (way)]) (st := []) (c_misWay l cy (way) (mW cy ad iv ia la)) ok_X12_isWay wd_1008 rfl rfl dX12_letter_21 (by decide) (by decide) (Nat.le_of_ble_eq_true rfl) (fun r21 w21 hp21 => ?_)
      obtain ⟨rfl, rfl⟩ := hp21
      refine gw_W.norm (st' := [.int (bI (decide (way = 1 ∨ way = -1)))]) (k1 := 0) (k2 := 0) rfl rfl rfl ?_
      refine gw_if_ne (tgt := 30) dX12_letter_24 (by decide) (fun c24 => ?_) (fun c24 => ?_)
      · rw [bI_n0] at c24
        have cw := of_decide_eq_true c24
        obtain ⟨a1, a2, a3, a4⟩ := mI3_take i3 (t := 8) (by decide)
        have hg : tI p < 4 ^ σ.1 := by rw [inZ_t] at c5; unfold tI; omega
        have hks : ∀ j, j < (sSm σ 8).length → keyOK σ.1 (ia 7 (2400 + j)) := fun j hj => a4 (ia 7 (2400 + j), la 8 (2400 + j)) (by
          have q1 : (ia 7 (2400 + j), la 8 (2400 + j)) ∈ takeS (ia 7) (la 8) (300 * 8) (sSm σ 8).length := takeS_mem.mpr ⟨j, hj, rfl⟩
          rw [a3] at q1; exact q1)
        have hjo := letC_ok (way := way) i1.2.1 hg (tI_lt cx) (S := sSm σ 8) (fun q hq => ⟨a4 q hq, ((i3 8 (by decide)).1.2.2 q hq).2.1⟩)
        rw [← tI_eq cx] at hjo
        refine gw_aload_n dX12_letter_30 rfl ?_
        refine gw_iload_n dX12_letter_31 rfl ?_
        refine gw_topi (y := nI (tI p)) (tI_eq c5) ?_
        refine gw_iload_n dX12_letter_32 rfl ?_
        refine gw_iload_n dX12_letter_33 rfl ?_
        refine gw_callV 0 (As := [.int (nI (tI p)), .int (x), .int (way)]) (st := []) (c_mturnLetter l cy ad iv ia la σ.1 (tI p) (sSm σ 8).length i1.2.2.1 i1.2.1 hg a1 a2 hks x way) ok_X12_turnLetter rfl rfl rfl wd_1011 rfl rfl dX12_letter_34 (by decide) (by decide) (Nat.le_of_ble_eq_true rfl) (fun r34 w34 hp34 => ?_)
        obtain ⟨sg, hr, m, k1, n1, hN, hS⟩ := hp34
        rw [a3] at hr hN hS
        change _ = ansB (keepS (letC σ.1 (tI p) x way (sSm σ 8))) at hr
        cases hF : keepS (letC σ.1 (tI p) x way (sSm σ 8)) with
        | none =>
          rw [hF] at hr
          subst hr
          obtain rfl := hN hF
          refine gw_W.norm (st' := [.int (nI (0))]) (k1 := 0) (k2 := 0) rfl rfl rfl ?_
          refine gw_W.wd (w' := (mW cy ad (va_up (va_up iv 9 (nI (m))) 24 (sg)) (va_up ia 10 (k1)) (va_up la 11 (n1)))) rfl ?_
          refine gw_ifN_eq (tgt := 50) dX12_letter_37 (by decide) (by omega) (fun _ => ?_) (fun h => absurd h (by decide))
          refine gw_ldc dX12_letter_50 wd_965 ?_
          refine gw_iret (?_) (by decide) (by decide) rfl dX12_letter_52
          subst hpost
          unfold spLetter
          rw [if_pos ⟨c5, cx, cw⟩, hF]
          first
            | exact ⟨rfl, _, _, _, rfl, i1, i2, i3, i4, i5, i6, i7, i8⟩
            | exact ⟨rfl, _, _, _, rfl, i1, i2, mI3_set i3 (by decide) (keepS_ok hjo.1 hjo.2 hF) hT hO, i4, i5, i6, i7, i8⟩
        | some S =>
          rw [hF] at hr
          subst hr
          obtain ⟨kk, nn, rfl, hT, hO⟩ := hS S hF
          refine gw_W.norm (st' := [.int (nI (1))]) (k1 := 0) (k2 := 0) rfl rfl rfl ?_
          refine gw_W.wd (w' := (mW cy ad (va_up (va_up iv 9 (nI (m))) 24 (sg)) (va_up (va_up (va_up ia 6 (upd (ia 6) 8 (nI (S.length)))) 7 (kk)) 10 (k1)) (va_up (va_up la 8 (nn)) 11 (n1)))) rfl ?_
          refine gw_ifN_eq (tgt := 50) dX12_letter_37 (by decide) (by omega) (fun h => absurd h (by decide)) (fun _ => ?_)
          refine gw_aload_n dX12_letter_40 rfl ?_
          refine gm_get_many rfl dX12_letter_41 ?_
          refine gw_bipush (v := nI (8)) dX12_letter_44 (by decide) ?_
          refine gm_ld_many (j := 8) (rfl) (by decide) dX12_letter_46 ?_
          refine gw_topi (y := (upd (ia 6) 8 (nI (S.length))) (8)) rfl ?_
          refine gw_topi (y := nI (S.length)) (pk_us) ?_
          refine gw_goto (tgt := 52) dX12_letter_47 (by decide) ?_
          refine gw_iret (?_) (by decide) (by decide) rfl dX12_letter_52
          subst hpost
          unfold spLetter
          rw [if_pos ⟨c5, cx, cw⟩, hF]
          first
            | exact ⟨rfl, _, _, _, rfl, i1, i2, i3, i4, i5, i6, i7, i8⟩
            | exact ⟨rfl, _, _, _, rfl, i1, i2, mI3_set i3 (by decide) (keepS_ok hjo.1 hjo.2 hF) hT hO, i4, i5, i6, i7, i8⟩
      · rw [bI_0] at c24
        have cw := of_decide_eq_false c24
        refine gw_ldc dX12_letter_27 wd_903 ?_
        refine gw_iret (?_) (by decide) (by decide) rfl dX12_letter_29
        subst hpost
        unfold spLetter
        rw [if_neg (fun h => by first | exact absurd h.1 (by rw [c5]; decide) | exact absurd h.2.1 (by rw [cx]; decide) | exact absurd h.2.2 cw)]
        exact ⟨rfl, iv, ia, la, rfl, i1, i2, i3, i4, i5, i6, i7, i8⟩
