theorem shl_n {n : Nat} (h : n ≤ 4) : nI 1 <<< (nI n &&& 31) = nI (2 ^ n) := by
  rcases (show n = 0 ∨ n = 1 ∨ n = 2 ∨ n = 3 ∨ n = 4 by omega) with rfl | rfl | rfl | rfl | rfl <;> decide
theorem pow2_le {n : Nat} (h : n ≤ 4) : 1 ≤ 2 ^ n ∧ 2 ^ n ≤ 16 := by
  rcases (show n = 0 ∨ n = 1 ∨ n = 2 ∨ n = 3 ∨ n = 4 by omega) with rfl | rfl | rfl | rfl | rfl <;> decide
def isPu (n : Nat) (a f q : Int32) : Bool := inZ a.toInt 1 ((2 ^ n : Nat) - 1) && (inZ f.toInt 0 3 && inZ q.toInt 0 3)
abbrev kX12_isPulse : gw_K := (yX12_isPulse, cX12_isPulse, 4, { frames := 1, cells := 0, slots := 0, locals := 25 }, (some .boolean))
theorem ok_X12_isPulse : gw_calV kX12_isPulse 3 := ⟨⟨wd_1069, wd_62, by decide, by decide, by decide +kernel⟩, wd_1068, wd_47⟩
set_option maxHeartbeats 4000000 in
set_option maxRecDepth 100000 in
theorem c_misPulse (l : Launch) (cy : Nat → ClassId) (ad : Nat → Nat) (iv : Nat → Int32) (ia : Nat → Nat → Int32) (la : Nat → Nat → Int64) (n : Nat) (a f q : Int32) (hn : iv 0 = nI n) (hn4 : n ≤ 4) : gw_M l kX12_isPulse cy [.ref (ad 0), .int (a), .int (f), .int (q)] (mW cy ad iv ia la) (fun r w' => r = some (.int (bI (isPu n a f q))) ∧ w' = mW cy ad iv ia la) := by
  refine gw_M.mk (lv := [some (.ref (ad 0)), some (.int (a)), some (.int (f)), some (.int (q))]) (by decide) (Nat.le_of_ble_eq_true rfl) rfl ?_
  generalize hpost : (fun r w' => r = some (.int (bI (isPu n a f q))) ∧ w' = mW cy ad iv ia la : gw_Q) = post
  have hp2 := pow2_le hn4
  refine gw_iload_n dX12_isPulse_0 rfl ?_
  refine gw_i2l dX12_isPulse_1 rfl ?_
  refine gw_lconst (v := (1 : Int64)) dX12_isPulse_2 (by decide) ?_
  refine gw_iconst (v := nI (1)) dX12_isPulse_3 (by decide) ?_
  refine gw_aload_n dX12_isPulse_4 rfl ?_
  refine gm_get_spins rfl dX12_isPulse_5 ?_
  refine gw_topi (y := nI (n)) (hn) ?_
  refine gw_ishl dX12_isPulse_8 ?_
  refine gw_topi (y := nI (2 ^ n)) (shl_n hn4) ?_
  refine gw_iconst (v := nI (1)) dX12_isPulse_9 (by decide) ?_
  refine gw_isubN dX12_isPulse_10 (by omega) ?_
  refine gw_i2l dX12_isPulse_11 rfl ?_
  refine gw_callS (As := [.long ((a).toInt64), .long ((1 : Int64)), .long ((nI ((2 ^ n) - (1))).toInt64)]) (st := []) (c_min l cy ((a).toInt64) ((1 : Int64)) ((nI ((2 ^ n) - (1))).toInt64) (mW cy ad iv ia la)) ok_X12_in wd_899 rfl rfl dX12_isPulse_12 (by decide) (by decide) (Nat.le_of_ble_eq_true rfl) (fun r12 w12 hp12 => ?_)
  obtain ⟨rfl, rfl⟩ := hp12
  refine gw_W.norm (st' := [.int (bI (inZ ((a).toInt64).toInt ((1 : Int64)).toInt ((nI ((2 ^ n) - (1))).toInt64).toInt))]) (k1 := 0) (k2 := 0) rfl rfl rfl ?_
  refine gw_if_eq (tgt := 46) dX12_isPulse_15 (by decide) (fun c15 => ?_) (fun c15 => ?_)
  · rw [bI_0] at c15
    refine gw_iconst (v := nI (0)) dX12_isPulse_46 (by decide) ?_
    refine gw_zret (?_) (by decide) (by decide) rfl (by decide) dX12_isPulse_47
    subst hpost
    refine ⟨?_, rfl⟩
    unfold isPu
    simp only [i64_of] at *
    have e9 : (nI (2 ^ n - 1)).toInt = (2 ^ n : Nat) - 1 := by rw [nI_toInt (by omega)]; omega
    first
      | (rw [e9] at c15; rw [show inZ a.toInt 1 ((2 ^ n : Nat) - 1) = _ from c15]; first | rfl | (rw [show inZ f.toInt 0 3 = _ from c27]; first | rfl | (rw [show inZ q.toInt 0 3 = _ from c39]; rfl)))
  · rw [bI_n0] at c15
    refine gw_iload_n dX12_isPulse_18 rfl ?_
    refine gw_i2l dX12_isPulse_19 rfl ?_
    refine gw_lconst (v := (0 : Int64)) dX12_isPulse_20 (by decide) ?_
    refine gw_ldc2 dX12_isPulse_21 wd_979 ?_
    refine gw_callS (As := [.long ((f).toInt64), .long ((0 : Int64)), .long ((3 : Int64))]) (st := []) (c_min l cy ((f).toInt64) ((0 : Int64)) ((3 : Int64)) (mW cy ad iv ia la)) ok_X12_in wd_899 rfl rfl dX12_isPulse_24 (by decide) (by decide) (Nat.le_of_ble_eq_true rfl) (fun r24 w24 hp24 => ?_)
    obtain ⟨rfl, rfl⟩ := hp24
    refine gw_W.norm (st' := [.int (bI (inZ ((f).toInt64).toInt ((0 : Int64)).toInt ((3 : Int64)).toInt))]) (k1 := 0) (k2 := 0) rfl rfl rfl ?_
    refine gw_if_eq (tgt := 46) dX12_isPulse_27 (by decide) (fun c27 => ?_) (fun c27 => ?_)
    · rw [bI_0] at c27
      refine gw_iconst (v := nI (0)) dX12_isPulse_46 (by decide) ?_
      refine gw_zret (?_) (by decide) (by decide) rfl (by decide) dX12_isPulse_47
      subst hpost
      refine ⟨?_, rfl⟩
      unfold isPu
      simp only [i64_of] at *
      have e9 : (nI (2 ^ n - 1)).toInt = (2 ^ n : Nat) - 1 := by rw [nI_toInt (by omega)]; omega
      first
        | (rw [e9] at c15; rw [show inZ a.toInt 1 ((2 ^ n : Nat) - 1) = _ from c15]; first | rfl | (rw [show inZ f.toInt 0 3 = _ from c27]; first | rfl | (rw [show inZ q.toInt 0 3 = _ from c39]; rfl)))
    · rw [bI_n0] at c27
      refine gw_iload_n dX12_isPulse_30 rfl ?_
      refine gw_i2l dX12_isPulse_31 rfl ?_
      refine gw_lconst (v := (0 : Int64)) dX12_isPulse_32 (by decide) ?_
      refine gw_ldc2 dX12_isPulse_33 wd_979 ?_
      refine gw_callS (As := [.long ((q).toInt64), .long ((0 : Int64)), .long ((3 : Int64))]) (st := []) (c_min l cy ((q).toInt64) ((0 : Int64)) ((3 : Int64)) (mW cy ad iv ia la)) ok_X12_in wd_899 rfl rfl dX12_isPulse_36 (by decide) (by decide) (Nat.le_of_ble_eq_true rfl) (fun r36 w36 hp36 => ?_)
      obtain ⟨rfl, rfl⟩ := hp36
      refine gw_W.norm (st' := [.int (bI (inZ ((q).toInt64).toInt ((0 : Int64)).toInt ((3 : Int64)).toInt))]) (k1 := 0) (k2 := 0) rfl rfl rfl ?_
      refine gw_if_eq (tgt := 46) dX12_isPulse_39 (by decide) (fun c39 => ?_) (fun c39 => ?_)
      · rw [bI_0] at c39
        refine gw_iconst (v := nI (0)) dX12_isPulse_46 (by decide) ?_
        refine gw_zret (?_) (by decide) (by decide) rfl (by decide) dX12_isPulse_47
        subst hpost
        refine ⟨?_, rfl⟩
        unfold isPu
        simp only [i64_of] at *
        have e9 : (nI (2 ^ n - 1)).toInt = (2 ^ n : Nat) - 1 := by rw [nI_toInt (by omega)]; omega
        first
          | (rw [e9] at c15; rw [show inZ a.toInt 1 ((2 ^ n : Nat) - 1) = _ from c15]; first | rfl | (rw [show inZ f.toInt 0 3 = _ from c27]; first | rfl | (rw [show inZ q.toInt 0 3 = _ from c39]; rfl)))
      · rw [bI_n0] at c39
        refine gw_iconst (v := nI (1)) dX12_isPulse_42 (by decide) ?_
        refine gw_goto (tgt := 47) dX12_isPulse_43 (by decide) ?_
        refine gw_zret (?_) (by decide) (by decide) rfl (by decide) dX12_isPulse_47
        subst hpost
        refine ⟨?_, rfl⟩
        unfold isPu
        simp only [i64_of] at *
        have e9 : (nI (2 ^ n - 1)).toInt = (2 ^ n : Nat) - 1 := by rw [nI_toInt (by omega)]; omega
        first
          | (rw [e9] at c15; rw [show inZ a.toInt 1 ((2 ^ n : Nat) - 1) = _ from c15]; first | rfl | (rw [show inZ f.toInt 0 3 = _ from c27]; first | rfl | (rw [show inZ q.toInt 0 3 = _ from c39]; rfl)))
