theorem shl_n {n : Nat} (h : n ≤ 4) : nI 1 <<< (nI n &&& 31) = nI (2 ^ n) := by
  rcases (show n = 0 ∨ n = 1 ∨ n = 2 ∨ n = 3 ∨ n = 4 by omega) with rfl | rfl | rfl | rfl | rfl <;> decide
theorem pow2_le {n : Nat} (h : n ≤ 4) : 1 ≤ 2 ^ n ∧ 2 ^ n ≤ 16 := by
  rcases (show n = 0 ∨ n = 1 ∨ n = 2 ∨ n = 3 ∨ n = 4 by omega) with rfl | rfl | rfl | rfl | rfl <;> decide
def isPu (n : Nat) (a f q : Int32) : Bool := inZ a.toInt 1 ((2 ^ n : Nat) - 1) && (inZ f.toInt 0 3 && inZ q.toInt 0 3)
abbrev kX12_isPulse : gw_K := (yX12_isPulse, cX12_isPulse, 4, { frames := 1, cells := 0, slots := 0, locals := 25 }, (some .boolean))
theorem ok_X12_isPulse : gw_calV kX12_isPulse 3 := ⟨⟨wd_1069, wd_62, by decide, by decide, by decide +kernel⟩, wd_1068, wd_47⟩
set_option maxHeartbeats 4000000 in
set_option maxRecDepth 100000 in
theorem c_misPulse (l : Launch) (cy : Nat → ClassId) (ad : Nat → Nat) (iv : Nat → Int32) (ia : Nat → Nat → Int32) (la : Nat → Nat → Int64) (n : Nat) (a f q : Int32) (hn : iv 0 = nI n) (hn4 : n ≤ 4) : gw_M l kX12_isPulse cy [.ref (ad 0), .int (a), .int (f), .int (q)] (mW cy ad iv ia la) (fun r w' => r = some (.int (bI (isPu n a f q))) ∧ w' = mW cy ad iv ia la) := by
  refine gw_M.mk (lv := [some (.ref (ad 0)), some (.int (a)), some (.int (f)), some (.int (q))]) (by decide) (Nat.le_of_ble_eq_true rfl) rfl ?_
  generalize hpost : (fun r w' => r = some (.int (bI (isPu n a f q))) ∧ w' = mW cy ad iv ia la : gw_Q) = post
  have hp2 := pow2_le hn4
  refine gw_iload_n dX12_isPulse_0 rfl ?_
  refine gw_i2l dX12_isPulse_1 rfl ?_
  refine gw_lconst (v := (1 : Int64)) dX12_isPulse_2 (by decide) ?_
  refine gw_iconst (v := nI (1)) dX12_isPulse_3 (by decide) ?_
  refine gw_aload_n dX12_isPulse_4 rfl ?_
  refine gm_get_spins rfl dX12_isPulse_5 ?_
  refine gw_topi (y := nI (n)) (hn) ?_
  refine gw_ishl dX12_isPulse_8 ?_
  refine gw_topi (y := nI (2 ^ n)) (shl_n hn4) ?_
  refine gw_iconst (v := nI (1)) dX12_isPulse_9 (by decide) ?_
  refine gw_isubN dX12_isPulse_10 (by omega) ?_
  refine gw_i2l dX12_isPulse_11 rfl ?_
  refine gw_callS (As := [.long ((a).toInt64), .long ((1 : Int64)), .long ((nI ((2 ^ n) - (1))).toInt64)]) (st := []) (c_min l cy ((a).toInt64) ((1 : Int64)) ((nI ((2 ^ n) - (1))).toInt64) (mW cy ad iv ia la)) ok_X12_in wd_899 rfl rfl dX12_isPulse_12 (by decide) (by decide) (Nat.le_of_ble_eq_true rfl) (fun r12 w12 hp12 => ?_)
  obtain ⟨rfl, rfl⟩ := hp12
  refine gw_W.norm (st' := [.int (bI (inZ ((a).toInt64).toInt ((1 : Int64)).toInt ((nI ((2 ^ n) - (1))).toInt64).toInt))]) (k1 := 0) (k2 := 0) rfl rfl rfl ?_
  refine gw_if_eq (tgt := 46) dX12_isPulse_15 (by decide) (fun c15 => ?_) (fun c15 => ?_)
  · rw [bI_0] at c15
    refine gw_iconst (v := nI (0)) dX12_isPulse_46 (by decide) ?_
    refine gw_zret (?_) (by decide) (by decide) rfl (by decide) dX12_isPulse_47
    subst hpost
    refine ⟨?_, rfl⟩
    unfold isPu
    simp only [i64_of] at *
    have e9 : (nI (2 ^ n - 1)).toInt = (2 ^ n : Nat) - 1 := by rw [nI_toInt (by omega)]; omega
    first
      | (rw [e9] at c15; rw [show inZ a.toInt 1 ((2 ^ n : Nat) - 1) = _ from c15]; first | rfl | (rw [show inZ f.toInt 0 3 = _ from c27]; first | rfl | (rw [show inZ q.toInt 0 3 = _ from c39]; rfl)))
  · rw [bI_n0] at c15
    refine gw_iload_n dX12_isPulse_18 rfl ?_
    refine gw_i2l dX12_isPulse_19 rfl ?_
    refine gw_lconst (v := (0 : Int64)) dX12_isPulse_20 (by decide) ?_
    refine gw_ldc2 dX12_isPulse_21 wd_979 ?_
    refine gw_callS (As := [.long ((f).toInt64), .long ((0 : Int64)), .long ((3 : Int64))]) (st := []) (c_min l cy ((f).toInt64) ((0 : Int64)) ((3 : Int64)) (mW cy ad iv ia la)) ok_X12_in wd_899 rfl rfl dX12_isPulse_24 (by decide) (by decide) (Nat.le_of_ble_eq_true rfl) (fun r24 w24 hp24 => ?_)
    obtain ⟨rfl, rfl⟩ := hp24
    refine gw_W.norm (st' := [.int (bI (inZ ((f).toInt64).toInt ((0 : Int64)).toInt ((3 : Int64)).toInt))]) (k1 := 0) (k2 := 0) rfl rfl rfl ?_
    refine gw_if_eq (tgt := 46) dX12_isPulse_27 (by decide) (fun c27 => ?_) (fun c27 => ?_)
    · rw [bI_0] at c27
      refine gw_iconst (v := nI (0)) dX12_isPulse_46 (by decide) ?_
      refine gw_zret (?_) (by decide) (by decide) rfl (by decide) dX12_isPulse_47
      subst hpost
      refine ⟨?_, rfl⟩
      unfold isPu
      simp only [i64_of] at *
      have e9 : (nI (2 ^ n - 1)).toInt = (2 ^ n : Nat) - 1 := by rw [nI_toInt (by omega)]; omega
      first
        | (rw [e9] at c15; rw [show inZ a.toInt 1 ((2 ^ n : Nat) - 1) = _ from c15]; first | rfl | (rw [show inZ f.toInt 0 3 = _ from c27]; first | rfl | (rw [show inZ q.toInt 0 3 = _ from c39]; rfl)))
    · rw [bI_n0] at c27
      refine gw_iload_n dX12_isPulse_30 rfl ?_
      refine gw_i2l dX12_isPulse_31 rfl ?_
      refine gw_lconst (v := (0 : Int64)) dX12_isPulse_32 (by decide) ?_
      refine gw_ldc2 dX12_isPulse_33 wd_979 ?_
      refine gw_callS (As := [.long ((q).toInt64), .long ((0 : Int64)), .long ((3 : Int64))]) (st := []) (c_min l cy ((q).toInt64) ((0 : Int64)) ((3 : Int64)) (mW cy ad iv ia la)) ok_X12_in wd_899 rfl rfl dX12_isPulse_36 (by decide) (by decide) (Nat.le_of_ble_eq_true rfl) (fun r36 w36 hp36 => ?_)
      obtain ⟨rfl, rfl⟩ := hp36
      refine gw_W.norm (st' := [.int (bI (inZ ((q).toInt64).toInt ((0 : Int64)).toInt ((3 : Int64)).toInt))]) (k1 := 0) (k2 := 0) rfl rfl rfl ?_
      refine gw_if_eq (tgt := 46) dX12_isPulse_39 (by decide) (fun c39 => ?_) (fun c39 => ?_)
      · rw [bI_0] at c39
        refine gw_iconst (v := nI (0)) dX12_isPulse_46 (by decide) ?_
        refine gw_zret (?_) (by decide) (by decide) rfl (by decide) dX12_isPulse_47
        subst hpost
        refine ⟨?_, rfl⟩
        unfold isPu
        simp only [i64_of] at *
        have e9 : (nI (2 ^ n - 1)).toInt = (2 ^ n : Nat) - 1 := by rw [nI_toInt (by omega)]; omega
        first
          | (rw [e9] at c15; rw [show inZ a.toInt 1 ((2 ^ n : Nat) - 1) = _ from c15]; first | rfl | (rw [show inZ f.toInt 0 3 = _ from c27]; first | rfl | (rw [show inZ q.toInt 0 3 = _ from c39]; rfl)))
      · rw [bI_n0] at c39
        refine gw_iconst (v := nI (1)) dX12_isPulse_42 (by decide) ?_
        refine gw_goto (tgt := 47) dX12_isPulse_43 (by decide) ?_
        refine gw_zret (?_) (by decide) (by decide) rfl (by decide) dX12_isPulse_47
        subst hpost
        refine ⟨?_, rfl⟩
        unfold isPu
        simp only [i64_of] at *
        have e9 : (nI (2 ^ n - 1)).toInt = (2 ^ n : Nat) - 1 := by rw [nI_toInt (by omega)]; omega
        first
          | (rw [e9] at c15; rw [show inZ a.toInt 1 ((2 ^ n : Nat) - 1) = _ from c15]; first | rfl | (rw [show inZ f.toInt 0 3 = _ from c27]; first | rfl | (rw [show inZ q.toInt 0 3 = _ from c39]; rfl)))
def spPulse (σ : aS) (a f q : Int32) : Int32 × aS := if isPu σ.1 a f q = true then spCome σ (2, a, f, q, 0) else (-1000001, σ)
theorem isPu_t {n : Nat} {a f q : Int32} (h : isPu n a f q = true) : 1 ≤ a.toInt ∧ a.toInt < 2 ^ n ∧ 0 ≤ f.toInt ∧ f.toInt < 4 ∧ 0 ≤ q.toInt ∧ q.toInt < 4 := by
  unfold isPu at h
  rw [Bool.and_eq_true, Bool.and_eq_true, inZ_t, inZ_t, inZ_t] at h
  have e : ((2 ^ n : Nat) : Int) = 2 ^ n := by rw [Int.natCast_pow]; rfl
  omega
abbrev kX12_pulse : gw_K := (yX12_pulse, cX12_pulse, 4, { frames := 2, cells := 0, slots := 0, locals := 48 }, (some .int))
theorem ok_X12_pulse : gw_calV kX12_pulse 3 := ⟨⟨wd_1065, wd_62, by decide, by decide, by decide +kernel⟩, wd_1063, wd_1064⟩
set_option maxHeartbeats 4000000 in
set_option maxRecDepth 100000 in
theorem t_mpulse (l : Launch) (cy : Nat → ClassId) (ad : Nat → Nat) (iv : Nat → Int32) (ia : Nat → Nat → Int32) (la : Nat → Nat → Int64) (σ : aS) (hI : mInv σ iv ia la) (a f q : Int32) : gw_M l kX12_pulse cy [.ref (ad 0), .int (a), .int (f), .int (q)] (mW cy ad iv ia la) (mPost cy ad (spPulse σ a f q)) := by
  refine gw_M.mk (lv := [some (.ref (ad 0)), some (.int (a)), some (.int (f)), some (.int (q))]) (by decide) (Nat.le_of_ble_eq_true rfl) rfl ?_
  generalize hpost : (mPost cy ad (spPulse σ a f q) : gw_Q) = post
  obtain ⟨i1, i2, i3, i4, i5, i6, i7, i8⟩ := hI
  obtain ⟨q40, q12, ⟨c, qc, qc3, q18⟩, -, -⟩ := id i4
  have q40 : (sOp σ).length ≤ 40 := q40
  refine gw_aload_n dX12_pulse_0 rfl ?_
  refine gw_iload_n dX12_pulse_1 rfl ?_
  refine gw_iload_n dX12_pulse_2 rfl ?_
  refine gw_iload_n dX12_pulse_3 rfl ?_
  refine gw_callV 0 (As := [.int (a), .int (f), .int (q)]) (st := []) (c_misPulse l cy ad iv ia la σ.1 (a) (f) (q) i1.2.2.1 i1.2.1) ok_X12_isPulse rfl rfl rfl wd_1066 rfl rfl dX12_pulse_4 (by decide) (by decide) (Nat.le_of_ble_eq_true rfl) (fun r4 w4 hp4 => ?_)
  obtain ⟨rfl, rfl⟩ := hp4
  refine gw_W.norm (st' := [.int (bI (isPu σ.1 (a) (f) (q)))]) (k1 := 0) (k2 := 0) rfl rfl rfl ?_
  refine gw_if_eq (tgt := 22) dX12_pulse_7 (by decide) (fun c7 => ?_) (fun c7 => ?_)
  · rw [bI_0] at c7
    refine gw_ldc dX12_pulse_22 wd_903 ?_
    refine gw_iret (?_) (by decide) (by decide) rfl dX12_pulse_24
    subst hpost
    unfold spPulse
    first
      | (rw [if_neg (by rw [c7]; decide)]; exact ⟨rfl, _, _, _, rfl, i1, i2, i3, i4, i5, i6, i7, i8⟩)
      | (rw [if_pos c7]; unfold spCome; rw [if_pos (by omega)]; exact ⟨rfl, _, _, _, rfl, i1, i2, i3, i4, i5, i6, i7, i8⟩)
      | (rw [if_pos c7]; unfold spCome; rw [if_neg (by omega)]
         have hu := isPu_t c7
         exact ⟨rfl, _, _, _, rfl, i1, i2, i3, mI4_snoc (o := (2, a, f, q, 0)) i4 hl (Or.inl ⟨Or.inl rfl, hu.1, hu.2.1, hu.2.2.1, hu.2.2.2.1, hu.2.2.2.2.1, hu.2.2.2.2.2, show 0 ≤ (0 : Int32).toInt by decide, show (0 : Int32).toInt < 8 by decide⟩) (opStep_keep qc (show ¬ (2 : Nat) = 5 by decide) (show ¬ (2 : Nat) = 6 by decide)) qc3 q18, i5, i6, i7, i8⟩)
  · rw [bI_n0] at c7
    refine gw_aload_n dX12_pulse_10 rfl ?_
    refine gw_iconst (v := nI (2)) dX12_pulse_11 (by decide) ?_
    refine gw_iload_n dX12_pulse_12 rfl ?_
    refine gw_iload_n dX12_pulse_13 rfl ?_
    refine gw_iload_n dX12_pulse_14 rfl ?_
    refine gw_iconst (v := nI (0)) dX12_pulse_15 (by decide) ?_
    refine gw_callV 0 (As := [.int (nI (2)), .int (a), .int (f), .int (q), .int (nI (0))]) (st := []) (c_mcome l cy ad iv ia la (sOp σ).length (nI (2)) (a) (f) (q) (nI (0)) q12 q40) ok_X12_come rfl rfl rfl wd_1070 rfl rfl dX12_pulse_16 (by decide) (by decide) (Nat.le_of_ble_eq_true rfl) (fun r16 w16 hp16 => ?_)
    rcases Nat.lt_or_ge (sOp σ).length 40 with hl | hl
    · obtain ⟨rfl, rfl⟩ := hp16.2 hl
      refine gw_W.norm (st' := [.int (nI ((sOp σ).length))]) (k1 := 0) (k2 := 0) rfl rfl rfl ?_
      refine gw_W.wd (w' := (mW cy ad (va_up iv 12 (nI ((sOp σ).length + 1))) (va_up (va_up (va_up (va_up (va_up ia 13 (upd (ia 13) (sOp σ).length (nI (2)))) 14 (upd (ia 14) (sOp σ).length (a))) 15 (upd (ia 15) (sOp σ).length (f))) 16 (upd (ia 16) (sOp σ).length (q))) 17 (upd (ia 17) (sOp σ).length (nI (0)))) la)) rfl ?_
      refine gw_goto (tgt := 24) dX12_pulse_19 (by decide) ?_
      refine gw_iret (?_) (by decide) (by decide) rfl dX12_pulse_24
      subst hpost
      unfold spPulse
      first
        | (rw [if_neg (by rw [c7]; decide)]; exact ⟨rfl, _, _, _, rfl, i1, i2, i3, i4, i5, i6, i7, i8⟩)
        | (rw [if_pos c7]; unfold spCome; rw [if_pos (by omega)]; exact ⟨rfl, _, _, _, rfl, i1, i2, i3, i4, i5, i6, i7, i8⟩)
        | (rw [if_pos c7]; unfold spCome; rw [if_neg (by omega)]
           have hu := isPu_t c7
           exact ⟨rfl, _, _, _, rfl, i1, i2, i3, mI4_snoc (o := (2, a, f, q, 0)) i4 hl (Or.inl ⟨Or.inl rfl, hu.1, hu.2.1, hu.2.2.1, hu.2.2.2.1, hu.2.2.2.2.1, hu.2.2.2.2.2, show 0 ≤ (0 : Int32).toInt by decide, show (0 : Int32).toInt < 8 by decide⟩) (opStep_keep qc (show ¬ (2 : Nat) = 5 by decide) (show ¬ (2 : Nat) = 6 by decide)) qc3 q18, i5, i6, i7, i8⟩)
    · obtain ⟨rfl, rfl⟩ := hp16.1 (by omega)
      refine gw_W.norm (st' := [.int ((-1000003 : Int32))]) (k1 := 0) (k2 := 0) rfl rfl rfl ?_
      refine gw_W.wd (w' := (mW cy ad iv ia la)) rfl ?_
      refine gw_goto (tgt := 24) dX12_pulse_19 (by decide) ?_
      refine gw_iret (?_) (by decide) (by decide) rfl dX12_pulse_24
      subst hpost
      unfold spPulse
      first
        | (rw [if_neg (by rw [c7]; decide)]; exact ⟨rfl, _, _, _, rfl, i1, i2, i3, i4, i5, i6, i7, i8⟩)
        | (rw [if_pos c7]; unfold spCome; rw [if_pos (by omega)]; exact ⟨rfl, _, _, _, rfl, i1, i2, i3, i4, i5, i6, i7, i8⟩)
        | (rw [if_pos c7]; unfold spCome; rw [if_neg (by omega)]
           have hu := isPu_t c7
           exact ⟨rfl, _, _, _, rfl, i1, i2, i3, mI4_snoc (o := (2, a, f, q, 0)) i4 hl (Or.inl ⟨Or.inl rfl, hu.1, hu.2.1, hu.2.2.1, hu.2.2.2.1, hu.2.2.2.2.1, hu.2.2.2.2.2, show 0 ≤ (0 : Int32).toInt by decide, show (0 : Int32).toInt < 8 by decide⟩) (opStep_keep qc (show ¬ (2 : Nat) = 5 by decide) (show ¬ (2 : Nat) = 6 by decide)) qc3 q18, i5, i6, i7, i8⟩)
def spCycled (σ : aS) (a f q t : Int32) : Int32 × aS := if isPu σ.1 a f q = true ∧ inZ t.toInt 0 7 = true then spCome σ (3, a, f, q, t) else (-1000001, σ)
def spStore (σ : aS) (a v : Int32) : Int32 × aS := if inZ a.toInt 0 7 = true ∧ inZ v.toInt (-3) 3 = true then spCome σ (7, a, v, 0, 0) else (-1000001, σ)
theorem cy_ok {n : Nat} {a f q t : Int32} (h : isPu n a f q = true) (ht : inZ t.toInt 0 7 = true) : opOK n (3, a, f, q, t) := by
  have hu := isPu_t h
  rw [inZ_t] at ht
  exact Or.inl ⟨Or.inr rfl, hu.1, hu.2.1, hu.2.2.1, hu.2.2.2.1, hu.2.2.2.2.1, hu.2.2.2.2.2, ht.1, show t.toInt < 8 by omega⟩
theorem st_ok {n : Nat} {a v : Int32} (h : inZ a.toInt 0 7 = true) (hv : inZ v.toInt (-3) 3 = true) : opOK n (7, a, v, 0, 0) := by
  rw [inZ_t] at h hv
  exact Or.inr (Or.inr (Or.inr (Or.inr ⟨rfl, h.1, show a.toInt < 8 by omega, hv.1, hv.2⟩)))
abbrev kX12_cycled : gw_K := (yX12_cycled, cX12_cycled, 5, { frames := 2, cells := 0, slots := 0, locals := 48 }, (some .int))
theorem ok_X12_cycled : gw_calV kX12_cycled 4 := ⟨⟨wd_1077, wd_62, by decide, by decide, by decide +kernel⟩, wd_1075, wd_1076⟩
set_option maxHeartbeats 4000000 in
set_option maxRecDepth 100000 in
theorem t_mcycled (l : Launch) (cy : Nat → ClassId) (ad : Nat → Nat) (iv : Nat → Int32) (ia : Nat → Nat → Int32) (la : Nat → Nat → Int64) (σ : aS) (hI : mInv σ iv ia la) (a f q t : Int32) : gw_M l kX12_cycled cy [.ref (ad 0), .int (a), .int (f), .int (q), .int (t)] (mW cy ad iv ia la) (mPost cy ad (spCycled σ a f q t)) := by
  refine gw_M.mk (lv := [some (.ref (ad 0)), some (.int (a)), some (.int (f)), some (.int (q)), some (.int (t))]) (by decide) (Nat.le_of_ble_eq_true rfl) rfl ?_
  generalize hpost : (mPost cy ad (spCycled σ a f q t) : gw_Q) = post
  obtain ⟨i1, i2, i3, i4, i5, i6, i7, i8⟩ := hI
  obtain ⟨q40, q12, ⟨c, qc, qc3, q18⟩, -, -⟩ := id i4
  have q40 : (sOp σ).length ≤ 40 := q40
  refine gw_aload_n dX12_cycled_0 rfl ?_
  refine gw_iload_n dX12_cycled_1 rfl ?_
  refine gw_iload_n dX12_cycled_2 rfl ?_
  refine gw_iload_n dX12_cycled_3 rfl ?_
  refine gw_callV 0 (As := [.int (a), .int (f), .int (q)]) (st := []) (c_misPulse l cy ad iv ia la σ.1 (a) (f) (q) i1.2.2.1 i1.2.1) ok_X12_isPulse rfl rfl rfl wd_1066 rfl rfl dX12_cycled_4 (by decide) (by decide) (Nat.le_of_ble_eq_true rfl) (fun r4 w4 hp4 => ?_)
  obtain ⟨rfl, rfl⟩ := hp4
  refine gw_W.norm (st' := [.int (bI (isPu σ.1 (a) (f) (q)))]) (k1 := 0) (k2 := 0) rfl rfl rfl ?_
  refine gw_if_eq (tgt := 31) dX12_cycled_7 (by decide) (fun c7 => ?_) (fun c7 => ?_)
  · rw [bI_0] at c7
    have f7 := c7
    refine gw_ldc dX12_cycled_31 wd_903 ?_
    refine gw_iret (?_) (by decide) (by decide) rfl dX12_cycled_33
    subst hpost
    unfold spCycled
    first
      | (rw [if_neg (fun h => by first | exact absurd h.1 (by rw [f7]; decide) | exact absurd h.2 (by rw [f15]; decide))]; exact ⟨rfl, _, _, _, rfl, i1, i2, i3, i4, i5, i6, i7, i8⟩)
      | (rw [if_pos ⟨f7, f15⟩]; unfold spCome; rw [if_pos (by omega)]; exact ⟨rfl, _, _, _, rfl, i1, i2, i3, i4, i5, i6, i7, i8⟩)
      | (rw [if_pos ⟨f7, f15⟩]; unfold spCome; rw [if_neg (by omega)]
         exact ⟨rfl, _, _, _, rfl, i1, i2, i3, mI4_snoc (o := (3, a, f, q, t)) i4 hl (cy_ok f7 f15) (opStep_keep qc (show ¬ (3 : Nat) = 5 by decide) (show ¬ (3 : Nat) = 6 by decide)) qc3 q18, i5, i6, i7, i8⟩)
  · rw [bI_n0] at c7
    have f7 := c7
    refine gw_iload dX12_cycled_10 rfl ?_
    refine gw_callS (As := [.int (t)]) (st := []) (c_misTable l cy (t) (mW cy ad iv ia la)) ok_X12_isTable wd_895 rfl rfl dX12_cycled_12 (by decide) (by decide) (Nat.le_of_ble_eq_true rfl) (fun r12 w12 hp12 => ?_)
    obtain ⟨rfl, rfl⟩ := hp12
    refine gw_W.norm (st' := [.int (bI (inZ (t).toInt 0 7))]) (k1 := 0) (k2 := 0) rfl rfl rfl ?_
    refine gw_if_eq (tgt := 31) dX12_cycled_15 (by decide) (fun c15 => ?_) (fun c15 => ?_)
    · rw [bI_0] at c15
      have f15 := c15
      refine gw_ldc dX12_cycled_31 wd_903 ?_
      refine gw_iret (?_) (by decide) (by decide) rfl dX12_cycled_33
      subst hpost
      unfold spCycled
      first
        | (rw [if_neg (fun h => by first | exact absurd h.1 (by rw [f7]; decide) | exact absurd h.2 (by rw [f15]; decide))]; exact ⟨rfl, _, _, _, rfl, i1, i2, i3, i4, i5, i6, i7, i8⟩)
        | (rw [if_pos ⟨f7, f15⟩]; unfold spCome; rw [if_pos (by omega)]; exact ⟨rfl, _, _, _, rfl, i1, i2, i3, i4, i5, i6, i7, i8⟩)
        | (rw [if_pos ⟨f7, f15⟩]; unfold spCome; rw [if_neg (by omega)]
           exact ⟨rfl, _, _, _, rfl, i1, i2, i3, mI4_snoc (o := (3, a, f, q, t)) i4 hl (cy_ok f7 f15) (opStep_keep qc (show ¬ (3 : Nat) = 5 by decide) (show ¬ (3 : Nat) = 6 by decide)) qc3 q18, i5, i6, i7, i8⟩)
    · rw [bI_n0] at c15
      have f15 := c15
      refine gw_aload_n dX12_cycled_18 rfl ?_
      refine gw_iconst (v := nI (3)) dX12_cycled_19 (by decide) ?_
      refine gw_iload_n dX12_cycled_20 rfl ?_
      refine gw_iload_n dX12_cycled_21 rfl ?_
      refine gw_iload_n dX12_cycled_22 rfl ?_
      refine gw_iload dX12_cycled_23 rfl ?_
      refine gw_callV 0 (As := [.int (nI (3)), .int (a), .int (f), .int (q), .int (t)]) (st := []) (c_mcome l cy ad iv ia la (sOp σ).length (nI (3)) (a) (f) (q) (t) q12 q40) ok_X12_come rfl rfl rfl wd_1070 rfl rfl dX12_cycled_25 (by decide) (by decide) (Nat.le_of_ble_eq_true rfl) (fun r25 w25 hp25 => ?_)
      rcases Nat.lt_or_ge (sOp σ).length 40 with hl | hl
      · obtain ⟨rfl, rfl⟩ := hp25.2 hl
        refine gw_W.norm (st' := [.int (nI ((sOp σ).length))]) (k1 := 0) (k2 := 0) rfl rfl rfl ?_
        refine gw_W.wd (w' := (mW cy ad (va_up iv 12 (nI ((sOp σ).length + 1))) (va_up (va_up (va_up (va_up (va_up ia 13 (upd (ia 13) (sOp σ).length (nI (3)))) 14 (upd (ia 14) (sOp σ).length (a))) 15 (upd (ia 15) (sOp σ).length (f))) 16 (upd (ia 16) (sOp σ).length (q))) 17 (upd (ia 17) (sOp σ).length (t))) la)) rfl ?_
        refine gw_goto (tgt := 33) dX12_cycled_28 (by decide) ?_
        refine gw_iret (?_) (by decide) (by decide) rfl dX12_cycled_33
        subst hpost
        unfold spCycled
        first
          | (rw [if_neg (fun h => by first | exact absurd h.1 (by rw [f7]; decide) | exact absurd h.2 (by rw [f15]; decide))]; exact ⟨rfl, _, _, _, rfl, i1, i2, i3, i4, i5, i6, i7, i8⟩)
          | (rw [if_pos ⟨f7, f15⟩]; unfold spCome; rw [if_pos (by omega)]; exact ⟨rfl, _, _, _, rfl, i1, i2, i3, i4, i5, i6, i7, i8⟩)
          | (rw [if_pos ⟨f7, f15⟩]; unfold spCome; rw [if_neg (by omega)]
             exact ⟨rfl, _, _, _, rfl, i1, i2, i3, mI4_snoc (o := (3, a, f, q, t)) i4 hl (cy_ok f7 f15) (opStep_keep qc (show ¬ (3 : Nat) = 5 by decide) (show ¬ (3 : Nat) = 6 by decide)) qc3 q18, i5, i6, i7, i8⟩)
      · obtain ⟨rfl, rfl⟩ := hp25.1 (by omega)
        refine gw_W.norm (st' := [.int ((-1000003 : Int32))]) (k1 := 0) (k2 := 0) rfl rfl rfl ?_
        refine gw_W.wd (w' := (mW cy ad iv ia la)) rfl ?_
        refine gw_goto (tgt := 33) dX12_cycled_28 (by decide) ?_
        refine gw_iret (?_) (by decide) (by decide) rfl dX12_cycled_33
        subst hpost
        unfold spCycled
        first
          | (rw [if_neg (fun h => by first | exact absurd h.1 (by rw [f7]; decide) | exact absurd h.2 (by rw [f15]; decide))]; exact ⟨rfl, _, _, _, rfl, i1, i2, i3, i4, i5, i6, i7, i8⟩)
          | (rw [if_pos ⟨f7, f15⟩]; unfold spCome; rw [if_pos (by omega)]; exact ⟨rfl, _, _, _, rfl, i1, i2, i3, i4, i5, i6, i7, i8⟩)
          | (rw [if_pos ⟨f7, f15⟩]; unfold spCome; rw [if_neg (by omega)]
             exact ⟨rfl, _, _, _, rfl, i1, i2, i3, mI4_snoc (o := (3, a, f, q, t)) i4 hl (cy_ok f7 f15) (opStep_keep qc (show ¬ (3 : Nat) = 5 by decide) (show ¬ (3 : Nat) = 6 by decide)) qc3 q18, i5, i6, i7, i8⟩)
abbrev kX12_store : gw_K := (yX12_store, cX12_store, 3, { frames := 1, cells := 0, slots := 0, locals := 25 }, (some .int))
theorem ok_X12_store : gw_calV kX12_store 2 := ⟨⟨wd_1095, wd_62, by decide, by decide, by decide +kernel⟩, wd_1093, wd_1094⟩
set_option maxHeartbeats 4000000 in
set_option maxRecDepth 100000 in
theorem t_mstore (l : Launch) (cy : Nat → ClassId) (ad : Nat → Nat) (iv : Nat → Int32) (ia : Nat → Nat → Int32) (la : Nat → Nat → Int64) (σ : aS) (hI : mInv σ iv ia la) (a v : Int32) : gw_M l kX12_store cy [.ref (ad 0), .int (a), .int (v)] (mW cy ad iv ia la) (mPost cy ad (spStore σ a v)) := by
  refine gw_M.mk (lv := [some (.ref (ad 0)), some (.int (a)), some (.int (v))]) (by decide) (Nat.le_of_ble_eq_true rfl) rfl ?_
  generalize hpost : (mPost cy ad (spStore σ a v) : gw_Q) = post
  obtain ⟨i1, i2, i3, i4, i5, i6, i7, i8⟩ := hI
  obtain ⟨q40, q12, ⟨c, qc, qc3, q18⟩, -, -⟩ := id i4
  have q40 : (sOp σ).length ≤ 40 := q40
  refine gw_iload_n dX12_store_0 rfl ?_
  refine gw_i2l dX12_store_1 rfl ?_
  refine gw_lconst (v := (0 : Int64)) dX12_store_2 (by decide) ?_
  refine gw_ldc2 dX12_store_3 wd_898 ?_
  refine gw_callS (As := [.long ((a).toInt64), .long ((0 : Int64)), .long ((7 : Int64))]) (st := []) (c_min l cy ((a).toInt64) ((0 : Int64)) ((7 : Int64)) (mW cy ad iv ia la)) ok_X12_in wd_899 rfl rfl dX12_store_6 (by decide) (by decide) (Nat.le_of_ble_eq_true rfl) (fun r6 w6 hp6 => ?_)
  obtain ⟨rfl, rfl⟩ := hp6
  refine gw_W.norm (st' := [.int (bI (inZ ((a).toInt64).toInt ((0 : Int64)).toInt ((7 : Int64)).toInt))]) (k1 := 0) (k2 := 0) rfl rfl rfl ?_
  refine gw_if_eq (tgt := 39) dX12_store_9 (by decide) (fun c9 => ?_) (fun c9 => ?_)
  · rw [bI_0, i64_of] at c9
    have f9 : inZ a.toInt 0 7 = false := c9
    refine gw_ldc dX12_store_39 wd_903 ?_
    refine gw_iret (?_) (by decide) (by decide) rfl dX12_store_41
    subst hpost
    unfold spStore
    first
      | (rw [if_neg (fun h => by first | exact absurd h.1 (by rw [f9]; decide) | exact absurd h.2 (by rw [f23]; decide))]; exact ⟨rfl, _, _, _, rfl, i1, i2, i3, i4, i5, i6, i7, i8⟩)
      | (rw [if_pos ⟨f9, f23⟩]; unfold spCome; rw [if_pos (by omega)]; exact ⟨rfl, _, _, _, rfl, i1, i2, i3, i4, i5, i6, i7, i8⟩)
      | (rw [if_pos ⟨f9, f23⟩]; unfold spCome; rw [if_neg (by omega)]
         exact ⟨rfl, _, _, _, rfl, i1, i2, i3, mI4_snoc (o := (7, a, v, 0, 0)) i4 hl (st_ok f9 f23) (opStep_keep qc (show ¬ (7 : Nat) = 5 by decide) (show ¬ (7 : Nat) = 6 by decide)) qc3 q18, i5, i6, i7, i8⟩)
  · rw [bI_n0, i64_of] at c9
    have f9 : inZ a.toInt 0 7 = true := c9
    refine gw_iload_n dX12_store_12 rfl ?_
    refine gw_i2l dX12_store_13 rfl ?_
    refine gw_ldc2 dX12_store_14 wd_978 ?_
    refine gw_ldc2 dX12_store_17 wd_979 ?_
    refine gw_callS (As := [.long ((v).toInt64), .long (((-3) : Int64)), .long ((3 : Int64))]) (st := []) (c_min l cy ((v).toInt64) (((-3) : Int64)) ((3 : Int64)) (mW cy ad iv ia la)) ok_X12_in wd_899 rfl rfl dX12_store_20 (by decide) (by decide) (Nat.le_of_ble_eq_true rfl) (fun r20 w20 hp20 => ?_)
    obtain ⟨rfl, rfl⟩ := hp20
    refine gw_W.norm (st' := [.int (bI (inZ ((v).toInt64).toInt (((-3) : Int64)).toInt ((3 : Int64)).toInt))]) (k1 := 0) (k2 := 0) rfl rfl rfl ?_
    refine gw_if_eq (tgt := 39) dX12_store_23 (by decide) (fun c23 => ?_) (fun c23 => ?_)
    · rw [bI_0, i64_of] at c23
      have f23 : inZ v.toInt (-3) 3 = false := c23
      refine gw_ldc dX12_store_39 wd_903 ?_
      refine gw_iret (?_) (by decide) (by decide) rfl dX12_store_41
      subst hpost
      unfold spStore
      first
        | (rw [if_neg (fun h => by first | exact absurd h.1 (by rw [f9]; decide) | exact absurd h.2 (by rw [f23]; decide))]; exact ⟨rfl, _, _, _, rfl, i1, i2, i3, i4, i5, i6, i7, i8⟩)
        | (rw [if_pos ⟨f9, f23⟩]; unfold spCome; rw [if_pos (by omega)]; exact ⟨rfl, _, _, _, rfl, i1, i2, i3, i4, i5, i6, i7, i8⟩)
        | (rw [if_pos ⟨f9, f23⟩]; unfold spCome; rw [if_neg (by omega)]
           exact ⟨rfl, _, _, _, rfl, i1, i2, i3, mI4_snoc (o := (7, a, v, 0, 0)) i4 hl (st_ok f9 f23) (opStep_keep qc (show ¬ (7 : Nat) = 5 by decide) (show ¬ (7 : Nat) = 6 by decide)) qc3 q18, i5, i6, i7, i8⟩)
    · rw [bI_n0, i64_of] at c23
      have f23 : inZ v.toInt (-3) 3 = true := c23
      refine gw_aload_n dX12_store_26 rfl ?_
      refine gw_bipush (v := nI (7)) dX12_store_27 (by decide) ?_
      refine gw_iload_n dX12_store_29 rfl ?_
      refine gw_iload_n dX12_store_30 rfl ?_
      refine gw_iconst (v := nI (0)) dX12_store_31 (by decide) ?_
      refine gw_iconst (v := nI (0)) dX12_store_32 (by decide) ?_
      refine gw_callV 0 (As := [.int (nI (7)), .int (a), .int (v), .int (nI (0)), .int (nI (0))]) (st := []) (c_mcome l cy ad iv ia la (sOp σ).length (nI (7)) (a) (v) (nI (0)) (nI (0)) q12 q40) ok_X12_come rfl rfl rfl wd_1070 rfl rfl dX12_store_33 (by decide) (by decide) (Nat.le_of_ble_eq_true rfl) (fun r33 w33 hp33 => ?_)
      rcases Nat.lt_or_ge (sOp σ).length 40 with hl | hl
      · obtain ⟨rfl, rfl⟩ := hp33.2 hl
        refine gw_W.norm (st' := [.int (nI ((sOp σ).length))]) (k1 := 0) (k2 := 0) rfl rfl rfl ?_
        refine gw_W.wd (w' := (mW cy ad (va_up iv 12 (nI ((sOp σ).length + 1))) (va_up (va_up (va_up (va_up (va_up ia 13 (upd (ia 13) (sOp σ).length (nI (7)))) 14 (upd (ia 14) (sOp σ).length (a))) 15 (upd (ia 15) (sOp σ).length (v))) 16 (upd (ia 16) (sOp σ).length (nI (0)))) 17 (upd (ia 17) (sOp σ).length (nI (0)))) la)) rfl ?_
        refine gw_goto (tgt := 41) dX12_store_36 (by decide) ?_
        refine gw_iret (?_) (by decide) (by decide) rfl dX12_store_41
        subst hpost
        unfold spStore
        first
          | (rw [if_neg (fun h => by first | exact absurd h.1 (by rw [f9]; decide) | exact absurd h.2 (by rw [f23]; decide))]; exact ⟨rfl, _, _, _, rfl, i1, i2, i3, i4, i5, i6, i7, i8⟩)
          | (rw [if_pos ⟨f9, f23⟩]; unfold spCome; rw [if_pos (by omega)]; exact ⟨rfl, _, _, _, rfl, i1, i2, i3, i4, i5, i6, i7, i8⟩)
          | (rw [if_pos ⟨f9, f23⟩]; unfold spCome; rw [if_neg (by omega)]
             exact ⟨rfl, _, _, _, rfl, i1, i2, i3, mI4_snoc (o := (7, a, v, 0, 0)) i4 hl (st_ok f9 f23) (opStep_keep qc (show ¬ (7 : Nat) = 5 by decide) (show ¬ (7 : Nat) = 6 by decide)) qc3 q18, i5, i6, i7, i8⟩)
      · obtain ⟨rfl, rfl⟩ := hp33.1 (by omega)
        refine gw_W.norm (st' := [.int ((-1000003 : Int32))]) (k1 := 0) (k2 := 0) rfl rfl rfl ?_
        refine gw_W.wd (w' := (mW cy ad iv ia la)) rfl ?_
        refine gw_goto (tgt := 41) dX12_store_36 (by decide) ?_
        refine gw_iret (?_) (by decide) (by decide) rfl dX12_store_41
        subst hpost
        unfold spStore
        first
          | (rw [if_neg (fun h => by first | exact absurd h.1 (by rw [f9]; decide) | exact absurd h.2 (by rw [f23]; decide))]; exact ⟨rfl, _, _, _, rfl, i1, i2, i3, i4, i5, i6, i7, i8⟩)
          | (rw [if_pos ⟨f9, f23⟩]; unfold spCome; rw [if_pos (by omega)]; exact ⟨rfl, _, _, _, rfl, i1, i2, i3, i4, i5, i6, i7, i8⟩)
          | (rw [if_pos ⟨f9, f23⟩]; unfold spCome; rw [if_neg (by omega)]
             exact ⟨rfl, _, _, _, rfl, i1, i2, i3, mI4_snoc (o := (7, a, v, 0, 0)) i4 hl (st_ok f9 f23) (opStep_keep qc (show ¬ (7 : Nat) = 5 by decide) (show ¬ (7 : Nat) = 6 by decide)) qc3 q18, i5, i6, i7, i8⟩)
def spDelay (σ : aS) (p x way : Int32) : Int32 × aS := if inZ p.toInt 0 ((4 ^ σ.1 : Nat) - 1) = true ∧ inZ x.toInt 0 3 = true ∧ decide (way = 1 ∨ way = -1) = true then spCome σ (4, p, x, way, 0) else (-1000001, σ)
theorem de_ok {n : Nat} {p x way : Int32} (h : inZ p.toInt 0 ((4 ^ n : Nat) - 1) = true) (hx : inZ x.toInt 0 3 = true) (hw : decide (way = 1 ∨ way = -1) = true) : opOK n (4, p, x, way, 0) := by
  rw [inZ_t] at h hx
  have e : ((4 ^ n : Nat) : Int) = 4 ^ n := by rw [Int.natCast_pow]; rfl
  exact Or.inr (Or.inl ⟨rfl, h.1, show p.toInt < 4 ^ n by omega, hx.1, show x.toInt < 4 by omega, of_decide_eq_true hw⟩)
abbrev kX12_delay : gw_K := (yX12_delay, cX12_delay, 4, { frames := 2, cells := 0, slots := 0, locals := 46 }, (some .int))
theorem ok_X12_delay : gw_calV kX12_delay 3 := ⟨⟨wd_1081, wd_62, by decide, by decide, by decide +kernel⟩, wd_1079, wd_1080⟩
set_option maxHeartbeats 4000000 in
set_option maxRecDepth 100000 in
theorem t_mdelay (l : Launch) (cy : Nat → ClassId) (ad : Nat → Nat) (iv : Nat → Int32) (ia : Nat → Nat → Int32) (la : Nat → Nat → Int64) (σ : aS) (hI : mInv σ iv ia la) (p x way : Int32) : gw_M l kX12_delay cy [.ref (ad 0), .int (p), .int (x), .int (way)] (mW cy ad iv ia la) (mPost cy ad (spDelay σ p x way)) := by
  refine gw_M.mk (lv := [some (.ref (ad 0)), some (.int (p)), some (.int (x)), some (.int (way))]) (by decide) (Nat.le_of_ble_eq_true rfl) rfl ?_
  generalize hpost : (mPost cy ad (spDelay σ p x way) : gw_Q) = post
  obtain ⟨i1, i2, i3, i4, i5, i6, i7, i8⟩ := hI
  obtain ⟨q40, q12, ⟨c, qc, qc3, q18⟩, -, -⟩ := id i4
  have q40 : (sOp σ).length ≤ 40 := q40
  refine gw_aload_n dX12_delay_0 rfl ?_
  refine gw_iload_n dX12_delay_1 rfl ?_
  refine gw_callV 0 (As := [.int (p)]) (st := []) (c_misProduct l cy ad iv ia la (p) (4 ^ σ.1) i1.2.2.2 (Nat.pow_pos (by decide)) (by have := pow4_le i1.2.1; omega)) ok_X12_isProduct rfl rfl rfl wd_940 rfl rfl dX12_delay_2 (by decide) (by decide) (Nat.le_of_ble_eq_true rfl) (fun r2 w2 hp2 => ?_)
  obtain ⟨rfl, rfl⟩ := hp2
  refine gw_W.norm (st' := [.int (bI (inZ (p).toInt 0 ((4 ^ σ.1 : Nat) - 1)))]) (k1 := 0) (k2 := 0) rfl rfl rfl ?_
  refine gw_if_eq (tgt := 39) dX12_delay_5 (by decide) (fun c5 => ?_) (fun c5 => ?_)
  · rw [bI_0] at c5
    have f5 := c5
    refine gw_ldc dX12_delay_39 wd_903 ?_
    refine gw_iret (?_) (by decide) (by decide) rfl dX12_delay_41
    subst hpost
    unfold spDelay
    first
      | (rw [if_neg (fun h => by first | exact absurd h.1 (by rw [f5]; decide) | exact absurd h.2.1 (by rw [f17]; decide) | exact absurd h.2.2 (by rw [f24]; decide))]; exact ⟨rfl, _, _, _, rfl, i1, i2, i3, i4, i5, i6, i7, i8⟩)
      | (rw [if_pos ⟨f5, f17, f24⟩]; unfold spCome; rw [if_pos (by omega)]; exact ⟨rfl, _, _, _, rfl, i1, i2, i3, i4, i5, i6, i7, i8⟩)
      | (rw [if_pos ⟨f5, f17, f24⟩]; unfold spCome; rw [if_neg (by omega)]
         exact ⟨rfl, _, _, _, rfl, i1, i2, i3, mI4_snoc (o := (4, p, x, way, 0)) i4 hl (de_ok f5 f17 f24) (opStep_keep qc (show ¬ (4 : Nat) = 5 by decide) (show ¬ (4 : Nat) = 6 by decide)) qc3 q18, i5, i6, i7, i8⟩)
  · rw [bI_n0] at c5
    have f5 := c5
    refine gw_iload_n dX12_delay_8 rfl ?_
    refine gw_i2l dX12_delay_9 rfl ?_
    refine gw_lconst (v := (0 : Int64)) dX12_delay_10 (by decide) ?_
    refine gw_ldc2 dX12_delay_11 wd_979 ?_
    refine gw_callS (As := [.long ((x).toInt64), .long ((0 : Int64)), .long ((3 : Int64))]) (st := []) (c_min l cy ((x).toInt64) ((0 : Int64)) ((3 : Int64)) (mW cy ad iv ia la)) ok_X12_in wd_899 rfl rfl dX12_delay_14 (by decide) (by decide) (Nat.le_of_ble_eq_true rfl) (fun r14 w14 hp14 => ?_)
    obtain ⟨rfl, rfl⟩ := hp14
    refine gw_W.norm (st' := [.int (bI (inZ ((x).toInt64).toInt ((0 : Int64)).toInt ((3 : Int64)).toInt))]) (k1 := 0) (k2 := 0) rfl rfl rfl ?_
    refine gw_if_eq (tgt := 39) dX12_delay_17 (by decide) (fun c17 => ?_) (fun c17 => ?_)
    · rw [bI_0, i64_of] at c17
      have f17 : inZ x.toInt 0 3 = false := c17
      refine gw_ldc dX12_delay_39 wd_903 ?_
      refine gw_iret (?_) (by decide) (by decide) rfl dX12_delay_41
      subst hpost
      unfold spDelay
      first
        | (rw [if_neg (fun h => by first | exact absurd h.1 (by rw [f5]; decide) | exact absurd h.2.1 (by rw [f17]; decide) | exact absurd h.2.2 (by rw [f24]; decide))]; exact ⟨rfl, _, _, _, rfl, i1, i2, i3, i4, i5, i6, i7, i8⟩)
        | (rw [if_pos ⟨f5, f17, f24⟩]; unfold spCome; rw [if_pos (by omega)]; exact ⟨rfl, _, _, _, rfl, i1, i2, i3, i4, i5, i6, i7, i8⟩)
        | (rw [if_pos ⟨f5, f17, f24⟩]; unfold spCome; rw [if_neg (by omega)]
           exact ⟨rfl, _, _, _, rfl, i1, i2, i3, mI4_snoc (o := (4, p, x, way, 0)) i4 hl (de_ok f5 f17 f24) (opStep_keep qc (show ¬ (4 : Nat) = 5 by decide) (show ¬ (4 : Nat) = 6 by decide)) qc3 q18, i5, i6, i7, i8⟩)
    · rw [bI_n0, i64_of] at c17
      have f17 : inZ x.toInt 0 3 = true := c17
      refine gw_iload_n dX12_delay_20 rfl ?_
      refine gw_callS (As := [.int (way)]) (st := []) (c_misWay l cy (way) (mW cy ad iv ia la)) ok_X12_isWay wd_1008 rfl rfl dX12_delay_21 (by decide) (by decide) (Nat.le_of_ble_eq_true rfl) (fun r21 w21 hp21 => ?_)
      obtain ⟨rfl, rfl⟩ := hp21
      refine gw_W.norm (st' := [.int (bI (decide (way = 1 ∨ way = -1)))]) (k1 := 0) (k2 := 0) rfl rfl rfl ?_
      refine gw_if_eq (tgt := 39) dX12_delay_24 (by decide) (fun c24 => ?_) (fun c24 => ?_)
      · rw [bI_0] at c24
        have f24 := c24
        refine gw_ldc dX12_delay_39 wd_903 ?_
        refine gw_iret (?_) (by decide) (by decide) rfl dX12_delay_41
        subst hpost
        unfold spDelay
        first
          | (rw [if_neg (fun h => by first | exact absurd h.1 (by rw [f5]; decide) | exact absurd h.2.1 (by rw [f17]; decide) | exact absurd h.2.2 (by rw [f24]; decide))]; exact ⟨rfl, _, _, _, rfl, i1, i2, i3, i4, i5, i6, i7, i8⟩)
          | (rw [if_pos ⟨f5, f17, f24⟩]; unfold spCome; rw [if_pos (by omega)]; exact ⟨rfl, _, _, _, rfl, i1, i2, i3, i4, i5, i6, i7, i8⟩)
          | (rw [if_pos ⟨f5, f17, f24⟩]; unfold spCome; rw [if_neg (by omega)]
             exact ⟨rfl, _, _, _, rfl, i1, i2, i3, mI4_snoc (o := (4, p, x, way, 0)) i4 hl (de_ok f5 f17 f24) (opStep_keep qc (show ¬ (4 : Nat) = 5 by decide) (show ¬ (4 : Nat) = 6 by decide)) qc3 q18, i5, i6, i7, i8⟩)
      · rw [bI_n0] at c24
        have f24 := c24
        refine gw_aload_n dX12_delay_27 rfl ?_
        refine gw_iconst (v := nI (4)) dX12_delay_28 (by decide) ?_
        refine gw_iload_n dX12_delay_29 rfl ?_
        refine gw_iload_n dX12_delay_30 rfl ?_
        refine gw_iload_n dX12_delay_31 rfl ?_
        refine gw_iconst (v := nI (0)) dX12_delay_32 (by decide) ?_
        refine gw_callV 0 (As := [.int (nI (4)), .int (p), .int (x), .int (way), .int (nI (0))]) (st := []) (c_mcome l cy ad iv ia la (sOp σ).length (nI (4)) (p) (x) (way) (nI (0)) q12 q40) ok_X12_come rfl rfl rfl wd_1070 rfl rfl dX12_delay_33 (by decide) (by decide) (Nat.le_of_ble_eq_true rfl) (fun r33 w33 hp33 => ?_)
        rcases Nat.lt_or_ge (sOp σ).length 40 with hl | hl
        · obtain ⟨rfl, rfl⟩ := hp33.2 hl
          refine gw_W.norm (st' := [.int (nI ((sOp σ).length))]) (k1 := 0) (k2 := 0) rfl rfl rfl ?_
          refine gw_W.wd (w' := (mW cy ad (va_up iv 12 (nI ((sOp σ).length + 1))) (va_up (va_up (va_up (va_up (va_up ia 13 (upd (ia 13) (sOp σ).length (nI (4)))) 14 (upd (ia 14) (sOp σ).length (p))) 15 (upd (ia 15) (sOp σ).length (x))) 16 (upd (ia 16) (sOp σ).length (way))) 17 (upd (ia 17) (sOp σ).length (nI (0)))) la)) rfl ?_
          refine gw_goto (tgt := 41) dX12_delay_36 (by decide) ?_
          refine gw_iret (?_) (by decide) (by decide) rfl dX12_delay_41
          subst hpost
          unfold spDelay
          first
            | (rw [if_neg (fun h => by first | exact absurd h.1 (by rw [f5]; decide) | exact absurd h.2.1 (by rw [f17]; decide) | exact absurd h.2.2 (by rw [f24]; decide))]; exact ⟨rfl, _, _, _, rfl, i1, i2, i3, i4, i5, i6, i7, i8⟩)
            | (rw [if_pos ⟨f5, f17, f24⟩]; unfold spCome; rw [if_pos (by omega)]; exact ⟨rfl, _, _, _, rfl, i1, i2, i3, i4, i5, i6, i7, i8⟩)
            | (rw [if_pos ⟨f5, f17, f24⟩]; unfold spCome; rw [if_neg (by omega)]
               exact ⟨rfl, _, _, _, rfl, i1, i2, i3, mI4_snoc (o := (4, p, x, way, 0)) i4 hl (de_ok f5 f17 f24) (opStep_keep qc (show ¬ (4 : Nat) = 5 by decide) (show ¬ (4 : Nat) = 6 by decide)) qc3 q18, i5, i6, i7, i8⟩)
        · obtain ⟨rfl, rfl⟩ := hp33.1 (by omega)
          refine gw_W.norm (st' := [.int ((-1000003 : Int32))]) (k1 := 0) (k2 := 0) rfl rfl rfl ?_
          refine gw_W.wd (w' := (mW cy ad iv ia la)) rfl ?_
          refine gw_goto (tgt := 41) dX12_delay_36 (by decide) ?_
          refine gw_iret (?_) (by decide) (by decide) rfl dX12_delay_41
          subst hpost
          unfold spDelay
          first
            | (rw [if_neg (fun h => by first | exact absurd h.1 (by rw [f5]; decide) | exact absurd h.2.1 (by rw [f17]; decide) | exact absurd h.2.2 (by rw [f24]; decide))]; exact ⟨rfl, _, _, _, rfl, i1, i2, i3, i4, i5, i6, i7, i8⟩)
            | (rw [if_pos ⟨f5, f17, f24⟩]; unfold spCome; rw [if_pos (by omega)]; exact ⟨rfl, _, _, _, rfl, i1, i2, i3, i4, i5, i6, i7, i8⟩)
            | (rw [if_pos ⟨f5, f17, f24⟩]; unfold spCome; rw [if_neg (by omega)]
               exact ⟨rfl, _, _, _, rfl, i1, i2, i3, mI4_snoc (o := (4, p, x, way, 0)) i4 hl (de_ok f5 f17 f24) (opStep_keep qc (show ¬ (4 : Nat) = 5 by decide) (show ¬ (4 : Nat) = 6 by decide)) qc3 q18, i5, i6, i7, i8⟩)
