def spTake (σ : aS) (a b : Int32) : Int32 × aS := if inZ a.toInt (-1) 7 = true ∧ inZ b.toInt (-1) 7 = true then (nI (sSm σ (mPl b)).length, setSm σ (mPl a) (sSm σ (mPl b))) else (-1000001, σ)
def joinC (X Y : List sT) (v : Int32) : List sT := sPuts (sPuts [] (sScale 1 X)) (sScale v.toInt64 Y)
def ofKeep (σ : aS) (t : Nat) (F : Option (List sT)) : Int32 × aS := match F with
  | some S => (nI S.length, setSm σ t S)
  | none => (-1000003, σ)
def spJoin (σ : aS) (a b v : Int32) : Int32 × aS := if inZ a.toInt (-1) 7 = true ∧ inZ b.toInt (-1) 7 = true ∧ inZ v.toInt (-3) 3 = true then ofKeep σ (mPl a) (keepS (joinC (sSm σ (mPl a)) (sSm σ (mPl b)) v)) else (-1000001, σ)
theorem joinC_ok {n : Nat} {X Y : List sT} {v : Int32} (hX : ∀ q ∈ X, keyOK n q.1) (hY : ∀ q ∈ Y, keyOK n q.1) : sOrd (joinC X Y v) ∧ ∀ q ∈ joinC X Y v, keyOK n q.1 := by
  refine ⟨sPuts_ord (sPuts_ord List.Pairwise.nil), fun q hq => ?_⟩
  rcases sPuts_mem hq with ⟨p, hp, e⟩ | ⟨p, hp, e⟩
  · rcases sPuts_mem hp with ⟨p2, hp2, e2⟩ | ⟨p2, hp2, e2⟩
    · cases hp2
    · obtain ⟨p3, hp3, e3⟩ := sScale_mem hp2
      rw [← e, ← e2, ← e3]; exact hX p3 hp3
  · obtain ⟨p3, hp3, e3⟩ := sScale_mem hp
    rw [← e, ← e3]; exact hY p3 hp3
abbrev kX12_take : gw_K := (yX12_take, cX12_take, 3, { frames := 2, cells := 0, slots := 0, locals := 45 }, (some .int))
theorem ok_X12_take : gw_calV kX12_take 2 := ⟨⟨wd_969, wd_62, by decide, by decide, by decide +kernel⟩, wd_967, wd_968⟩
set_option maxHeartbeats 4000000 in
set_option maxRecDepth 100000 in
theorem t_mtake (l : Launch) (cy : Nat → ClassId) (ad : Nat → Nat) (iv : Nat → Int32) (ia : Nat → Nat → Int32) (la : Nat → Nat → Int64) (σ : aS) (hI : mInv σ iv ia la) (a b : Int32) : gw_M l kX12_take cy [.ref (ad 0), .int (a), .int (b)] (mW cy ad iv ia la) (mPost cy ad (spTake σ a b)) := by
  refine gw_M.mk (lv := [some (.ref (ad 0)), some (.int (a)), some (.int (b))]) (by decide) (Nat.le_of_ble_eq_true rfl) rfl ?_
  generalize hpost : (mPost cy ad (spTake σ a b) : gw_Q) = post
  obtain ⟨i1, i2, i3, i4, i5, i6, i7, i8⟩ := hI
  refine gw_iload_n dX12_take_0 rfl ?_
  refine gw_callS (As := [.int (a)]) (st := []) (c_misShelf l cy (a) (mW cy ad iv ia la)) ok_X12_isShelf wd_929 rfl rfl dX12_take_1 (by decide) (by decide) (Nat.le_of_ble_eq_true rfl) (fun r1 w1 hp1 => ?_)
  obtain ⟨rfl, rfl⟩ := hp1
  refine gw_W.norm (st' := [.int (bI (inZ (a).toInt (-1) 7))]) (k1 := 0) (k2 := 0) rfl rfl rfl ?_
  refine gw_if_eq (tgt := 14) dX12_take_4 (by decide) (fun c4 => ?_) (fun c4 => ?_)
  · rw [bI_0] at c4
    refine gw_ldc dX12_take_14 wd_903 ?_
    refine gw_iret (?_) (by decide) (by decide) rfl dX12_take_16
    subst hpost
    unfold spTake
    rw [if_neg (fun h => by first | exact absurd h.1 (by rw [c4]; decide) | exact absurd h.2 (by rw [c11]; decide))]
    exact ⟨rfl, iv, ia, la, rfl, i1, i2, i3, i4, i5, i6, i7, i8⟩
  · rw [bI_n0] at c4
    refine gw_iload_n dX12_take_7 rfl ?_
    refine gw_callS (As := [.int (b)]) (st := []) (c_misShelf l cy (b) (mW cy ad iv ia la)) ok_X12_isShelf wd_929 rfl rfl dX12_take_8 (by decide) (by decide) (Nat.le_of_ble_eq_true rfl) (fun r8 w8 hp8 => ?_)
    obtain ⟨rfl, rfl⟩ := hp8
    refine gw_W.norm (st' := [.int (bI (inZ (b).toInt (-1) 7))]) (k1 := 0) (k2 := 0) rfl rfl rfl ?_
    refine gw_if_ne (tgt := 17) dX12_take_11 (by decide) (fun c11 => ?_) (fun c11 => ?_)
    · rw [bI_n0] at c11
      have ha9 := mPl_lt c4
      have hb9 := mPl_lt c11
      obtain ⟨b1, b2, b3, b4⟩ := mI3_take i3 hb9
      refine gw_aload_n dX12_take_17 rfl ?_
      refine gw_iload_n dX12_take_18 rfl ?_
      refine gw_callS (As := [.int (a)]) (st := [.ref (ad 0)]) (c_mplaceOf l cy (a) (c4) (mW cy ad iv ia la)) ok_X12_placeOf wd_933 rfl rfl dX12_take_19 (by decide) (by decide) (Nat.le_of_ble_eq_true rfl) (fun r19 w19 hp19 => ?_)
      obtain ⟨rfl, rfl⟩ := hp19
      refine gw_W.norm (st' := [.int (nI (mPl (a))), .ref (ad 0)]) (k1 := 0) (k2 := 0) rfl rfl rfl ?_
      refine gw_iload_n dX12_take_22 rfl ?_
      refine gw_callS (As := [.int (b)]) (st := [.int (nI (mPl (a))), .ref (ad 0)]) (c_mplaceOf l cy (b) (c11) (mW cy ad iv ia la)) ok_X12_placeOf wd_933 rfl rfl dX12_take_23 (by decide) (by decide) (Nat.le_of_ble_eq_true rfl) (fun r23 w23 hp23 => ?_)
      obtain ⟨rfl, rfl⟩ := hp23
      refine gw_W.norm (st' := [.int (nI (mPl (b))), .int (nI (mPl (a))), .ref (ad 0)]) (k1 := 0) (k2 := 0) rfl rfl rfl ?_
      refine gw_callV 0 (As := [.int (nI (mPl (a))), .int (nI (mPl (b)))]) (st := []) (c_mcopySum l cy ad iv ia la (mPl (a)) (mPl (b)) ((sSm σ (mPl b)).length) (b1) (by omega) (by omega) (b2)) ok_X12_copySum rfl rfl rfl wd_970 rfl rfl dX12_take_26 (by decide) (by decide) (Nat.le_of_ble_eq_true rfl) (fun r26 w26 hp26 => ?_)
      obtain ⟨rfl, kk26, nn26, rfl, hT26, hO26⟩ := hp26
      refine gw_W.wd (w' := (mW cy ad iv (va_up (va_up ia 6 (upd (ia 6) (mPl (a)) (nI ((sSm σ (mPl b)).length)))) 7 (kk26)) (va_up la 8 (nn26)))) rfl ?_
      refine gw_W.norm (st' := []) (k1 := 0) (k2 := 0) rfl rfl rfl ?_
      refine gw_aload_n dX12_take_29 rfl ?_
      refine gm_get_many rfl dX12_take_30 ?_
      refine gw_iload_n dX12_take_33 rfl ?_
      refine gw_callS (As := [.int (a)]) (st := [.ref (ad 6)]) (c_mplaceOf l cy (a) (c4) (mW cy ad iv (va_up (va_up ia 6 (upd (ia 6) (mPl (a)) (nI ((sSm σ (mPl b)).length)))) 7 (kk26)) (va_up la 8 (nn26)))) ok_X12_placeOf wd_933 rfl rfl dX12_take_34 (by decide) (by decide) (Nat.le_of_ble_eq_true rfl) (fun r34 w34 hp34 => ?_)
      obtain ⟨rfl, rfl⟩ := hp34
      refine gw_W.norm (st' := [.int (nI (mPl (a))), .ref (ad 6)]) (k1 := 0) (k2 := 0) rfl rfl rfl ?_
      refine gm_ld_many (j := mPl (a)) (rfl) (by omega) dX12_take_37 ?_
      refine gw_topi (y := (upd (ia 6) (mPl (a)) (nI ((sSm σ (mPl b)).length))) (mPl (a))) rfl ?_
      refine gw_topi (y := nI ((sSm σ (mPl b)).length)) (pk_us) ?_
      refine gw_iret (?_) (by decide) (by decide) rfl dX12_take_38
      subst hpost
      unfold spTake
      rw [if_pos ⟨c4, c11⟩]
      exact ⟨rfl, _, _, _, rfl, i1, i2, mI3_set i3 ha9 (i3 _ hb9).1 (hT26.trans b3) hO26, i4, i5, i6, i7, i8⟩
    · rw [bI_0] at c11
      refine gw_ldc dX12_take_14 wd_903 ?_
      refine gw_iret (?_) (by decide) (by decide) rfl dX12_take_16
      subst hpost
      unfold spTake
      rw [if_neg (fun h => by first | exact absurd h.1 (by rw [c4]; decide) | exact absurd h.2 (by rw [c11]; decide))]
      exact ⟨rfl, iv, ia, la, rfl, i1, i2, i3, i4, i5, i6, i7, i8⟩
abbrev kX12_join : gw_K := (yX12_join, cX12_join, 4, { frames := 3, cells := 0, slots := 0, locals := 73 }, (some .int))
theorem ok_X12_join : gw_calV kX12_join 3 := ⟨⟨wd_977, wd_62, by decide, by decide, by decide +kernel⟩, wd_975, wd_976⟩
set_option maxHeartbeats 4000000 in
set_option maxRecDepth 100000 in
theorem t_mjoin (l : Launch) (cy : Nat → ClassId) (ad : Nat → Nat) (iv : Nat → Int32) (ia : Nat → Nat → Int32) (la : Nat → Nat → Int64) (σ : aS) (hI : mInv σ iv ia la) (a b v : Int32) : gw_M l kX12_join cy [.ref (ad 0), .int (a), .int (b), .int (v)] (mW cy ad iv ia la) (mPost cy ad (spJoin σ a b v)) := by
  refine gw_M.mk (lv := [some (.ref (ad 0)), some (.int (a)), some (.int (b)), some (.int (v))]) (by decide) (Nat.le_of_ble_eq_true rfl) rfl ?_
  generalize hpost : (mPost cy ad (spJoin σ a b v) : gw_Q) = post
  obtain ⟨i1, i2, i3, i4, i5, i6, i7, i8⟩ := hI
  refine gw_iload_n dX12_join_0 rfl ?_
  refine gw_callS (As := [.int (a)]) (st := []) (c_misShelf l cy (a) (mW cy ad iv ia la)) ok_X12_isShelf wd_929 rfl rfl dX12_join_1 (by decide) (by decide) (Nat.le_of_ble_eq_true rfl) (fun r1 w1 hp1 => ?_)
  obtain ⟨rfl, rfl⟩ := hp1
  refine gw_W.norm (st' := [.int (bI (inZ (a).toInt (-1) 7))]) (k1 := 0) (k2 := 0) rfl rfl rfl ?_
  refine gw_if_eq (tgt := 28) dX12_join_4 (by decide) (fun c4 => ?_) (fun c4 => ?_)
  · rw [bI_0] at c4
    refine gw_ldc dX12_join_28 wd_903 ?_
    refine gw_iret (?_) (by decide) (by decide) rfl dX12_join_30
    subst hpost
    unfold spJoin
    rw [if_neg (fun h => by first | exact absurd h.1 (by rw [c4]; decide) | exact absurd h.2.1 (by rw [c11]; decide) | exact absurd h.2.2 (by rw [c25]; decide))]
    exact ⟨rfl, iv, ia, la, rfl, i1, i2, i3, i4, i5, i6, i7, i8⟩
  · rw [bI_n0] at c4
    refine gw_iload_n dX12_join_7 rfl ?_
    refine gw_callS (As := [.int (b)]) (st := []) (c_misShelf l cy (b) (mW cy ad iv ia la)) ok_X12_isShelf wd_929 rfl rfl dX12_join_8 (by decide) (by decide) (Nat.le_of_ble_eq_true rfl) (fun r8 w8 hp8 => ?_)
    obtain ⟨rfl, rfl⟩ := hp8
    refine gw_W.norm (st' := [.int (bI (inZ (b).toInt (-1) 7))]) (k1 := 0) (k2 := 0) rfl rfl rfl ?_
    refine gw_if_eq (tgt := 28) dX12_join_11 (by decide) (fun c11 => ?_) (fun c11 => ?_)
    · rw [bI_0] at c11
      refine gw_ldc dX12_join_28 wd_903 ?_
      refine gw_iret (?_) (by decide) (by decide) rfl dX12_join_30
      subst hpost
      unfold spJoin
      rw [if_neg (fun h => by first | exact absurd h.1 (by rw [c4]; decide) | exact absurd h.2.1 (by rw [c11]; decide) | exact absurd h.2.2 (by rw [c25]; decide))]
      exact ⟨rfl, iv, ia, la, rfl, i1, i2, i3, i4, i5, i6, i7, i8⟩
    · rw [bI_n0] at c11
      refine gw_iload_n dX12_join_14 rfl ?_
      refine gw_i2l dX12_join_15 rfl ?_
      refine gw_ldc2 dX12_join_16 wd_978 ?_
      refine gw_ldc2 dX12_join_19 wd_979 ?_
      refine gw_callS (As := [.long ((v).toInt64), .long (((-3) : Int64)), .long ((3 : Int64))]) (st := []) (c_min l cy ((v).toInt64) (((-3) : Int64)) ((3 : Int64)) (mW cy ad iv ia la)) ok_X12_in wd_899 rfl rfl dX12_join_22 (by decide) (by decide) (Nat.le_of_ble_eq_true rfl) (fun r22 w22 hp22 => ?_)
      obtain ⟨rfl, rfl⟩ := hp22
      refine gw_W.norm (st' := [.int (bI (inZ ((v).toInt64).toInt (((-3) : Int64)).toInt ((3 : Int64)).toInt))]) (k1 := 0) (k2 := 0) rfl rfl rfl ?_
      refine gw_if_ne (tgt := 31) dX12_join_25 (by decide) (fun c25 => ?_) (fun c25 => ?_)
      · rw [bI_n0, i64_of] at c25
        have c25 : inZ v.toInt (-3) 3 = true := c25
        have ha9 := mPl_lt c4
        have hb9 := mPl_lt c11
        obtain ⟨a1, a2, a3, a4⟩ := mI3_take i3 ha9
        obtain ⟨b1, b2, b3, b4⟩ := mI3_take i3 hb9
        obtain ⟨jo, jk⟩ := joinC_ok (v := v) a4 b4
        refine gw_aload_n dX12_join_31 rfl ?_
        refine gw_iload_n dX12_join_32 rfl ?_
        refine gw_callS (As := [.int (a)]) (st := [.ref (ad 0)]) (c_mplaceOf l cy (a) (c4) (mW cy ad iv ia la)) ok_X12_placeOf wd_933 rfl rfl dX12_join_33 (by decide) (by decide) (Nat.le_of_ble_eq_true rfl) (fun r33 w33 hp33 => ?_)
        obtain ⟨rfl, rfl⟩ := hp33
        refine gw_W.norm (st' := [.int (nI (mPl (a))), .ref (ad 0)]) (k1 := 0) (k2 := 0) rfl rfl rfl ?_
        refine gw_iload_n dX12_join_36 rfl ?_
        refine gw_callS (As := [.int (b)]) (st := [.int (nI (mPl (a))), .ref (ad 0)]) (c_mplaceOf l cy (b) (c11) (mW cy ad iv ia la)) ok_X12_placeOf wd_933 rfl rfl dX12_join_37 (by decide) (by decide) (Nat.le_of_ble_eq_true rfl) (fun r37 w37 hp37 => ?_)
        obtain ⟨rfl, rfl⟩ := hp37
        refine gw_W.norm (st' := [.int (nI (mPl (b))), .int (nI (mPl (a))), .ref (ad 0)]) (k1 := 0) (k2 := 0) rfl rfl rfl ?_
        refine gw_iload_n dX12_join_40 rfl ?_
        refine gw_callV 0 (As := [.int (nI (mPl (a))), .int (nI (mPl (b))), .int (v)]) (st := []) (c_mjoined l cy ad iv ia la (mPl (a)) (mPl (b)) (sSm σ (mPl a)).length (sSm σ (mPl b)).length v a1 b1 (by omega) (by omega) a2 b2) ok_X12_joined rfl rfl rfl wd_980 rfl rfl dX12_join_41 (by decide) (by decide) (Nat.le_of_ble_eq_true rfl) (fun r41 w41 hp41 => ?_)
        obtain ⟨hr41, m41, k41, n41, hN41, hS41⟩ := hp41
        rw [a3, b3] at hr41 hN41 hS41
        change _ = ansB (keepS (joinC (sSm σ (mPl a)) (sSm σ (mPl b)) v)) at hr41
        change keepS (joinC (sSm σ (mPl a)) (sSm σ (mPl b)) v) = none → _ at hN41
        change ∀ S, keepS (joinC (sSm σ (mPl a)) (sSm σ (mPl b)) v) = some S → _ at hS41
        cases hF41 : keepS (joinC (sSm σ (mPl a)) (sSm σ (mPl b)) v) with
        | none =>
          rw [hF41] at hr41
          subst hr41
          obtain rfl := hN41 hF41
          refine gw_W.norm (st' := [.int (nI (0))]) (k1 := 0) (k2 := 0) rfl rfl rfl ?_
          refine gw_W.wd (w' := (mW cy ad (va_up iv 9 (nI (m41))) (va_up ia 10 (k41)) (va_up la 11 (n41)))) rfl ?_
          refine gw_ifN_eq (tgt := 59) dX12_join_44 (by decide) (by omega) (fun _ => ?_) (fun h => absurd h (by decide))
          refine gw_ldc dX12_join_59 wd_965 ?_
          refine gw_iret (?_) (by decide) (by decide) rfl dX12_join_61
          subst hpost
          unfold spJoin
          rw [if_pos ⟨c4, c11, c25⟩, hF41]
          first
            | exact ⟨rfl, _, _, _, rfl, i1, i2, i3, i4, i5, i6, i7, i8⟩
            | exact ⟨rfl, _, _, _, rfl, i1, i2, mI3_set i3 ha9 (keepS_ok jo jk hF41) hT41 hO41, i4, i5, i6, i7, i8⟩
        | some S41 =>
          rw [hF41] at hr41
          subst hr41
          obtain ⟨kk41, nn41, rfl, hT41, hO41⟩ := hS41 S41 hF41
          refine gw_W.norm (st' := [.int (nI (1))]) (k1 := 0) (k2 := 0) rfl rfl rfl ?_
          refine gw_W.wd (w' := (mW cy ad (va_up iv 9 (nI (m41))) (va_up (va_up (va_up ia 6 (upd (ia 6) (mPl (a)) (nI (S41.length)))) 7 (kk41)) 10 (k41)) (va_up (va_up la 8 (nn41)) 11 (n41)))) rfl ?_
          refine gw_ifN_eq (tgt := 59) dX12_join_44 (by decide) (by omega) (fun h => absurd h (by decide)) (fun _ => ?_)
          refine gw_aload_n dX12_join_47 rfl ?_
          refine gm_get_many rfl dX12_join_48 ?_
          refine gw_iload_n dX12_join_51 rfl ?_
          refine gw_callS (As := [.int (a)]) (st := [.ref (ad 6)]) (c_mplaceOf l cy (a) (c4) (mW cy ad (va_up iv 9 (nI (m41))) (va_up (va_up (va_up ia 6 (upd (ia 6) (mPl (a)) (nI (S41.length)))) 7 (kk41)) 10 (k41)) (va_up (va_up la 8 (nn41)) 11 (n41)))) ok_X12_placeOf wd_933 rfl rfl dX12_join_52 (by decide) (by decide) (Nat.le_of_ble_eq_true rfl) (fun r52 w52 hp52 => ?_)
          obtain ⟨rfl, rfl⟩ := hp52
          refine gw_W.norm (st' := [.int (nI (mPl (a))), .ref (ad 6)]) (k1 := 0) (k2 := 0) rfl rfl rfl ?_
          refine gm_ld_many (j := mPl (a)) (rfl) (by omega) dX12_join_55 ?_
          refine gw_topi (y := (upd (ia 6) (mPl (a)) (nI (S41.length))) (mPl (a))) rfl ?_
          refine gw_topi (y := nI (S41.length)) (pk_us) ?_
          refine gw_goto (tgt := 61) dX12_join_56 (by decide) ?_
          refine gw_iret (?_) (by decide) (by decide) rfl dX12_join_61
          subst hpost
          unfold spJoin
          rw [if_pos ⟨c4, c11, c25⟩, hF41]
          first
            | exact ⟨rfl, _, _, _, rfl, i1, i2, i3, i4, i5, i6, i7, i8⟩
            | exact ⟨rfl, _, _, _, rfl, i1, i2, mI3_set i3 ha9 (keepS_ok jo jk hF41) hT41 hO41, i4, i5, i6, i7, i8⟩
      · rw [bI_0, i64_of] at c25
        have c25 : inZ v.toInt (-3) 3 = false := c25
        refine gw_ldc dX12_join_28 wd_903 ?_
        refine gw_iret (?_) (by decide) (by decide) rfl dX12_join_30
        subst hpost
        unfold spJoin
        rw [if_neg (fun h => by first | exact absurd h.1 (by rw [c4]; decide) | exact absurd h.2.1 (by rw [c11]; decide) | exact absurd h.2.2 (by rw [c25]; decide))]
        exact ⟨rfl, iv, ia, la, rfl, i1, i2, i3, i4, i5, i6, i7, i8⟩
