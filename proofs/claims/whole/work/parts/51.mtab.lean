abbrev kX12_drop : gw_K := (yX12_drop, cX12_drop, 2, { frames := 2, cells := 0, slots := 0, locals := 45 }, (some .int))
theorem ok_X12_drop : gw_calV kX12_drop 1 := ⟨⟨wd_924, wd_62, by decide, by decide, by decide +kernel⟩, wd_922, wd_923⟩
set_option maxHeartbeats 4000000 in
set_option maxRecDepth 100000 in
theorem c_mdrop (l : Launch) (cy : Nat → ClassId) (ad : Nat → Nat) (iv : Nat → Int32) (ia : Nat → Nat → Int32) (la : Nat → Nat → Int64) (σ : aS) (hI : mInv σ iv ia la) (t : Int32) : gw_M l kX12_drop cy [.ref (ad 0), .int (t)] (mW cy ad iv ia la) (mPost cy ad (spDrop σ t)) := by
  refine gw_M.mk (lv := [some (.ref (ad 0)), some (.int (t))]) (by decide) (Nat.le_of_ble_eq_true rfl) rfl ?_
  generalize hpost : (mPost cy ad (spDrop σ t) : gw_Q) = post
  obtain ⟨i1, i2, i3, i4, i5, i6, i7, i8⟩ := hI
  refine gw_iload_n dX12_drop_0 rfl ?_
  refine gw_callS (As := [.int (t)]) (st := []) (c_misTable l cy (t) (mW cy ad iv ia la)) ok_X12_isTable wd_895 rfl rfl dX12_drop_1 (by decide) (by decide) (Nat.le_of_ble_eq_true rfl) (fun r1 w1 hp1 => ?_)
  obtain ⟨rfl, rfl⟩ := hp1
  refine gw_W.norm (st' := [.int (bI (inZ (t).toInt 0 7))]) (k1 := 0) (k2 := 0) rfl rfl rfl ?_
  refine gw_if_ne (tgt := 10) dX12_drop_4 (by decide) (fun c4 => ?_) (fun c4 => ?_)
  · rw [bI_n0] at c4
    refine gw_aload_n dX12_drop_10 rfl ?_
    refine gm_get_lane rfl dX12_drop_11 ?_
    refine gw_iload_n dX12_drop_14 rfl ?_
    have ht := i2 (tI t) (tI_lt c4)
    refine gm_ld_lane (j := tI t) (tI_eq c4) (tI_lt c4) dX12_drop_15 ?_
    refine gw_if_ne (tgt := 25) dX12_drop_16 (by decide) (fun c16 => ?_) (fun c16 => ?_)
    · refine gw_aload_n dX12_drop_25 rfl ?_
      refine gm_get_lane rfl dX12_drop_26 ?_
      refine gw_iload_n dX12_drop_29 rfl ?_
      refine gw_iconst (v := nI (0)) dX12_drop_30 (by decide) ?_
      refine gm_st_lane (j := tI t) (tI_eq c4) (tI_lt c4) dX12_drop_31 ?_
      refine gw_W.wd (w' := (mW cy ad iv (va_up ia 2 (upd (ia 2) (tI t) (nI (0)))) la)) rfl ?_
      refine gw_aload_n dX12_drop_32 rfl ?_
      refine gw_aload_n dX12_drop_33 rfl ?_
      refine gm_get_size rfl dX12_drop_34 ?_
      refine gw_iload_n dX12_drop_37 rfl ?_
      refine gm_ld_size (j := tI t) (tI_eq c4) (tI_lt c4) dX12_drop_38 ?_
      refine gw_topi (y := (ia 3) (tI t)) rfl ?_
      refine gw_callV 0 (As := [.int ((ia 3) (tI t))]) (st := []) (c_mwell l cy ad iv (va_up ia 2 (upd (ia 2) (tI t) (nI (0)))) la ((ia 3) (tI t))) ok_X12_well rfl rfl rfl wd_909 rfl rfl dX12_drop_39 (by decide) (by decide) (Nat.le_of_ble_eq_true rfl) (fun r39 w39 hp39 => ?_)
      obtain ⟨rfl, rfl⟩ := hp39
      refine gw_W.wd (w' := (mW cy ad (va_up iv 19 (0)) (va_up ia 2 (upd (ia 2) (tI t) (nI (0)))) la)) rfl ?_
      refine gw_W.norm (st' := [.int ((ia 3) (tI t))]) (k1 := 0) (k2 := 0) rfl rfl rfl ?_
      refine gw_iret (?_) (by decide) (by decide) rfl dX12_drop_42
      subst hpost
      unfold spDrop
      rw [if_pos c4]
      cases hq : sTb σ (tI t) with
      | none =>
        rw [show σ.2.1 (tI t) = none from hq] at ht
        exact absurd ht c16
      | some q =>
        rw [show σ.2.1 (tI t) = some q from hq] at ht
        refine ⟨congrArg (fun z => some (Value.int z)) ht.2.2.2.1, _, _, _, rfl, i1, ?_, i3, i4, rfl, i6, i7, i8⟩
        intro u hu
        show mTab (va_up σ.2.1 (tI t) none u) (upd (ia 2) (tI t) (nI 0) u) (ia 3 u) (ia 4) (60 * u)
        by_cases e : u = tI t
        · subst e; rw [va_up_self, pk_us]; rfl
        · rw [va_up_ne _ _ e, pk_un e]; exact i2 u hu
    · refine gw_aload_n dX12_drop_19 rfl ?_
      refine gw_iconst (v := nI (1)) dX12_drop_20 (by decide) ?_
      refine gw_callV 0 (As := [.int (nI (1))]) (st := []) (c_mfinds l cy ad iv ia la (nI (1))) ok_X12_finds rfl rfl rfl wd_904 rfl rfl dX12_drop_21 (by decide) (by decide) (Nat.le_of_ble_eq_true rfl) (fun r21 w21 hp21 => ?_)
      obtain ⟨rfl, rfl⟩ := hp21
      refine gw_W.wd (w' := (mW cy ad (va_up iv 19 (nI (1))) ia la)) rfl ?_
      refine gw_W.norm (st' := [.int ((-1000010) - (nI (1)))]) (k1 := 0) (k2 := 0) rfl rfl rfl ?_
      refine gw_iret (?_) (by decide) (by decide) rfl dX12_drop_24
      subst hpost
      unfold spDrop
      rw [if_pos c4]
      cases hq : sTb σ (tI t) with
      | none => exact ⟨rfl, _, _, _, rfl, i1, i2, i3, i4, rfl, i6, i7, i8⟩
      | some q =>
        rw [show σ.2.1 (tI t) = some q from hq] at ht
        exact absurd (ht.2.1.symm.trans c16) (nI_ne0 (by omega) (by have := ht.1; omega))
  · rw [bI_0] at c4
    refine gw_ldc dX12_drop_7 wd_903 ?_
    refine gw_iret (?_) (by decide) (by decide) rfl dX12_drop_9
    subst hpost
    unfold spDrop
    rw [if_neg (by rw [c4]; decide)]
    exact ⟨rfl, iv, ia, la, rfl, i1, i2, i3, i4, i5, i6, i7, i8⟩
