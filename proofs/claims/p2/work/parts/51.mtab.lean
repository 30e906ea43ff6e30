abbrev kX12_drop : gw_K := (yX12_drop, cX12_drop, 2, { frames := 2, cells := 0, slots := 0, locals := 45 }, (some .int))
theorem ok_X12_drop : gw_calV kX12_drop 1 := ⟨⟨wd_924, wd_62, by decide, by decide, by decide +kernel⟩, wd_922, wd_923⟩
set_option maxHeartbeats 4000000 in
set_option maxRecDepth 100000 in
theorem c_mdrop (l : Launch) (cy : Nat → ClassId) (ad : Nat → Nat) (iv : Nat → Int32) (ia : Nat → Nat → Int32) (la : Nat → Nat → Int64) (σ : aS) (hI : mInv σ iv ia la) (t : Int32) : gw_M l kX12_drop cy [.ref (ad 0), .int (t)] (mW cy ad iv ia la) (mPost cy ad (spDrop σ t)) := by
  refine gw_M.mk (lv := [some (.ref (ad 0)), some (.int (t))]) (by decide) (Nat.le_of_ble_eq_true rfl) rfl ?_
  generalize hpost : (mPost cy ad (spDrop σ t) : gw_Q) = post
  obtain ⟨i1, i2, i3, i4, i5, i6, i7, i8⟩ := hI
  refine gw_iload_n dX12_drop_0 rfl ?_
  refine gw_callS (As := [.int (t)]) (st := []) (c_misTable l cy (t) (mW cy ad iv ia la)) ok_X12_isTable wd_895 rfl rfl dX12_drop_1 (by decide) (by decide) (Nat.le_of_ble_eq_true rfl) (fun r1 w1 hp1 => ?_)
  obtain ⟨rfl, rfl⟩ := hp1
  refine gw_W.norm (st' := [.int (bI (inZ (t).toInt 0 7))]) (k1 := 0) (k2 := 0) rfl rfl rfl ?_
  refine gw_if_ne (tgt := 10) dX12_drop_4 (by decide) (fun c4 => ?_) (fun c4 => ?_)
  · rw [bI_n0] at c4
    refine gw_aload_n dX12_drop_10 rfl ?_
    refine gm_get_lane rfl dX12_drop_11 ?_
    refine gw_iload_n dX12_drop_14 rfl ?_
    have ht := i2 (tI t) (tI_lt c4)
    refine gm_ld_lane (j := tI t) (tI_eq c4) (tI_lt c4) dX12_drop_15 ?_
    refine gw_if_ne (tgt := 25) dX12_drop_16 (by decide) (fun c16 => ?_) (fun c16 => ?_)
    · refine gw_aload_n dX12_drop_25 rfl ?_
      refine gm_get_lane rfl dX12_drop_26 ?_
      refine gw_iload_n dX12_drop_29 rfl ?_
      refine gw_iconst (v := nI (0)) dX12_drop_30 (by decide) ?_
      refine gm_st_lane (j := tI t) (tI_eq c4) (tI_lt c4) dX12_drop_31 ?_
      refine gw_W.wd (w' := (mW cy ad iv (va_up ia 2 (upd (ia 2) (tI t) (nI (0)))) la)) rfl ?_
      refine gw_aload_n dX12_drop_32 rfl ?_
      refine gw_aload_n dX12_drop_33 rfl ?_
      refine gm_get_size rfl dX12_drop_34 ?_
      refine gw_iload_n dX12_drop_37 rfl ?_
      refine gm_ld_size (j := tI t) (tI_eq c4) (tI_lt c4) dX12_drop_38 ?_
      refine gw_topi (y := (ia 3) (tI t)) rfl ?_
      refine gw_callV 0 (As := [.int ((ia 3) (tI t))]) (st := []) (c_mwell l cy ad iv (va_up ia 2 (upd (ia 2) (tI t) (nI (0)))) la ((ia 3) (tI t))) ok_X12_well rfl rfl rfl wd_909 rfl rfl dX12_drop_39 (by decide) (by decide) (Nat.le_of_ble_eq_true rfl) (fun r39 w39 hp39 => ?_)
      obtain ⟨rfl, rfl⟩ := hp39
      refine gw_W.wd (w' := (mW cy ad (va_up iv 19 (0)) (va_up ia 2 (upd (ia 2) (tI t) (nI (0)))) la)) rfl ?_
      refine gw_W.norm (st' := [.int ((ia 3) (tI t))]) (k1 := 0) (k2 := 0) rfl rfl rfl ?_
      refine gw_iret (?_) (by decide) (by decide) rfl dX12_drop_42
      subst hpost
      unfold spDrop
      rw [if_pos c4]
      cases hq : sTb σ (tI t) with
      | none =>
        rw [show σ.2.1 (tI t) = none from hq] at ht
        exact absurd ht c16
      | some q =>
        rw [show σ.2.1 (tI t) = some q from hq] at ht
        refine ⟨congrArg (fun z => some (Value.int z)) ht.2.2.2.1, _, _, _, rfl, i1, ?_, i3, i4, rfl, i6, i7, i8⟩
        intro u hu
        show mTab (va_up σ.2.1 (tI t) none u) (upd (ia 2) (tI t) (nI 0) u) (ia 3 u) (ia 4) (60 * u)
        by_cases e : u = tI t
        · subst e; rw [va_up_self, pk_us]; rfl
        · rw [va_up_ne _ _ e, pk_un e]; exact i2 u hu
    · refine gw_aload_n dX12_drop_19 rfl ?_
      refine gw_iconst (v := nI (1)) dX12_drop_20 (by decide) ?_
      refine gw_callV 0 (As := [.int (nI (1))]) (st := []) (c_mfinds l cy ad iv ia la (nI (1))) ok_X12_finds rfl rfl rfl wd_904 rfl rfl dX12_drop_21 (by decide) (by decide) (Nat.le_of_ble_eq_true rfl) (fun r21 w21 hp21 => ?_)
      obtain ⟨rfl, rfl⟩ := hp21
      refine gw_W.wd (w' := (mW cy ad (va_up iv 19 (nI (1))) ia la)) rfl ?_
      refine gw_W.norm (st' := [.int ((-1000010) - (nI (1)))]) (k1 := 0) (k2 := 0) rfl rfl rfl ?_
      refine gw_iret (?_) (by decide) (by decide) rfl dX12_drop_24
      subst hpost
      unfold spDrop
      rw [if_pos c4]
      cases hq : sTb σ (tI t) with
      | none => exact ⟨rfl, _, _, _, rfl, i1, i2, i3, i4, rfl, i6, i7, i8⟩
      | some q =>
        rw [show σ.2.1 (tI t) = some q from hq] at ht
        exact absurd (ht.2.1.symm.trans c16) (nI_ne0 (by omega) (by have := ht.1; omega))
  · rw [bI_0] at c4
    refine gw_ldc dX12_drop_7 wd_903 ?_
    refine gw_iret (?_) (by decide) (by decide) rfl dX12_drop_9
    subst hpost
    unfold spDrop
    rw [if_neg (by rw [c4]; decide)]
    exact ⟨rfl, iv, ia, la, rfl, i1, i2, i3, i4, i5, i6, i7, i8⟩
theorem mTab_congr {t : aT} {ln sz : Int32} {a4 b4 : Nat → Int32} {off : Nat} (h : ∀ j, j < 60 → b4 (off + j) = a4 (off + j)) (hm : mTab t ln sz a4 off) : mTab t ln sz b4 off := by
  cases t with
  | none => exact hm
  | some q => exact ⟨hm.1, hm.2.1, hm.2.2.1, hm.2.2.2.1, fun j hj => by rw [h j (by have := hm.2.2.1; omega)]; exact hm.2.2.2.2 j hj⟩
theorem tI_of {t : Int32} (h : 0 ≤ t.toInt) : t = nI (tI t) := by
  have h2 := Int32.toInt_lt t
  rw [i32_eq, nI_toInt (by unfold tI; omega)]; unfold tI; omega
abbrev kX12_table : gw_K := (yX12_table, cX12_table, 5, { frames := 2, cells := 0, slots := 0, locals := 45 }, (some .int))
theorem ok_X12_table : gw_calV kX12_table 3 := ⟨⟨wd_894, wd_62, by decide, by decide, by decide +kernel⟩, wd_892, wd_893⟩
set_option maxHeartbeats 4000000 in
set_option maxRecDepth 100000 in
theorem c_mtable (l : Launch) (cy : Nat → ClassId) (ad : Nat → Nat) (iv : Nat → Int32) (ia : Nat → Nat → Int32) (la : Nat → Nat → Int64) (σ : aS) (hI : mInv σ iv ia la) (t a n : Int32) : gw_M l kX12_table cy [.ref (ad 0), .int (t), .int (a), .int (n)] (mW cy ad iv ia la) (mPost cy ad (spTable σ t a n)) := by
  refine gw_M.mk (lv := [some (.ref (ad 0)), some (.int (t)), some (.int (a)), some (.int (n)), none]) (by decide) (Nat.le_of_ble_eq_true rfl) rfl ?_
  generalize hpost : (mPost cy ad (spTable σ t a n) : gw_Q) = post
  obtain ⟨i1, i2, i3, i4, i5, i6, i7, i8⟩ := hI
  have e60 : (nI 60).toInt = 60 := by decide
  refine gw_iload_n dX12_table_0 rfl ?_
  refine gw_callS (As := [.int (t)]) (st := []) (c_misTable l cy (t) (mW cy ad iv ia la)) ok_X12_isTable wd_895 rfl rfl dX12_table_1 (by decide) (by decide) (Nat.le_of_ble_eq_true rfl) (fun r1 w1 hp1 => ?_)
  obtain ⟨rfl, rfl⟩ := hp1
  refine gw_W.norm (st' := [.int (bI (inZ (t).toInt 0 7))]) (k1 := 0) (k2 := 0) rfl rfl rfl ?_
  refine gw_if_eq (tgt := 25) dX12_table_4 (by decide) (fun c4 => ?_) (fun c4 => ?_)
  · rw [bI_0] at c4
    refine gw_ldc dX12_table_25 wd_903 ?_
    refine gw_iret (?_) (by decide) (by decide) rfl dX12_table_27
    subst hpost
    unfold spTable
    rw [if_neg (fun h => by first | exact absurd h.1 (by rw [c4]; decide) | exact absurd h.2.1 (by rw [c16]; decide) | exact c22 h.2.2)]
    exact ⟨rfl, iv, ia, la, rfl, i1, i2, i3, i4, i5, i6, i7, i8⟩
  · rw [bI_n0] at c4
    refine gw_iload_n dX12_table_7 rfl ?_
    refine gw_i2l dX12_table_8 rfl ?_
    refine gw_lconst (v := (0 : Int64)) dX12_table_9 (by decide) ?_
    refine gw_ldc2 dX12_table_10 wd_902 ?_
    refine gw_callS (As := [.long ((a).toInt64), .long ((0 : Int64)), .long ((2 : Int64))]) (st := []) (c_min l cy ((a).toInt64) ((0 : Int64)) ((2 : Int64)) (mW cy ad iv ia la)) ok_X12_in wd_899 rfl rfl dX12_table_13 (by decide) (by decide) (Nat.le_of_ble_eq_true rfl) (fun r13 w13 hp13 => ?_)
    obtain ⟨rfl, rfl⟩ := hp13
    refine gw_W.norm (st' := [.int (bI (inZ ((a).toInt64).toInt ((0 : Int64)).toInt ((2 : Int64)).toInt))]) (k1 := 0) (k2 := 0) rfl rfl rfl ?_
    refine gw_if_eq (tgt := 25) dX12_table_16 (by decide) (fun c16 => ?_) (fun c16 => ?_)
    · rw [bI_0, i64_of] at c16
      have c16 : inZ a.toInt 0 2 = false := c16
      refine gw_ldc dX12_table_25 wd_903 ?_
      refine gw_iret (?_) (by decide) (by decide) rfl dX12_table_27
      subst hpost
      unfold spTable
      rw [if_neg (fun h => by first | exact absurd h.1 (by rw [c4]; decide) | exact absurd h.2.1 (by rw [c16]; decide) | exact c22 h.2.2)]
      exact ⟨rfl, iv, ia, la, rfl, i1, i2, i3, i4, i5, i6, i7, i8⟩
    · rw [bI_n0, i64_of] at c16
      have c16 : inZ a.toInt 0 2 = true := c16
      refine gw_iload_n dX12_table_19 rfl ?_
      refine gw_bipush (v := nI (60)) dX12_table_20 (by decide) ?_
      refine gw_icmp_le (tgt := 28) dX12_table_22 (by decide) (fun c22 => ?_) (fun c22 => ?_)
      · rw [i32_le, e60] at c22
        refine gw_iload_n dX12_table_28 rfl ?_
        refine gw_if_ge (tgt := 38) dX12_table_29 (by decide) (fun c29 => ?_) (fun c29 => ?_)
        · rw [i32_le] at c29
          have c29 : 0 ≤ n.toInt := c29
          have hn9 := tI_of c29
          have hn6 : tI n ≤ 60 := by unfold tI; omega
          have ht8 : tI t < 8 := tI_lt c4
          refine gw_aload_n dX12_table_38 rfl ?_
          refine gm_get_lane rfl dX12_table_39 ?_
          refine gw_iload_n dX12_table_42 rfl ?_
          refine gw_topi (y := nI (tI t)) (tI_eq c4) ?_
          refine gw_iload_n dX12_table_43 rfl ?_
          refine gw_topi (y := nI (tI a)) (tI_eq c16) ?_
          refine gw_iconst (v := nI (1)) dX12_table_44 (by decide) ?_
          refine gw_iaddN dX12_table_45 ?_
          refine gm_st_lane (j := tI t) (rfl) (by omega) dX12_table_46 ?_
          refine gw_W.wd (w' := (mW cy ad iv (va_up ia 2 (upd (ia 2) (tI t) (nI ((tI a) + 1)))) la)) rfl ?_
          refine gw_aload_n dX12_table_47 rfl ?_
          refine gm_get_size rfl dX12_table_48 ?_
          refine gw_iload_n dX12_table_51 rfl ?_
          refine gw_topi (y := nI (tI t)) (tI_eq c4) ?_
          refine gw_iload_n dX12_table_52 rfl ?_
          refine gw_topi (y := nI (tI n)) (hn9) ?_
          refine gm_st_size (j := tI t) (rfl) (by omega) dX12_table_53 ?_
          refine gw_W.wd (w' := (mW cy ad iv (va_up (va_up ia 2 (upd (ia 2) (tI t) (nI ((tI a) + 1)))) 3 (upd (ia 3) (tI t) (nI (tI n)))) la)) rfl ?_
          refine gw_iconst (v := nI (0)) dX12_table_54 (by decide) ?_
          refine gw_istore dX12_table_55 (by decide) rfl ?_
          have cut57 : ∀ (fu : Nat) (j : Nat) (a4 : Nat → Int32), (j ≤ tI n) → (∀ u, u < j → a4 (60 * tI t + u) = 0) → (∀ u, (u < 60 * tI t ∨ 60 * tI t + 60 ≤ u) → a4 u = ia 4 u) → (tI n - j) < fu → gw_W l kX12_table cy (gw_R kX12_table post) (mW cy ad iv (va_up (va_up (va_up ia 2 (upd (ia 2) (tI t) (nI ((tI a) + 1)))) 3 (upd (ia 3) (tI t) (nI (tI n)))) 4 (a4)) la) 0 0 57 [some (.ref (ad 0)), some (.int (t)), some (.int (a)), some (.int (n)), some (.int (nI (j)))] [] := by
            intro fu
            induction fu with
            | zero => intro j a4 g1 g2 g3 hfu; exact absurd hfu (Nat.not_lt_zero _)
            | succ fu ih57 =>
              intro j a4 g1 g2 g3 hfu
              refine gw_iload dX12_table_57 rfl ?_
              refine gw_iload_n dX12_table_59 rfl ?_
              refine gw_topi (y := nI (tI n)) (hn9) ?_
              refine gw_icmpN_ge (tgt := 82) dX12_table_60 (by decide) (by omega) (by omega) (fun c60 => ?_) (fun c60 => ?_)
              · have e1 : j = tI n := by omega
                rw [e1] at g2
                refine gw_aload_n dX12_table_82 rfl ?_
                refine gw_iload_n dX12_table_83 rfl ?_
                refine gw_topi (y := nI (tI n)) (hn9) ?_
                refine gw_callV 0 (As := [.int (nI (tI n))]) (st := []) (c_mwell l cy ad iv (va_up (va_up (va_up ia 2 (upd (ia 2) (tI t) (nI ((tI a) + 1)))) 3 (upd (ia 3) (tI t) (nI (tI n)))) 4 (a4)) la (nI (tI n))) ok_X12_well rfl rfl rfl wd_909 rfl rfl dX12_table_84 (by decide) (by decide) (Nat.le_of_ble_eq_true rfl) (fun r84 w84 hp84 => ?_)
                obtain ⟨rfl, rfl⟩ := hp84
                refine gw_W.wd (w' := (mW cy ad (va_up iv 19 (0)) (va_up (va_up (va_up ia 2 (upd (ia 2) (tI t) (nI ((tI a) + 1)))) 3 (upd (ia 3) (tI t) (nI (tI n)))) 4 (a4)) la)) rfl ?_
                refine gw_W.norm (st' := [.int (nI (tI n))]) (k1 := 0) (k2 := 0) rfl rfl rfl ?_
                refine gw_iret (?_) (by decide) (by decide) rfl dX12_table_87
                subst hpost
                unfold spTable
                rw [if_pos ⟨c4, c16, c22⟩, if_neg (by omega)]
                refine ⟨congrArg (fun z => some (Value.int z)) hn9.symm, _, _, _, rfl, i1, ?_, i3, i4, rfl, i6, i7, i8⟩
                intro u hu
                show mTab (va_up σ.2.1 (tI t) (some (tI a, List.replicate (tI n) 0)) u) (upd (ia 2) (tI t) (nI (tI a + 1)) u) (upd (ia 3) (tI t) (nI (tI n)) u) a4 (60 * u)
                by_cases e : u = tI t
                · subst e
                  rw [va_up_self, pk_us, pk_us]
                  refine ⟨tI_lt c16, rfl, by rw [List.length_replicate]; exact hn6, by rw [List.length_replicate], fun j hj => ?_⟩
                  simp only [List.length_replicate] at hj
                  rw [g2 j hj]; simp [List.getD_eq_getElem?_getD, List.getElem?_replicate, hj]
                · rw [va_up_ne _ _ e, pk_un e, pk_un e]
                  exact mTab_congr (fun j hj => g3 _ (by omega)) (i2 u hu)
              · refine gw_aload_n dX12_table_63 rfl ?_
                refine gm_get_item rfl dX12_table_64 ?_
                refine gw_bipush (v := nI (60)) dX12_table_67 (by decide) ?_
                refine gw_iload_n dX12_table_69 rfl ?_
                refine gw_topi (y := nI (tI t)) (tI_eq c4) ?_
                refine gw_imulN dX12_table_70 ?_
                refine gw_iload dX12_table_71 rfl ?_
                refine gw_iaddN dX12_table_73 ?_
                refine gw_iconst (v := nI (0)) dX12_table_74 (by decide) ?_
                refine gm_st_item (j := (60 * (tI t)) + j) (rfl) (by omega) dX12_table_75 ?_
                refine gw_W.wd (w' := (mW cy ad iv (va_up (va_up (va_up ia 2 (upd (ia 2) (tI t) (nI ((tI a) + 1)))) 3 (upd (ia 3) (tI t) (nI (tI n)))) 4 (upd (a4) ((60 * (tI t)) + j) (nI (0)))) la)) rfl ?_
                refine gw_iinc (v := nI (j + 1)) dX12_table_76 rfl (nI_add _ 1) (by decide) rfl ?_
                refine gw_goto (tgt := 57) dX12_table_79 (by decide) ?_
                refine gw_W.wd (w' := (mW cy ad iv (va_up (va_up (va_up ia 2 (upd (ia 2) (tI t) (nI ((tI a) + 1)))) 3 (upd (ia 3) (tI t) (nI (tI n)))) 4 (((upd (a4) ((60 * (tI t)) + j) (nI (0)))))) la)) rfl ?_
                refine ih57 (j + 1) ((upd (a4) ((60 * (tI t)) + j) (nI (0)))) ?_ ?_ ?_ ?_
                · omega
                · intro u hu
                  rcases Nat.lt_or_ge u j with g | g
                  · rw [pk_un (by omega)]; exact g2 u g
                  · have e2 : u = j := by omega
                    subst e2; exact pk_us
                · intro u hu; rw [pk_un (by omega)]; exact g3 u hu
                · omega
          refine gw_W.wd (w' := (mW cy ad iv (va_up (va_up (va_up ia 2 (upd (ia 2) (tI t) (nI ((tI a) + 1)))) 3 (upd (ia 3) (tI t) (nI (tI n)))) 4 (((ia 4)))) la)) rfl ?_
          refine cut57 _ (0) ((ia 4)) (Nat.zero_le _) (fun u h => absurd h (Nat.not_lt_zero _)) (fun _ _ => rfl) (Nat.lt_succ_self _)
        · rw [i32_le] at c29
          have c29 : ¬ 0 ≤ n.toInt := c29
          refine gw_aload_n dX12_table_32 rfl ?_
          refine gw_iconst (v := nI (4)) dX12_table_33 (by decide) ?_
          refine gw_callV 0 (As := [.int (nI (4))]) (st := []) (c_mfinds l cy ad iv ia la (nI (4))) ok_X12_finds rfl rfl rfl wd_904 rfl rfl dX12_table_34 (by decide) (by decide) (Nat.le_of_ble_eq_true rfl) (fun r34 w34 hp34 => ?_)
          obtain ⟨rfl, rfl⟩ := hp34
          refine gw_W.wd (w' := (mW cy ad (va_up iv 19 (nI (4))) ia la)) rfl ?_
          refine gw_W.norm (st' := [.int ((-1000010) - (nI (4)))]) (k1 := 0) (k2 := 0) rfl rfl rfl ?_
          refine gw_iret (?_) (by decide) (by decide) rfl dX12_table_37
          subst hpost
          unfold spTable
          rw [if_pos ⟨c4, c16, c22⟩, if_pos (by omega)]
          exact ⟨rfl, _, _, _, rfl, i1, i2, i3, i4, rfl, i6, i7, i8⟩
      · rw [i32_le, e60] at c22
        refine gw_ldc dX12_table_25 wd_903 ?_
        refine gw_iret (?_) (by decide) (by decide) rfl dX12_table_27
        subst hpost
        unfold spTable
        rw [if_neg (fun h => by first | exact absurd h.1 (by rw [c4]; decide) | exact absurd h.2.1 (by rw [c16]; decide) | exact c22 h.2.2)]
        exact ⟨rfl, iv, ia, la, rfl, i1, i2, i3, i4, i5, i6, i7, i8⟩
abbrev kX12_set : gw_K := (yX12_set, cX12_set, 5, { frames := 2, cells := 0, slots := 0, locals := 45 }, (some .int))
theorem ok_X12_set : gw_calV kX12_set 3 := ⟨⟨wd_916, wd_62, by decide, by decide, by decide +kernel⟩, wd_914, wd_915⟩
set_option maxHeartbeats 4000000 in
set_option maxRecDepth 100000 in
theorem c_mset (l : Launch) (cy : Nat → ClassId) (ad : Nat → Nat) (iv : Nat → Int32) (ia : Nat → Nat → Int32) (la : Nat → Nat → Int64) (σ : aS) (hI : mInv σ iv ia la) (t i v : Int32) : gw_M l kX12_set cy [.ref (ad 0), .int (t), .int (i), .int (v)] (mW cy ad iv ia la) (mPost cy ad (spSet σ t i v)) := by
  refine gw_M.mk (lv := [some (.ref (ad 0)), some (.int (t)), some (.int (i)), some (.int (v)), none]) (by decide) (Nat.le_of_ble_eq_true rfl) rfl ?_
  generalize hpost : (mPost cy ad (spSet σ t i v) : gw_Q) = post
  obtain ⟨i1, i2, i3, i4, i5, i6, i7, i8⟩ := hI
  refine gw_iload_n dX12_set_0 rfl ?_
  refine gw_callS (As := [.int (t)]) (st := []) (c_misTable l cy (t) (mW cy ad iv ia la)) ok_X12_isTable wd_895 rfl rfl dX12_set_1 (by decide) (by decide) (Nat.le_of_ble_eq_true rfl) (fun r1 w1 hp1 => ?_)
  obtain ⟨rfl, rfl⟩ := hp1
  refine gw_W.norm (st' := [.int (bI (inZ (t).toInt 0 7))]) (k1 := 0) (k2 := 0) rfl rfl rfl ?_
  refine gw_if_ne (tgt := 10) dX12_set_4 (by decide) (fun c4 => ?_) (fun c4 => ?_)
  · rw [bI_n0] at c4
    refine gw_aload_n dX12_set_10 rfl ?_
    refine gm_get_lane rfl dX12_set_11 ?_
    refine gw_iload_n dX12_set_14 rfl ?_
    have ht := i2 (tI t) (tI_lt c4)
    refine gm_ld_lane (j := tI t) (tI_eq c4) (tI_lt c4) dX12_set_15 ?_
    refine gw_if_ne (tgt := 25) dX12_set_16 (by decide) (fun c16 => ?_) (fun c16 => ?_)
    · obtain ⟨q, hq⟩ : ∃ q, sTb σ (tI t) = some q := by
        cases hq : sTb σ (tI t) with
        | none => rw [show σ.2.1 (tI t) = none from hq] at ht; exact absurd ht c16
        | some q => exact ⟨q, rfl⟩
      rw [show σ.2.1 (tI t) = some q from hq] at ht
      refine gw_iload_n dX12_set_25 rfl ?_
      refine gw_i2l dX12_set_26 rfl ?_
      refine gw_lconst (v := (0 : Int64)) dX12_set_27 (by decide) ?_
      refine gw_aload_n dX12_set_28 rfl ?_
      refine gm_get_size rfl dX12_set_29 ?_
      refine gw_iload_n dX12_set_32 rfl ?_
      refine gm_ld_size (j := tI t) (tI_eq c4) (tI_lt c4) dX12_set_33 ?_
      refine gw_topi (y := nI (q.2.length)) (ht.2.2.2.1) ?_
      refine gw_iconst (v := nI (1)) dX12_set_34 (by decide) ?_
      refine gw_isub dX12_set_35 ?_
      refine gw_i2l dX12_set_36 rfl ?_
      refine gw_callS (As := [.long ((i).toInt64), .long ((0 : Int64)), .long (((nI (q.2.length)) - (nI (1))).toInt64)]) (st := []) (c_min l cy ((i).toInt64) ((0 : Int64)) (((nI (q.2.length)) - (nI (1))).toInt64) (mW cy ad iv ia la)) ok_X12_in wd_899 rfl rfl dX12_set_37 (by decide) (by decide) (Nat.le_of_ble_eq_true rfl) (fun r37 w37 hp37 => ?_)
      obtain ⟨rfl, rfl⟩ := hp37
      refine gw_W.norm (st' := [.int (bI (inZ ((i).toInt64).toInt ((0 : Int64)).toInt (((nI (q.2.length)) - (nI (1))).toInt64).toInt))]) (k1 := 0) (k2 := 0) rfl rfl rfl ?_
      refine gw_if_ne (tgt := 49) dX12_set_40 (by decide) (fun c40 => ?_) (fun c40 => ?_)
      · rw [bI_n0, i64_of, i64_of, i32_sub1 _ (by have := ht.2.2.1; omega)] at c40
        have c40 : inZ i.toInt 0 ((q.2.length : Int) - 1) = true := c40
        have hi9 : tI i < q.2.length := by rw [inZ_t] at c40; unfold tI; omega
        have hi8 := ht.2.2.1
        have cut80 : ∀ (u : Int32), (u = fitL q.1 v) → gw_W l kX12_set cy (gw_R kX12_set post) (mW cy ad iv ia la) 0 0 80 [some (.ref (ad 0)), some (.int (t)), some (.int (i)), some (.int (v)), none] [.int (u)] := by
          intro u k1
          refine gw_istore dX12_set_80 (by decide) rfl ?_
          refine gw_aload_n dX12_set_82 rfl ?_
          refine gm_get_item rfl dX12_set_83 ?_
          refine gw_bipush (v := nI (60)) dX12_set_86 (by decide) ?_
          refine gw_iload_n dX12_set_88 rfl ?_
          refine gw_topi (y := nI (tI t)) (tI_eq c4) ?_
          refine gw_imulN dX12_set_89 ?_
          refine gw_iload_n dX12_set_90 rfl ?_
          refine gw_topi (y := nI (tI i)) (tI_eq c40) ?_
          refine gw_iaddN dX12_set_91 ?_
          refine gw_iload dX12_set_92 rfl ?_
          refine gm_st_item (j := (60 * (tI t)) + (tI i)) (rfl) (by have := tI_lt (m := 7) c4; omega) dX12_set_94 ?_
          refine gw_W.wd (w' := (mW cy ad iv (va_up ia 4 (upd (ia 4) ((60 * (tI t)) + (tI i)) (u))) la)) rfl ?_
          refine gw_aload_n dX12_set_95 rfl ?_
          refine gw_iload dX12_set_96 rfl ?_
          refine gw_callV 0 (As := [.int (u)]) (st := []) (c_mwell l cy ad iv (va_up ia 4 (upd (ia 4) ((60 * (tI t)) + (tI i)) (u))) la (u)) ok_X12_well rfl rfl rfl wd_909 rfl rfl dX12_set_98 (by decide) (by decide) (Nat.le_of_ble_eq_true rfl) (fun r98 w98 hp98 => ?_)
          obtain ⟨rfl, rfl⟩ := hp98
          refine gw_W.wd (w' := (mW cy ad (va_up iv 19 (0)) (va_up ia 4 (upd (ia 4) ((60 * (tI t)) + (tI i)) (u))) la)) rfl ?_
          refine gw_W.norm (st' := [.int (u)]) (k1 := 0) (k2 := 0) rfl rfl rfl ?_
          refine gw_iret (?_) (by decide) (by decide) rfl dX12_set_101
          subst hpost
          unfold spSet
          rw [if_pos c4, hq]
          simp only
          rw [if_pos c40]
          refine ⟨congrArg (fun z => some (Value.int z)) k1, _, _, _, rfl, i1, ?_, i3, i4, rfl, i6, i7, i8⟩
          intro w9 hw9
          show mTab (va_up σ.2.1 (tI t) (some (q.1, q.2.set (tI i) (fitL q.1 v))) w9) (ia 2 w9) (ia 3 w9) (upd (ia 4) (60 * tI t + tI i) u) (60 * w9)
          by_cases e : w9 = tI t
          · subst e
            rw [va_up_self]
            refine ⟨ht.1, ht.2.1, by rw [List.length_set]; exact hi8, by rw [List.length_set]; exact ht.2.2.2.1, fun j hj => ?_⟩
            simp only [List.length_set] at hj
            by_cases e2 : j = tI i
            · subst e2; rw [pk_us, k1]; simp [List.getD_eq_getElem?_getD, hj]
            · rw [pk_un (by omega), ht.2.2.2.2 j hj]; simp [List.getD_eq_getElem?_getD, List.getElem?_set_ne (Ne.symm e2)]
          · rw [va_up_ne _ _ e]
            exact mTab_congr (fun j hj => pk_un (by omega)) (i2 w9 hw9)
        refine gw_aload_n dX12_set_49 rfl ?_
        refine gm_get_lane rfl dX12_set_50 ?_
        refine gw_iload_n dX12_set_53 rfl ?_
        refine gm_ld_lane (j := tI t) (tI_eq c4) (tI_lt c4) dX12_set_54 ?_
        refine gw_topi (y := nI (q.1 + 1)) (ht.2.1) ?_
        refine gw_iconst (v := nI (1)) dX12_set_55 (by decide) ?_
        refine gw_icmpN_ne (tgt := 64) dX12_set_56 (by decide) (by have := ht.1; omega) (by omega) (fun c56 => ?_) (fun c56 => ?_)
        · refine gw_aload_n dX12_set_64 rfl ?_
          refine gm_get_lane rfl dX12_set_65 ?_
          refine gw_iload_n dX12_set_68 rfl ?_
          refine gm_ld_lane (j := tI t) (tI_eq c4) (tI_lt c4) dX12_set_69 ?_
          refine gw_topi (y := nI (q.1 + 1)) (ht.2.1) ?_
          refine gw_iconst (v := nI (2)) dX12_set_70 (by decide) ?_
          refine gw_icmpN_ne (tgt := 79) dX12_set_71 (by decide) (by have := ht.1; omega) (by omega) (fun c71 => ?_) (fun c71 => ?_)
          · refine gw_iload_n dX12_set_79 rfl ?_
            refine cut80 (v) (by unfold fitL; rw [if_neg (by omega), if_neg (by omega)])
          · refine gw_iload_n dX12_set_74 rfl ?_
            refine gw_i2s dX12_set_75 rfl ?_
            refine gw_goto (tgt := 80) dX12_set_76 (by decide) ?_
            refine cut80 ((v).toInt16.toInt32) (by unfold fitL; rw [if_neg (by omega), if_pos (by omega)])
        · refine gw_iload_n dX12_set_59 rfl ?_
          refine gw_i2b dX12_set_60 rfl ?_
          refine gw_goto (tgt := 80) dX12_set_61 (by decide) ?_
          refine cut80 ((v).toInt8.toInt32) (by unfold fitL; rw [if_pos (by omega)])
      · rw [bI_0, i64_of, i64_of, i32_sub1 _ (by have := ht.2.2.1; omega)] at c40
        have c40 : inZ i.toInt 0 ((q.2.length : Int) - 1) = false := c40
        refine gw_aload_n dX12_set_43 rfl ?_
        refine gw_iconst (v := nI (2)) dX12_set_44 (by decide) ?_
        refine gw_callV 0 (As := [.int (nI (2))]) (st := []) (c_mfinds l cy ad iv ia la (nI (2))) ok_X12_finds rfl rfl rfl wd_904 rfl rfl dX12_set_45 (by decide) (by decide) (Nat.le_of_ble_eq_true rfl) (fun r45 w45 hp45 => ?_)
        obtain ⟨rfl, rfl⟩ := hp45
        refine gw_W.wd (w' := (mW cy ad (va_up iv 19 (nI (2))) ia la)) rfl ?_
        refine gw_W.norm (st' := [.int ((-1000010) - (nI (2)))]) (k1 := 0) (k2 := 0) rfl rfl rfl ?_
        refine gw_iret (?_) (by decide) (by decide) rfl dX12_set_48
        subst hpost
        unfold spSet
        rw [if_pos c4, hq]
        simp only
        rw [if_neg (by rw [c40]; decide)]
        exact ⟨rfl, _, _, _, rfl, i1, i2, i3, i4, rfl, i6, i7, i8⟩
    · refine gw_aload_n dX12_set_19 rfl ?_
      refine gw_iconst (v := nI (1)) dX12_set_20 (by decide) ?_
      refine gw_callV 0 (As := [.int (nI (1))]) (st := []) (c_mfinds l cy ad iv ia la (nI (1))) ok_X12_finds rfl rfl rfl wd_904 rfl rfl dX12_set_21 (by decide) (by decide) (Nat.le_of_ble_eq_true rfl) (fun r21 w21 hp21 => ?_)
      obtain ⟨rfl, rfl⟩ := hp21
      refine gw_W.wd (w' := (mW cy ad (va_up iv 19 (nI (1))) ia la)) rfl ?_
      refine gw_W.norm (st' := [.int ((-1000010) - (nI (1)))]) (k1 := 0) (k2 := 0) rfl rfl rfl ?_
      refine gw_iret (?_) (by decide) (by decide) rfl dX12_set_24
      subst hpost
      unfold spSet
      rw [if_pos c4]
      cases hq : sTb σ (tI t) with
      | none => exact ⟨rfl, _, _, _, rfl, i1, i2, i3, i4, rfl, i6, i7, i8⟩
      | some q =>
        rw [show σ.2.1 (tI t) = some q from hq] at ht
        exact absurd (ht.2.1.symm.trans c16) (nI_ne0 (by omega) (by have := ht.1; omega))
  · rw [bI_0] at c4
    refine gw_ldc dX12_set_7 wd_903 ?_
    refine gw_iret (?_) (by decide) (by decide) rfl dX12_set_9
    subst hpost
    unfold spSet
    rw [if_neg (by rw [c4]; decide)]
    exact ⟨rfl, iv, ia, la, rfl, i1, i2, i3, i4, i5, i6, i7, i8⟩
