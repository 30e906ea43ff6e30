/-! doPulse, does -/
abbrev kX12_doPulse : gw_K := (yX12_doPulse, cX12_doPulse, 5, { frames := 3, cells := 0, slots := 0, locals := 77 }, none)
theorem ok_X12_doPulse : gw_calV kX12_doPulse 2 := ⟨⟨wd_1151, wd_62, by decide, by decide, by decide +kernel⟩, wd_1150, wd_55⟩
set_option maxHeartbeats 4000000 in
set_option maxRecDepth 100000 in
theorem c_mdoPulse (l : Launch) (cy : Nat → ClassId) (ad : Nat → Nat) (iv : Nat → Int32) (ia : Nat → Nat → Int32) (la : Nat → Nat → Int64) (σ : aS) (hI : mInv σ iv ia la) (j f t : Nat) (a : Int32) (hj : j < 40) (hf : f < 4) (ht4 : t < 4) (e14 : ia 14 j = a) (e16 : ia 16 j = nI t) : gw_M l kX12_doPulse cy [.ref (ad 0), .int (nI (j)), .int (nI (f))] (mW cy ad iv ia la) (qmS cy ad iv ia la none (setSm σ 8 (plS σ.1 a f t (sSm σ 8)  σ.1))) := by
  refine gw_M.mk (lv := [some (.ref (ad 0)), some (.int (nI (j))), some (.int (nI (f))), none, none]) (by decide) (Nat.le_of_ble_eq_true rfl) rfl ?_
  generalize hpost : (qmS cy ad iv ia la none (setSm σ 8 (plS σ.1 a f t (sSm σ 8)  σ.1)) : gw_Q) = post
  have hn4 := hI.1.2.1
  refine gw_iconst (v := nI (0)) dX12_doPulse_0 (by decide) ?_
  refine gw_istore_n dX12_doPulse_1 (by decide) rfl ?_
  have cut2 : ∀ (fu : Nat) (s : Nat) (iv1 : Nat → Int32) (ia1 : Nat → Nat → Int32) (la1 : Nat → Nat → Int64), (s ≤ σ.1) → (mInv (setSm σ 8 (plS σ.1 a f t (sSm σ 8)  s)) iv1 ia1 la1) → (mKp iv ia la iv1 ia1 la1) → (σ.1 - s) < fu → gw_W l kX12_doPulse cy (gw_R kX12_doPulse post) (mW cy ad iv1 ia1 la1) 0 0 2 [some (.ref (ad 0)), some (.int (nI (j))), some (.int (nI (f))), some (.int (nI (s))), none] [] := by
    intro fu
    induction fu with
    | zero => intro s iv1 ia1 la1 s1 hI1 hK1 hfu; exact absurd hfu (Nat.not_lt_zero _)
    | succ fu ih2 =>
      intro s iv1 ia1 la1 s1 hI1 hK1 hfu
      refine gw_iload_n dX12_doPulse_2 rfl ?_
      refine gw_aload_n dX12_doPulse_3 rfl ?_
      refine gm_get_spins rfl dX12_doPulse_4 ?_
      refine gw_topi (y := nI (σ.1)) (hI1.1.2.2.1) ?_
      refine gw_icmpN_ge (tgt := 77) dX12_doPulse_7 (by decide) (by omega) (by omega) (fun c7 => ?_) (fun c7 => ?_)
      · have e1 : s = σ.1 := by omega
        subst e1
        refine gw_vret (?_) (by decide) (by decide) rfl dX12_doPulse_77
        subst hpost
        exact ⟨rfl, iv1, ia1, la1, rfl, hI1, hK1⟩
      · refine gw_aload_n dX12_doPulse_10 rfl ?_
        refine gm_get_set rfl dX12_doPulse_11 ?_
        refine gw_iload_n dX12_doPulse_14 rfl ?_
        refine gm_ld_set (j := j) (rfl) (hj) dX12_doPulse_15 ?_
        refine gw_topi (y := a) (by rw [hK1.2.1 14 (by decide) (by decide) (by decide)]; exact e14) ?_
        refine gw_iload_n dX12_doPulse_16 rfl ?_
        refine gw_ishr dX12_doPulse_17 ?_
        refine gw_iconst (v := nI (1)) dX12_doPulse_18 (by decide) ?_
        refine gw_iand dX12_doPulse_19 ?_
        refine gw_iconst (v := nI (1)) dX12_doPulse_20 (by decide) ?_
        refine gw_icmp_ne (tgt := 71) dX12_doPulse_21 (by decide) (fun c21 => ?_) (fun c21 => ?_)
        · refine gw_iinc (v := nI (s + 1)) dX12_doPulse_71 rfl (nI_add _ 1) (by decide) rfl ?_
          refine gw_goto (tgt := 2) dX12_doPulse_74 (by decide) ?_
          refine ih2 (s + 1) (iv1) (ia1) (la1) (by omega) ?_ ?_ ?_
          · rw [plS]
            first
            | (rw [if_neg c21]; exact hI1)
            | (rw [if_pos c21]; rw [setSm_8] at hI68; exact hI68)
          · first
            | exact hK1
            | exact mKp_tr hK1 hK68
          · omega
        · refine gw_iload_n dX12_doPulse_24 rfl ?_
          refine gw_iconst (v := nI (2)) dX12_doPulse_25 (by decide) ?_
          refine gw_iremN dX12_doPulse_26 (by omega) (by omega) (by omega) ?_
          refine gw_ifN_ne (tgt := 34) dX12_doPulse_27 (by decide) (by omega) (fun c27 => ?_) (fun c27 => ?_)
          · refine gw_iconst (v := nI (2)) dX12_doPulse_34 (by decide) ?_
            refine gw_topi (y := nI (axF f)) (by rw [axF, if_neg c27]) ?_
            refine gw_istore dX12_doPulse_35 (by decide) rfl ?_
            refine gw_aload_n dX12_doPulse_37 rfl ?_
            refine gw_iload dX12_doPulse_38 rfl ?_
            refine gw_iconst (v := nI (2)) dX12_doPulse_40 (by decide) ?_
            refine gw_iload_n dX12_doPulse_41 rfl ?_
            refine gw_imulN dX12_doPulse_42 ?_
            refine gw_ishl dX12_doPulse_43 ?_
            refine gw_topi (y := nI (axF f * 4 ^ s)) (shl_ax (axF_le f) (by omega)) ?_
            refine gw_iload_n dX12_doPulse_44 rfl ?_
            refine gw_iconst (v := nI (2)) dX12_doPulse_45 (by decide) ?_
            refine gw_icmpN_ge (tgt := 58) dX12_doPulse_46 (by decide) (by omega) (by omega) (fun c46 => ?_) (fun c46 => ?_)
            · refine gw_iconst (v := nI (4)) dX12_doPulse_58 (by decide) ?_
              refine gw_aload_n dX12_doPulse_59 rfl ?_
              refine gm_get_turns rfl dX12_doPulse_60 ?_
              refine gw_iload_n dX12_doPulse_63 rfl ?_
              refine gm_ld_turns (j := j) (rfl) (hj) dX12_doPulse_64 ?_
              refine gw_topi (y := nI (t)) (by rw [hK1.2.1 16 (by decide) (by decide) (by decide)]; exact e16) ?_
              refine gw_isubN dX12_doPulse_65 (by omega) ?_
              refine gw_iconst (v := nI (4)) dX12_doPulse_66 (by decide) ?_
              refine gw_iremN dX12_doPulse_67 (by omega) (by omega) (by omega) ?_
              refine gw_topi (y := nI (quF f t)) (by rw [quF, if_neg (by omega)]) ?_
              refine gw_callV 0 (As := [.int (nI (axF f * 4 ^ s)), .int (nI (quF f t))]) (st := []) (t_mturnQ l cy ad iv1 ia1 la1 (setSm σ 8 (plS σ.1 a f t (sSm σ 8)  s)) hI1 (axF f * 4 ^ s) (quF f t) (ax_lt4 (n := σ.1) (axF_le f) (by omega)) (quF_lt ht4)) ok_X12_turnQuarter rfl rfl rfl wd_988 rfl rfl dX12_doPulse_68 (by decide) (by decide) (Nat.le_of_ble_eq_true rfl) (fun r68 w68 hp68 => ?_)
              obtain ⟨rfl, iv68, ia68, la68, rfl, hI68, hK68⟩ := hp68
              refine gw_W.norm (st' := []) (k1 := 0) (k2 := 0) rfl rfl rfl ?_
              refine gw_iinc (v := nI (s + 1)) dX12_doPulse_71 rfl (nI_add _ 1) (by decide) rfl ?_
              refine gw_goto (tgt := 2) dX12_doPulse_74 (by decide) ?_
              refine gw_W.forget 4 ?_
              refine ih2 (s + 1) (iv68) (ia68) (la68) (by omega) ?_ ?_ ?_
              · rw [plS]
                first
                | (rw [if_neg c21]; exact hI1)
                | (rw [if_pos c21]; rw [setSm_8] at hI68; exact hI68)
              · first
                | exact hK1
                | exact mKp_tr hK1 hK68
              · omega
            · refine gw_aload_n dX12_doPulse_49 rfl ?_
              refine gm_get_turns rfl dX12_doPulse_50 ?_
              refine gw_iload_n dX12_doPulse_53 rfl ?_
              refine gm_ld_turns (j := j) (rfl) (hj) dX12_doPulse_54 ?_
              refine gw_topi (y := nI (quF f t)) (by rw [hK1.2.1 16 (by decide) (by decide) (by decide), e16, quF, if_pos (by omega)]) ?_
              refine gw_goto (tgt := 68) dX12_doPulse_55 (by decide) ?_
              refine gw_callV 0 (As := [.int (nI (axF f * 4 ^ s)), .int (nI (quF f t))]) (st := []) (t_mturnQ l cy ad iv1 ia1 la1 (setSm σ 8 (plS σ.1 a f t (sSm σ 8)  s)) hI1 (axF f * 4 ^ s) (quF f t) (ax_lt4 (n := σ.1) (axF_le f) (by omega)) (quF_lt ht4)) ok_X12_turnQuarter rfl rfl rfl wd_988 rfl rfl dX12_doPulse_68 (by decide) (by decide) (Nat.le_of_ble_eq_true rfl) (fun r68 w68 hp68 => ?_)
              obtain ⟨rfl, iv68, ia68, la68, rfl, hI68, hK68⟩ := hp68
              refine gw_W.norm (st' := []) (k1 := 0) (k2 := 0) rfl rfl rfl ?_
              refine gw_iinc (v := nI (s + 1)) dX12_doPulse_71 rfl (nI_add _ 1) (by decide) rfl ?_
              refine gw_goto (tgt := 2) dX12_doPulse_74 (by decide) ?_
              refine gw_W.forget 4 ?_
              refine ih2 (s + 1) (iv68) (ia68) (la68) (by omega) ?_ ?_ ?_
              · rw [plS]
                first
                | (rw [if_neg c21]; exact hI1)
                | (rw [if_pos c21]; rw [setSm_8] at hI68; exact hI68)
              · first
                | exact hK1
                | exact mKp_tr hK1 hK68
              · omega
          · refine gw_iconst (v := nI (1)) dX12_doPulse_30 (by decide) ?_
            refine gw_topi (y := nI (axF f)) (by rw [axF, if_pos c27]) ?_
            refine gw_goto (tgt := 35) dX12_doPulse_31 (by decide) ?_
            refine gw_istore dX12_doPulse_35 (by decide) rfl ?_
            refine gw_aload_n dX12_doPulse_37 rfl ?_
            refine gw_iload dX12_doPulse_38 rfl ?_
            refine gw_iconst (v := nI (2)) dX12_doPulse_40 (by decide) ?_
            refine gw_iload_n dX12_doPulse_41 rfl ?_
            refine gw_imulN dX12_doPulse_42 ?_
            refine gw_ishl dX12_doPulse_43 ?_
            refine gw_topi (y := nI (axF f * 4 ^ s)) (shl_ax (axF_le f) (by omega)) ?_
            refine gw_iload_n dX12_doPulse_44 rfl ?_
            refine gw_iconst (v := nI (2)) dX12_doPulse_45 (by decide) ?_
            refine gw_icmpN_ge (tgt := 58) dX12_doPulse_46 (by decide) (by omega) (by omega) (fun c46 => ?_) (fun c46 => ?_)
            · refine gw_iconst (v := nI (4)) dX12_doPulse_58 (by decide) ?_
              refine gw_aload_n dX12_doPulse_59 rfl ?_
              refine gm_get_turns rfl dX12_doPulse_60 ?_
              refine gw_iload_n dX12_doPulse_63 rfl ?_
              refine gm_ld_turns (j := j) (rfl) (hj) dX12_doPulse_64 ?_
              refine gw_topi (y := nI (t)) (by rw [hK1.2.1 16 (by decide) (by decide) (by decide)]; exact e16) ?_
              refine gw_isubN dX12_doPulse_65 (by omega) ?_
              refine gw_iconst (v := nI (4)) dX12_doPulse_66 (by decide) ?_
              refine gw_iremN dX12_doPulse_67 (by omega) (by omega) (by omega) ?_
              refine gw_topi (y := nI (quF f t)) (by rw [quF, if_neg (by omega)]) ?_
              refine gw_callV 0 (As := [.int (nI (axF f * 4 ^ s)), .int (nI (quF f t))]) (st := []) (t_mturnQ l cy ad iv1 ia1 la1 (setSm σ 8 (plS σ.1 a f t (sSm σ 8)  s)) hI1 (axF f * 4 ^ s) (quF f t) (ax_lt4 (n := σ.1) (axF_le f) (by omega)) (quF_lt ht4)) ok_X12_turnQuarter rfl rfl rfl wd_988 rfl rfl dX12_doPulse_68 (by decide) (by decide) (Nat.le_of_ble_eq_true rfl) (fun r68 w68 hp68 => ?_)
              obtain ⟨rfl, iv68, ia68, la68, rfl, hI68, hK68⟩ := hp68
              refine gw_W.norm (st' := []) (k1 := 0) (k2 := 0) rfl rfl rfl ?_
              refine gw_iinc (v := nI (s + 1)) dX12_doPulse_71 rfl (nI_add _ 1) (by decide) rfl ?_
              refine gw_goto (tgt := 2) dX12_doPulse_74 (by decide) ?_
              refine gw_W.forget 4 ?_
              refine ih2 (s + 1) (iv68) (ia68) (la68) (by omega) ?_ ?_ ?_
              · rw [plS]
                first
                | (rw [if_neg c21]; exact hI1)
                | (rw [if_pos c21]; rw [setSm_8] at hI68; exact hI68)
              · first
                | exact hK1
                | exact mKp_tr hK1 hK68
              · omega
            · refine gw_aload_n dX12_doPulse_49 rfl ?_
              refine gm_get_turns rfl dX12_doPulse_50 ?_
              refine gw_iload_n dX12_doPulse_53 rfl ?_
              refine gm_ld_turns (j := j) (rfl) (hj) dX12_doPulse_54 ?_
              refine gw_topi (y := nI (quF f t)) (by rw [hK1.2.1 16 (by decide) (by decide) (by decide), e16, quF, if_pos (by omega)]) ?_
              refine gw_goto (tgt := 68) dX12_doPulse_55 (by decide) ?_
              refine gw_callV 0 (As := [.int (nI (axF f * 4 ^ s)), .int (nI (quF f t))]) (st := []) (t_mturnQ l cy ad iv1 ia1 la1 (setSm σ 8 (plS σ.1 a f t (sSm σ 8)  s)) hI1 (axF f * 4 ^ s) (quF f t) (ax_lt4 (n := σ.1) (axF_le f) (by omega)) (quF_lt ht4)) ok_X12_turnQuarter rfl rfl rfl wd_988 rfl rfl dX12_doPulse_68 (by decide) (by decide) (Nat.le_of_ble_eq_true rfl) (fun r68 w68 hp68 => ?_)
              obtain ⟨rfl, iv68, ia68, la68, rfl, hI68, hK68⟩ := hp68
              refine gw_W.norm (st' := []) (k1 := 0) (k2 := 0) rfl rfl rfl ?_
              refine gw_iinc (v := nI (s + 1)) dX12_doPulse_71 rfl (nI_add _ 1) (by decide) rfl ?_
              refine gw_goto (tgt := 2) dX12_doPulse_74 (by decide) ?_
              refine gw_W.forget 4 ?_
              refine ih2 (s + 1) (iv68) (ia68) (la68) (by omega) ?_ ?_ ?_
              · rw [plS]
                first
                | (rw [if_neg c21]; exact hI1)
                | (rw [if_pos c21]; rw [setSm_8] at hI68; exact hI68)
              · first
                | exact hK1
                | exact mKp_tr hK1 hK68
              · omega
  refine cut2 _ (0) (iv) (ia) (la) (Nat.zero_le _) ?_ (mKp_rfl iv ia la) (Nat.lt_succ_self _)
  unfold setSm; rw [show (plS σ.1 a f t (sSm σ 8)  0) = sSm σ 8 from rfl, va_up_id]; exact hI
def rdR (rs : List (Nat × Nat)) (v25 : Int32) (a26 a27 : Nat → Int32) : Prop := rs.length ≤ 3 ∧ v25 = nI rs.length ∧ ∀ k, k < rs.length → a26 k = nI (rs.getD k (0, 0)).1 ∧ a27 k = nI (rs.getD k (0, 0)).2 ∧ (rs.getD k (0, 0)).2 < 8
theorem opOK_23 {n : Nat} {x : aO} (h : opOK n x) (hk : x.1 = 2 ∨ x.1 = 3) : 1 ≤ x.2.1.toInt ∧ x.2.1.toInt < 2 ^ n ∧ 0 ≤ x.2.2.1.toInt ∧ x.2.2.1.toInt < 4 ∧ 0 ≤ x.2.2.2.1.toInt ∧ x.2.2.2.1.toInt < 4 ∧ 0 ≤ x.2.2.2.2.toInt ∧ x.2.2.2.2.toInt < 8 := by
  rcases h with h | h | h | h | h
  · exact h.2
  all_goals (exfalso; omega)
theorem opOK_4 {n : Nat} {x : aO} (h : opOK n x) (hk : x.1 = 4) : 0 ≤ x.2.1.toInt ∧ x.2.1.toInt < 4 ^ n ∧ 0 ≤ x.2.2.1.toInt ∧ x.2.2.1.toInt < 4 ∧ (x.2.2.2.1 = 1 ∨ x.2.2.2.1 = -1) := by
  rcases h with h | h | h | h | h
  · exfalso; omega
  · exact h.2
  all_goals (exfalso; omega)
theorem opOK_7 {n : Nat} {x : aO} (h : opOK n x) (hk : x.1 = 7) : 0 ≤ x.2.1.toInt ∧ x.2.1.toInt < 8 ∧ -3 ≤ x.2.2.1.toInt ∧ x.2.2.1.toInt ≤ 3 := by
  rcases h with h | h | h | h | h
  · exfalso; omega
  · exfalso; omega
  · exfalso; omega
  · exfalso; omega
  · exact h.2
theorem opOK_5 {n : Nat} {x : aO} (h : opOK n x) (hk : x.1 = 5) : 1 ≤ x.2.1.toInt ∧ x.2.1.toInt ≤ 8 := by
  rcases h with h | h | h | h | h
  · exfalso; omega
  · exfalso; omega
  · exact h.2
  · exfalso; omega
  · exfalso; omega
theorem tI_pow {v : Int32} {n : Nat} (h0 : 0 ≤ v.toInt) (h : v.toInt < 4 ^ n) : tI v < 4 ^ n := by
  have e : ((4 ^ n : Nat) : Int) = 4 ^ n := by rw [Int.natCast_pow]; rfl
  unfold tI; omega
theorem rsD_lt {rs : List (Nat × Nat)} {v25 : Int32} {a26 a27 : Nat → Int32} (h : rdR rs v25 a26 a27) : rsD rs < 2 ^ 31 := by
  unfold rsD
  split
  · decide
  · have := (h.2.2 (rs.length - 1) (by omega)).2.2
    unfold rsT; omega
abbrev kX12_does : gw_K := (yX12_does, cX12_does, 4, { frames := 4, cells := 0, slots := 0, locals := 101 }, (some .int))
theorem ok_X12_does : gw_calV kX12_does 1 := ⟨⟨wd_1147, wd_62, by decide, by decide, by decide +kernel⟩, wd_1146, wd_54⟩
set_option maxHeartbeats 4000000 in
set_option maxRecDepth 100000 in
theorem c_mdoes (l : Launch) (cy : Nat → ClassId) (ad : Nat → Nat) (iv : Nat → Int32) (ia : Nat → Nat → Int32) (la : Nat → Nat → Int64) (σ : aS) (hI : mInv σ iv ia la) (j : Nat) (rs : List (Nat × Nat)) (hj : j < (sOp σ).length) (hR : rdR rs (iv 25) (ia 26) (ia 27)) : gw_M l kX12_does cy [.ref (ad 0), .int (nI (j))] (mW cy ad iv ia la) (qmS cy ad iv ia la (some (.int (doM σ.1 (sTb σ) (sSm σ) (rsD rs) (opJ (sOp σ) j)).1)) (wSm σ (doM σ.1 (sTb σ) (sSm σ) (rsD rs) (opJ (sOp σ) j)).2)) := by
  refine gw_M.mk (lv := [some (.ref (ad 0)), some (.int (nI (j))), none, none]) (by decide) (Nat.le_of_ble_eq_true rfl) rfl ?_
  generalize hpost : (qmS cy ad iv ia la (some (.int (doM σ.1 (sTb σ) (sSm σ) (rsD rs) (opJ (sOp σ) j)).1)) (wSm σ (doM σ.1 (sTb σ) (sSm σ) (rsD rs) (opJ (sOp σ) j)).2) : gw_Q) = post
  obtain ⟨i1, i2, i3, i4, i5, i6, i7, i8⟩ := id hI
  obtain ⟨q40, e13, e14, e15, e16, e17, ok⟩ := opJ_t (O := sOp σ) i4 hj
  have k8 := op_k8 ok
  obtain ⟨r1, r2, r3⟩ := hR
  refine gw_aload_n dX12_does_0 rfl ?_
  refine gm_get_kind rfl dX12_does_1 ?_
  refine gw_iload_n dX12_does_4 rfl ?_
  refine gm_ld_kind (j := j) (rfl) (q40) dX12_does_5 ?_
  refine gw_topi (y := nI ((opJ (sOp σ) j).1)) (e13) ?_
  have z6 : (nI ((opJ (sOp σ) j).1)).toInt = (((opJ (sOp σ) j).1 : Nat) : Int) := nI_toInt (by omega)
  by_cases c6_2 : ((opJ (sOp σ) j).1) = 2
  · refine gw_tableIn (off := 38) (tgt := 44) dX12_does_6 (by rw [z6]; omega) (by rw [z6]; omega) (by rw [z6, c6_2]; rfl) (by decide) ?_
    obtain ⟨o1, o2, o3, o4, o5, o6, o9, o10⟩ := opOK_23 ok (Or.inl c6_2)
    have o7 : tI (opJ (sOp σ) j).2.2.2.1 < 4 := by unfold tI; omega
    have o8 : ia 16 j = nI (tI (opJ (sOp σ) j).2.2.2.1) := by rw [e16]; exact tI_of (by omega)
    refine gw_aload_n dX12_does_44 rfl ?_
    refine gw_iload_n dX12_does_45 rfl ?_
    refine gw_aload_n dX12_does_46 rfl ?_
    refine gm_get_phase rfl dX12_does_47 ?_
    refine gw_iload_n dX12_does_50 rfl ?_
    refine gm_ld_phase (j := j) (rfl) (q40) dX12_does_51 ?_
    refine gw_topi (y := nI (tI (opJ (sOp σ) j).2.2.1)) (by rw [e15]; exact tI_of (by omega)) ?_
    refine gw_callV 0 (As := [.int (nI (j)), .int (nI (tI (opJ (sOp σ) j).2.2.1))]) (st := []) (c_mdoPulse l cy ad iv ia la σ hI j (tI (opJ (sOp σ) j).2.2.1) (tI (opJ (sOp σ) j).2.2.2.1) (opJ (sOp σ) j).2.1 q40 (by unfold tI; omega) o7 e14 o8) ok_X12_doPulse rfl rfl rfl wd_1148 rfl rfl dX12_does_52 (by decide) (by decide) (Nat.le_of_ble_eq_true rfl) (fun r52 w52 hp52 => ?_)
    obtain ⟨rfl, iv52, ia52, la52, rfl, hI52, hK52⟩ := hp52
    refine gw_W.norm (st' := []) (k1 := 0) (k2 := 0) rfl rfl rfl ?_
    refine gw_iconst (v := nI (0)) dX12_does_55 (by decide) ?_
    refine gw_iret (?_) (by decide) (by decide) rfl dX12_does_56
    subst hpost
    rw [show (doM σ.1 (sTb σ) (sSm σ) (rsD rs) (opJ (sOp σ) j)) = (0, va_up (sSm σ) 8 (plS σ.1 (opJ (sOp σ) j).2.1 (tI (opJ (sOp σ) j).2.2.1) (tI (opJ (sOp σ) j).2.2.2.1) (sSm σ 8) σ.1)) by unfold doM; rw [if_pos c6_2]]
    exact ⟨rfl, iv52, ia52, la52, rfl, hI52, hK52⟩
  by_cases c6_3 : ((opJ (sOp σ) j).1) = 3
  · refine gw_tableIn (off := 51) (tgt := 57) dX12_does_6 (by rw [z6]; omega) (by rw [z6]; omega) (by rw [z6, c6_3]; rfl) (by decide) ?_
    obtain ⟨o1, o2, o3, o4, o5, o6, o9, o10⟩ := opOK_23 ok (Or.inr c6_3)
    have o7 : tI (opJ (sOp σ) j).2.2.2.1 < 4 := by unfold tI; omega
    have o8 : ia 16 j = nI (tI (opJ (sOp σ) j).2.2.2.1) := by rw [e16]; exact tI_of (by omega)
    have t9 : (tI (opJ (sOp σ) j).2.2.2.2) < 8 := by unfold tI; omega
    have t10 : ia 17 j = nI (tI (opJ (sOp σ) j).2.2.2.2) := by rw [e17]; exact tI_of (by omega)
    have tt := i2 (tI (opJ (sOp σ) j).2.2.2.2) t9
    have cut80 : gw_W l kX12_does cy (gw_R kX12_does post) (mW cy ad iv ia la) 0 0 80 [some (.ref (ad 0)), some (.int (nI (j))), some (.int (nI (rsD rs))), none] [] := by
      refine gw_aload_n dX12_does_80 rfl ?_
      refine gm_get_lane rfl dX12_does_81 ?_
      refine gw_aload_n dX12_does_84 rfl ?_
      refine gm_get_table rfl dX12_does_85 ?_
      refine gw_iload_n dX12_does_88 rfl ?_
      refine gm_ld_table (j := j) (rfl) (q40) dX12_does_89 ?_
      refine gw_topi (y := nI (tI (opJ (sOp σ) j).2.2.2.2)) (t10) ?_
      refine gm_ld_lane (j := tI (opJ (sOp σ) j).2.2.2.2) (rfl) (t9) dX12_does_90 ?_
      refine gw_if_ne (tgt := 96) dX12_does_91 (by decide) (fun c91 => ?_) (fun c91 => ?_)
      · obtain ⟨q, hq⟩ : ∃ q, sTb σ (tI (opJ (sOp σ) j).2.2.2.2) = some q := by
          cases hq : sTb σ (tI (opJ (sOp σ) j).2.2.2.2) with
          | none => rw [show σ.2.1 (tI (opJ (sOp σ) j).2.2.2.2) = none from hq] at tt; exact absurd tt c91
          | some q => exact ⟨q, rfl⟩
        rw [show σ.2.1 (tI (opJ (sOp σ) j).2.2.2.2) = some q from hq] at tt
        obtain ⟨p1, p2, p3, p4, p5⟩ := tt
        have hD : rsD rs < 2 ^ 31 := rsD_lt ⟨r1, r2, r3⟩
        refine gw_iload_n dX12_does_96 rfl ?_
        refine gw_aload_n dX12_does_97 rfl ?_
        refine gm_get_size rfl dX12_does_98 ?_
        refine gw_aload_n dX12_does_101 rfl ?_
        refine gm_get_table rfl dX12_does_102 ?_
        refine gw_iload_n dX12_does_105 rfl ?_
        refine gm_ld_table (j := j) (rfl) (q40) dX12_does_106 ?_
        refine gw_topi (y := nI (tI (opJ (sOp σ) j).2.2.2.2)) (t10) ?_
        refine gm_ld_size (j := tI (opJ (sOp σ) j).2.2.2.2) (rfl) (t9) dX12_does_107 ?_
        refine gw_topi (y := nI (q.2.length)) (p4) ?_
        refine gw_icmpN_lt (tgt := 113) dX12_does_108 (by decide) (hD) (by omega) (fun c108 => ?_) (fun c108 => ?_)
        · obtain ⟨z, z1, z2, z3⟩ := cyF_nat (p := (opJ (sOp σ) j).2.2.1) (v := q.2.getD (rsD rs) 0) (by omega) (by omega)
          refine gw_aload_n dX12_does_113 rfl ?_
          refine gm_get_phase rfl dX12_does_114 ?_
          refine gw_iload_n dX12_does_117 rfl ?_
          refine gm_ld_phase (j := j) (rfl) (q40) dX12_does_118 ?_
          refine gw_topi (y := (opJ (sOp σ) j).2.2.1) (e15) ?_
          refine gw_aload_n dX12_does_119 rfl ?_
          refine gm_get_item rfl dX12_does_120 ?_
          refine gw_bipush (v := nI (60)) dX12_does_123 (by decide) ?_
          refine gw_aload_n dX12_does_125 rfl ?_
          refine gm_get_table rfl dX12_does_126 ?_
          refine gw_iload_n dX12_does_129 rfl ?_
          refine gm_ld_table (j := j) (rfl) (q40) dX12_does_130 ?_
          refine gw_topi (y := nI (tI (opJ (sOp σ) j).2.2.2.2)) (t10) ?_
          refine gw_imulN dX12_does_131 ?_
          refine gw_iload_n dX12_does_132 rfl ?_
          refine gw_iaddN dX12_does_133 ?_
          refine gm_ld_item (j := (60 * (tI (opJ (sOp σ) j).2.2.2.2)) + (rsD rs)) (rfl) (by omega) dX12_does_134 ?_
          refine gw_topi (y := q.2.getD (rsD rs) 0) (p5 _ (by omega)) ?_
          refine gw_iconst (v := nI (4)) dX12_does_135 (by decide) ?_
          refine gw_irem dX12_does_136 (by decide) ?_
          refine gw_iadd dX12_does_137 ?_
          refine gw_iconst (v := nI (4)) dX12_does_138 (by decide) ?_
          refine gw_iadd dX12_does_139 ?_
          refine gw_topi (y := nI (z)) (z2) ?_
          refine gw_iconst (v := nI (4)) dX12_does_140 (by decide) ?_
          refine gw_iremN dX12_does_141 (by omega) (by omega) (by omega) ?_
          refine gw_topi (y := nI (cyF (opJ (sOp σ) j).2.2.1 (q.2.getD (rsD rs) 0))) (by rw [z3]) ?_
          refine gw_istore_n dX12_does_142 (by decide) rfl ?_
          refine gw_aload_n dX12_does_143 rfl ?_
          refine gw_iload_n dX12_does_144 rfl ?_
          refine gw_iload_n dX12_does_145 rfl ?_
          refine gw_callV 0 (As := [.int (nI (j)), .int (nI (cyF (opJ (sOp σ) j).2.2.1 (q.2.getD (rsD rs) 0)))]) (st := []) (c_mdoPulse l cy ad iv ia la σ hI j (cyF (opJ (sOp σ) j).2.2.1 (q.2.getD (rsD rs) 0)) (tI (opJ (sOp σ) j).2.2.2.1) (opJ (sOp σ) j).2.1 q40 (cyF_lt _ _) o7 e14 o8) ok_X12_doPulse rfl rfl rfl wd_1148 rfl rfl dX12_does_146 (by decide) (by decide) (Nat.le_of_ble_eq_true rfl) (fun r146 w146 hp146 => ?_)
          obtain ⟨rfl, iv146, ia146, la146, rfl, hI146, hK146⟩ := hp146
          refine gw_W.norm (st' := []) (k1 := 0) (k2 := 0) rfl rfl rfl ?_
          refine gw_iconst (v := nI (0)) dX12_does_149 (by decide) ?_
          refine gw_iret (?_) (by decide) (by decide) rfl dX12_does_150
          subst hpost
          rw [show (doM σ.1 (sTb σ) (sSm σ) (rsD rs) (opJ (sOp σ) j)) = (0, va_up (sSm σ) 8 (plS σ.1 (opJ (sOp σ) j).2.1 (cyF (opJ (sOp σ) j).2.2.1 (q.2.getD (rsD rs) 0)) (tI (opJ (sOp σ) j).2.2.2.1) (sSm σ 8) σ.1)) by unfold doM; rw [if_neg (by omega), if_pos c6_3, hq]; simp only; rw [if_pos (by omega)]]
          exact ⟨rfl, iv146, ia146, la146, rfl, hI146, hK146⟩
        · refine gw_iconst (v := nI (2)) dX12_does_111 (by decide) ?_
          refine gw_iret (?_) (by decide) (by decide) rfl dX12_does_112
          subst hpost
          rw [show (doM σ.1 (sTb σ) (sSm σ) (rsD rs) (opJ (sOp σ) j)) = (2, sSm σ) by unfold doM; rw [if_neg (by omega), if_pos c6_3, hq]; simp only; rw [if_neg (by omega)]]
          exact ⟨rfl, iv, ia, la, rfl, hI, mKp_rfl iv ia la⟩
      · refine gw_iconst (v := nI (1)) dX12_does_94 (by decide) ?_
        refine gw_iret (?_) (by decide) (by decide) rfl dX12_does_95
        subst hpost
        rw [show (doM σ.1 (sTb σ) (sSm σ) (rsD rs) (opJ (sOp σ) j)) = (1, sSm σ) by
          unfold doM; rw [if_neg (by omega), if_pos c6_3]
          cases hq : sTb σ (tI (opJ (sOp σ) j).2.2.2.2) with
          | none => rfl
          | some q =>
            rw [show σ.2.1 (tI (opJ (sOp σ) j).2.2.2.2) = some q from hq] at tt
            exact absurd (tt.2.1.symm.trans c91) (nI_ne0 (by omega) (by have := tt.1; omega))]
        exact ⟨rfl, iv, ia, la, rfl, hI, mKp_rfl iv ia la⟩
    refine gw_aload_n dX12_does_57 rfl ?_
    refine gm_get_rounds rfl dX12_does_58 ?_
    refine gw_topi (y := nI (rs.length)) (r2) ?_
    refine gw_ifN_ne (tgt := 68) dX12_does_61 (by decide) (by omega) (fun c61 => ?_) (fun c61 => ?_)
    · refine gw_aload_n dX12_does_68 rfl ?_
      refine gm_get_roundDone rfl dX12_does_69 ?_
      refine gw_aload_n dX12_does_72 rfl ?_
      refine gm_get_rounds rfl dX12_does_73 ?_
      refine gw_topi (y := nI (rs.length)) (r2) ?_
      refine gw_iconst (v := nI (1)) dX12_does_76 (by decide) ?_
      refine gw_isubN dX12_does_77 (by omega) ?_
      refine gm_ld_roundDone (j := (rs.length) - (1)) (rfl) (by omega) dX12_does_78 ?_
      refine gw_topi (y := nI (rsD rs)) (by rw [rsD, if_neg c61]; exact (r3 _ (by omega)).2.1) ?_
      refine gw_istore_n dX12_does_79 (by decide) rfl ?_
      refine cut80  
    · refine gw_iconst (v := nI (0)) dX12_does_64 (by decide) ?_
      refine gw_topi (y := nI (rsD rs)) (by rw [rsD, if_pos c61]) ?_
      refine gw_goto (tgt := 79) dX12_does_65 (by decide) ?_
      refine gw_istore_n dX12_does_79 (by decide) rfl ?_
      refine cut80  
  by_cases c6_4 : ((opJ (sOp σ) j).1) = 4
  · refine gw_tableIn (off := 145) (tgt := 151) dX12_does_6 (by rw [z6]; omega) (by rw [z6]; omega) (by rw [z6, c6_4]; rfl) (by decide) ?_
    obtain ⟨o1, o2, o3, o4, o5⟩ := opOK_4 ok c6_4
    have t9 : tI (opJ (sOp σ) j).2.1 < 4 ^ σ.1 := tI_pow o1 o2
    have t10 : ia 14 j = nI (tI (opJ (sOp σ) j).2.1) := by rw [e14]; exact tI_of o1
    have t11 : tI (opJ (sOp σ) j).2.2.1 < 4 := by unfold tI; omega
    have t12 : ia 15 j = nI (tI (opJ (sOp σ) j).2.2.1) := by rw [e15]; exact tI_of o3
    refine gw_aload_n dX12_does_151 rfl ?_
    refine gw_aload_n dX12_does_152 rfl ?_
    refine gm_get_set rfl dX12_does_153 ?_
    refine gw_iload_n dX12_does_156 rfl ?_
    refine gm_ld_set (j := j) (rfl) (q40) dX12_does_157 ?_
    refine gw_topi (y := nI (tI (opJ (sOp σ) j).2.1)) (t10) ?_
    refine gw_aload_n dX12_does_158 rfl ?_
    refine gm_get_phase rfl dX12_does_159 ?_
    refine gw_iload_n dX12_does_162 rfl ?_
    refine gm_ld_phase (j := j) (rfl) (q40) dX12_does_163 ?_
    refine gw_topi (y := nI (tI (opJ (sOp σ) j).2.2.1)) (t12) ?_
    refine gw_aload_n dX12_does_164 rfl ?_
    refine gm_get_turns rfl dX12_does_165 ?_
    refine gw_iload_n dX12_does_168 rfl ?_
    refine gm_ld_turns (j := j) (rfl) (q40) dX12_does_169 ?_
    refine gw_topi (y := (opJ (sOp σ) j).2.2.2.1) (e16) ?_
    refine gw_callV 0 (As := [.int (nI (tI (opJ (sOp σ) j).2.1)), .int (nI (tI (opJ (sOp σ) j).2.2.1)), .int ((opJ (sOp σ) j).2.2.2.1)]) (st := []) (t_mturnL l cy ad iv ia la σ hI (tI (opJ (sOp σ) j).2.1) (tI (opJ (sOp σ) j).2.2.1) (opJ (sOp σ) j).2.2.2.1 t9 t11) ok_X12_turnLetter rfl rfl rfl wd_1011 rfl rfl dX12_does_170 (by decide) (by decide) (Nat.le_of_ble_eq_true rfl) (fun r170 w170 hp170 => ?_)
    obtain ⟨hr170, iv170, ia170, la170, rfl, hI170, hK170⟩ := hp170
    cases hF170 : keepS (letC σ.1 (tI (opJ (sOp σ) j).2.1) (nI (tI (opJ (sOp σ) j).2.2.1)) (opJ (sOp σ) j).2.2.2.1 (sSm σ 8)) with
    | none =>
      rw [hF170] at hr170 hI170
      subst hr170
      refine gw_W.norm (st' := [.int (nI (0))]) (k1 := 0) (k2 := 0) rfl rfl rfl ?_
      refine gw_ifN_eq (tgt := 180) dX12_does_173 (by decide) (by omega) (fun _ => ?_) (fun h => absurd h (by decide))
      refine gw_ldc dX12_does_180 wd_965 ?_
      refine gw_iret (?_) (by decide) (by decide) rfl dX12_does_182
      subst hpost
      have e9 : (doM σ.1 (sTb σ) (sSm σ) (rsD rs) (opJ (sOp σ) j)) = doK (sSm σ) 8 (keepS (letC σ.1 (tI (opJ (sOp σ) j).2.1) (nI (tI (opJ (sOp σ) j).2.2.1)) (opJ (sOp σ) j).2.2.2.1 (sSm σ 8))) := by unfold doM; rw [if_neg (by omega), if_neg (by omega), if_pos c6_4, ← tI_of o3]
      rw [e9, hF170]
      exact ⟨rfl, iv170, ia170, la170, rfl, hI170, hK170⟩
    | some S170 =>
      rw [hF170] at hr170 hI170
      subst hr170
      refine gw_W.norm (st' := [.int (nI (1))]) (k1 := 0) (k2 := 0) rfl rfl rfl ?_
      refine gw_ifN_eq (tgt := 180) dX12_does_173 (by decide) (by omega) (fun h => absurd h (by decide)) (fun _ => ?_)
      refine gw_iconst (v := nI (0)) dX12_does_176 (by decide) ?_
      refine gw_goto (tgt := 182) dX12_does_177 (by decide) ?_
      refine gw_iret (?_) (by decide) (by decide) rfl dX12_does_182
      subst hpost
      have e9 : (doM σ.1 (sTb σ) (sSm σ) (rsD rs) (opJ (sOp σ) j)) = doK (sSm σ) 8 (keepS (letC σ.1 (tI (opJ (sOp σ) j).2.1) (nI (tI (opJ (sOp σ) j).2.2.1)) (opJ (sOp σ) j).2.2.2.1 (sSm σ 8))) := by unfold doM; rw [if_neg (by omega), if_neg (by omega), if_pos c6_4, ← tI_of o3]
      rw [e9, hF170]
      exact ⟨rfl, iv170, ia170, la170, rfl, hI170, hK170⟩
  by_cases c6_5 : ((opJ (sOp σ) j).1) = 5
  · refine gw_tableIn (off := 205) (tgt := 211) dX12_does_6 (by rw [z6]; omega) (by rw [z6]; omega) (by rw [z6, c6_5]; rfl) (by decide) ?_
    refine gw_iconst (v := nI (0)) dX12_does_211 (by decide) ?_
    refine gw_iret (?_) (by decide) (by decide) rfl dX12_does_212
    subst hpost
    rw [show (doM σ.1 (sTb σ) (sSm σ) (rsD rs) (opJ (sOp σ) j)) = (0, sSm σ) by unfold doM; rw [if_neg (by omega), if_neg (by omega), if_neg (by omega), if_neg (by omega)]]
    exact ⟨rfl, iv, ia, la, rfl, hI, mKp_rfl iv ia la⟩
  by_cases c6_6 : ((opJ (sOp σ) j).1) = 6
  · refine gw_tableIn (off := 205) (tgt := 211) dX12_does_6 (by rw [z6]; omega) (by rw [z6]; omega) (by rw [z6, c6_6]; rfl) (by decide) ?_
    refine gw_iconst (v := nI (0)) dX12_does_211 (by decide) ?_
    refine gw_iret (?_) (by decide) (by decide) rfl dX12_does_212
    subst hpost
    rw [show (doM σ.1 (sTb σ) (sSm σ) (rsD rs) (opJ (sOp σ) j)) = (0, sSm σ) by unfold doM; rw [if_neg (by omega), if_neg (by omega), if_neg (by omega), if_neg (by omega)]]
    exact ⟨rfl, iv, ia, la, rfl, hI, mKp_rfl iv ia la⟩
  by_cases c6_7 : ((opJ (sOp σ) j).1) = 7
  · refine gw_tableIn (off := 177) (tgt := 183) dX12_does_6 (by rw [z6]; omega) (by rw [z6]; omega) (by rw [z6, c6_7]; rfl) (by decide) ?_
    obtain ⟨o1, o2, o3, o4⟩ := opOK_7 ok c6_7
    have t9 : tI (opJ (sOp σ) j).2.1 < 8 := by unfold tI; omega
    have t10 : ia 14 j = nI (tI (opJ (sOp σ) j).2.1) := by rw [e14]; exact tI_of o1
    refine gw_aload_n dX12_does_183 rfl ?_
    refine gw_aload_n dX12_does_184 rfl ?_
    refine gm_get_set rfl dX12_does_185 ?_
    refine gw_iload_n dX12_does_188 rfl ?_
    refine gm_ld_set (j := j) (rfl) (q40) dX12_does_189 ?_
    refine gw_topi (y := nI (tI (opJ (sOp σ) j).2.1)) (t10) ?_
    refine gw_bipush (v := nI (8)) dX12_does_190 (by decide) ?_
    refine gw_aload_n dX12_does_192 rfl ?_
    refine gm_get_phase rfl dX12_does_193 ?_
    refine gw_iload_n dX12_does_196 rfl ?_
    refine gm_ld_phase (j := j) (rfl) (q40) dX12_does_197 ?_
    refine gw_topi (y := (opJ (sOp σ) j).2.2.1) (e15) ?_
    refine gw_callV 0 (As := [.int (nI (tI (opJ (sOp σ) j).2.1)), .int (nI (8)), .int ((opJ (sOp σ) j).2.2.1)]) (st := []) (t_mjoinS l cy ad iv ia la σ hI (tI (opJ (sOp σ) j).2.1) 8 (opJ (sOp σ) j).2.2.1 (by omega) (by decide)) ok_X12_joined rfl rfl rfl wd_980 rfl rfl dX12_does_198 (by decide) (by decide) (Nat.le_of_ble_eq_true rfl) (fun r198 w198 hp198 => ?_)
    obtain ⟨hr198, iv198, ia198, la198, rfl, hI198, hK198⟩ := hp198
    cases hF198 : keepS (joinC (sSm σ (tI (opJ (sOp σ) j).2.1)) (sSm σ 8) (opJ (sOp σ) j).2.2.1) with
    | none =>
      rw [hF198] at hr198 hI198
      subst hr198
      refine gw_W.norm (st' := [.int (nI (0))]) (k1 := 0) (k2 := 0) rfl rfl rfl ?_
      refine gw_ifN_eq (tgt := 208) dX12_does_201 (by decide) (by omega) (fun _ => ?_) (fun h => absurd h (by decide))
      refine gw_ldc dX12_does_208 wd_965 ?_
      refine gw_iret (?_) (by decide) (by decide) rfl dX12_does_210
      subst hpost
      have e9 : (doM σ.1 (sTb σ) (sSm σ) (rsD rs) (opJ (sOp σ) j)) = doK (sSm σ) (tI (opJ (sOp σ) j).2.1) (keepS (joinC (sSm σ (tI (opJ (sOp σ) j).2.1)) (sSm σ 8) (opJ (sOp σ) j).2.2.1)) := by unfold doM; rw [if_neg (by omega), if_neg (by omega), if_neg (by omega), if_pos c6_7]
      rw [e9, hF198]
      exact ⟨rfl, iv198, ia198, la198, rfl, hI198, hK198⟩
    | some S198 =>
      rw [hF198] at hr198 hI198
      subst hr198
      refine gw_W.norm (st' := [.int (nI (1))]) (k1 := 0) (k2 := 0) rfl rfl rfl ?_
      refine gw_ifN_eq (tgt := 208) dX12_does_201 (by decide) (by omega) (fun h => absurd h (by decide)) (fun _ => ?_)
      refine gw_iconst (v := nI (0)) dX12_does_204 (by decide) ?_
      refine gw_goto (tgt := 210) dX12_does_205 (by decide) ?_
      refine gw_iret (?_) (by decide) (by decide) rfl dX12_does_210
      subst hpost
      have e9 : (doM σ.1 (sTb σ) (sSm σ) (rsD rs) (opJ (sOp σ) j)) = doK (sSm σ) (tI (opJ (sOp σ) j).2.1) (keepS (joinC (sSm σ (tI (opJ (sOp σ) j).2.1)) (sSm σ 8) (opJ (sOp σ) j).2.2.1)) := by unfold doM; rw [if_neg (by omega), if_neg (by omega), if_neg (by omega), if_pos c6_7]
      rw [e9, hF198]
      exact ⟨rfl, iv198, ia198, la198, rfl, hI198, hK198⟩
  exfalso; omega
