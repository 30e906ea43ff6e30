/-! round, end, back -/
def opC (σ : aS) : Nat := (opn (sOp σ)).getD 0
def spRound (σ : aS) (v : Int32) : Int32 × aS := if inZ v.toInt 1 8 = true then (if opC σ = 3 then (-1000002, σ) else spCome σ (5, v, 0, 0, 0)) else (-1000001, σ)
def spEnd (σ : aS) : Int32 × aS := if opC σ = 0 then (-1000002, σ) else spCome σ (6, 0, 0, 0, 0)
def spBack (σ : aS) : Int32 × aS := if (sOp σ).length = 0 then (-1000002, σ) else (nI ((sOp σ).length - 1), setOp σ (sOp σ).dropLast)
theorem opC_eq {σ : aS} {c : Nat} (h : opn σ.2.2.2.1 = some c) : opC σ = c := by
  unfold opC; rw [show opn (sOp σ) = some c from h]; rfl
theorem opStep_le {s : Option Nat} {o : aO} (hs : ∀ c, s = some c → c ≤ 3) : ∀ c, opStep s o = some c → c ≤ 3 := by
  intro c h
  cases s with
  | none => cases h
  | some d =>
    have hd := hs d rfl
    unfold opStep at h
    simp only at h
    split at h
    · split at h
      · cases h; omega
      · cases h
    · split at h
      · split at h
        · cases h; omega
        · cases h
      · cases h; exact hd
theorem opn_le0 (O : List aO) : ∀ (s : Option Nat), (∀ c, s = some c → c ≤ 3) → ∀ c, O.foldl opStep s = some c → c ≤ 3 := by
  induction O with
  | nil => intro s hs c h; exact hs c h
  | cons o t ih => intro s hs c h; exact ih _ (opStep_le hs) c h
theorem opn_le {O : List aO} {c : Nat} (h : opn O = some c) : c ≤ 3 := opn_le0 O (some 0) (fun c h => by cases h; decide) c h
theorem mI4_back {n : Nat} {O : List aO} {v12 v18 : Int32} {a13 a14 a15 a16 a17 : Nat → Int32} (h : mI4 n O v12 v18 a13 a14 a15 a16 a17) (h0 : ¬ O.length = 0) : ∃ (o : aO) (c d : Nat), a13 (O.length - 1) = nI o.1 ∧ 2 ≤ o.1 ∧ o.1 ≤ 7 ∧ v18 = nI c ∧ c ≤ 3 ∧ d ≤ 3 ∧ (o.1 = 6 → d = c + 1) ∧ (o.1 = 5 → c = d + 1) ∧ (¬ o.1 = 5 → ¬ o.1 = 6 → d = c) ∧ mI4 n O.dropLast (nI (O.length - 1)) (nI d) a13 a14 a15 a16 a17 := by
  obtain ⟨h1, h2, ⟨c, hc, hc3, hv⟩, h4, h5⟩ := h
  have hne : O ≠ [] := fun e => h0 (by rw [e]; rfl)
  have hO : O = O.dropLast ++ [O.getLast hne] := (List.dropLast_concat_getLast hne).symm
  generalize hP : O.dropLast = P at *
  generalize hx : O.getLast hne = x at *
  subst hO
  have hk := op_k8 (h4 x (by simp))
  rw [opn_snoc] at hc
  cases hd : opn P with
  | none => rw [hd] at hc; cases hc
  | some d =>
    have hd3 := opn_le hd
    rw [hd] at hc
    have hl : (P ++ [x]).length - 1 = P.length := by simp
    have e0 := (h5 P.length (by simp)).1
    have e1 : (P ++ [x])[P.length]'(by simp) = x := by simp
    rw [e1] at e0
    rw [hl]
    refine ⟨x, c, d, e0, hk.1, hk.2, hv, hc3, hd3, ?_, ?_, ?_, ?_, rfl, ⟨d, hd, hd3, rfl⟩, fun o ho => h4 o (List.mem_append_left _ ho), fun j hj => ?_⟩
    · intro e6
      unfold opStep at hc; simp only [e6] at hc
      rw [if_neg (by decide), if_pos trivial] at hc
      split at hc
      · cases hc; omega
      · cases hc
    · intro e5
      unfold opStep at hc; simp only [e5] at hc
      rw [if_pos trivial] at hc
      split at hc
      · cases hc; rfl
      · cases hc
    · intro n5 n6
      unfold opStep at hc; simp only [n5, n6, if_false] at hc
      cases hc; rfl
    · rw [List.length_append] at h1; omega
    · have := h5 j (by rw [List.length_append]; omega)
      rw [List.getElem_append_left hj] at this; exact this
theorem nI_dec (d : Nat) : nI (d + 1) + (-1 : Int32) = nI d := by
  rw [← nI_add d 1, show (-1 : Int32) = -(nI 1) from by decide, Int32.add_assoc, Int32.add_right_neg, Int32.add_zero]
abbrev kX12_round : gw_K := (yX12_round, cX12_round, 3, { frames := 1, cells := 0, slots := 0, locals := 25 }, (some .int))
theorem ok_X12_round : gw_calV kX12_round 1 := ⟨⟨wd_1085, wd_62, by decide, by decide, by decide +kernel⟩, wd_1083, wd_1084⟩
set_option maxHeartbeats 4000000 in
set_option maxRecDepth 100000 in
theorem t_mround (l : Launch) (cy : Nat → ClassId) (ad : Nat → Nat) (iv : Nat → Int32) (ia : Nat → Nat → Int32) (la : Nat → Nat → Int64) (σ : aS) (hI : mInv σ iv ia la) (v : Int32) : gw_M l kX12_round cy [.ref (ad 0), .int (v)] (mW cy ad iv ia la) (mPost cy ad (spRound σ v)) := by
  refine gw_M.mk (lv := [some (.ref (ad 0)), some (.int (v)), none]) (by decide) (Nat.le_of_ble_eq_true rfl) rfl ?_
  generalize hpost : (mPost cy ad (spRound σ v) : gw_Q) = post
  obtain ⟨i1, i2, i3, i4, i5, i6, i7, i8⟩ := hI
  obtain ⟨q40, q12, ⟨c, qc, qc3, q18⟩, r4, r5⟩ := id i4
  have q40 : (sOp σ).length ≤ 40 := q40
  have hC := opC_eq qc
  refine gw_iload_n dX12_round_0 rfl ?_
  refine gw_i2l dX12_round_1 rfl ?_
  refine gw_lconst (v := (1 : Int64)) dX12_round_2 (by decide) ?_
  refine gw_ldc2 dX12_round_3 wd_1086 ?_
  refine gw_callS (As := [.long ((v).toInt64), .long ((1 : Int64)), .long ((8 : Int64))]) (st := []) (c_min l cy ((v).toInt64) ((1 : Int64)) ((8 : Int64)) (mW cy ad iv ia la)) ok_X12_in wd_899 rfl rfl dX12_round_6 (by decide) (by decide) (Nat.le_of_ble_eq_true rfl) (fun r6 w6 hp6 => ?_)
  obtain ⟨rfl, rfl⟩ := hp6
  refine gw_W.norm (st' := [.int (bI (inZ ((v).toInt64).toInt ((1 : Int64)).toInt ((8 : Int64)).toInt))]) (k1 := 0) (k2 := 0) rfl rfl rfl ?_
  refine gw_if_ne (tgt := 15) dX12_round_9 (by decide) (fun c9 => ?_) (fun c9 => ?_)
  · rw [bI_n0, i64_of] at c9
    have f9 : inZ v.toInt 1 8 = true := c9
    refine gw_aload_n dX12_round_15 rfl ?_
    refine gm_get_notEnded rfl dX12_round_16 ?_
    refine gw_topi (y := nI (c)) (q18) ?_
    refine gw_iconst (v := nI (3)) dX12_round_19 (by decide) ?_
    refine gw_icmpN_ne (tgt := 26) dX12_round_20 (by decide) (by omega) (by omega) (fun c20 => ?_) (fun c20 => ?_)
    · refine gw_aload_n dX12_round_26 rfl ?_
      refine gw_iconst (v := nI (5)) dX12_round_27 (by decide) ?_
      refine gw_iload_n dX12_round_28 rfl ?_
      refine gw_iconst (v := nI (0)) dX12_round_29 (by decide) ?_
      refine gw_iconst (v := nI (0)) dX12_round_30 (by decide) ?_
      refine gw_iconst (v := nI (0)) dX12_round_31 (by decide) ?_
      refine gw_callV 0 (As := [.int (nI (5)), .int (v), .int (nI (0)), .int (nI (0)), .int (nI (0))]) (st := []) (c_mcome l cy ad iv ia la (sOp σ).length (nI (5)) (v) (nI (0)) (nI (0)) (nI (0)) q12 q40) ok_X12_come rfl rfl rfl wd_1070 rfl rfl dX12_round_32 (by decide) (by decide) (Nat.le_of_ble_eq_true rfl) (fun r32 w32 hp32 => ?_)
      rcases Nat.lt_or_ge (sOp σ).length 40 with hl | hl
      · obtain ⟨rfl, rfl⟩ := hp32.2 hl
        refine gw_W.norm (st' := [.int (nI ((sOp σ).length))]) (k1 := 0) (k2 := 0) rfl rfl rfl ?_
        refine gw_W.wd (w' := (mW cy ad (va_up iv 12 (nI ((sOp σ).length + 1))) (va_up (va_up (va_up (va_up (va_up ia 13 (upd (ia 13) (sOp σ).length (nI (5)))) 14 (upd (ia 14) (sOp σ).length (v))) 15 (upd (ia 15) (sOp σ).length (nI (0)))) 16 (upd (ia 16) (sOp σ).length (nI (0)))) 17 (upd (ia 17) (sOp σ).length (nI (0)))) la)) rfl ?_
        refine gw_istore_n dX12_round_35 (by decide) rfl ?_
        refine gw_aload_n dX12_round_36 rfl ?_
        refine gw_dup dX12_round_37 rfl ?_
        refine gm_get_notEnded rfl dX12_round_38 ?_
        refine gw_topi (y := nI (c)) (q18) ?_
        refine gw_iload_n dX12_round_41 rfl ?_
        refine gw_ifN_lt (tgt := 49) dX12_round_42 (by decide) (by omega) ?_
        refine gw_iconst (v := nI (1)) dX12_round_45 (by decide) ?_
        refine gw_goto (tgt := 50) dX12_round_46 (by decide) ?_
        refine gw_iaddN dX12_round_50 ?_
        refine gm_put_notEnded rfl dX12_round_51 ?_
        refine gw_W.wd (w' := (mW cy ad (va_up (va_up iv 12 (nI ((sOp σ).length + 1))) 18 (nI (c + 1))) (va_up (va_up (va_up (va_up (va_up ia 13 (upd (ia 13) (sOp σ).length (nI (5)))) 14 (upd (ia 14) (sOp σ).length (v))) 15 (upd (ia 15) (sOp σ).length (nI (0)))) 16 (upd (ia 16) (sOp σ).length (nI (0)))) 17 (upd (ia 17) (sOp σ).length (nI (0)))) la)) rfl ?_
        refine gw_iload_n dX12_round_54 rfl ?_
        refine gw_iret (?_) (by decide) (by decide) rfl dX12_round_55
        subst hpost
        unfold spRound
        rw [if_pos f9, if_neg (by omega)]
        unfold spCome
        first
          | (rw [if_pos (by omega)]; exact ⟨rfl, _, _, _, rfl, i1, i2, i3, ⟨q40, q12, ⟨c, qc, qc3, rfl⟩, r4, r5⟩, i5, i6, i7, i8⟩)
          | (rw [if_neg (by omega)]
             have ho : opOK σ.1 (5, v, 0, 0, 0) := by
               rw [inZ_t] at f9; exact Or.inr (Or.inr (Or.inl ⟨rfl, f9.1, f9.2⟩))
             exact ⟨rfl, _, _, _, rfl, i1, i2, i3, mI4_snoc (o := (5, v, 0, 0, 0)) i4 hl ho (show opStep (opn σ.2.2.2.1) (5, v, 0, 0, 0) = some (c + 1) by rw [qc]; simp [opStep]; omega) (by omega) rfl, i5, i6, i7, i8⟩)
      · obtain ⟨rfl, rfl⟩ := hp32.1 (by omega)
        refine gw_W.norm (st' := [.int ((-1000003 : Int32))]) (k1 := 0) (k2 := 0) rfl rfl rfl ?_
        refine gw_W.wd (w' := (mW cy ad iv ia la)) rfl ?_
        refine gw_istore_n dX12_round_35 (by decide) rfl ?_
        refine gw_aload_n dX12_round_36 rfl ?_
        refine gw_dup dX12_round_37 rfl ?_
        refine gm_get_notEnded rfl dX12_round_38 ?_
        refine gw_topi (y := nI (c)) (q18) ?_
        refine gw_iload_n dX12_round_41 rfl ?_
        refine gw_if_lt (tgt := 49) dX12_round_42 (by decide) (fun c42 => ?_) (fun c42 => ?_)
        · refine gw_iconst (v := nI (0)) dX12_round_49 (by decide) ?_
          refine gw_iaddN dX12_round_50 ?_
          refine gm_put_notEnded rfl dX12_round_51 ?_
          refine gw_W.wd (w' := (mW cy ad (va_up iv 18 (nI (c + 0))) ia la)) rfl ?_
          refine gw_iload_n dX12_round_54 rfl ?_
          refine gw_iret (?_) (by decide) (by decide) rfl dX12_round_55
          subst hpost
          unfold spRound
          rw [if_pos f9, if_neg (by omega)]
          unfold spCome
          first
            | (rw [if_pos (by omega)]; exact ⟨rfl, _, _, _, rfl, i1, i2, i3, ⟨q40, q12, ⟨c, qc, qc3, rfl⟩, r4, r5⟩, i5, i6, i7, i8⟩)
            | (rw [if_neg (by omega)]
               have ho : opOK σ.1 (5, v, 0, 0, 0) := by
                 rw [inZ_t] at f9; exact Or.inr (Or.inr (Or.inl ⟨rfl, f9.1, f9.2⟩))
               exact ⟨rfl, _, _, _, rfl, i1, i2, i3, mI4_snoc (o := (5, v, 0, 0, 0)) i4 hl ho (show opStep (opn σ.2.2.2.1) (5, v, 0, 0, 0) = some (c + 1) by rw [qc]; simp [opStep]; omega) (by omega) rfl, i5, i6, i7, i8⟩)
        · exact absurd (by decide) c42
    · refine gw_ldc dX12_round_23 wd_1087 ?_
      refine gw_iret (?_) (by decide) (by decide) rfl dX12_round_25
      subst hpost
      unfold spRound
      rw [if_pos f9, if_pos (by omega)]
      exact ⟨rfl, _, _, _, rfl, i1, i2, i3, i4, i5, i6, i7, i8⟩
  · rw [bI_0, i64_of] at c9
    have f9 : inZ v.toInt 1 8 = false := c9
    refine gw_ldc dX12_round_12 wd_903 ?_
    refine gw_iret (?_) (by decide) (by decide) rfl dX12_round_14
    subst hpost
    unfold spRound
    rw [if_neg (by rw [f9]; decide)]
    exact ⟨rfl, _, _, _, rfl, i1, i2, i3, i4, i5, i6, i7, i8⟩
abbrev kX12_end : gw_K := (yX12_end, cX12_end, 2, { frames := 1, cells := 0, slots := 0, locals := 25 }, (some .int))
theorem ok_X12_end : gw_calV kX12_end 0 := ⟨⟨wd_1091, wd_62, by decide, by decide, by decide +kernel⟩, wd_1089, wd_1090⟩
set_option maxHeartbeats 4000000 in
set_option maxRecDepth 100000 in
theorem t_mend (l : Launch) (cy : Nat → ClassId) (ad : Nat → Nat) (iv : Nat → Int32) (ia : Nat → Nat → Int32) (la : Nat → Nat → Int64) (σ : aS) (hI : mInv σ iv ia la) : gw_M l kX12_end cy [.ref (ad 0)] (mW cy ad iv ia la) (mPost cy ad (spEnd σ)) := by
  refine gw_M.mk (lv := [some (.ref (ad 0)), none]) (by decide) (Nat.le_of_ble_eq_true rfl) rfl ?_
  generalize hpost : (mPost cy ad (spEnd σ) : gw_Q) = post
  obtain ⟨i1, i2, i3, i4, i5, i6, i7, i8⟩ := hI
  obtain ⟨q40, q12, ⟨c, qc, qc3, q18⟩, r4, r5⟩ := id i4
  have q40 : (sOp σ).length ≤ 40 := q40
  have hC := opC_eq qc
  refine gw_aload_n dX12_end_0 rfl ?_
  refine gm_get_notEnded rfl dX12_end_1 ?_
  refine gw_topi (y := nI (c)) (q18) ?_
  refine gw_ifN_ne (tgt := 10) dX12_end_4 (by decide) (by omega) (fun c4 => ?_) (fun c4 => ?_)
  · refine gw_aload_n dX12_end_10 rfl ?_
    refine gw_bipush (v := nI (6)) dX12_end_11 (by decide) ?_
    refine gw_iconst (v := nI (0)) dX12_end_13 (by decide) ?_
    refine gw_iconst (v := nI (0)) dX12_end_14 (by decide) ?_
    refine gw_iconst (v := nI (0)) dX12_end_15 (by decide) ?_
    refine gw_iconst (v := nI (0)) dX12_end_16 (by decide) ?_
    refine gw_callV 0 (As := [.int (nI (6)), .int (nI (0)), .int (nI (0)), .int (nI (0)), .int (nI (0))]) (st := []) (c_mcome l cy ad iv ia la (sOp σ).length (nI (6)) (nI (0)) (nI (0)) (nI (0)) (nI (0)) q12 q40) ok_X12_come rfl rfl rfl wd_1070 rfl rfl dX12_end_17 (by decide) (by decide) (Nat.le_of_ble_eq_true rfl) (fun r17 w17 hp17 => ?_)
    rcases Nat.lt_or_ge (sOp σ).length 40 with hl | hl
    · obtain ⟨rfl, rfl⟩ := hp17.2 hl
      refine gw_W.norm (st' := [.int (nI ((sOp σ).length))]) (k1 := 0) (k2 := 0) rfl rfl rfl ?_
      refine gw_W.wd (w' := (mW cy ad (va_up iv 12 (nI ((sOp σ).length + 1))) (va_up (va_up (va_up (va_up (va_up ia 13 (upd (ia 13) (sOp σ).length (nI (6)))) 14 (upd (ia 14) (sOp σ).length (nI (0)))) 15 (upd (ia 15) (sOp σ).length (nI (0)))) 16 (upd (ia 16) (sOp σ).length (nI (0)))) 17 (upd (ia 17) (sOp σ).length (nI (0)))) la)) rfl ?_
      refine gw_istore_n dX12_end_20 (by decide) rfl ?_
      refine gw_aload_n dX12_end_21 rfl ?_
      refine gw_dup dX12_end_22 rfl ?_
      refine gm_get_notEnded rfl dX12_end_23 ?_
      refine gw_topi (y := nI (c)) (q18) ?_
      refine gw_iload_n dX12_end_26 rfl ?_
      refine gw_ifN_lt (tgt := 34) dX12_end_27 (by decide) (by omega) ?_
      refine gw_iconst (v := nI (1)) dX12_end_30 (by decide) ?_
      refine gw_goto (tgt := 35) dX12_end_31 (by decide) ?_
      refine gw_isubN dX12_end_35 (by omega) ?_
      refine gm_put_notEnded rfl dX12_end_36 ?_
      refine gw_W.wd (w' := (mW cy ad (va_up (va_up iv 12 (nI ((sOp σ).length + 1))) 18 (nI ((c) - (1)))) (va_up (va_up (va_up (va_up (va_up ia 13 (upd (ia 13) (sOp σ).length (nI (6)))) 14 (upd (ia 14) (sOp σ).length (nI (0)))) 15 (upd (ia 15) (sOp σ).length (nI (0)))) 16 (upd (ia 16) (sOp σ).length (nI (0)))) 17 (upd (ia 17) (sOp σ).length (nI (0)))) la)) rfl ?_
      refine gw_iload_n dX12_end_39 rfl ?_
      refine gw_iret (?_) (by decide) (by decide) rfl dX12_end_40
      subst hpost
      unfold spEnd
      rw [if_neg (by omega)]
      unfold spCome
      first
        | (rw [if_pos (by omega)]; exact ⟨rfl, _, _, _, rfl, i1, i2, i3, ⟨q40, q12, ⟨c, qc, qc3, rfl⟩, r4, r5⟩, i5, i6, i7, i8⟩)
        | (rw [if_neg (by omega)]
           have ho : opOK σ.1 (6, 0, 0, 0, 0) := Or.inr (Or.inr (Or.inr (Or.inl rfl)))
           exact ⟨rfl, _, _, _, rfl, i1, i2, i3, mI4_snoc (o := (6, 0, 0, 0, 0)) i4 hl ho (show opStep (opn σ.2.2.2.1) (6, 0, 0, 0, 0) = some (c - 1) by rw [qc]; simp [opStep]; omega) (by omega) rfl, i5, i6, i7, i8⟩)
    · obtain ⟨rfl, rfl⟩ := hp17.1 (by omega)
      refine gw_W.norm (st' := [.int ((-1000003 : Int32))]) (k1 := 0) (k2 := 0) rfl rfl rfl ?_
      refine gw_W.wd (w' := (mW cy ad iv ia la)) rfl ?_
      refine gw_istore_n dX12_end_20 (by decide) rfl ?_
      refine gw_aload_n dX12_end_21 rfl ?_
      refine gw_dup dX12_end_22 rfl ?_
      refine gm_get_notEnded rfl dX12_end_23 ?_
      refine gw_topi (y := nI (c)) (q18) ?_
      refine gw_iload_n dX12_end_26 rfl ?_
      refine gw_if_lt (tgt := 34) dX12_end_27 (by decide) (fun c27 => ?_) (fun c27 => ?_)
      · refine gw_iconst (v := nI (0)) dX12_end_34 (by decide) ?_
        refine gw_isubN dX12_end_35 (by omega) ?_
        refine gm_put_notEnded rfl dX12_end_36 ?_
        refine gw_W.wd (w' := (mW cy ad (va_up iv 18 (nI ((c) - (0)))) ia la)) rfl ?_
        refine gw_iload_n dX12_end_39 rfl ?_
        refine gw_iret (?_) (by decide) (by decide) rfl dX12_end_40
        subst hpost
        unfold spEnd
        rw [if_neg (by omega)]
        unfold spCome
        first
          | (rw [if_pos (by omega)]; exact ⟨rfl, _, _, _, rfl, i1, i2, i3, ⟨q40, q12, ⟨c, qc, qc3, rfl⟩, r4, r5⟩, i5, i6, i7, i8⟩)
          | (rw [if_neg (by omega)]
             have ho : opOK σ.1 (6, 0, 0, 0, 0) := Or.inr (Or.inr (Or.inr (Or.inl rfl)))
             exact ⟨rfl, _, _, _, rfl, i1, i2, i3, mI4_snoc (o := (6, 0, 0, 0, 0)) i4 hl ho (show opStep (opn σ.2.2.2.1) (6, 0, 0, 0, 0) = some (c - 1) by rw [qc]; simp [opStep]; omega) (by omega) rfl, i5, i6, i7, i8⟩)
      · exact absurd (by decide) c27
  · refine gw_ldc dX12_end_7 wd_1087 ?_
    refine gw_iret (?_) (by decide) (by decide) rfl dX12_end_9
    subst hpost
    unfold spEnd
    rw [if_pos (by omega)]
    exact ⟨rfl, _, _, _, rfl, i1, i2, i3, i4, i5, i6, i7, i8⟩
abbrev kX12_back : gw_K := (yX12_back, cX12_back, 1, { frames := 0, cells := 0, slots := 0, locals := 0 }, (some .int))
theorem ok_X12_back : gw_calV kX12_back 0 := ⟨⟨wd_1099, wd_62, by decide, by decide, by decide +kernel⟩, wd_1097, wd_1098⟩
set_option maxHeartbeats 4000000 in
set_option maxRecDepth 100000 in
theorem t_mback (l : Launch) (cy : Nat → ClassId) (ad : Nat → Nat) (iv : Nat → Int32) (ia : Nat → Nat → Int32) (la : Nat → Nat → Int64) (σ : aS) (hI : mInv σ iv ia la) : gw_M l kX12_back cy [.ref (ad 0)] (mW cy ad iv ia la) (mPost cy ad (spBack σ)) := by
  refine gw_M.mk (lv := [some (.ref (ad 0))]) (by decide) (Nat.le_of_ble_eq_true rfl) rfl ?_
  generalize hpost : (mPost cy ad (spBack σ) : gw_Q) = post
  obtain ⟨i1, i2, i3, i4, i5, i6, i7, i8⟩ := hI
  obtain ⟨q40, q12, -, -, -⟩ := id i4
  have q40 : (sOp σ).length ≤ 40 := q40
  refine gw_aload_n dX12_back_0 rfl ?_
  refine gm_get_ops rfl dX12_back_1 ?_
  refine gw_topi (y := nI ((sOp σ).length)) (q12) ?_
  refine gw_ifN_ne (tgt := 10) dX12_back_4 (by decide) (by omega) (fun c4 => ?_) (fun c4 => ?_)
  · obtain ⟨x, c, d, b1, b2, b3, b4, b5, b6, b7, b8, b9, b10⟩ := mI4_back i4 c4
    have b1 : ia 13 ((sOp σ).length - 1) = nI x.1 := b1
    refine gw_aload_n dX12_back_10 rfl ?_
    refine gw_dup dX12_back_11 rfl ?_
    refine gm_get_ops rfl dX12_back_12 ?_
    refine gw_topi (y := nI ((sOp σ).length)) (q12) ?_
    refine gw_iconst (v := nI (1)) dX12_back_15 (by decide) ?_
    refine gw_isubN dX12_back_16 (by omega) ?_
    refine gm_put_ops rfl dX12_back_17 ?_
    refine gw_W.wd (w' := (mW cy ad (va_up iv 12 (nI (((sOp σ).length) - (1)))) ia la)) rfl ?_
    refine gw_aload_n dX12_back_20 rfl ?_
    refine gw_dup dX12_back_21 rfl ?_
    refine gm_get_notEnded rfl dX12_back_22 ?_
    refine gw_topi (y := nI (c)) (b4) ?_
    refine gw_aload_n dX12_back_25 rfl ?_
    refine gm_get_kind rfl dX12_back_26 ?_
    refine gw_aload_n dX12_back_29 rfl ?_
    refine gm_get_ops rfl dX12_back_30 ?_
    refine gw_topi (y := nI (((sOp σ).length) - (1))) (rfl) ?_
    refine gm_ld_kind (j := ((sOp σ).length) - (1)) (rfl) (by omega) dX12_back_33 ?_
    refine gw_topi (y := nI (x.1)) (b1) ?_
    refine gw_bipush (v := nI (6)) dX12_back_34 (by decide) ?_
    refine gw_icmpN_ne (tgt := 43) dX12_back_36 (by decide) (by omega) (by omega) (fun c36 => ?_) (fun c36 => ?_)
    · refine gw_aload_n dX12_back_43 rfl ?_
      refine gm_get_kind rfl dX12_back_44 ?_
      refine gw_aload_n dX12_back_47 rfl ?_
      refine gm_get_ops rfl dX12_back_48 ?_
      refine gw_topi (y := nI (((sOp σ).length) - (1))) (rfl) ?_
      refine gm_ld_kind (j := ((sOp σ).length) - (1)) (rfl) (by omega) dX12_back_51 ?_
      refine gw_topi (y := nI (x.1)) (b1) ?_
      refine gw_iconst (v := nI (5)) dX12_back_52 (by decide) ?_
      refine gw_icmpN_ne (tgt := 60) dX12_back_53 (by decide) (by omega) (by omega) (fun c53 => ?_) (fun c53 => ?_)
      · refine gw_iconst (v := nI (0)) dX12_back_60 (by decide) ?_
        refine gw_iadd dX12_back_61 ?_
        refine gw_topi (y := nI (d)) (by
          first
          | (rw [b7 (by omega)]; exact nI_add c 1)
          | (rw [b8 (by omega)]; exact nI_dec d)
          | (rw [b9 (by omega) (by omega)]; exact nI_add c 0)) ?_
        refine gm_put_notEnded rfl dX12_back_62 ?_
        refine gw_W.wd (w' := (mW cy ad (va_up (va_up iv 12 (nI (((sOp σ).length) - (1)))) 18 (nI (d))) ia la)) rfl ?_
        refine gw_aload_n dX12_back_65 rfl ?_
        refine gm_get_ops rfl dX12_back_66 ?_
        refine gw_topi (y := nI (((sOp σ).length) - (1))) (rfl) ?_
        refine gw_iret (?_) (by decide) (by decide) rfl dX12_back_69
        subst hpost
        unfold spBack
        rw [if_neg c4]
        exact ⟨rfl, _, _, _, rfl, i1, i2, i3, b10, i5, i6, i7, i8⟩
      · refine gw_iconst (v := (-1 : Int32)) dX12_back_56 (by decide) ?_
        refine gw_goto (tgt := 61) dX12_back_57 (by decide) ?_
        refine gw_iadd dX12_back_61 ?_
        refine gw_topi (y := nI (d)) (by
          first
          | (rw [b7 (by omega)]; exact nI_add c 1)
          | (rw [b8 (by omega)]; exact nI_dec d)
          | (rw [b9 (by omega) (by omega)]; exact nI_add c 0)) ?_
        refine gm_put_notEnded rfl dX12_back_62 ?_
        refine gw_W.wd (w' := (mW cy ad (va_up (va_up iv 12 (nI (((sOp σ).length) - (1)))) 18 (nI (d))) ia la)) rfl ?_
        refine gw_aload_n dX12_back_65 rfl ?_
        refine gm_get_ops rfl dX12_back_66 ?_
        refine gw_topi (y := nI (((sOp σ).length) - (1))) (rfl) ?_
        refine gw_iret (?_) (by decide) (by decide) rfl dX12_back_69
        subst hpost
        unfold spBack
        rw [if_neg c4]
        exact ⟨rfl, _, _, _, rfl, i1, i2, i3, b10, i5, i6, i7, i8⟩
    · refine gw_iconst (v := nI (1)) dX12_back_39 (by decide) ?_
      refine gw_goto (tgt := 61) dX12_back_40 (by decide) ?_
      refine gw_iadd dX12_back_61 ?_
      refine gw_topi (y := nI (d)) (by
        first
        | (rw [b7 (by omega)]; exact nI_add c 1)
        | (rw [b8 (by omega)]; exact nI_dec d)
        | (rw [b9 (by omega) (by omega)]; exact nI_add c 0)) ?_
      refine gm_put_notEnded rfl dX12_back_62 ?_
      refine gw_W.wd (w' := (mW cy ad (va_up (va_up iv 12 (nI (((sOp σ).length) - (1)))) 18 (nI (d))) ia la)) rfl ?_
      refine gw_aload_n dX12_back_65 rfl ?_
      refine gm_get_ops rfl dX12_back_66 ?_
      refine gw_topi (y := nI (((sOp σ).length) - (1))) (rfl) ?_
      refine gw_iret (?_) (by decide) (by decide) rfl dX12_back_69
      subst hpost
      unfold spBack
      rw [if_neg c4]
      exact ⟨rfl, _, _, _, rfl, i1, i2, i3, b10, i5, i6, i7, i8⟩
  · refine gw_ldc dX12_back_7 wd_1087 ?_
    refine gw_iret (?_) (by decide) (by decide) rfl dX12_back_9
    subst hpost
    unfold spBack
    rw [if_pos c4]
    exact ⟨rfl, _, _, _, rfl, i1, i2, i3, i4, i5, i6, i7, i8⟩
