/-! the mixer: dropZeros, isSum, merge, sort -/
abbrev kX4_dropZeros : gw_K := (yX4_dropZeros, cX4_dropZeros, 3, { frames := 0, cells := 0, slots := 0, locals := 0 }, none)
theorem ok_X4_dropZeros : gw_calV kX4_dropZeros 0 := ⟨⟨wd_314, wd_58, by decide, by decide, by decide +kernel⟩, wd_313, wd_13⟩
set_option maxHeartbeats 4000000 in
set_option maxRecDepth 100000 in
theorem c_xdrop (l : Launch) (cy : Nat → ClassId) (a0 a1 a2 a3 a4 a5 a6 : Nat) (kk : Nat → Int32) (nn : Nat → Int64) (k2 : Nat → Int32) (n2 : Nat → Int64) (sl su : Nat → Int32) (us : Int32) (n : Nat) (hn : n ≤ 900) : gw_M l kX4_dropZeros cy [.ref (a0)] (xW cy a0 a1 a2 a3 a4 a5 a6 (nI n) (us) kk nn k2 n2 sl su) (fun r w' => r = none ∧ ∃ (m : Nat) (k1 : Nat → Int32) (n1 : Nat → Int64), w' = (xW cy a0 a1 a2 a3 a4 a5 a6 (nI m) (us) k1 n1 k2 n2 sl su) ∧ m ≤ n ∧ takeS k1 n1 0 m = (takeS kk nn 0 n).filter nz) := by
  refine gw_M.mk (lv := [some (.ref (a0)), none, none]) (by decide) (Nat.le_of_ble_eq_true rfl) rfl ?_
  generalize hpost : (fun r w' => r = none ∧ ∃ (m : Nat) (k1 : Nat → Int32) (n1 : Nat → Int64), w' = (xW cy a0 a1 a2 a3 a4 a5 a6 (nI m) (us) k1 n1 k2 n2 sl su) ∧ m ≤ n ∧ takeS k1 n1 0 m = (takeS kk nn 0 n).filter nz : gw_Q) = post
  refine gw_W.wd (w' := [(a0, .inr (3, [.ref (a1), .ref (a2), .ref (a3), .ref (a4), .int (nI (n)), .ref (a5), .ref (a6), .int (us)])), (a1, .inl (cy 0, 900, .inl (kk))), (a2, .inl (cy 1, 900, .inr (.inl (nn)))), (a3, .inl (cy 0, 900, .inl (k2))), (a4, .inl (cy 1, 900, .inr (.inl (n2)))), (a5, .inl (cy 0, 2048, .inl (sl))), (a6, .inl (cy 0, 900, .inl (su)))]) rfl ?_
  refine gw_iconst (v := nI (0)) dX4_dropZeros_0 (by decide) ?_
  refine gw_istore_n dX4_dropZeros_1 (by decide) rfl ?_
  refine gw_iconst (v := nI (0)) dX4_dropZeros_2 (by decide) ?_
  refine gw_istore_n dX4_dropZeros_3 (by decide) rfl ?_
  have cut4 : ∀ (fu : Nat) (i : Nat) (m : Nat) (k1 : Nat → Int32) (n1 : Nat → Int64), (i ≤ n) → (m ≤ i) → (takeS k1 n1 0 m = (takeS kk nn 0 i).filter nz) → (∀ j, i ≤ j → k1 j = kk j ∧ n1 j = nn j) → (n - i) < fu → gw_W l kX4_dropZeros cy (gw_R kX4_dropZeros post) [(a0, .inr (3, [.ref (a1), .ref (a2), .ref (a3), .ref (a4), .int (nI (n)), .ref (a5), .ref (a6), .int (us)])), (a1, .inl (cy 0, 900, .inl (k1))), (a2, .inl (cy 1, 900, .inr (.inl (n1)))), (a3, .inl (cy 0, 900, .inl (k2))), (a4, .inl (cy 1, 900, .inr (.inl (n2)))), (a5, .inl (cy 0, 2048, .inl (sl))), (a6, .inl (cy 0, 900, .inl (su)))] 0 0 4 [some (.ref (a0)), some (.int (nI (m))), some (.int (nI (i)))] [] := by
    intro fu
    induction fu with
    | zero => intro i m k1 n1 h1 h2 h3 h4 hfu; exact absurd hfu (Nat.not_lt_zero _)
    | succ fu ih4 =>
      intro i m k1 n1 h1 h2 h3 h4 hfu
      refine gw_iload_n dX4_dropZeros_4 rfl ?_
      refine gw_aload_n dX4_dropZeros_5 rfl ?_
      refine gw_get (C0 := RX4) (T := TX4) (N := 8) (ref := RX4) 0 rfl rfl inX4 4 (by decide) wd_94 (Or.inl rfl) rfl dX4_dropZeros_6 ?_
      refine gw_icmpN_ge (tgt := 56) dX4_dropZeros_9 (by decide) (by omega) (by omega) (fun c9 => ?_) (fun c9 => ?_)
      · have e1 : i = n := by omega
        subst e1
        refine gw_aload_n dX4_dropZeros_56 rfl ?_
        refine gw_iload_n dX4_dropZeros_57 rfl ?_
        refine gw_put (C0 := RX4) (T := TX4) (N := 8) (ref := RX4) (ty := tyX4 4) 0 rfl rfl inX4 4 (by decide) tyX4 tyX4_ok nmX4 wd_94 (Or.inl rfl) rfl (tyX4_ok 4 (by decide)) (rfl) rfl (Nat.le_of_ble_eq_true rfl) dX4_dropZeros_58 ?_
        refine gw_W.wd (w' := [(a0, .inr (3, [.ref (a1), .ref (a2), .ref (a3), .ref (a4), .int (nI (m)), .ref (a5), .ref (a6), .int (us)])), (a1, .inl (cy 0, 900, .inl (k1))), (a2, .inl (cy 1, 900, .inr (.inl (n1)))), (a3, .inl (cy 0, 900, .inl (k2))), (a4, .inl (cy 1, 900, .inr (.inl (n2)))), (a5, .inl (cy 0, 2048, .inl (sl))), (a6, .inl (cy 0, 900, .inl (su)))]) rfl ?_
        refine gw_vret (?_) (by decide) (by decide) rfl dX4_dropZeros_61
        subst hpost
        exact ⟨rfl, m, k1, n1, rfl, by omega, h3⟩
      · obtain ⟨g1, g2⟩ := h4 i (Nat.le_refl _)
        refine gw_aload_n dX4_dropZeros_12 rfl ?_
        refine gw_get (C0 := RX4) (T := TX4) (N := 8) (ref := RX4) 0 rfl rfl inX4 1 (by decide) wd_91 (Or.inl rfl) rfl dX4_dropZeros_13 ?_
        refine gw_iload_n dX4_dropZeros_16 rfl ?_
        refine gw_lald 2 rfl (rfl) (by omega) (by decide) dX4_dropZeros_17 ?_
        refine gw_topl (y := nn i) (g2) ?_
        refine gw_lconst (v := (0 : Int64)) dX4_dropZeros_18 (by decide) ?_
        refine gw_lcmp dX4_dropZeros_19 ?_
        refine gw_if_eq (tgt := 50) dX4_dropZeros_20 (by decide) (fun c20 => ?_) (fun c20 => ?_)
        · rw [lg_cmp_eq] at c20
          refine gw_iinc (v := nI (i + 1)) dX4_dropZeros_50 rfl (nI_add _ 1) (by decide) rfl ?_
          refine gw_goto (tgt := 4) dX4_dropZeros_53 (by decide) ?_
          refine ih4 (i + 1) (m) (k1) (n1) (by omega) (by omega) ?_ ?_ ?_
          · first
            | (rw [nz_f c20]; exact h3)
            | (rw [nz_t c20, ← h3, takeS_snoc]; congr 1; exact takeS_congr (fun j hj => ⟨pk_un (by omega), pk_uLn (by omega)⟩); rw [Nat.zero_add, pk_us, pk_uLs])
          · intro j hj
            first
            | (rw [pk_un (by omega), pk_uLn (by omega)]; exact h4 j (by omega))
            | exact h4 j (by omega)
          · omega
        · rw [lg_cmp_eq] at c20
          refine gw_aload_n dX4_dropZeros_23 rfl ?_
          refine gw_get (C0 := RX4) (T := TX4) (N := 8) (ref := RX4) 0 rfl rfl inX4 0 (by decide) wd_90 (Or.inl rfl) rfl dX4_dropZeros_24 ?_
          refine gw_iload_n dX4_dropZeros_27 rfl ?_
          refine gw_aload_n dX4_dropZeros_28 rfl ?_
          refine gw_get (C0 := RX4) (T := TX4) (N := 8) (ref := RX4) 0 rfl rfl inX4 0 (by decide) wd_90 (Or.inl rfl) rfl dX4_dropZeros_29 ?_
          refine gw_iload_n dX4_dropZeros_32 rfl ?_
          refine gw_iald 1 rfl (rfl) (by omega) (by decide) dX4_dropZeros_33 ?_
          refine gw_topi (y := kk i) (g1) ?_
          refine gw_iast 1 rfl (rfl) (by omega) (by decide) dX4_dropZeros_34 ?_
          refine gw_W.wd (w' := [(a0, .inr (3, [.ref (a1), .ref (a2), .ref (a3), .ref (a4), .int (nI (n)), .ref (a5), .ref (a6), .int (us)])), (a1, .inl (cy 0, 900, .inl (upd k1 (m) (kk i)))), (a2, .inl (cy 1, 900, .inr (.inl (n1)))), (a3, .inl (cy 0, 900, .inl (k2))), (a4, .inl (cy 1, 900, .inr (.inl (n2)))), (a5, .inl (cy 0, 2048, .inl (sl))), (a6, .inl (cy 0, 900, .inl (su)))]) rfl ?_
          refine gw_aload_n dX4_dropZeros_35 rfl ?_
          refine gw_get (C0 := RX4) (T := TX4) (N := 8) (ref := RX4) 0 rfl rfl inX4 1 (by decide) wd_91 (Or.inl rfl) rfl dX4_dropZeros_36 ?_
          refine gw_iload_n dX4_dropZeros_39 rfl ?_
          refine gw_aload_n dX4_dropZeros_40 rfl ?_
          refine gw_get (C0 := RX4) (T := TX4) (N := 8) (ref := RX4) 0 rfl rfl inX4 1 (by decide) wd_91 (Or.inl rfl) rfl dX4_dropZeros_41 ?_
          refine gw_iload_n dX4_dropZeros_44 rfl ?_
          refine gw_lald 2 rfl (rfl) (by omega) (by decide) dX4_dropZeros_45 ?_
          refine gw_topl (y := nn i) (g2) ?_
          refine gw_last 2 rfl (rfl) (by omega) (by decide) dX4_dropZeros_46 ?_
          refine gw_W.wd (w' := [(a0, .inr (3, [.ref (a1), .ref (a2), .ref (a3), .ref (a4), .int (nI (n)), .ref (a5), .ref (a6), .int (us)])), (a1, .inl (cy 0, 900, .inl (upd k1 (m) (kk i)))), (a2, .inl (cy 1, 900, .inr (.inl (vp_updL n1 (m) (nn i))))), (a3, .inl (cy 0, 900, .inl (k2))), (a4, .inl (cy 1, 900, .inr (.inl (n2)))), (a5, .inl (cy 0, 2048, .inl (sl))), (a6, .inl (cy 0, 900, .inl (su)))]) rfl ?_
          refine gw_iinc (v := nI (m + 1)) dX4_dropZeros_47 rfl (nI_add _ 1) (by decide) rfl ?_
          refine gw_iinc (v := nI (i + 1)) dX4_dropZeros_50 rfl (nI_add _ 1) (by decide) rfl ?_
          refine gw_goto (tgt := 4) dX4_dropZeros_53 (by decide) ?_
          refine ih4 (i + 1) (m + 1) (upd k1 (m) (kk i)) (vp_updL n1 (m) (nn i)) (by omega) (by omega) ?_ ?_ ?_
          · first
            | (rw [nz_f c20]; exact h3)
            | (rw [nz_t c20, ← h3, takeS_snoc]; congr 1; exact takeS_congr (fun j hj => ⟨pk_un (by omega), pk_uLn (by omega)⟩); rw [Nat.zero_add, pk_us, pk_uLs])
          · intro j hj
            first
            | (rw [pk_un (by omega), pk_uLn (by omega)]; exact h4 j (by omega))
            | exact h4 j (by omega)
          · omega
  refine cut4 _ (0) (0) (kk) (nn) (Nat.zero_le _) (Nat.zero_le _) rfl (fun _ _ => ⟨rfl, rfl⟩) (Nat.lt_succ_self _)
theorem abs_le {x : Int64} (h : ¬ x.toInt = -9223372036854775808) : ((if 0 < x then x else -x) ≤ (1000000000000 : Int64)) ↔ inZ x.toInt (-1000000000000) 1000000000000 = true := by
  rw [inZ_t, i64_le, show (1000000000000 : Int64).toInt = 1000000000000 from by decide]
  have h1 := Int64.le_toInt x; have h2 := Int64.toInt_lt x
  by_cases h0 : 0 < x
  · rw [if_pos h0]
    rw [i64_lt] at h0
    have h0 : 0 < x.toInt := h0
    omega
  · rw [if_neg h0]
    rw [i64_lt] at h0
    have h0 : ¬ 0 < x.toInt := h0
    have e : (-x).toInt = -x.toInt := by
      rw [Int64.toInt_neg, Int.bmod_eq_of_le]
      · have : (2 ^ 64 : Nat) / 2 = 9223372036854775808 := by decide
        omega
      · have : ((2 ^ 64 : Nat) + 1) / 2 = 9223372036854775808 := by decide
        omega
    rw [e]; omega
def isS (F : List sT) : Bool := decide (F.length ≤ 300) && F.all (fun q => sG q 4)
theorem isS_no {ks : Nat → Int32} {ns : Nat → Int64} {n i : Nat} (hi : i < n) (h : sG (ks i, ns i) 4 = false) : isS (takeS ks ns 0 n) = false := by
  unfold isS
  rw [Bool.and_eq_false_iff]; right
  rw [List.all_eq_false]
  exact ⟨(ks i, ns i), takeS_mem.mpr ⟨i, hi, by simp⟩, by rw [h]; decide⟩
theorem isS_yes {ks : Nat → Int32} {ns : Nat → Int64} {n : Nat} (hn : n ≤ 300) (h : ∀ i, i < n → sG (ks i, ns i) 4 = true) : isS (takeS ks ns 0 n) = true := by
  unfold isS
  rw [Bool.and_eq_true, takeS_len]
  refine ⟨decide_eq_true hn, List.all_eq_true.mpr (fun q hq => ?_)⟩
  obtain ⟨j, hj, e⟩ := takeS_mem.mp hq
  rw [e]; simpa using h j hj
theorem sG_no1 {q : sT} (h : inZ q.2.toInt (-1000000000000) 1000000000000 = false) : sG q 4 = false := by unfold sG; rw [h]; rfl
theorem sG_no2 {q : sT} {x : Nat} (hx : x < 4) (h : ¬ mCos q.1 (nI x) ≤ nI 12) : sG q 4 = false := by
  unfold sG
  rw [Bool.and_eq_false_iff]; right
  rw [List.all_eq_false]
  refine ⟨x, List.mem_range.mpr hx, ?_⟩
  rw [decide_eq_true_eq]
  intro hl; apply h
  rw [i32_lt] at hl; rw [i32_le]
  have e1 : (nI 12).toInt = 12 := by decide
  have e2 : (13 : Int32).toInt = 13 := by decide
  omega
theorem sG_yes {q : sT} (h : inZ q.2.toInt (-1000000000000) 1000000000000 = true) (h2 : ∀ x, x < 4 → mCos q.1 (nI x) ≤ nI 12) : sG q 4 = true := by
  unfold sG
  rw [h, Bool.true_and, List.all_eq_true]
  intro x hx
  have := h2 x (List.mem_range.mp hx)
  rw [decide_eq_true_eq, i32_lt]
  rw [i32_le] at this
  have e1 : (nI 12).toInt = 12 := by decide
  have e2 : (13 : Int32).toInt = 13 := by decide
  omega
abbrev kX4_isSum : gw_K := (yX4_isSum, cX4_isSum, 3, { frames := 1, cells := 0, slots := 0, locals := 40 }, (some .boolean))
theorem ok_X4_isSum : gw_calV kX4_isSum 0 := ⟨⟨wd_318, wd_58, by decide, by decide, by decide +kernel⟩, wd_317, wd_14⟩
set_option maxHeartbeats 4000000 in
set_option maxRecDepth 100000 in
theorem c_xisSum (l : Launch) (cy : Nat → ClassId) (a0 a1 a2 a3 a4 a5 a6 : Nat) (kk : Nat → Int32) (nn : Nat → Int64) (k2 : Nat → Int32) (n2 : Nat → Int64) (sl su : Nat → Int32) (us : Int32) (n : Nat) (hn : n ≤ 900) (hmin : ∀ i, i < n → ¬ (nn i).toInt = -9223372036854775808) : gw_M l kX4_isSum cy [.ref (a0)] (xW cy a0 a1 a2 a3 a4 a5 a6 (nI n) (us) kk nn k2 n2 sl su) (fun r w' => r = some (.int (bI (isS (takeS kk nn 0 n)))) ∧ w' = (xW cy a0 a1 a2 a3 a4 a5 a6 (nI n) (us) kk nn k2 n2 sl su)) := by
  refine gw_M.mk (lv := [some (.ref (a0)), none, none]) (by decide) (Nat.le_of_ble_eq_true rfl) rfl ?_
  generalize hpost : (fun r w' => r = some (.int (bI (isS (takeS kk nn 0 n)))) ∧ w' = (xW cy a0 a1 a2 a3 a4 a5 a6 (nI n) (us) kk nn k2 n2 sl su) : gw_Q) = post
  refine gw_W.wd (w' := [(a0, .inr (3, [.ref (a1), .ref (a2), .ref (a3), .ref (a4), .int (nI (n)), .ref (a5), .ref (a6), .int (us)])), (a1, .inl (cy 0, 900, .inl (kk))), (a2, .inl (cy 1, 900, .inr (.inl (nn)))), (a3, .inl (cy 0, 900, .inl (k2))), (a4, .inl (cy 1, 900, .inr (.inl (n2)))), (a5, .inl (cy 0, 2048, .inl (sl))), (a6, .inl (cy 0, 900, .inl (su)))]) rfl ?_
  refine gw_aload_n dX4_isSum_0 rfl ?_
  refine gw_get (C0 := RX4) (T := TX4) (N := 8) (ref := RX4) 0 rfl rfl inX4 4 (by decide) wd_94 (Or.inl rfl) rfl dX4_isSum_1 ?_
  refine gw_sipush (v := nI (300)) dX4_isSum_4 (by decide) ?_
  refine gw_icmpN_le (tgt := 12) dX4_isSum_7 (by decide) (by omega) (by omega) (fun c7 => ?_) (fun c7 => ?_)
  · have hn3 : n ≤ 300 := by omega
    refine gw_iconst (v := nI (0)) dX4_isSum_12 (by decide) ?_
    refine gw_istore_n dX4_isSum_13 (by decide) rfl ?_
    have cut14 : ∀ (fu : Nat) (i : Nat), (i ≤ n) → (∀ j, j < i → sG (kk j, nn j) 4 = true) → (n - i) < fu → gw_W l kX4_isSum cy (gw_R kX4_isSum post) [(a0, .inr (3, [.ref (a1), .ref (a2), .ref (a3), .ref (a4), .int (nI (n)), .ref (a5), .ref (a6), .int (us)])), (a1, .inl (cy 0, 900, .inl (kk))), (a2, .inl (cy 1, 900, .inr (.inl (nn)))), (a3, .inl (cy 0, 900, .inl (k2))), (a4, .inl (cy 1, 900, .inr (.inl (n2)))), (a5, .inl (cy 0, 2048, .inl (sl))), (a6, .inl (cy 0, 900, .inl (su)))] 0 0 14 [some (.ref (a0)), some (.int (nI (i))), none] [] := by
      intro fu
      induction fu with
      | zero => intro i h1 h2 hfu; exact absurd hfu (Nat.not_lt_zero _)
      | succ fu ih14 =>
        intro i h1 h2 hfu
        refine gw_iload_n dX4_isSum_14 rfl ?_
        refine gw_aload_n dX4_isSum_15 rfl ?_
        refine gw_get (C0 := RX4) (T := TX4) (N := 8) (ref := RX4) 0 rfl rfl inX4 4 (by decide) wd_94 (Or.inl rfl) rfl dX4_isSum_16 ?_
        refine gw_icmpN_ge (tgt := 76) dX4_isSum_19 (by decide) (by omega) (by omega) (fun c19 => ?_) (fun c19 => ?_)
        · have e1 : i = n := by omega
          subst e1
          refine gw_iconst (v := nI (1)) dX4_isSum_76 (by decide) ?_
          refine gw_zret (?_) (by decide) (by decide) rfl (by decide) dX4_isSum_77
          subst hpost
          rw [isS_yes hn3 h2]; exact ⟨rfl, rfl⟩
        · have hm := hmin i (by omega)
          refine gw_aload_n dX4_isSum_22 rfl ?_
          refine gw_get (C0 := RX4) (T := TX4) (N := 8) (ref := RX4) 0 rfl rfl inX4 1 (by decide) wd_91 (Or.inl rfl) rfl dX4_isSum_23 ?_
          refine gw_iload_n dX4_isSum_26 rfl ?_
          refine gw_lald 2 rfl (rfl) (by omega) (by decide) dX4_isSum_27 ?_
          refine gw_mabsL wd_319 wd_320 wd_59 wd_c_abs (by decide) dX4_isSum_28 ?_
          refine gw_ldc2 dX4_isSum_31 wd_322 ?_
          refine gw_lcmp dX4_isSum_34 ?_
          refine gw_if_le (tgt := 40) dX4_isSum_35 (by decide) (fun c35 => ?_) (fun c35 => ?_)
          · rw [lg_cmp_le, abs_le hm] at c35
            refine gw_iconst (v := nI (0)) dX4_isSum_40 (by decide) ?_
            refine gw_istore_n dX4_isSum_41 (by decide) rfl ?_
            have cut42 : ∀ (fu : Nat) (x : Nat), (x ≤ 4) → (∀ y, y < x → mCos (kk i) (nI y) ≤ nI 12) → (4 - x) < fu → gw_W l kX4_isSum cy (gw_R kX4_isSum post) [(a0, .inr (3, [.ref (a1), .ref (a2), .ref (a3), .ref (a4), .int (nI (n)), .ref (a5), .ref (a6), .int (us)])), (a1, .inl (cy 0, 900, .inl (kk))), (a2, .inl (cy 1, 900, .inr (.inl (nn)))), (a3, .inl (cy 0, 900, .inl (k2))), (a4, .inl (cy 1, 900, .inr (.inl (n2)))), (a5, .inl (cy 0, 2048, .inl (sl))), (a6, .inl (cy 0, 900, .inl (su)))] 0 0 42 [some (.ref (a0)), some (.int (nI (i))), some (.int (nI (x)))] [] := by
              intro fu
              induction fu with
              | zero => intro x x1 x2 hfu; exact absurd hfu (Nat.not_lt_zero _)
              | succ fu ih42 =>
                intro x x1 x2 hfu
                refine gw_iload_n dX4_isSum_42 rfl ?_
                refine gw_iconst (v := nI (4)) dX4_isSum_43 (by decide) ?_
                refine gw_icmpN_ge (tgt := 70) dX4_isSum_44 (by decide) (by omega) (by omega) (fun c44 => ?_) (fun c44 => ?_)
                · have e2 : x = 4 := by omega
                  subst e2
                  refine gw_iinc (v := nI (i + 1)) dX4_isSum_70 rfl (nI_add _ 1) (by decide) rfl ?_
                  refine gw_goto (tgt := 14) dX4_isSum_73 (by decide) ?_
                  refine gw_W.forget 2 ?_
                  refine ih14 (i + 1) (by omega) ?_ ?_
                  · intro j hj
                    rcases Nat.lt_or_ge j i with g | g
                    · exact h2 j g
                    · have e3 : j = i := by omega
                      rw [e3]; exact sG_yes c35 x2
                  · omega
                · refine gw_aload_n dX4_isSum_47 rfl ?_
                  refine gw_get (C0 := RX4) (T := TX4) (N := 8) (ref := RX4) 0 rfl rfl inX4 0 (by decide) wd_90 (Or.inl rfl) rfl dX4_isSum_48 ?_
                  refine gw_iload_n dX4_isSum_51 rfl ?_
                  refine gw_iald 1 rfl (rfl) (by omega) (by decide) dX4_isSum_52 ?_
                  refine gw_iload_n dX4_isSum_53 rfl ?_
                  refine gw_callSN (As := [.int (kk (i)), .int (nI (x))]) (st := []) (c_cosinesOf l cy (kk (i)) (x) (by omega) [(a0, .inr (3, [.ref (a1), .ref (a2), .ref (a3), .ref (a4), .int (nI (n)), .ref (a5), .ref (a6), .int (us)])), (a1, .inl (cy 0, 900, .inl (kk))), (a2, .inl (cy 1, 900, .inr (.inl (nn)))), (a3, .inl (cy 0, 900, .inl (k2))), (a4, .inl (cy 1, 900, .inr (.inl (n2)))), (a5, .inl (cy 0, 2048, .inl (sl))), (a6, .inl (cy 0, 900, .inl (su)))]) ok_X11_cosinesOf (host := "SpinBench") (by decide +kernel) rfl rfl dX4_isSum_54 (by decide) (by decide) (Nat.le_of_ble_eq_true rfl) (fun r54 w54 hp54 => ?_)
                  obtain ⟨rfl, rfl⟩ := hp54
                  refine gw_W.norm (st' := [.int (mCos (kk (i)) (nI (x)))]) (k1 := 0) (k2 := 0) rfl rfl rfl ?_
                  refine gw_bipush (v := nI (12)) dX4_isSum_57 (by decide) ?_
                  refine gw_icmp_le (tgt := 64) dX4_isSum_59 (by decide) (fun c59 => ?_) (fun c59 => ?_)
                  · refine gw_iinc (v := nI (x + 1)) dX4_isSum_64 rfl (nI_add _ 1) (by decide) rfl ?_
                    refine gw_goto (tgt := 42) dX4_isSum_67 (by decide) ?_
                    refine ih42 (x + 1) (by omega) ?_ ?_
                    · intro y hy
                      rcases Nat.lt_or_ge y x with g | g
                      · exact x2 y g
                      · have e3 : y = x := by omega
                        rw [e3]; exact c59
                    · omega
                  · refine gw_iconst (v := nI (0)) dX4_isSum_62 (by decide) ?_
                    refine gw_zret (?_) (by decide) (by decide) rfl (by decide) dX4_isSum_63
                    subst hpost
                    have e : isS (takeS kk nn 0 n) = false := isS_no (i := i) (by omega) (sG_no2 (x := x) (by omega) c59)
                    rw [e]; exact ⟨rfl, rfl⟩
            refine cut42 _ (0) (Nat.zero_le _) (fun j h => absurd h (Nat.not_lt_zero _)) (Nat.lt_succ_self _)
          · rw [lg_cmp_le, abs_le hm] at c35
            refine gw_iconst (v := nI (0)) dX4_isSum_38 (by decide) ?_
            refine gw_zret (?_) (by decide) (by decide) rfl (by decide) dX4_isSum_39
            subst hpost
            have e : isS (takeS kk nn 0 n) = false := isS_no (i := i) (by omega) (sG_no1 (by cases hz : inZ (nn i).toInt (-1000000000000) 1000000000000 with
              | false => rfl
              | true => exact absurd hz c35))
            rw [e]; exact ⟨rfl, rfl⟩
    refine cut14 _ (0) (Nat.zero_le _) (fun j h => absurd h (Nat.not_lt_zero _)) (Nat.lt_succ_self _)
  · refine gw_iconst (v := nI (0)) dX4_isSum_10 (by decide) ?_
    refine gw_zret (?_) (by decide) (by decide) rfl (by decide) dX4_isSum_11
    subst hpost
    have e : isS (takeS kk nn 0 n) = false := by
      unfold isS; rw [takeS_len, decide_eq_false (by omega)]; rfl
    rw [e]; exact ⟨rfl, rfl⟩
theorem i32_tr {a b c : Int32} (h : a ≤ b) (g : b ≤ c) : a ≤ c := by rw [i32_le] at *; omega
theorem i32_nl {a b : Int32} (h : ¬ a < b) : b ≤ a := by rw [i32_lt] at h; rw [i32_le]; omega
theorem i32_ll {a b : Int32} (h : a < b) : a ≤ b := by rw [i32_lt] at h; rw [i32_le]; omega
theorem takeS_upd {ks : Nat → Int32} {ns : Nat → Int64} {f z : Nat} {k : Int32} {v : Int64} (h : f ≤ z) : takeS (upd ks z k) (vp_updL ns z v) f (z + 1 - f) = takeS ks ns f (z - f) ++ [(k, v)] := by
  rw [show z + 1 - f = (z - f) + 1 by omega, takeS_snoc, show f + (z - f) = z by omega, pk_us, pk_uLs]
  congr 1
  exact takeS_congr (fun j hj => ⟨pk_un (by omega), pk_uLn (by omega)⟩)
abbrev kX4_merge : gw_K := (yX4_merge, cX4_merge, 8, { frames := 0, cells := 0, slots := 0, locals := 0 }, none)
theorem ok_X4_merge : gw_calV kX4_merge 3 := ⟨⟨wd_334, wd_58, by decide, by decide, by decide +kernel⟩, wd_333, wd_16⟩
set_option maxHeartbeats 4000000 in
set_option maxRecDepth 100000 in
theorem c_xmerge (l : Launch) (cy : Nat → ClassId) (a0 a1 a2 a3 a4 a5 a6 : Nat) (kk : Nat → Int32) (nn : Nat → Int64) (k2 : Nat → Int32) (n2 : Nat → Int64) (sl su : Nat → Int32) (sz us : Int32) (f md en : Nat) (hf : f ≤ md) (hm : md ≤ en) (he : en ≤ 900) (hl : ∀ i j, f ≤ i → i < j → j < md → kk i ≤ kk j) (hr : ∀ i j, md ≤ i → i < j → j < en → kk i ≤ kk j) : gw_M l kX4_merge cy [.ref (a0), .int (nI (f)), .int (nI (md)), .int (nI (en))] (xW cy a0 a1 a2 a3 a4 a5 a6 (sz) (us) kk nn k2 n2 sl su) (fun r w' => r = none ∧ ∃ (k1 : Nat → Int32) (n1 : Nat → Int64), w' = (xW cy a0 a1 a2 a3 a4 a5 a6 (sz) (us) kk nn k1 n1 sl su) ∧ (takeS k1 n1 f (en - f)).Perm (takeS kk nn f (en - f)) ∧ (∀ i j, f ≤ i → i < j → j < en → k1 i ≤ k1 j) ∧ ∀ j, (j < f ∨ en ≤ j) → k1 j = k2 j ∧ n1 j = n2 j) := by
  refine gw_M.mk (lv := [some (.ref (a0)), some (.int (nI (f))), some (.int (nI (md))), some (.int (nI (en))), none, none, none, none]) (by decide) (Nat.le_of_ble_eq_true rfl) rfl ?_
  generalize hpost : (fun r w' => r = none ∧ ∃ (k1 : Nat → Int32) (n1 : Nat → Int64), w' = (xW cy a0 a1 a2 a3 a4 a5 a6 (sz) (us) kk nn k1 n1 sl su) ∧ (takeS k1 n1 f (en - f)).Perm (takeS kk nn f (en - f)) ∧ (∀ i j, f ≤ i → i < j → j < en → k1 i ≤ k1 j) ∧ ∀ j, (j < f ∨ en ≤ j) → k1 j = k2 j ∧ n1 j = n2 j : gw_Q) = post
  refine gw_W.wd (w' := [(a0, .inr (3, [.ref (a1), .ref (a2), .ref (a3), .ref (a4), .int (sz), .ref (a5), .ref (a6), .int (us)])), (a1, .inl (cy 0, 900, .inl (kk))), (a2, .inl (cy 1, 900, .inr (.inl (nn)))), (a3, .inl (cy 0, 900, .inl (k2))), (a4, .inl (cy 1, 900, .inr (.inl (n2)))), (a5, .inl (cy 0, 2048, .inl (sl))), (a6, .inl (cy 0, 900, .inl (su)))]) rfl ?_
  refine gw_iload_n dX4_merge_0 rfl ?_
  refine gw_istore dX4_merge_1 (by decide) rfl ?_
  refine gw_iload_n dX4_merge_3 rfl ?_
  refine gw_istore dX4_merge_4 (by decide) rfl ?_
  refine gw_iload_n dX4_merge_6 rfl ?_
  refine gw_istore dX4_merge_7 (by decide) rfl ?_
  have cut9 : ∀ (fu : Nat) (lf : Nat) (rt : Nat) (z : Nat) (k1 : Nat → Int32) (n1 : Nat → Int64), (f ≤ lf ∧ lf ≤ md ∧ md ≤ rt ∧ rt ≤ en ∧ z = lf + rt - md) → ((takeS k1 n1 f (z - f)).Perm (takeS kk nn f (lf - f) ++ takeS kk nn md (rt - md))) → (∀ i j, f ≤ i → i < j → j < z → k1 i ≤ k1 j) → (∀ i, f ≤ i → i < z → (lf < md → k1 i ≤ kk lf) ∧ (rt < en → k1 i ≤ kk rt)) → (∀ j, (j < f ∨ z ≤ j) → k1 j = k2 j ∧ n1 j = n2 j) → (en - z) < fu → gw_W l kX4_merge cy (gw_R kX4_merge post) [(a0, .inr (3, [.ref (a1), .ref (a2), .ref (a3), .ref (a4), .int (sz), .ref (a5), .ref (a6), .int (us)])), (a1, .inl (cy 0, 900, .inl (kk))), (a2, .inl (cy 1, 900, .inr (.inl (nn)))), (a3, .inl (cy 0, 900, .inl (k1))), (a4, .inl (cy 1, 900, .inr (.inl (n1)))), (a5, .inl (cy 0, 2048, .inl (sl))), (a6, .inl (cy 0, 900, .inl (su)))] 0 0 9 [some (.ref (a0)), some (.int (nI (f))), some (.int (nI (md))), some (.int (nI (en))), some (.int (nI (lf))), some (.int (nI (rt))), some (.int (nI (z))), none] [] := by
    intro fu
    induction fu with
    | zero => intro lf rt z k1 n1 h1 h2 h3 h4 h5 hfu; exact absurd hfu (Nat.not_lt_zero _)
    | succ fu ih9 =>
      intro lf rt z k1 n1 h1 h2 h3 h4 h5 hfu
      refine gw_iload dX4_merge_9 rfl ?_
      refine gw_iload_n dX4_merge_11 rfl ?_
      refine gw_icmpN_ge (tgt := 95) dX4_merge_12 (by decide) (by omega) (by omega) (fun c12 => ?_) (fun c12 => ?_)
      · have e1 : lf = md ∧ rt = en := by omega
        refine gw_vret (?_) (by decide) (by decide) rfl dX4_merge_95
        subst hpost
        refine ⟨rfl, k1, n1, rfl, ?_, fun i j hi hij hj => h3 i j hi hij (by omega), fun j hj => h5 j (by omega)⟩
        have q := h2
        rw [e1.1, e1.2] at q
        rw [show z - f = en - f by omega] at q
        have q3 : takeS kk nn f (en - f) = takeS kk nn f (md - f) ++ takeS kk nn md (en - md) := by
          rw [show en - f = (md - f) + (en - md) by omega, takeS_split, show f + (md - f) = md by omega]
        rw [q3]; exact q
      · have hz : z < 900 ∧ lf < 900 ∧ rt ≤ 900 := by omega
        have cut61 : ∀ (s : Nat) (l2 : Nat) (r2 : Nat), ((s = lf ∧ lf < md ∧ l2 = lf + 1 ∧ r2 = rt ∧ (rt < en → kk lf ≤ kk rt)) ∨ (s = rt ∧ rt < en ∧ l2 = lf ∧ r2 = rt + 1 ∧ (lf < md → kk rt ≤ kk lf))) → gw_W l kX4_merge cy (gw_R kX4_merge post) [(a0, .inr (3, [.ref (a1), .ref (a2), .ref (a3), .ref (a4), .int (sz), .ref (a5), .ref (a6), .int (us)])), (a1, .inl (cy 0, 900, .inl (kk))), (a2, .inl (cy 1, 900, .inr (.inl (nn)))), (a3, .inl (cy 0, 900, .inl (k1))), (a4, .inl (cy 1, 900, .inr (.inl (n1)))), (a5, .inl (cy 0, 2048, .inl (sl))), (a6, .inl (cy 0, 900, .inl (su)))] 0 0 61 [some (.ref (a0)), some (.int (nI (f))), some (.int (nI (md))), some (.int (nI (en))), some (.int (nI (l2))), some (.int (nI (r2))), some (.int (nI (z))), some (.int (nI (s)))] [] := by
          intro s l2 r2 s1
          have hs : s < 900 := by rcases s1 with s1 | s1 <;> omega
          refine gw_aload_n dX4_merge_61 rfl ?_
          refine gw_get (C0 := RX4) (T := TX4) (N := 8) (ref := RX4) 0 rfl rfl inX4 2 (by decide) wd_92 (Or.inl rfl) rfl dX4_merge_62 ?_
          refine gw_iload dX4_merge_65 rfl ?_
          refine gw_aload_n dX4_merge_67 rfl ?_
          refine gw_get (C0 := RX4) (T := TX4) (N := 8) (ref := RX4) 0 rfl rfl inX4 0 (by decide) wd_90 (Or.inl rfl) rfl dX4_merge_68 ?_
          refine gw_iload dX4_merge_71 rfl ?_
          refine gw_iald 1 rfl (rfl) (by omega) (by decide) dX4_merge_73 ?_
          refine gw_iast 3 rfl (rfl) (by omega) (by decide) dX4_merge_74 ?_
          refine gw_W.wd (w' := [(a0, .inr (3, [.ref (a1), .ref (a2), .ref (a3), .ref (a4), .int (sz), .ref (a5), .ref (a6), .int (us)])), (a1, .inl (cy 0, 900, .inl (kk))), (a2, .inl (cy 1, 900, .inr (.inl (nn)))), (a3, .inl (cy 0, 900, .inl (upd k1 (z) (kk (s))))), (a4, .inl (cy 1, 900, .inr (.inl (n1)))), (a5, .inl (cy 0, 2048, .inl (sl))), (a6, .inl (cy 0, 900, .inl (su)))]) rfl ?_
          refine gw_aload_n dX4_merge_75 rfl ?_
          refine gw_get (C0 := RX4) (T := TX4) (N := 8) (ref := RX4) 0 rfl rfl inX4 3 (by decide) wd_93 (Or.inl rfl) rfl dX4_merge_76 ?_
          refine gw_iload dX4_merge_79 rfl ?_
          refine gw_aload_n dX4_merge_81 rfl ?_
          refine gw_get (C0 := RX4) (T := TX4) (N := 8) (ref := RX4) 0 rfl rfl inX4 1 (by decide) wd_91 (Or.inl rfl) rfl dX4_merge_82 ?_
          refine gw_iload dX4_merge_85 rfl ?_
          refine gw_lald 2 rfl (rfl) (by omega) (by decide) dX4_merge_87 ?_
          refine gw_last 4 rfl (rfl) (by omega) (by decide) dX4_merge_88 ?_
          refine gw_W.wd (w' := [(a0, .inr (3, [.ref (a1), .ref (a2), .ref (a3), .ref (a4), .int (sz), .ref (a5), .ref (a6), .int (us)])), (a1, .inl (cy 0, 900, .inl (kk))), (a2, .inl (cy 1, 900, .inr (.inl (nn)))), (a3, .inl (cy 0, 900, .inl (upd k1 (z) (kk (s))))), (a4, .inl (cy 1, 900, .inr (.inl (vp_updL n1 (z) (nn (s)))))), (a5, .inl (cy 0, 2048, .inl (sl))), (a6, .inl (cy 0, 900, .inl (su)))]) rfl ?_
          refine gw_iinc (v := nI (z + 1)) dX4_merge_89 rfl (nI_add _ 1) (by decide) rfl ?_
          refine gw_goto (tgt := 9) dX4_merge_92 (by decide) ?_
          refine gw_W.forget 7 ?_
          refine ih9 (l2) (r2) (z + 1) (upd k1 (z) (kk (s))) (vp_updL n1 (z) (nn (s))) (by rcases s1 with s1 | s1 <;> omega) ?_ ?_ ?_ ?_ ?_
          · rw [takeS_upd (by omega)]
            rcases s1 with ⟨e1, e2, e3, e4, e5⟩ | ⟨e1, e2, e3, e4, e5⟩
            · subst e1; subst e3; subst e4
              rw [show s + 1 - f = (s - f) + 1 by omega, takeS_snoc, show f + (s - f) = s by omega]
              have q := h2.append_right [(kk s, nn s)]
              refine q.trans ?_
              rw [List.append_assoc, List.append_assoc]
              exact List.Perm.append_left _ List.perm_append_comm
            · subst e1; subst e3; subst e4
              rw [show s + 1 - md = (s - md) + 1 by omega, takeS_snoc, show md + (s - md) = s by omega, ← List.append_assoc]
              exact h2.append_right _
          · intro i j hi hij hj
            by_cases ej : j = z
            · subst ej; rw [pk_us, pk_un (by omega)]
              have h6 := h4 i hi hij
              rcases s1 with ⟨e1, e2, e3, e4, e5⟩ | ⟨e1, e2, e3, e4, e5⟩
              · rw [e1]; exact h6.1 e2
              · rw [e1]; exact h6.2 e2
            · rw [pk_un ej, pk_un (by omega)]; exact h3 i j hi hij (by omega)
          · intro i hi hj
            by_cases ei : i = z
            · subst ei; rw [pk_us]
              rcases s1 with ⟨e1, e2, e3, e4, e5⟩ | ⟨e1, e2, e3, e4, e5⟩
              · subst e1; subst e3; subst e4; exact ⟨fun h => hl _ _ (by omega) (by omega) h, fun h => e5 h⟩
              · subst e1; subst e3; subst e4; exact ⟨fun h => e5 h, fun h => hr _ _ (by omega) (by omega) h⟩
            · rw [pk_un ei]
              have h6 := h4 i hi (by omega)
              rcases s1 with ⟨e1, e2, e3, e4, e5⟩ | ⟨e1, e2, e3, e4, e5⟩
              · subst e1; subst e3; subst e4; exact ⟨fun h => i32_tr (h6.1 e2) (hl _ _ (by omega) (by omega) h), fun h => h6.2 h⟩
              · subst e1; subst e3; subst e4; exact ⟨fun h => h6.1 h, fun h => i32_tr (h6.2 e2) (hr _ _ (by omega) (by omega) h)⟩
          · intro j hj; rw [pk_un (by omega), pk_uLn (by omega)]; exact h5 j (by omega)
          · omega
        refine gw_iload dX4_merge_15 rfl ?_
        refine gw_iload_n dX4_merge_17 rfl ?_
        refine gw_icmpN_ge (tgt := 54) dX4_merge_18 (by decide) (by omega) (by omega) (fun c18 => ?_) (fun c18 => ?_)
        · refine gw_iload dX4_merge_54 rfl ?_
          refine gw_istore dX4_merge_56 (by decide) rfl ?_
          refine gw_iinc (v := nI (rt + 1)) dX4_merge_58 rfl (nI_add _ 1) (by decide) rfl ?_
          refine cut61 (rt) (lf) (rt + 1) (Or.inr ⟨rfl, by omega, rfl, rfl, fun h => by first | exact i32_ll c41 | (exfalso; omega)⟩)
        · refine gw_iload dX4_merge_21 rfl ?_
          refine gw_iload_n dX4_merge_23 rfl ?_
          refine gw_icmpN_ge (tgt := 44) dX4_merge_24 (by decide) (by omega) (by omega) (fun c24 => ?_) (fun c24 => ?_)
          · refine gw_iload dX4_merge_44 rfl ?_
            refine gw_istore dX4_merge_46 (by decide) rfl ?_
            refine gw_iinc (v := nI (lf + 1)) dX4_merge_48 rfl (nI_add _ 1) (by decide) rfl ?_
            refine gw_goto (tgt := 61) dX4_merge_51 (by decide) ?_
            refine cut61 (lf) (lf + 1) (rt) (Or.inl ⟨rfl, by omega, rfl, rfl, fun h => by first | exact i32_nl c41 | (exfalso; omega)⟩)
          · refine gw_aload_n dX4_merge_27 rfl ?_
            refine gw_get (C0 := RX4) (T := TX4) (N := 8) (ref := RX4) 0 rfl rfl inX4 0 (by decide) wd_90 (Or.inl rfl) rfl dX4_merge_28 ?_
            refine gw_iload dX4_merge_31 rfl ?_
            refine gw_iald 1 rfl (rfl) (by omega) (by decide) dX4_merge_33 ?_
            refine gw_aload_n dX4_merge_34 rfl ?_
            refine gw_get (C0 := RX4) (T := TX4) (N := 8) (ref := RX4) 0 rfl rfl inX4 0 (by decide) wd_90 (Or.inl rfl) rfl dX4_merge_35 ?_
            refine gw_iload dX4_merge_38 rfl ?_
            refine gw_iald 1 rfl (rfl) (by omega) (by decide) dX4_merge_40 ?_
            refine gw_icmp_gt (tgt := 54) dX4_merge_41 (by decide) (fun c41 => ?_) (fun c41 => ?_)
            · refine gw_iload dX4_merge_54 rfl ?_
              refine gw_istore dX4_merge_56 (by decide) rfl ?_
              refine gw_iinc (v := nI (rt + 1)) dX4_merge_58 rfl (nI_add _ 1) (by decide) rfl ?_
              refine cut61 (rt) (lf) (rt + 1) (Or.inr ⟨rfl, by omega, rfl, rfl, fun h => by first | exact i32_ll c41 | (exfalso; omega)⟩)
            · refine gw_iload dX4_merge_44 rfl ?_
              refine gw_istore dX4_merge_46 (by decide) rfl ?_
              refine gw_iinc (v := nI (lf + 1)) dX4_merge_48 rfl (nI_add _ 1) (by decide) rfl ?_
              refine gw_goto (tgt := 61) dX4_merge_51 (by decide) ?_
              refine cut61 (lf) (lf + 1) (rt) (Or.inl ⟨rfl, by omega, rfl, rfl, fun h => by first | exact i32_nl c41 | (exfalso; omega)⟩)
  refine cut9 _ (f) (md) (f) (k2) (n2) (by omega) ?_ ?_ ?_ ?_ (Nat.lt_succ_self _)
  · simp only [Nat.sub_self]; exact List.Perm.refl _
  · intro i j hi hij hj; exfalso; omega
  · intro i hi hj; exfalso; omega
  · intro j hj; exact ⟨rfl, rfl⟩
theorem perm_sw {α : Type} (x a b c d : α) (t : List α) : (x :: a :: b :: c :: d :: t).Perm (x :: c :: d :: a :: b :: t) := List.Perm.cons _ (List.Perm.append_right t (List.perm_append_comm (l₁ := [a, b]) (l₂ := [c, d])))
def bS (w n : Nat) (kk : Nat → Int32) : Prop := ∀ q i j, q * w ≤ i → i < j → j < q * w + w → j < n → kk i ≤ kk j
theorem bS_1 (n : Nat) (kk : Nat → Int32) : bS 1 n kk := fun q i j h1 h2 h3 _ => by exfalso; omega
theorem bS_all {w n : Nat} {kk : Nat → Int32} (h : bS w n kk) (hw : n ≤ w) : ∀ i j, i < j → j < n → kk i ≤ kk j := fun i j h1 h2 => h 0 i j (by omega) h1 (by omega) h2
theorem bS_step {w n f p q : Nat} {k1 k3 : Nat → Int32} (hf : f = q * (w + w)) (hp : p ≤ n) (hpe : p ≤ f + (w + w)) (h : bS (w + w) f k1) (hs : ∀ i j, f ≤ i → i < j → j < p → k3 i ≤ k3 j) (he : ∀ j, j < f → k3 j = k1 j) : bS (w + w) p k3 := by
  intro r i j h1 h2 h3 h4
  rcases Nat.lt_or_ge r q with g | g
  · have h5 : (r + 1) * (w + w) ≤ q * (w + w) := Nat.mul_le_mul_right _ g
    rw [Nat.add_mul, Nat.one_mul] at h5
    rw [he i (by omega), he j (by omega)]
    exact h r i j h1 h2 h3 (by omega)
  · have h5 : q * (w + w) ≤ r * (w + w) := Nat.mul_le_mul_right _ g
    exact hs i j (by omega) h2 h4
theorem min_n {a b : Nat} (ha : a < 2 ^ 31) (hb : b < 2 ^ 31) : (if nI b < nI a then nI b else nI a) = nI (min a b) := by
  by_cases h : nI b < nI a
  · rw [if_pos h]; rw [i32_lt, nI_toInt hb, nI_toInt ha] at h; congr 1; omega
  · rw [if_neg h]; rw [i32_lt, nI_toInt hb, nI_toInt ha] at h; congr 1; omega
abbrev kX4_sort : gw_K := (yX4_sort, cX4_sort, 4, { frames := 1, cells := 0, slots := 0, locals := 40 }, none)
theorem ok_X4_sort : gw_calV kX4_sort 0 := ⟨⟨wd_329, wd_58, by decide, by decide, by decide +kernel⟩, wd_328, wd_15⟩
set_option maxHeartbeats 4000000 in
set_option maxRecDepth 100000 in
theorem c_xsort (l : Launch) (cy : Nat → ClassId) (a0 a1 a2 a3 a4 a5 a6 : Nat) (kk : Nat → Int32) (nn : Nat → Int64) (k2 : Nat → Int32) (n2 : Nat → Int64) (sl su : Nat → Int32) (us : Int32) (n : Nat) (hn : n ≤ 900) : gw_M l kX4_sort cy [.ref (a0)] (xW cy a0 a1 a2 a3 a4 a5 a6 (nI n) (us) kk nn k2 n2 sl su) (fun r w' => r = none ∧ ∃ (b1 b2 b3 b4 : Nat) (k1 : Nat → Int32) (n1 : Nat → Int64) (k3 : Nat → Int32) (n3 : Nat → Int64), w' = (xW cy a0 b1 b2 b3 b4 a5 a6 (nI n) (us) k1 n1 k3 n3 sl su) ∧ (takeS k1 n1 0 n).Perm (takeS kk nn 0 n) ∧ ∀ i j, i < j → j < n → k1 i ≤ k1 j) := by
  refine gw_M.mk (lv := [some (.ref (a0)), none, none, none]) (by decide) (Nat.le_of_ble_eq_true rfl) rfl ?_
  generalize hpost : (fun r w' => r = none ∧ ∃ (b1 b2 b3 b4 : Nat) (k1 : Nat → Int32) (n1 : Nat → Int64) (k3 : Nat → Int32) (n3 : Nat → Int64), w' = (xW cy a0 b1 b2 b3 b4 a5 a6 (nI n) (us) k1 n1 k3 n3 sl su) ∧ (takeS k1 n1 0 n).Perm (takeS kk nn 0 n) ∧ ∀ i j, i < j → j < n → k1 i ≤ k1 j : gw_Q) = post
  refine gw_W.wd (w' := [(a0, .inr (3, [.ref (a1), .ref (a2), .ref (a3), .ref (a4), .int (nI (n)), .ref (a5), .ref (a6), .int (us)])), (a1, .inl (cy 0, 900, .inl (kk))), (a2, .inl (cy 1, 900, .inr (.inl (nn)))), (a3, .inl (cy 0, 900, .inl (k2))), (a4, .inl (cy 1, 900, .inr (.inl (n2)))), (a5, .inl (cy 0, 2048, .inl (sl))), (a6, .inl (cy 0, 900, .inl (su)))]) rfl ?_
  refine gw_iconst (v := nI (1)) dX4_sort_0 (by decide) ?_
  refine gw_istore_n dX4_sort_1 (by decide) rfl ?_
  have cut2 : ∀ (fu : Nat) (wd : Nat) (b1 : Nat) (b2 : Nat) (b3 : Nat) (b4 : Nat) (k1 : Nat → Int32) (n1 : Nat → Int64) (k3 : Nat → Int32) (n3 : Nat → Int64), (1 ≤ wd ∧ wd ≤ 2 * n + 1) → ((takeS k1 n1 0 n).Perm (takeS kk nn 0 n)) → (bS wd n k1) → (n - wd) < fu → gw_W l kX4_sort cy (gw_R kX4_sort post) [(a0, .inr (3, [.ref (b1), .ref (b2), .ref (b3), .ref (b4), .int (nI (n)), .ref (a5), .ref (a6), .int (us)])), (b1, .inl (cy 0, 900, .inl (k1))), (b2, .inl (cy 1, 900, .inr (.inl (n1)))), (b3, .inl (cy 0, 900, .inl (k3))), (b4, .inl (cy 1, 900, .inr (.inl (n3)))), (a5, .inl (cy 0, 2048, .inl (sl))), (a6, .inl (cy 0, 900, .inl (su)))] 0 0 2 [some (.ref (a0)), some (.int (nI (wd))), none, none] [] := by
    intro fu
    induction fu with
    | zero => intro wd b1 b2 b3 b4 k1 n1 k3 n3 h1 h2 h3 hfu; exact absurd hfu (Nat.not_lt_zero _)
    | succ fu ih2 =>
      intro wd b1 b2 b3 b4 k1 n1 k3 n3 h1 h2 h3 hfu
      refine gw_iload_n dX4_sort_2 rfl ?_
      refine gw_aload_n dX4_sort_3 rfl ?_
      refine gw_get (C0 := RX4) (T := TX4) (N := 8) (ref := RX4) 0 rfl rfl inX4 4 (by decide) wd_94 (Or.inl rfl) rfl dX4_sort_4 ?_
      refine gw_icmpN_ge (tgt := 99) dX4_sort_7 (by decide) (by omega) (by omega) (fun c7 => ?_) (fun c7 => ?_)
      · have e1 : n ≤ wd := by omega
        refine gw_vret (?_) (by decide) (by decide) rfl dX4_sort_99
        subst hpost
        exact ⟨rfl, b1, b2, b3, b4, k1, n1, k3, n3, rfl, h2, bS_all h3 e1⟩
      · refine gw_iconst (v := nI (0)) dX4_sort_10 (by decide) ?_
        refine gw_istore_n dX4_sort_11 (by decide) rfl ?_
        have cut12 : ∀ (fu : Nat) (fr : Nat) (q : Nat) (p : Nat) (k4 : Nat → Int32) (n4 : Nat → Int64), (fr = q * (wd + wd)) → (p = min fr n) → ((takeS k4 n4 0 p).Perm (takeS k1 n1 0 p)) → (bS (wd + wd) p k4) → (fr ≤ n + 2 * wd) → (n - fr) < fu → gw_W l kX4_sort cy (gw_R kX4_sort post) [(a0, .inr (3, [.ref (b1), .ref (b2), .ref (b3), .ref (b4), .int (nI (n)), .ref (a5), .ref (a6), .int (us)])), (b1, .inl (cy 0, 900, .inl (k1))), (b2, .inl (cy 1, 900, .inr (.inl (n1)))), (b3, .inl (cy 0, 900, .inl (k4))), (b4, .inl (cy 1, 900, .inr (.inl (n4)))), (a5, .inl (cy 0, 2048, .inl (sl))), (a6, .inl (cy 0, 900, .inl (su)))] 0 0 12 [some (.ref (a0)), some (.int (nI (wd))), some (.int (nI (fr))), none] [] := by
          intro fu
          induction fu with
          | zero => intro fr q p k4 n4 f1 f2 f3 f4 f5 hfu; exact absurd hfu (Nat.not_lt_zero _)
          | succ fu ih12 =>
            intro fr q p k4 n4 f1 f2 f3 f4 f5 hfu
            refine gw_iload_n dX4_sort_12 rfl ?_
            refine gw_aload_n dX4_sort_13 rfl ?_
            refine gw_get (C0 := RX4) (T := TX4) (N := 8) (ref := RX4) 0 rfl rfl inX4 4 (by decide) wd_94 (Or.inl rfl) rfl dX4_sort_14 ?_
            refine gw_icmpN_ge (tgt := 56) dX4_sort_17 (by decide) (by omega) (by omega) (fun c17 => ?_) (fun c17 => ?_)
            · have e2 : p = n := by omega
              rw [e2] at f3 f4
              refine gw_aload_n dX4_sort_56 rfl ?_
              refine gw_get (C0 := RX4) (T := TX4) (N := 8) (ref := RX4) 0 rfl rfl inX4 2 (by decide) wd_92 (Or.inl rfl) rfl dX4_sort_57 ?_
              refine gw_astore_n dX4_sort_60 (by decide) rfl ?_
              refine gw_aload_n dX4_sort_61 rfl ?_
              refine gw_get (C0 := RX4) (T := TX4) (N := 8) (ref := RX4) 0 rfl rfl inX4 3 (by decide) wd_93 (Or.inl rfl) rfl dX4_sort_62 ?_
              refine gw_astore_n dX4_sort_65 (by decide) rfl ?_
              refine gw_aload_n dX4_sort_66 rfl ?_
              refine gw_aload_n dX4_sort_67 rfl ?_
              refine gw_get (C0 := RX4) (T := TX4) (N := 8) (ref := RX4) 0 rfl rfl inX4 0 (by decide) wd_90 (Or.inl rfl) rfl dX4_sort_68 ?_
              refine gw_put (C0 := RX4) (T := TX4) (N := 8) (ref := RX4) (ty := tyX4 2) 0 rfl rfl inX4 2 (by decide) tyX4 tyX4_ok nmX4 wd_92 (Or.inl rfl) rfl (tyX4_ok 2 (by decide)) (rfl) rfl (Nat.le_of_ble_eq_true rfl) dX4_sort_71 ?_
              refine gw_W.wd (w' := [(a0, .inr (3, [.ref (b1), .ref (b2), .ref (b1), .ref (b4), .int (nI (n)), .ref (a5), .ref (a6), .int (us)])), (b1, .inl (cy 0, 900, .inl (k1))), (b2, .inl (cy 1, 900, .inr (.inl (n1)))), (b3, .inl (cy 0, 900, .inl (k4))), (b4, .inl (cy 1, 900, .inr (.inl (n4)))), (a5, .inl (cy 0, 2048, .inl (sl))), (a6, .inl (cy 0, 900, .inl (su)))]) rfl ?_
              refine gw_aload_n dX4_sort_74 rfl ?_
              refine gw_aload_n dX4_sort_75 rfl ?_
              refine gw_get (C0 := RX4) (T := TX4) (N := 8) (ref := RX4) 0 rfl rfl inX4 1 (by decide) wd_91 (Or.inl rfl) rfl dX4_sort_76 ?_
              refine gw_put (C0 := RX4) (T := TX4) (N := 8) (ref := RX4) (ty := tyX4 3) 0 rfl rfl inX4 3 (by decide) tyX4 tyX4_ok nmX4 wd_93 (Or.inl rfl) rfl (tyX4_ok 3 (by decide)) (rfl) rfl (Nat.le_of_ble_eq_true rfl) dX4_sort_79 ?_
              refine gw_W.wd (w' := [(a0, .inr (3, [.ref (b1), .ref (b2), .ref (b1), .ref (b2), .int (nI (n)), .ref (a5), .ref (a6), .int (us)])), (b1, .inl (cy 0, 900, .inl (k1))), (b2, .inl (cy 1, 900, .inr (.inl (n1)))), (b3, .inl (cy 0, 900, .inl (k4))), (b4, .inl (cy 1, 900, .inr (.inl (n4)))), (a5, .inl (cy 0, 2048, .inl (sl))), (a6, .inl (cy 0, 900, .inl (su)))]) rfl ?_
              refine gw_aload_n dX4_sort_82 rfl ?_
              refine gw_aload_n dX4_sort_83 rfl ?_
              refine gw_put (C0 := RX4) (T := TX4) (N := 8) (ref := RX4) (ty := tyX4 0) 0 rfl rfl inX4 0 (by decide) tyX4 tyX4_ok nmX4 wd_90 (Or.inl rfl) rfl (tyX4_ok 0 (by decide)) (rfl) rfl (Nat.le_of_ble_eq_true rfl) dX4_sort_84 ?_
              refine gw_W.wd (w' := [(a0, .inr (3, [.ref (b3), .ref (b2), .ref (b1), .ref (b2), .int (nI (n)), .ref (a5), .ref (a6), .int (us)])), (b1, .inl (cy 0, 900, .inl (k1))), (b2, .inl (cy 1, 900, .inr (.inl (n1)))), (b3, .inl (cy 0, 900, .inl (k4))), (b4, .inl (cy 1, 900, .inr (.inl (n4)))), (a5, .inl (cy 0, 2048, .inl (sl))), (a6, .inl (cy 0, 900, .inl (su)))]) rfl ?_
              refine gw_aload_n dX4_sort_87 rfl ?_
              refine gw_aload_n dX4_sort_88 rfl ?_
              refine gw_put (C0 := RX4) (T := TX4) (N := 8) (ref := RX4) (ty := tyX4 1) 0 rfl rfl inX4 1 (by decide) tyX4 tyX4_ok nmX4 wd_91 (Or.inl rfl) rfl (tyX4_ok 1 (by decide)) (rfl) rfl (Nat.le_of_ble_eq_true rfl) dX4_sort_89 ?_
              refine gw_W.wd (w' := [(a0, .inr (3, [.ref (b3), .ref (b4), .ref (b1), .ref (b2), .int (nI (n)), .ref (a5), .ref (a6), .int (us)])), (b1, .inl (cy 0, 900, .inl (k1))), (b2, .inl (cy 1, 900, .inr (.inl (n1)))), (b3, .inl (cy 0, 900, .inl (k4))), (b4, .inl (cy 1, 900, .inr (.inl (n4)))), (a5, .inl (cy 0, 2048, .inl (sl))), (a6, .inl (cy 0, 900, .inl (su)))]) rfl ?_
              refine gw_iload_n dX4_sort_92 rfl ?_
              refine gw_iload_n dX4_sort_93 rfl ?_
              refine gw_iaddN dX4_sort_94 ?_
              refine gw_istore_n dX4_sort_95 (by decide) rfl ?_
              refine gw_goto (tgt := 2) dX4_sort_96 (by decide) ?_
              refine gw_W.perm (w' := [(a0, .inr (3, [.ref (b3), .ref (b4), .ref (b1), .ref (b2), .int (nI (n)), .ref (a5), .ref (a6), .int (us)])), (b3, .inl (cy 0, 900, .inl (k4))), (b4, .inl (cy 1, 900, .inr (.inl (n4)))), (b1, .inl (cy 0, 900, .inl (k1))), (b2, .inl (cy 1, 900, .inr (.inl (n1)))), (a5, .inl (cy 0, 2048, .inl (sl))), (a6, .inl (cy 0, 900, .inl (su)))]) ?_ ?_
              · exact perm_sw _ _ _ _ _ _
              refine gw_W.forget 2 ?_
              refine gw_W.forget 3 ?_
              refine ih2 (wd + wd) (b3) (b4) (b1) (b2) (k4) (n4) (k1) (n1) (by omega) (f3.trans h2) f4 ?_
              omega
            · have e3 : p = fr := by omega
              rw [e3] at f3 f4
              refine gw_aload_n dX4_sort_20 rfl ?_
              refine gw_iload_n dX4_sort_21 rfl ?_
              refine gw_iload_n dX4_sort_22 rfl ?_
              refine gw_iload_n dX4_sort_23 rfl ?_
              refine gw_iaddN dX4_sort_24 ?_
              refine gw_aload_n dX4_sort_25 rfl ?_
              refine gw_get (C0 := RX4) (T := TX4) (N := 8) (ref := RX4) 0 rfl rfl inX4 4 (by decide) wd_94 (Or.inl rfl) rfl dX4_sort_26 ?_
              refine gw_mmin wd_330 wd_123 wd_59 wd_c_min ⟨by decide, Nat.le_of_ble_eq_true rfl, Nat.zero_le _, Nat.zero_le _⟩ dX4_sort_29 ?_
              refine gw_topi (y := nI (min (fr + wd) (n))) (min_n (by omega) (by omega)) ?_
              refine gw_iload_n dX4_sort_32 rfl ?_
              refine gw_iload_n dX4_sort_33 rfl ?_
              refine gw_iaddN dX4_sort_34 ?_
              refine gw_iload_n dX4_sort_35 rfl ?_
              refine gw_iaddN dX4_sort_36 ?_
              refine gw_aload_n dX4_sort_37 rfl ?_
              refine gw_get (C0 := RX4) (T := TX4) (N := 8) (ref := RX4) 0 rfl rfl inX4 4 (by decide) wd_94 (Or.inl rfl) rfl dX4_sort_38 ?_
              refine gw_mmin wd_330 wd_123 wd_59 wd_c_min ⟨by decide, Nat.le_of_ble_eq_true rfl, Nat.zero_le _, Nat.zero_le _⟩ dX4_sort_41 ?_
              refine gw_topi (y := nI (min ((fr + wd) + wd) (n))) (min_n (by omega) (by omega)) ?_
              have hl : ∀ i j, fr ≤ i → i < j → j < min (fr + wd) n → k1 i ≤ k1 j := fun i j g1 g2 g3 => h3 (2 * q) i j (by rw [Nat.mul_assoc, Nat.mul_comm 2, Nat.mul_assoc, Nat.mul_two]; omega) g2 (by rw [Nat.mul_assoc, Nat.mul_comm 2, Nat.mul_assoc, Nat.mul_two]; omega) (by omega)
              have hr : ∀ i j, min (fr + wd) n ≤ i → i < j → j < min ((fr + wd) + wd) n → k1 i ≤ k1 j := fun i j g1 g2 g3 => h3 (2 * q + 1) i j (by rw [Nat.add_mul, Nat.one_mul, Nat.mul_assoc, Nat.mul_comm 2, Nat.mul_assoc, Nat.mul_two]; omega) g2 (by rw [Nat.add_mul, Nat.one_mul, Nat.mul_assoc, Nat.mul_comm 2, Nat.mul_assoc, Nat.mul_two]; omega) (by omega)
              refine gw_W.wd (w' := (xW cy a0 b1 b2 b3 b4 a5 a6 (nI n) (us) k1 n1 k4 n4 sl su)) rfl ?_
              refine gw_callV 0 (As := [.int (nI (fr)), .int (nI (min (fr + wd) (n))), .int (nI (min ((fr + wd) + wd) (n)))]) (st := []) (c_xmerge l cy a0 b1 b2 b3 b4 a5 a6 k1 n1 k4 n4 sl su (nI n) us fr (min (fr + wd) (n)) (min ((fr + wd) + wd) (n)) (by omega) (by omega) (by omega) hl hr) ok_X4_merge rfl rfl rfl wd_331 rfl rfl dX4_sort_44 (by decide) (by decide) (Nat.le_of_ble_eq_true rfl) (fun r44 w44 hp44 => ?_)
              obtain ⟨rfl, k5, n5, rfl, m1, m2, m3⟩ := hp44
              refine gw_W.norm (st' := []) (k1 := 0) (k2 := 0) rfl rfl rfl ?_
              refine gw_W.wd (w' := [(a0, .inr (3, [.ref (b1), .ref (b2), .ref (b3), .ref (b4), .int (nI (n)), .ref (a5), .ref (a6), .int (us)])), (b1, .inl (cy 0, 900, .inl (k1))), (b2, .inl (cy 1, 900, .inr (.inl (n1)))), (b3, .inl (cy 0, 900, .inl (k5))), (b4, .inl (cy 1, 900, .inr (.inl (n5)))), (a5, .inl (cy 0, 2048, .inl (sl))), (a6, .inl (cy 0, 900, .inl (su)))]) rfl ?_
              refine gw_iload_n dX4_sort_47 rfl ?_
              refine gw_iload_n dX4_sort_48 rfl ?_
              refine gw_iload_n dX4_sort_49 rfl ?_
              refine gw_iaddN dX4_sort_50 ?_
              refine gw_iaddN dX4_sort_51 ?_
              refine gw_istore_n dX4_sort_52 (by decide) rfl ?_
              refine gw_goto (tgt := 12) dX4_sort_53 (by decide) ?_
              refine ih12 (fr + (wd + wd)) (q + 1) (min (fr + (wd + wd)) n) (k5) (n5) (by rw [Nat.add_mul, Nat.one_mul, ← f1]) rfl ?_ ?_ (by omega) ?_
              · have e4 : min (fr + (wd + wd)) n = fr + (min (fr + wd + wd) n - fr) := by omega
                rw [e4, takeS_split, takeS_split]
                refine List.Perm.append ?_ (by rw [Nat.zero_add]; exact m1)
                have e5 : takeS k5 n5 0 fr = takeS k4 n4 0 fr := takeS_congr (fun j hj => m3 _ (by omega))
                rw [e5]; exact f3
              · exact bS_step (n := n) f1 (by omega) (by omega) f4 (fun i j g1 g2 g3 => m2 i j g1 g2 (by omega)) (fun j hj => (m3 j (by omega)).1)
              · omega
        refine cut12 _ (0) (0) (0) (k3) (n3) (by omega) (by omega) (List.Perm.refl _) (fun r i j h1 h2 h3 h4 => absurd h4 (Nat.not_lt_zero _)) (by omega) (Nat.lt_succ_self _)
  refine cut2 _ (1) (a1) (a2) (a3) (a4) (kk) (nn) (k2) (n2) (by omega) (List.Perm.refl _) (bS_1 n kk) (Nat.lt_succ_self _)
