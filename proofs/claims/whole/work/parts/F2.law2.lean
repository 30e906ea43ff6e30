/-! the law whole, over the open word: what it would prove if the tables had that word -/
set_option maxHeartbeats 8000000 in
set_option maxRecDepth 100000 in
theorem law_loop (l : Launch) (cy : Nat → ClassId) (b bx L : Nat) (xs : Nat → Int32) (ad : Nat → Nat) (hL : L ≤ 3073) : ∀ (fu k : Nat) (σ : aS) (wc : va_W) (iv : Nat → Int32) (ia : Nat → Nat → Int32) (la : Nat → Nat → Int64), cInv cy bx σ wc → mInv σ iv ia la → k ≤ 512 → L + 7 - 6 * k < fu → gw_W l kL_law cy (zL b L xs) (wc ++ mW cy ad iv ia la) (101 + k) (31643 + 6 * k) 28 [some (.ref b), some (.ref bx), some (.ref (ad 0)), some (.int (nI (1 + 6 * k)))] [] := by
  have hL2 : L < 2 ^ 31 := by omega
  have e33 : (nI L - nI 6).toInt = (L : Int) - 6 := by
    rw [Int32.toInt_sub, nI_toInt hL2, show (nI 6).toInt = 6 from by decide, Int.bmod_eq_of_le]
    · have : (2 ^ 32 : Nat) / 2 = 2147483648 := by decide
      omega
    · have : ((2 ^ 32 : Nat) + 1) / 2 = 2147483648 := by decide
      omega
  intro fu
  induction fu with
  | zero => intro k σ wc iv ia la hI hm hk hfu; exact absurd hfu (Nat.not_lt_zero _)
  | succ fu ih =>
    intro k σ wc iv ia la hI hm hk hfu
    refine gw_iload_n dL_law_28 rfl ?_
    refine gw_aload_n dL_law_29 rfl ?_
    refine gl_slen (zL_Z b L xs) dL_law_30 ?_
    refine gw_bipush (v := nI 6) dL_law_31 (by decide) ?_
    refine gw_isub dL_law_33 ?_
    refine gw_icmp_gt (tgt := 1208) dL_law_34 (by decide) (fun h34 => ?_) (fun h34 => ?_)
    · refine gw_iconst (v := 1) dL_law_1208 (by decide) ?_
      exact gl_end (by omega) (by omega) dL_law_1209
    have hi6 : 1 + 6 * k + 6 ≤ L := by
      rw [i32_lt, e33, nI_toInt (by omega)] at h34
      omega
    have K : ∀ (σ : aS) (wc : va_W) (iv : Nat → Int32) (ia : Nat → Nat → Int32) (la : Nat → Nat → Int64), cInv cy bx σ wc → mInv σ iv ia la → gw_W l kL_law cy (zL b L xs) (wc ++ mW cy ad iv ia la) (101 + k + 1) (31643 + 6 * k + 6) 1202 [some (.ref b), some (.ref bx), some (.ref (ad 0)), some (.int (nI (1 + 6 * k)))] [] := by
      intro σ2 wc2 iv2 ia2 la2 hI2 hm2
      refine gw_iinc (v := nI (1 + 6 * (k + 1))) dL_law_1202 rfl (by rw [show 1 + 6 * (k + 1) = 1 + 6 * k + 6 by omega]; exact nI_add _ 6) (by decide) rfl ?_
      refine gw_goto (tgt := 28) dL_law_1205 (by decide) ?_
      exact ih (k + 1) σ2 wc2 iv2 ia2 la2 hI2 hm2 (by omega) (by omega)
    refine gw_aload_n dL_law_37 rfl ?_
    refine gw_iload_n dL_law_38 rfl ?_
    refine gl_sld (zL_Z b L xs) rfl (by omega) hL2 dL_law_39 ?_
    refine gw_bipush (v := nI 31) dL_law_40 (by decide) ?_
    refine gw_iand dL_law_42 ?_
    obtain ⟨z1, z2⟩ := and31 (xs (1 + 6 * k))
    by_cases c0 : (xs (1 + 6 * k) &&& nI 31).toInt = 0
    · refine gw_tableIn (off := 141) (tgt := 184) dL_law_43 (by omega) (by omega) (by rw [c0]; rfl) (by decide) ?_
      exact lcG_0 l cy b bx L (1 + 6 * k) (101 + k) (31643 + 6 * k) xs σ wc ad iv ia la hI hm hi6 (by omega) (by omega) (by omega) K
    by_cases c1 : (xs (1 + 6 * k) &&& nI 31).toInt = 1
    · refine gw_tableIn (off := 184) (tgt := 227) dL_law_43 (by omega) (by omega) (by rw [c1]; rfl) (by decide) ?_
      exact lcG_1 l cy b bx L (1 + 6 * k) (101 + k) (31643 + 6 * k) xs σ wc ad iv ia la hI hm hi6 (by omega) (by omega) (by omega) K
    by_cases c2 : (xs (1 + 6 * k) &&& nI 31).toInt = 2
    · refine gw_tableIn (off := 227) (tgt := 270) dL_law_43 (by omega) (by omega) (by rw [c2]; rfl) (by decide) ?_
      exact lcG_2 l cy b bx L (1 + 6 * k) (101 + k) (31643 + 6 * k) xs σ wc ad iv ia la hI hm hi6 (by omega) (by omega) (by omega) K
    by_cases c3 : (xs (1 + 6 * k) &&& nI 31).toInt = 3
    · refine gw_tableIn (off := 290) (tgt := 333) dL_law_43 (by omega) (by omega) (by rw [c3]; rfl) (by decide) ?_
      exact lcG_3 l cy b bx L (1 + 6 * k) (101 + k) (31643 + 6 * k) xs σ wc ad iv ia la hI hm hi6 (by omega) (by omega) (by omega) K
    by_cases c4 : (xs (1 + 6 * k) &&& nI 31).toInt = 4
    · refine gw_tableIn (off := 313) (tgt := 356) dL_law_43 (by omega) (by omega) (by rw [c4]; rfl) (by decide) ?_
      exact lcG_4 l cy b bx L (1 + 6 * k) (101 + k) (31643 + 6 * k) xs σ wc ad iv ia la hI hm hi6 (by omega) (by omega) (by omega) K
    by_cases c5 : (xs (1 + 6 * k) &&& nI 31).toInt = 5
    · refine gw_tableIn (off := 336) (tgt := 379) dL_law_43 (by omega) (by omega) (by rw [c5]; rfl) (by decide) ?_
      exact lcG_5 l cy b bx L (1 + 6 * k) (101 + k) (31643 + 6 * k) xs σ wc ad iv ia la hI hm hi6 (by omega) (by omega) (by omega) K
    by_cases c6 : (xs (1 + 6 * k) &&& nI 31).toInt = 6
    · refine gw_tableIn (off := 379) (tgt := 422) dL_law_43 (by omega) (by omega) (by rw [c6]; rfl) (by decide) ?_
      exact lcG_6 l cy b bx L (1 + 6 * k) (101 + k) (31643 + 6 * k) xs σ wc ad iv ia la hI hm hi6 (by omega) (by omega) (by omega) K
    by_cases c7 : (xs (1 + 6 * k) &&& nI 31).toInt = 7
    · refine gw_tableIn (off := 412) (tgt := 455) dL_law_43 (by omega) (by omega) (by rw [c7]; rfl) (by decide) ?_
      exact lcG_7 l cy b bx L (1 + 6 * k) (101 + k) (31643 + 6 * k) xs σ wc ad iv ia la hI hm hi6 (by omega) (by omega) (by omega) K
    by_cases c8 : (xs (1 + 6 * k) &&& nI 31).toInt = 8
    · refine gw_tableIn (off := 455) (tgt := 498) dL_law_43 (by omega) (by omega) (by rw [c8]; rfl) (by decide) ?_
      exact lcG_8 l cy b bx L (1 + 6 * k) (101 + k) (31643 + 6 * k) xs σ wc ad iv ia la hI hm hi6 (by omega) (by omega) (by omega) K
    by_cases c9 : (xs (1 + 6 * k) &&& nI 31).toInt = 9
    · refine gw_tableIn (off := 488) (tgt := 531) dL_law_43 (by omega) (by omega) (by rw [c9]; rfl) (by decide) ?_
      exact lcG_9 l cy b bx L (1 + 6 * k) (101 + k) (31643 + 6 * k) xs σ wc ad iv ia la hI hm hi6 (by omega) (by omega) (by omega) K
    by_cases c10 : (xs (1 + 6 * k) &&& nI 31).toInt = 10
    · refine gw_tableIn (off := 531) (tgt := 574) dL_law_43 (by omega) (by omega) (by rw [c10]; rfl) (by decide) ?_
      exact lcG_10 l cy b bx L (1 + 6 * k) (101 + k) (31643 + 6 * k) xs σ wc ad iv ia la hI hm hi6 (by omega) (by omega) (by omega) K
    by_cases c11 : (xs (1 + 6 * k) &&& nI 31).toInt = 11
    · refine gw_tableIn (off := 554) (tgt := 597) dL_law_43 (by omega) (by omega) (by rw [c11]; rfl) (by decide) ?_
      exact lcG_11 l cy b bx L (1 + 6 * k) (101 + k) (31643 + 6 * k) xs σ wc ad iv ia la hI hm hi6 (by omega) (by omega) (by omega) K
    by_cases c12 : (xs (1 + 6 * k) &&& nI 31).toInt = 12
    · refine gw_tableIn (off := 588) (tgt := 631) dL_law_43 (by omega) (by omega) (by rw [c12]; rfl) (by decide) ?_
      exact lcG_12 l cy b bx L (1 + 6 * k) (101 + k) (31643 + 6 * k) xs σ wc ad iv ia la hI hm hi6 (by omega) (by omega) (by omega) K
    by_cases c13 : (xs (1 + 6 * k) &&& nI 31).toInt = 13
    · refine gw_tableIn (off := 631) (tgt := 674) dL_law_43 (by omega) (by omega) (by rw [c13]; rfl) (by decide) ?_
      exact lcG_13 l cy b bx L (1 + 6 * k) (101 + k) (31643 + 6 * k) xs σ wc ad iv ia la hI hm hi6 (by omega) (by omega) (by omega) K
    by_cases c14 : (xs (1 + 6 * k) &&& nI 31).toInt = 14
    · refine gw_tableIn (off := 664) (tgt := 707) dL_law_43 (by omega) (by omega) (by rw [c14]; rfl) (by decide) ?_
      exact lcG_14 l cy b bx L (1 + 6 * k) (101 + k) (31643 + 6 * k) xs σ wc ad iv ia la hI hm hi6 (by omega) (by omega) (by omega) K
    by_cases c15 : (xs (1 + 6 * k) &&& nI 31).toInt = 15
    · refine gw_tableIn (off := 707) (tgt := 750) dL_law_43 (by omega) (by omega) (by rw [c15]; rfl) (by decide) ?_
      exact lcG_15 l cy b bx L (1 + 6 * k) (101 + k) (31643 + 6 * k) xs σ wc ad iv ia la hI hm hi6 (by omega) (by omega) (by omega) K
    by_cases c16 : (xs (1 + 6 * k) &&& nI 31).toInt = 16
    · refine gw_tableIn (off := 731) (tgt := 774) dL_law_43 (by omega) (by omega) (by rw [c16]; rfl) (by decide) ?_
      exact lcG_16 l cy b bx L (1 + 6 * k) (101 + k) (31643 + 6 * k) xs σ wc ad iv ia la hI hm hi6 (by omega) (by omega) (by omega) K
    by_cases c17 : (xs (1 + 6 * k) &&& nI 31).toInt = 17
    · refine gw_tableIn (off := 774) (tgt := 817) dL_law_43 (by omega) (by omega) (by rw [c17]; rfl) (by decide) ?_
      exact lcG_17 l cy b bx L (1 + 6 * k) (101 + k) (31643 + 6 * k) xs σ wc ad iv ia la hI hm hi6 (by omega) (by omega) (by omega) K
    by_cases c18 : (xs (1 + 6 * k) &&& nI 31).toInt = 18
    · refine gw_tableIn (off := 827) (tgt := 870) dL_law_43 (by omega) (by omega) (by rw [c18]; rfl) (by decide) ?_
      exact lcG_18 l cy b bx L (1 + 6 * k) (101 + k) (31643 + 6 * k) xs σ wc ad iv ia la hI hm hi6 (by omega) (by omega) (by omega) K
    by_cases c19 : (xs (1 + 6 * k) &&& nI 31).toInt = 19
    · refine gw_tableIn (off := 870) (tgt := 913) dL_law_43 (by omega) (by omega) (by rw [c19]; rfl) (by decide) ?_
      exact lcG_19 l cy b bx L (1 + 6 * k) (101 + k) (31643 + 6 * k) xs σ wc ad iv ia la hI hm hi6 (by omega) (by omega) (by omega) K
    by_cases c20 : (xs (1 + 6 * k) &&& nI 31).toInt = 20
    · refine gw_tableIn (off := 893) (tgt := 936) dL_law_43 (by omega) (by omega) (by rw [c20]; rfl) (by decide) ?_
      exact lcG_20 l cy b bx L (1 + 6 * k) (101 + k) (31643 + 6 * k) xs σ wc ad iv ia la hI hm hi6 (by omega) (by omega) (by omega) K
    by_cases c21 : (xs (1 + 6 * k) &&& nI 31).toInt = 21
    · refine gw_tableIn (off := 906) (tgt := 949) dL_law_43 (by omega) (by omega) (by rw [c21]; rfl) (by decide) ?_
      exact lcG_21 l cy b bx L (1 + 6 * k) (101 + k) (31643 + 6 * k) xs σ wc ad iv ia la hI hm hi6 (by omega) (by omega) (by omega) K
    by_cases c22 : (xs (1 + 6 * k) &&& nI 31).toInt = 22
    · refine gw_tableIn (off := 939) (tgt := 982) dL_law_43 (by omega) (by omega) (by rw [c22]; rfl) (by decide) ?_
      exact lcG_22 l cy b bx L (1 + 6 * k) (101 + k) (31643 + 6 * k) xs σ wc ad iv ia la hI hm hi6 (by omega) (by omega) (by omega) K
    by_cases c23 : (xs (1 + 6 * k) &&& nI 31).toInt = 23
    · refine gw_tableIn (off := 952) (tgt := 995) dL_law_43 (by omega) (by omega) (by rw [c23]; rfl) (by decide) ?_
      exact lcG_23 l cy b bx L (1 + 6 * k) (101 + k) (31643 + 6 * k) xs σ wc ad iv ia la hI hm hi6 (by omega) (by omega) (by omega) K
    by_cases c24 : (xs (1 + 6 * k) &&& nI 31).toInt = 24
    · refine gw_tableIn (off := 975) (tgt := 1018) dL_law_43 (by omega) (by omega) (by rw [c24]; rfl) (by decide) ?_
      exact lcG_24 l cy b bx L (1 + 6 * k) (101 + k) (31643 + 6 * k) xs σ wc ad iv ia la hI hm hi6 (by omega) (by omega) (by omega) K
    by_cases c25 : (xs (1 + 6 * k) &&& nI 31).toInt = 25
    · refine gw_tableIn (off := 1008) (tgt := 1051) dL_law_43 (by omega) (by omega) (by rw [c25]; rfl) (by decide) ?_
      exact lcG_25 l cy b bx L (1 + 6 * k) (101 + k) (31643 + 6 * k) xs σ wc ad iv ia la hI hm hi6 (by omega) (by omega) (by omega) K
    by_cases c26 : (xs (1 + 6 * k) &&& nI 31).toInt = 26
    · refine gw_tableIn (off := 1031) (tgt := 1074) dL_law_43 (by omega) (by omega) (by rw [c26]; rfl) (by decide) ?_
      exact lcG_26 l cy b bx L (1 + 6 * k) (101 + k) (31643 + 6 * k) xs σ wc ad iv ia la hI hm hi6 (by omega) (by omega) (by omega) K
    by_cases c27 : (xs (1 + 6 * k) &&& nI 31).toInt = 27
    · refine gw_tableIn (off := 1064) (tgt := 1107) dL_law_43 (by omega) (by omega) (by rw [c27]; rfl) (by decide) ?_
      exact lcG_27 l cy b bx L (1 + 6 * k) (101 + k) (31643 + 6 * k) xs σ wc ad iv ia la hI hm hi6 (by omega) (by omega) (by omega) K
    by_cases c28 : (xs (1 + 6 * k) &&& nI 31).toInt = 28
    · refine gw_tableIn (off := 1087) (tgt := 1130) dL_law_43 (by omega) (by omega) (by rw [c28]; rfl) (by decide) ?_
      exact lcG_28 l cy b bx L (1 + 6 * k) (101 + k) (31643 + 6 * k) xs σ wc ad iv ia la hI hm hi6 (by omega) (by omega) (by omega) K
    by_cases c29 : (xs (1 + 6 * k) &&& nI 31).toInt = 29
    · refine gw_tableIn (off := 1100) (tgt := 1143) dL_law_43 (by omega) (by omega) (by rw [c29]; rfl) (by decide) ?_
      exact lcG_29 l cy b bx L (1 + 6 * k) (101 + k) (31643 + 6 * k) xs σ wc ad iv ia la hI hm hi6 (by omega) (by omega) (by omega) K
    by_cases c30 : (xs (1 + 6 * k) &&& nI 31).toInt = 30
    · refine gw_tableIn (off := 1123) (tgt := 1166) dL_law_43 (by omega) (by omega) (by rw [c30]; rfl) (by decide) ?_
      exact lcG_30 l cy b bx L (1 + 6 * k) (101 + k) (31643 + 6 * k) xs σ wc ad iv ia la hI hm hi6 (by omega) (by omega) (by omega) K
    by_cases c31 : (xs (1 + 6 * k) &&& nI 31).toInt = 31
    · refine gw_tableIn (off := 1146) (tgt := 1189) dL_law_43 (by omega) (by omega) (by rw [c31]; rfl) (by decide) ?_
      exact lcG_31 l cy b bx L (1 + 6 * k) (101 + k) (31643 + 6 * k) xs σ wc ad iv ia la hI hm hi6 (by omega) (by omega) (by omega) K
    exfalso; omega
set_option maxHeartbeats 8000000 in
set_option maxRecDepth 100000 in
theorem law_W_open (l : Launch) (cy : Nat → ClassId) (b L : Nat) (xs : Nat → Int32) (hL : L ≤ 3073) : gw_W l kL_law cy (zL b L xs) [] 0 0 0 [some (.ref b), none, none, none] [] := by
  have hL2 : L < 2 ^ 31 := by omega
  refine gw_new (C0 := RX11) (T := TX11) (N := 15) (ci := 9) (fs := [.int ((0 : Int32)), .null, .null, .null, .null, .null, .null, .int ((0 : Int32)), .null, .int ((0 : Int32)), .int ((0 : Int32)), .int ((0 : Int32)), .null, .int ((0 : Int32)), .int ((0 : Int32))]) tyX11 tyX11_ok rfl inX11 wd_74 wd_75 wd_57 (fun j hj => by
    rcases (show j = 0 ∨ j = 1 ∨ j = 2 ∨ j = 3 ∨ j = 4 ∨ j = 5 ∨ j = 6 ∨ j = 7 ∨ j = 8 ∨ j = 9 ∨ j = 10 ∨ j = 11 ∨ j = 12 ∨ j = 13 ∨ j = 14 by omega) with rfl | rfl | rfl | rfl | rfl | rfl | rfl | rfl | rfl | rfl | rfl | rfl | rfl | rfl | rfl <;> rfl) (by decide) (by decide) dL_law_0 (fun bx => ?_)
  refine gw_W.norm (st' := [.ref bx]) (k1 := 1) (k2 := 15) rfl rfl rfl ?_
  refine gw_dup dL_law_3 rfl ?_
  refine gw_aload_n dL_law_4 rfl ?_
  refine gw_iconst (v := nI 0) dL_law_5 (by decide) ?_
  refine gl_cell (zL_Z b L xs) hL2 wd_796 dL_law_6 (by decide) (by decide) (Nat.le_of_ble_eq_true rfl) ?_
  refine gw_callI (As := [.int (cellV L xs)]) (st := [.ref bx]) (t_cinit l cy bx (cellV L xs)) ok_X11_init wd_76 rfl rfl dL_law_9 (by decide) (by decide) (Nat.le_of_ble_eq_true rfl) (fun r9 wc hp9 => ?_)
  obtain ⟨rfl, hI⟩ := hp9
  refine gw_W.norm (st' := [.ref bx]) (k1 := 83) (k2 := 18019) rfl rfl rfl ?_
  refine gw_astore_n dL_law_12 (by decide) rfl ?_
  refine gw_new (C0 := RX12) (T := TX12) (N := 28) (ci := 10) (fs := [.int ((0 : Int32)), .int ((0 : Int32)), .null, .null, .null, .null, .null, .null, .null, .int ((0 : Int32)), .null, .null, .int ((0 : Int32)), .null, .null, .null, .null, .null, .int ((0 : Int32)), .int ((0 : Int32)), .null, .int ((0 : Int32)), .int ((0 : Int32)), .int ((0 : Int32)), .int ((0 : Int32)), .int ((0 : Int32)), .null, .null]) tyX12 tyX12_ok rfl inX12 wd_799 wd_800 wd_62 (fun j hj => by
    rcases (show j = 0 ∨ j = 1 ∨ j = 2 ∨ j = 3 ∨ j = 4 ∨ j = 5 ∨ j = 6 ∨ j = 7 ∨ j = 8 ∨ j = 9 ∨ j = 10 ∨ j = 11 ∨ j = 12 ∨ j = 13 ∨ j = 14 ∨ j = 15 ∨ j = 16 ∨ j = 17 ∨ j = 18 ∨ j = 19 ∨ j = 20 ∨ j = 21 ∨ j = 22 ∨ j = 23 ∨ j = 24 ∨ j = 25 ∨ j = 26 ∨ j = 27 by omega) with rfl | rfl | rfl | rfl | rfl | rfl | rfl | rfl | rfl | rfl | rfl | rfl | rfl | rfl | rfl | rfl | rfl | rfl | rfl | rfl | rfl | rfl | rfl | rfl | rfl | rfl | rfl | rfl <;> rfl) (by decide) (by decide) dL_law_13 (fun bm => ?_)
  refine gw_W.norm (st' := [.ref bm]) (k1 := 84) (k2 := 18047) rfl rfl rfl ?_
  refine gw_dup dL_law_16 rfl ?_
  refine gw_aload_n dL_law_17 rfl ?_
  refine gw_iconst (v := nI 0) dL_law_18 (by decide) ?_
  refine gl_cell (zL_Z b L xs) hL2 wd_796 dL_law_19 (by decide) (by decide) (Nat.le_of_ble_eq_true rfl) ?_
  refine gw_callI (As := [.int (cellV L xs)]) (st := [.ref bm]) ((t_minit l cy bm (cellV L xs)).frame (w2 := wc ++ [(bm, .inr (10, [.int ((0 : Int32)), .int ((0 : Int32)), .null, .null, .null, .null, .null, .null, .null, .int ((0 : Int32)), .null, .null, .int ((0 : Int32)), .null, .null, .null, .null, .null, .int ((0 : Int32)), .int ((0 : Int32)), .null, .int ((0 : Int32)), .int ((0 : Int32)), .int ((0 : Int32)), .int ((0 : Int32)), .int ((0 : Int32)), .null, .null]))]) (f := wc) List.perm_append_comm) ok_X12_init wd_801 rfl rfl dL_law_22 (by decide) (by decide) (Nat.le_of_ble_eq_true rfl) (fun r22 w22 hp22 => ?_)
  obtain ⟨wm, ⟨rfl, ad, iv, ia, la, rfl, rfl, hm⟩, rfl⟩ := hp22
  refine gw_W.perm (w' := wc ++ mW cy ad iv ia la) List.perm_append_comm ?_
  refine gw_W.norm (st' := [.ref (ad 0)]) (k1 := 101) (k2 := 31643) rfl rfl rfl ?_
  refine gw_astore_n dL_law_25 (by decide) rfl ?_
  refine gw_iconst (v := nI 1) dL_law_26 (by decide) ?_
  refine gw_istore_n dL_law_27 (by decide) rfl ?_
  refine gw_W.rlv (lv' := [some (.ref b), some (.ref bx), some (.ref (ad 0)), some (.int (nI 1))]) rfl ?_
  exact law_loop l cy b bx L xs ad hL _ 0 (sNew (cellV L xs)) wc iv ia la hI hm (by decide) (Nat.lt_succ_self _)
theorem gw_N_tbl : ∀ w ∈ gw_N, w ∈ lw_tbl := by decide +kernel
theorem gw_N_on : ∀ w ∈ gw_N, w.onTables = true := by decide +kernel
/-- what holds at the law's entry: the machine, the code, the tables' words (any of lw_tbl by 'hts w (by decide +kernel)'), the script of L ints xs at the cell b, what the Statement gives of the start (any of its parts by flat_of_before) -/
def lw_At (p : Program) (s : State) (m : MethodId) (meth : Method) (c : Code) (b L : Nat) (xs : Nat → Int32) : Prop :=
  p.tables.exec = Jvm.exec ∧ c.code = code ∧ meth.sig.returnType = ret ∧ c.maxLocals = 4 ∧ s.vm.findClass R_law = some m.cls ∧ (∀ w ∈ lw_tbl, w.before #[Value.ref b] s = true) ∧ va_X b L xs s s.heap ∧ b < s.heap.size ∧ meth.locks = false ∧ meth.name = "law" ∧ (Jvm.Cond.and given_1 narrow_1).before #[Value.ref b] s = true
theorem arr_of {s : State} {args : Array Value} {ty : FieldType} (hne : ∀ C, ty ≠ .object C) (h : (Cond.arrayClass ty).before args s = true) : ∃ cA : ClassId, ArrOfT s cA ty ∧ va_RA s cA ty := by
  obtain ⟨cA, kA, comp, hfind, hk, hkind⟩ := Cond.arrayClass_spec h
  refine ⟨cA, fun n z => ⟨fun k h => (by cases h), kA, hk, comp, hkind⟩, ?_⟩
  cases ty <;> first | exact hfind | exact absurd rfl (hne _)
theorem arr_over {s : State} {args : Array Value} {C : String} (h : (Cond.arrayOver (.object C)).before args s = true) : ∃ cA : ClassId, ArrOfT s cA (.object C) ∧ va_RA s cA (.object C) := by
  obtain ⟨comp, c, k, h1, h2, h3, h4, h5⟩ := Cond.arrayOver_spec h
  exact ⟨c, fun n z => ⟨fun k h => (by cases h), k, h3, comp, h4⟩, k, comp, h3, h4, h1, h5⟩
set_option maxHeartbeats 4000000 in
theorem whole_start_open {p : Program} {e : Env} {s : State} {m : MethodId} {below : List Frame} {meth : Method} {c : Code} (l : Launch) {b L : Nat} {xs : Nat → Int32} (hL : L ≤ 3073) (C0 : lw_At p s m meth c b L xs) : W p l e room_1 s m #[Value.ref b] below meth c s.heap [] 0 0 (lw_Z below #[Value.ref b] s) (entryFrame m ([Value.ref b] : List Value).toArray 4) := by
  obtain ⟨hx, hb, hr, hml, hown, hts0, hX, hbl, hlocks, hname, hgv⟩ := id C0
  have hts : ∀ w ∈ gw_All, w.before #[Value.ref b] s = true := fun w hw => hts0 w (List.mem_filter.mp hw).1
  have hfl := flat_of_before _ hgv
  have hk : ∀ k : Nat, ∃ (cC : ClassId) (iS : Nat → Nat), ∀ q : vw_C, vwCl[k]? = some q → u_Kn s q.1 q.2.1 q.2.2 cC iS := by
    intro k
    by_cases h11 : k < 11
    · rcases (show k = 0 ∨ k = 1 ∨ k = 2 ∨ k = 3 ∨ k = 4 ∨ k = 5 ∨ k = 6 ∨ k = 7 ∨ k = 8 ∨ k = 9 ∨ k = 10 by omega) with rfl | rfl | rfl | rfl | rfl | rfl | rfl | rfl | rfl | rfl | rfl
      · obtain ⟨cC, iS, h⟩ := u_known (C := RX0) (T := TX0) (N := 6) (n := 6) hts inX0 (hts _ wd_515)
        exact ⟨cC, iS, fun q hq => by cases hq; exact h⟩
      · obtain ⟨cC, iS, h⟩ := u_known (C := RX1) (T := TX1) (N := 5) (n := 5) hts inX1 (hts _ wd_534)
        exact ⟨cC, iS, fun q hq => by cases hq; exact h⟩
      · obtain ⟨cC, iS, h⟩ := u_known (C := RX2) (T := TX2) (N := 2) (n := 2) hts inX2 (hts _ wd_583)
        exact ⟨cC, iS, fun q hq => by cases hq; exact h⟩
      · obtain ⟨cC, iS, h⟩ := u_known (C := RX4) (T := TX4) (N := 8) (n := 8) hts inX4 (hts _ wd_85)
        exact ⟨cC, iS, fun q hq => by cases hq; exact h⟩
      · obtain ⟨cC, iS, h⟩ := u_known (C := RX6) (T := TX6) (N := 5) (n := 5) hts inX6 (hts _ wd_466)
        exact ⟨cC, iS, fun q hq => by cases hq; exact h⟩
      · obtain ⟨cC, iS, h⟩ := u_known (C := RX7) (T := TX7) (N := 4) (n := 4) hts inX7 (hts _ wd_561)
        exact ⟨cC, iS, fun q hq => by cases hq; exact h⟩
      · obtain ⟨cC, iS, h⟩ := u_known (C := RX8) (T := TX8) (N := 4) (n := 4) hts inX8 (hts _ wd_596)
        exact ⟨cC, iS, fun q hq => by cases hq; exact h⟩
      · obtain ⟨cC, iS, h⟩ := u_known (C := RX9) (T := TX9) (N := 3) (n := 3) hts inX9 (hts _ wd_128)
        exact ⟨cC, iS, fun q hq => by cases hq; exact h⟩
      · obtain ⟨cC, iS, h⟩ := u_known (C := RX10) (T := TX10) (N := 4) (n := 4) hts inX10 (hts _ wd_149)
        exact ⟨cC, iS, fun q hq => by cases hq; exact h⟩
      · obtain ⟨cC, iS, h⟩ := u_known (C := RX11) (T := TX11) (N := 15) (n := 15) hts inX11 (hts _ wd_75)
        exact ⟨cC, iS, fun q hq => by cases hq; exact h⟩
      · obtain ⟨cC, iS, h⟩ := u_known (C := RX12) (T := TX12) (N := 28) (n := 28) hts inX12 (hts _ wd_800)
        exact ⟨cC, iS, fun q hq => by cases hq; exact h⟩
    · exact ⟨0, fun _ => 0, fun q hq => by rw [List.getElem?_eq_none (by show 11 ≤ k; omega)] at hq; cases hq⟩
  obtain ⟨dC, hdC⟩ := Classical.axiomOfChoice hk
  obtain ⟨dI, hdI⟩ := Classical.axiomOfChoice hdC
  obtain ⟨c0, a0, r0⟩ := arr_of (ty := .int) (fun C h => by cases h) (hts _ wd_115)
  obtain ⟨c1, a1, r1⟩ := arr_of (ty := .long) (fun C h => by cases h) (hts _ wd_116)
  obtain ⟨c2, a2, r2⟩ := arr_over (C := RX5) (hts0 (.arrayOver (.object RX5)) (by decide +kernel))
  obtain ⟨c3, a3, r3⟩ := arr_over (C := RX9) (hts0 (.arrayOver (.object RX9)) (by decide +kernel))
  obtain ⟨c4, a4, r4⟩ := arr_over (C := RX10) (hts0 (.arrayOver (.object RX10)) (by decide +kernel))
  have hK : va_K (dC, dI) vwCl (gw_T (fun k => [c0, c1, c2, c3, c4].getD k 0)) s := by
    refine ⟨fun k q hq => hdI k q hq, fun k q hq => ?_⟩
    match k, hq with
    | 0, hq => cases hq; exact ⟨a0, r0⟩
    | 1, hq => cases hq; exact ⟨a1, r1⟩
    | 2, hq => cases hq; exact ⟨a2, r2⟩
    | 3, hq => cases hq; exact ⟨a3, r3⟩
    | 4, hq => cases hq; exact ⟨a4, r4⟩
    | k + 5, hq => simp [gw_T] at hq
  have hE : gw_E s := ⟨fun w hw => va_Nw.of (gw_N_on w hw) (hts0 w (gw_N_tbl w hw)), ⟨va_AO.of (hts0 (.arrayOver (.object RX5)) (by decide +kernel)), va_AO.of (hts0 (.arrayOver (.object RX9)) (by decide +kernel)), va_AO.of (hts0 (.arrayOver (.object RX10)) (by decide +kernel))⟩, va_Nc.of (hfl (.not (.castable RX1 RX6)) (by decide +kernel)), va_Nc.of (hfl (.not (.castable RX2 RX6)) (by decide +kernel)), va_Nc.of (hfl (.not (.castable RX7 RX6)) (by decide +kernel)), va_Nc.of (hfl (.not (.castable RX8 RX6)) (by decide +kernel))⟩
  have hl := lv_entry ([.ref b]) (n := 4) (Nat.le_of_ble_eq_true rfl)
  rw [lg_entry_eq]
  generalize (lg_sl ([.ref b]) ++ List.replicate (4 - (lg_sl ([.ref b])).length) Slot.unset).toArray = ls at hl ⊢
  refine law_W_open l (fun k => [c0, c1, c2, c3, c4].getD k 0) b L xs hL p e s m #[Value.ref b] below meth c (dC, dI) (fun q => s.heap.size ≤ q) _ s.heap [] ls ⟨hx, hb, hr, hml, hown, hts, hlocks, hname, hK, hE, fun q h => h⟩ ⟨⟨hX, hbl, Nat.not_le.mpr hbl⟩, fun q h => h, rfl, rfl⟩ (fun k q h => by simp at h) ⟨fun i j p q h => by simp at h, fun k q h => by simp at h⟩ va_S.rf ⟨hl.1, hl.2.1, fun i v hi => ?_⟩
  match i, hi with
  | 0, hi => cases hi; exact hl.2.2 (0, .ref b) (List.mem_cons_self ..)
  | 1, hi => cases hi
  | 2, hi => cases hi
  | 3, hi => cases hi
  | k + 4, hi => simp at hi
set_option maxHeartbeats 4000000 in
theorem hts_open {b : Nat} {s : State} (hts0 : ∀ c ∈ (Jvm.Cond.code x code maxLocals ret :: (tables_1 ++ [wS])), c.before #[Value.ref b] s = true) : ∀ w ∈ lw_tbl, w.before #[Value.ref b] s = true := by
  have h1 : ∀ w ∈ k2_sels lw_privs ++ tables_1, w.before #[Value.ref b] s = true := k2_hts_sels lw_privs (fun w hw => hts0 w (List.mem_cons_of_mem _ (List.mem_append_left _ hw))) lw_privs_ok
  intro w hw
  have hw : w ∈ k2_sels lw_privs ++ (tables_1 ++ [wS]) := hw
  rw [← List.append_assoc] at hw
  rcases List.mem_append.mp hw with hw | hw
  · exact h1 w hw
  · exact hts0 w (List.mem_cons_of_mem _ (List.mem_append_right _ hw))
set_option maxHeartbeats 4000000 in
theorem lw_walk_open (l : Launch) (b : Addr) (xs : List Int32) : MetFree l x (headSpec (Jvm.Cond.code x code maxLocals ret :: (tables_1 ++ [wS])) room_1) (lw_P b xs) (fun _ _ _ _ _ => True) lw_Q := by
  refine MetFree.of_bodyS (code := code) (maxLocals := maxLocals) (ret := ret) (by decide) ?_ ?_
  · intro args s m h hn
    obtain ⟨meth, c, h1, h2, h3, h4, h5, h6, -, -⟩ := Cond.code_spec hn (atoms_spec (ws := Jvm.Cond.code x code maxLocals ret :: (tables_1 ++ [wS])) h _ List.mem_cons_self)
    exact ⟨meth, c, h1, h2, h3, h4, h5, h6⟩
  · intro p e s m args below meth c s₁ B hml0 hP _
    obtain ⟨rfl, hx, hbd, hgv⟩ := hP
    obtain ⟨scr, harrAt, hlist, hof, hsmall⟩ := hx
    obtain ⟨hcb, hkn, -, -⟩ := State.arrayAt?_spec harrAt
    have hown : s.vm.findClass R_law = some m.cls := findClass_of_methodNamed B.named
    have hts0 : ∀ c ∈ (Jvm.Cond.code x code maxLocals ret :: (tables_1 ++ [wS])), c.before #[Value.ref b] s = true := atoms_spec (ws := Jvm.Cond.code x code maxLocals ret :: (tables_1 ++ [wS])) B.pre
    have hts : ∀ w ∈ lw_tbl, w.before #[Value.ref b] s = true := hts_open hts0
    have hml : c.maxLocals = 4 := B.maxLocals_eq (hts0 _ List.mem_cons_self)
    have X₀ : Stand p l e room_1 s m #[Value.ref b] below meth c s₁ [] 0 0 := Stand.of_body B
    have hh0 : s₁.heap = s.heap := by rw [B.state]; rfl
    have hsz : scr.slots.size = xs.length := by rw [← Array.length_toList, hlist, List.length_map]
    have hval : ∀ j : Nat, j < xs.length → scr.slots[j]? = some (.int (xs.getD j 0)) := fun j hj => by
      rw [← Array.getElem?_toList, hlist]
      simp [hj]
    have hbl : b < s.heap.size := (Array.getElem?_eq_some_iff.mp hcb).1
    have hX : va_X b xs.length (fun j => xs.getD j 0) s s.heap := ⟨scr, hcb, hof, hkn, hsz, hval⟩
    have K : W p l e room_1 s m #[Value.ref b] below meth c s₁.heap [] 0 0 (lw_Z below #[Value.ref b] s) (entryFrame m ([Value.ref b] : List Value).toArray 4) := by
      rw [hh0]
      exact whole_start_open l hbd ⟨B.exec, B.bytes, B.returns, hml, hown, hts, hX, hbl, B.notSynchronized, (name_of_methodNamed B.named B.method).1, hgv⟩
    obtain ⟨t, a1, o, b1, b2, b3⟩ := K s₁ rfl X₀
    exact ⟨t, o, a1, b1, b2, b3⟩
theorem lw_pre_spec {args : Array Value} {s : State} (h : (Jvm.Cond.and given_1 narrow_1).before args s = true) (hr : rest_1_c.before args s = true) : ∃ (b : Addr) (xs : List Int32), lw_P b xs args s := by
  have hs := flat_of_before _ h
  have hq := flat_of_before _ hr
  have hc : (Cond.count 1).before args s = true := hs _ (by decide +kernel)
  have harr : (Cond.arrayOf (.arg 0) .int).before args s = true := hs _ (by decide +kernel)
  have hle : (Cond.le (.length (.arg 0)) (.int 3073)).before args s = true := hs _ (by decide +kernel)
  have hlen : (Cond.isInt (.length (.arg 0))).before args s = true := hq _ (by decide +kernel)
  have hall : (Cond.all (.arg 0) (.isInt (.elem (.arg 0) (.index 0)))).before args s = true := hq _ (by decide +kernel)
  obtain ⟨b, xs, hb, hx⟩ := State.ints_of_pre rfl harr hlen hall
  have hsm : xs.length < 2 ^ 31 := hx.choose_spec.2.2.2
  have hev : (Term.length (.arg 0)).eval args s none [] s = some (.int xs.length.toInt32) := hx.length_eval hb
  have hv := Cond.le_ints hev (show (Term.int 3073).eval args s none [] s = some (.int 3073) from rfl)
  have hd : xs.length.toInt32 ≤ 3073 := by
    simpa [Cond.before, Cond.holds, hv] using hle
  have hN : xs.length ≤ 3073 := (Int32.ofNat_le_ofNat hsm (by decide)).mp (show Int32.ofNat xs.length ≤ Int32.ofNat 3073 from hd)
  exact ⟨b, xs, Cond.one_arg hc (show args[0]? = some (.ref b) from hb), hx, hN, h⟩
theorem lw_comes_open (l : Launch) : Comes l x (Jvm.Cond.code x code maxLocals ret :: (tables_1 ++ [wS])) room_1 (fun tb e args s => Calls_1 tb e args s ∧ rest_1 tb e args s ∧ Pre_1 tb e args s)
    (fun _ _ args s o t => lw_Q args s o t) := by
  intro p e ha hc hk s m args below hf hfit hheap happ hpre
  obtain ⟨b, xs, hP⟩ := lw_pre_spec hpre.2.2 hpre.2.1
  obtain ⟨k, o, h1, h2, h3, hQ⟩   := lw_walk_open l b xs p e ha hc hk s m args below hf ((Spec.applies_iff_loose hf).mp happ).1 hP trivial
  exact ⟨k, o, h1, h2, h3, hQ⟩
theorem lw_frame {s t : State} {o : Outcome} {args : Array Value} (h : Framed s o t [] 600000 7302250) :
    Framed s o t (fieldLocs frame_1_writes args s ++ arrayLocs frame_1_arrays args s ++ staticLocs frame_1_statics s) 600000 7302250 := h
theorem lw_limb_open (L : Cond) (hL : ∀ (args : Array Value) (s t : State), L.after args s (.returned (some (.int 1))) t = true) :
    ArmFor flags0 classFile x code maxLocals ret World_1 (tables_1 ++ [wS]) room_1 Calls_1 rest_1 Pre_1
      (fun tb e a s o t => postC L tb e a s o t ∧ Framed s o t (fieldLocs frame_1_writes a s ++ arrayLocs frame_1_arrays a s ++ staticLocs frame_1_statics s) 600000 7302250) := by
  intro l _ _ _ p e ha hc hk s m args below hf hfit hheap happ hpre
  obtain ⟨k, o, h1, h2, h3, rfl, hF⟩ := lw_comes_open l p e ha hc hk s m args below hf hfit hheap happ hpre
  exact ⟨k, _, h1, h2, h3, hL args s _, lw_frame hF⟩
/-- NOT the owed statement: Claimed_1_1 and Claimed_1_2 with one word more in the tables -/
theorem i_vc_open : ArmFor flags0 classFile x code maxLocals ret World_1 (tables_1 ++ [wS]) room_1 Calls_1 rest_1 Pre_1 Post_1_1 ∧ ArmFor flags0 classFile x code maxLocals ret World_1 (tables_1 ++ [wS]) room_1 Calls_1 rest_1 Pre_1 Post_1_2 := ⟨lw_limb_open limb_1_1 (fun args s t => by simp [limb_1_1, Cond.after, Cond.holds, Cond.value]), lw_limb_open limb_1_2 (fun args s t => Cond.after_iff.mpr (by
  first | (rw [show limb_1_2 = Cond.eq .result (.int 1) from rfl, Cond.eq_ints (x := 1) (y := 1) rfl rfl]; simp; done) | (simp [limb_1_2, Cond.value, Term.eval]; done)))⟩
