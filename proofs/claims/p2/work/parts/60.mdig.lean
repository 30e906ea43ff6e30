def digP (h : Int64) (k : Int32) : Nat → Int64
  | 0 => h
  | y + 1 => 31 * digP h k y + (powS k (nI y - nI 1)).toInt64
def digS (h : Int64) (S : List sT) : Int64 := S.foldl (fun h q => 31 * digP h q.1 9 + q.2) h
def spDigest (σ : aS) (s : Int32) : Int64 × aS := if inZ s.toInt (-1) 7 = true then (digS 17 (sSm σ (mPl s)), σ) else (-1000001, σ)
theorem digS_snoc (h : Int64) (S : List sT) (q : sT) : digS h (S ++ [q]) = 31 * digP (digS h S) q.1 9 + q.2 := by simp [digS, List.foldl_append]
theorem sub_next (y : Nat) : nI y - nI 1 + 1 = nI (y + 1) - nI 1 := by
  rw [show nI 1 = (1 : Int32) from rfl, nI_succ y, Int32.sub_eq_add_neg, Int32.sub_eq_add_neg, Int32.add_assoc, Int32.add_assoc, Int32.add_comm (-1)]
abbrev kX12_digest : gw_K := (yX12_digest, cX12_digest, 7, { frames := 2, cells := 0, slots := 0, locals := 45 }, (some .long))
theorem ok_X12_digest : gw_calV kX12_digest 1 := ⟨⟨wd_1059, wd_62, by decide, by decide, by decide +kernel⟩, wd_1057, wd_1058⟩
set_option maxHeartbeats 4000000 in
set_option maxRecDepth 100000 in
theorem t_mdigest (l : Launch) (cy : Nat → ClassId) (ad : Nat → Nat) (iv : Nat → Int32) (ia : Nat → Nat → Int32) (la : Nat → Nat → Int64) (σ : aS) (hI : mInv σ iv ia la) (s : Int32) : gw_M l kX12_digest cy [.ref (ad 0), .int (s)] (mW cy ad iv ia la) (mPostL cy ad (spDigest σ s)) := by
  refine gw_M.mk (lv := [some (.ref (ad 0)), some (.int (s)), none, none, none, none, none]) (by decide) (Nat.le_of_ble_eq_true rfl) rfl ?_
  generalize hpost : (mPostL cy ad (spDigest σ s) : gw_Q) = post
  obtain ⟨i1, i2, i3, i4, i5, i6, i7, i8⟩ := hI
  refine gw_iload_n dX12_digest_0 rfl ?_
  refine gw_callS (As := [.int (s)]) (st := []) (c_misShelf l cy (s) (mW cy ad iv ia la)) ok_X12_isShelf wd_929 rfl rfl dX12_digest_1 (by decide) (by decide) (Nat.le_of_ble_eq_true rfl) (fun r1 w1 hp1 => ?_)
  obtain ⟨rfl, rfl⟩ := hp1
  refine gw_W.norm (st' := [.int (bI (inZ (s).toInt (-1) 7))]) (k1 := 0) (k2 := 0) rfl rfl rfl ?_
  refine gw_if_ne (tgt := 11) dX12_digest_4 (by decide) (fun c4 => ?_) (fun c4 => ?_)
  · rw [bI_n0] at c4
    have ha9 := mPl_lt c4
    obtain ⟨a1, a2, a3, a4⟩ := mI3_take i3 ha9
    have a2 : (sSm σ (mPl s)).length ≤ 300 := a2
    have a3 : (takeS (ia 7) (la 8) (300 * mPl s) (sSm σ (mPl s)).length) = sSm σ (mPl s) := a3
    refine gw_ldc2 dX12_digest_11 wd_1060 ?_
    refine gw_lstore_n dX12_digest_14 (by decide) rfl ?_
    refine gw_iload_n dX12_digest_15 rfl ?_
    refine gw_callS (As := [.int (s)]) (st := []) (c_mplaceOf l cy (s) (c4) (mW cy ad iv ia la)) ok_X12_placeOf wd_933 rfl rfl dX12_digest_16 (by decide) (by decide) (Nat.le_of_ble_eq_true rfl) (fun r16 w16 hp16 => ?_)
    obtain ⟨rfl, rfl⟩ := hp16
    refine gw_W.norm (st' := [.int (nI (mPl (s)))]) (k1 := 0) (k2 := 0) rfl rfl rfl ?_
    refine gw_istore dX12_digest_19 (by decide) rfl ?_
    refine gw_iconst (v := nI (0)) dX12_digest_21 (by decide) ?_
    refine gw_istore dX12_digest_22 (by decide) rfl ?_
    have cut24 : ∀ (fu : Nat) (h : Int64) (i : Nat), (i ≤ (sSm σ (mPl s)).length) → (h = digS 17 (takeS (ia 7) (la 8) (300 * mPl s) i)) → ((sSm σ (mPl s)).length - i) < fu → gw_W l kX12_digest cy (gw_R kX12_digest post) (mW cy ad iv ia la) 0 0 24 [some (.ref (ad 0)), some (.int (s)), some (.long (h)), none, some (.int (nI (mPl (s)))), some (.int (nI (i))), none] [] := by
      intro fu
      induction fu with
      | zero => intro h i h1 h2 hfu; exact absurd hfu (Nat.not_lt_zero _)
      | succ fu ih24 =>
        intro h i h1 h2 hfu
        refine gw_iload dX12_digest_24 rfl ?_
        refine gw_aload_n dX12_digest_26 rfl ?_
        refine gm_get_many rfl dX12_digest_27 ?_
        refine gw_iload dX12_digest_30 rfl ?_
        refine gm_ld_many (j := mPl (s)) (rfl) (by omega) dX12_digest_32 ?_
        refine gw_topi (y := nI ((sSm σ (mPl s)).length)) (a1) ?_
        refine gw_icmpN_ge (tgt := 106) dX12_digest_33 (by decide) (by omega) (by omega) (fun c33 => ?_) (fun c33 => ?_)
        · have e1 : i = (sSm σ (mPl s)).length := by omega
          refine gw_lload_n dX12_digest_106 rfl ?_
          refine gw_lret (?_) (by decide) (by decide) rfl dX12_digest_107
          subst hpost
          unfold spDigest
          rw [if_pos c4]
          exact ⟨by rw [h2, e1, a3], iv, ia, la, rfl, i1, i2, i3, i4, i5, i6, i7, i8⟩
        · refine gw_iconst (v := (-1 : Int32)) dX12_digest_36 (by decide) ?_
          refine gw_istore dX12_digest_37 (by decide) rfl ?_
          have cut39 : ∀ (fu : Nat) (e : Int64) (vv : Int32) (y : Nat), (y ≤ 9) → (vv = nI y - nI 1) → (e = digP h (ia 7 (300 * mPl s + i)) y) → (9 - y) < fu → gw_W l kX12_digest cy (gw_R kX12_digest post) (mW cy ad iv ia la) 0 0 39 [some (.ref (ad 0)), some (.int (s)), some (.long (e)), none, some (.int (nI (mPl (s)))), some (.int (nI (i))), some (.int (vv))] [] := by
            intro fu
            induction fu with
            | zero => intro e vv y k1 k2 k3 hfu; exact absurd hfu (Nat.not_lt_zero _)
            | succ fu ih39 =>
              intro e vv y k1 k2 k3 hfu
              refine gw_iload dX12_digest_39 rfl ?_
              refine gw_bipush (v := nI (8)) dX12_digest_41 (by decide) ?_
              refine gw_icmp_ge (tgt := 79) dX12_digest_43 (by decide) (fun c43 => ?_) (fun c43 => ?_)
              · rw [i32_le, k2, i32_sub1 _ (by omega)] at c43
                have e8 : (nI 8).toInt = 8 := by decide
                have e4 : y = 9 := by omega
                rw [e4] at k3
                refine gw_ldc2 dX12_digest_79 wd_1061 ?_
                refine gw_lload_n dX12_digest_82 rfl ?_
                refine gw_lmul dX12_digest_83 ?_
                refine gw_aload_n dX12_digest_84 rfl ?_
                refine gm_get_number rfl dX12_digest_85 ?_
                refine gw_sipush (v := nI (300)) dX12_digest_88 (by decide) ?_
                refine gw_iload dX12_digest_91 rfl ?_
                refine gw_imulN dX12_digest_93 ?_
                refine gw_iload dX12_digest_94 rfl ?_
                refine gw_iaddN dX12_digest_96 ?_
                refine gm_ld_number (j := (300 * (mPl (s))) + i) (rfl) (by omega) dX12_digest_97 ?_
                refine gw_ladd dX12_digest_98 ?_
                refine gw_lstore_n dX12_digest_99 (by decide) rfl ?_
                refine gw_iinc (v := nI (i + 1)) dX12_digest_100 rfl (nI_add _ 1) (by decide) rfl ?_
                refine gw_goto (tgt := 24) dX12_digest_103 (by decide) ?_
                refine gw_W.forget 6 ?_
                refine ih24 ((((31 : Int64)) * (e)) + ((la 8) ((300 * (mPl (s))) + i))) (i + 1) ?_ ?_ ?_
                · omega
                · rw [takeS_snoc, digS_snoc, ← h2, ← k3]
                · omega
              · rw [i32_le, k2, i32_sub1 _ (by omega)] at c43
                have e8 : (nI 8).toInt = 8 := by decide
                have hv : inZ vv.toInt (-1) 7 = true := by rw [k2, inZ_t, i32_sub1 _ (by omega)]; omega
                refine gw_ldc2 dX12_digest_46 wd_1061 ?_
                refine gw_lload_n dX12_digest_49 rfl ?_
                refine gw_lmul dX12_digest_50 ?_
                refine gw_aload_n dX12_digest_51 rfl ?_
                refine gm_get_key rfl dX12_digest_52 ?_
                refine gw_sipush (v := nI (300)) dX12_digest_55 (by decide) ?_
                refine gw_iload dX12_digest_58 rfl ?_
                refine gw_imulN dX12_digest_60 ?_
                refine gw_iload dX12_digest_61 rfl ?_
                refine gw_iaddN dX12_digest_63 ?_
                refine gm_ld_key (j := (300 * (mPl (s))) + i) (rfl) (by omega) dX12_digest_64 ?_
                refine gw_iload dX12_digest_65 rfl ?_
                refine gw_callS (As := [.int ((ia 7) ((300 * (mPl (s))) + i)), .int (vv)]) (st := [.long (((31 : Int64)) * (e))]) (c_mpowerOf l cy ((ia 7) ((300 * (mPl (s))) + i)) (vv) hv (mW cy ad iv ia la)) ok_X12_powerOf wd_1041 rfl rfl dX12_digest_67 (by decide) (by decide) (Nat.le_of_ble_eq_true rfl) (fun r67 w67 hp67 => ?_)
                obtain ⟨rfl, rfl⟩ := hp67
                refine gw_W.norm (st' := [.int (powS ((ia 7) ((300 * (mPl (s))) + i)) (vv)), .long (((31 : Int64)) * (e))]) (k1 := 0) (k2 := 0) rfl rfl rfl ?_
                refine gw_i2l dX12_digest_70 rfl ?_
                refine gw_ladd dX12_digest_71 ?_
                refine gw_lstore_n dX12_digest_72 (by decide) rfl ?_
                refine gw_iinc (v := vv + 1) dX12_digest_73 rfl rfl (by decide) rfl ?_
                refine gw_goto (tgt := 39) dX12_digest_76 (by decide) ?_
                refine ih39 ((((31 : Int64)) * (e)) + ((powS ((ia 7) ((300 * (mPl (s))) + i)) (vv)).toInt64)) (vv + 1) (y + 1) ?_ ?_ ?_ ?_
                · omega
                · rw [k2]; exact sub_next y
                · rw [digP, ← k3, ← k2]
                · omega
          refine cut39 _ (h) ((-1 : Int32)) (0) (Nat.zero_le _) (by decide) rfl (Nat.lt_succ_self _)
    refine cut24 _ ((17 : Int64)) (0) (Nat.zero_le _) rfl (Nat.lt_succ_self _)
  · rw [bI_0] at c4
    refine gw_ldc2 dX12_digest_7 wd_1036 ?_
    refine gw_lret (?_) (by decide) (by decide) rfl dX12_digest_10
    subst hpost
    unfold spDigest
    rw [if_neg (by rw [c4]; decide)]
    exact ⟨rfl, iv, ia, la, rfl, i1, i2, i3, i4, i5, i6, i7, i8⟩
