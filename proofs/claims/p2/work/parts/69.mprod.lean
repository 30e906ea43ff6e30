/-! product -/
abbrev kX12_product : gw_K := (yX12_product, cX12_product, 16, { frames := 3, cells := 0, slots := 0, locals := 71 }, (some .int))
theorem ok_X12_product : gw_calV kX12_product 3 := ⟨⟨wd_1051, wd_62, by decide, by decide, by decide +kernel⟩, wd_1049, wd_1050⟩
set_option maxHeartbeats 4000000 in
set_option maxRecDepth 100000 in
theorem t_mproduct (l : Launch) (cy : Nat → ClassId) (ad : Nat → Nat) (iv : Nat → Int32) (ia : Nat → Nat → Int32) (la : Nat → Nat → Int64) (σ : aS) (hI : mInv σ iv ia la) (t a b : Int32) : gw_M l kX12_product cy [.ref (ad 0), .int (t), .int (a), .int (b)] (mW cy ad iv ia la) (mPost cy ad (spProduct σ t a b)) := by
  refine gw_M.mk (lv := [some (.ref (ad 0)), some (.int (t)), some (.int (a)), some (.int (b)), none, none, none, none, none, none, none, none, none, none, none, none]) (by decide) (Nat.le_of_ble_eq_true rfl) rfl ?_
  generalize hpost : (mPost cy ad (spProduct σ t a b) : gw_Q) = post
  obtain ⟨i1, i2, i3, i4, i5, i6, i7, i8⟩ := hI
  refine gw_iload_n dX12_product_0 rfl ?_
  refine gw_callS (As := [.int (t)]) (st := []) (c_misShelf l cy (t) (mW cy ad iv ia la)) ok_X12_isShelf wd_929 rfl rfl dX12_product_1 (by decide) (by decide) (Nat.le_of_ble_eq_true rfl) (fun r1 w1 hp1 => ?_)
  obtain ⟨rfl, rfl⟩ := hp1
  refine gw_W.norm (st' := [.int (bI (inZ (t).toInt (-1) 7))]) (k1 := 0) (k2 := 0) rfl rfl rfl ?_
  refine gw_if_eq (tgt := 21) dX12_product_4 (by decide) (fun c4 => ?_) (fun c4 => ?_)
  · rw [bI_0] at c4
    refine gw_ldc dX12_product_21 wd_903 ?_
    refine gw_iret (?_) (by decide) (by decide) rfl dX12_product_23
    subst hpost
    unfold spProduct
    rw [if_neg (fun h => by first | exact absurd h.1 (by rw [c4]; decide) | exact absurd h.2.1 (by rw [c11]; decide) | exact absurd h.2.2 (by rw [c18]; decide))]
    exact ⟨rfl, iv, ia, la, rfl, i1, i2, i3, i4, i5, i6, i7, i8⟩
  · rw [bI_n0] at c4
    refine gw_iload_n dX12_product_7 rfl ?_
    refine gw_callS (As := [.int (a)]) (st := []) (c_misShelf l cy (a) (mW cy ad iv ia la)) ok_X12_isShelf wd_929 rfl rfl dX12_product_8 (by decide) (by decide) (Nat.le_of_ble_eq_true rfl) (fun r8 w8 hp8 => ?_)
    obtain ⟨rfl, rfl⟩ := hp8
    refine gw_W.norm (st' := [.int (bI (inZ (a).toInt (-1) 7))]) (k1 := 0) (k2 := 0) rfl rfl rfl ?_
    refine gw_if_eq (tgt := 21) dX12_product_11 (by decide) (fun c11 => ?_) (fun c11 => ?_)
    · rw [bI_0] at c11
      refine gw_ldc dX12_product_21 wd_903 ?_
      refine gw_iret (?_) (by decide) (by decide) rfl dX12_product_23
      subst hpost
      unfold spProduct
      rw [if_neg (fun h => by first | exact absurd h.1 (by rw [c4]; decide) | exact absurd h.2.1 (by rw [c11]; decide) | exact absurd h.2.2 (by rw [c18]; decide))]
      exact ⟨rfl, iv, ia, la, rfl, i1, i2, i3, i4, i5, i6, i7, i8⟩
    · rw [bI_n0] at c11
      refine gw_iload_n dX12_product_14 rfl ?_
      refine gw_callS (As := [.int (b)]) (st := []) (c_misShelf l cy (b) (mW cy ad iv ia la)) ok_X12_isShelf wd_929 rfl rfl dX12_product_15 (by decide) (by decide) (Nat.le_of_ble_eq_true rfl) (fun r15 w15 hp15 => ?_)
      obtain ⟨rfl, rfl⟩ := hp15
      refine gw_W.norm (st' := [.int (bI (inZ (b).toInt (-1) 7))]) (k1 := 0) (k2 := 0) rfl rfl rfl ?_
      refine gw_if_ne (tgt := 24) dX12_product_18 (by decide) (fun c18 => ?_) (fun c18 => ?_)
      · rw [bI_n0] at c18
        have ht9 := mPl_lt c4
        have ha9 := mPl_lt c11
        have hb9 := mPl_lt c18
        obtain ⟨a1, a2, a3, a4⟩ := mI3_take i3 ha9
        obtain ⟨b1, b2, b3, b4⟩ := mI3_take i3 hb9
        have a2 : (sSm σ (mPl a)).length ≤ 300 := a2
        have b2 : (sSm σ (mPl b)).length ≤ 300 := b2
        refine gw_iload_n dX12_product_24 rfl ?_
        refine gw_callS (As := [.int (a)]) (st := []) (c_mplaceOf l cy (a) (c11) (mW cy ad iv ia la)) ok_X12_placeOf wd_933 rfl rfl dX12_product_25 (by decide) (by decide) (Nat.le_of_ble_eq_true rfl) (fun r25 w25 hp25 => ?_)
        obtain ⟨rfl, rfl⟩ := hp25
        refine gw_W.norm (st' := [.int (nI (mPl (a)))]) (k1 := 0) (k2 := 0) rfl rfl rfl ?_
        refine gw_istore dX12_product_28 (by decide) rfl ?_
        refine gw_iload_n dX12_product_30 rfl ?_
        refine gw_callS (As := [.int (b)]) (st := []) (c_mplaceOf l cy (b) (c18) (mW cy ad iv ia la)) ok_X12_placeOf wd_933 rfl rfl dX12_product_31 (by decide) (by decide) (Nat.le_of_ble_eq_true rfl) (fun r31 w31 hp31 => ?_)
        obtain ⟨rfl, rfl⟩ := hp31
        refine gw_W.norm (st' := [.int (nI (mPl (b)))]) (k1 := 0) (k2 := 0) rfl rfl rfl ?_
        refine gw_istore dX12_product_34 (by decide) rfl ?_
        refine gw_aload_n dX12_product_36 rfl ?_
        refine gw_iconst (v := nI (0)) dX12_product_37 (by decide) ?_
        refine gm_put_made rfl dX12_product_38 ?_
        refine gw_W.wd (w' := (mW cy ad (va_up iv 9 (nI (0))) ia la)) rfl ?_
        refine gw_iconst (v := nI (0)) dX12_product_41 (by decide) ?_
        refine gw_istore dX12_product_42 (by decide) rfl ?_
        have cut44 : ∀ (fu : Nat) (i : Nat) (m : Nat) (kk : Nat → Int32) (nn : Nat → Int64), (i ≤ (sSm σ (mPl a)).length) → (prS (takeS (ia 7) (la 8) (300 * mPl a) i) (takeS (ia 7) (la 8) (300 * mPl b) (sSm σ (mPl b)).length) = some (takeS kk nn 0 m)) → (m ≤ 300) → (sOrd (takeS kk nn 0 m)) → ((sSm σ (mPl a)).length - i) < fu → gw_W l kX12_product cy (gw_R kX12_product post) (mW cy ad (va_up iv 9 (nI (m))) (va_up ia 10 (kk)) (va_up la 11 (nn))) 0 0 44 [some (.ref (ad 0)), some (.int (t)), some (.int (a)), some (.int (b)), some (.int (nI (mPl a))), some (.int (nI (mPl b))), some (.int (nI (i))), none, none, none, none, none, none, none, none, none] [] := by
          intro fu
          induction fu with
          | zero => intro i m kk nn h1 h2 h3 h4 hfu; exact absurd hfu (Nat.not_lt_zero _)
          | succ fu ih44 =>
            intro i m kk nn h1 h2 h3 h4 hfu
            refine gw_iload dX12_product_44 rfl ?_
            refine gw_aload_n dX12_product_46 rfl ?_
            refine gm_get_many rfl dX12_product_47 ?_
            refine gw_iload dX12_product_50 rfl ?_
            refine gm_ld_many (j := mPl a) (rfl) (by omega) dX12_product_52 ?_
            refine gw_topi (y := (ia 6) (mPl a)) rfl ?_
            refine gw_topi (y := nI ((sSm σ (mPl a)).length)) (a1) ?_
            refine gw_icmpN_ge (tgt := 219) dX12_product_53 (by decide) (by omega) (by omega) (fun c53 => ?_) (fun c53 => ?_)
            · have e1 : i = (sSm σ (mPl a)).length := by omega
              rw [e1, a3, b3] at h2
              refine gw_aload_n dX12_product_219 rfl ?_
              refine gw_iload_n dX12_product_220 rfl ?_
              refine gw_callS (As := [.int (t)]) (st := [.ref (ad 0)]) (c_mplaceOf l cy (t) (c4) (mW cy ad (va_up iv 9 (nI (m))) (va_up ia 10 (kk)) (va_up la 11 (nn)))) ok_X12_placeOf wd_933 rfl rfl dX12_product_221 (by decide) (by decide) (Nat.le_of_ble_eq_true rfl) (fun r221 w221 hp221 => ?_)
              obtain ⟨rfl, rfl⟩ := hp221
              refine gw_W.norm (st' := [.int (nI (mPl (t))), .ref (ad 0)]) (k1 := 0) (k2 := 0) rfl rfl rfl ?_
              refine gw_callV 0 (As := [.int (nI (mPl (t)))]) (st := []) (c_mkept l cy ad (va_up iv 9 (nI (m))) (va_up ia 10 (kk)) (va_up la 11 (nn)) m (mPl (t)) rfl (by omega) (by omega)) ok_X12_kept rfl rfl rfl wd_952 rfl rfl dX12_product_224 (by decide) (by decide) (Nat.le_of_ble_eq_true rfl) (fun r224 w224 hp224 => ?_)
              obtain ⟨F224, hF224, rfl, hN224, hS224⟩ := hp224
              have hF224 : F224 = keepS (takeS kk nn 0 m) := hF224
              cases F224 with
              | none =>
                obtain rfl := hN224 rfl
                refine gw_W.norm (st' := [.int ((-1000003 : Int32))]) (k1 := 0) (k2 := 0) rfl rfl rfl ?_
                refine gw_W.wd (w' := (mW cy ad (va_up iv 9 (nI (m))) (va_up ia 10 (kk)) (va_up la 11 (nn)))) rfl ?_
                refine gw_iret (?_) (by decide) (by decide) rfl dX12_product_227
                subst hpost
                unfold spProduct
                rw [if_pos ⟨c4, c11, c18⟩, h2]
                simp only
                rw [← hF224]
                first
                  | exact ⟨rfl, _, _, _, rfl, i1, i2, i3, i4, i5, i6, i7, i8⟩
                  | exact ⟨rfl, _, _, _, rfl, i1, i2, mI3_set i3 ht9 (keepS_ok h4 (prS_key i1.2.1 a4 b4 h2) hF224.symm) hT224 hO224, i4, i5, i6, i7, i8⟩
              | some S224 =>
                obtain ⟨kk224, nn224, rfl, hT224, hO224⟩ := hS224 S224 rfl
                refine gw_W.norm (st' := [.int (nI (S224.length))]) (k1 := 0) (k2 := 0) rfl rfl rfl ?_
                refine gw_W.wd (w' := (mW cy ad (va_up iv 9 (nI (m))) (va_up (va_up (va_up ia 6 (upd (ia 6) (mPl (t)) (nI (S224.length)))) 7 (kk224)) 10 (kk)) (va_up (va_up la 8 (nn224)) 11 (nn)))) rfl ?_
                refine gw_iret (?_) (by decide) (by decide) rfl dX12_product_227
                subst hpost
                unfold spProduct
                rw [if_pos ⟨c4, c11, c18⟩, h2]
                simp only
                rw [← hF224]
                first
                  | exact ⟨rfl, _, _, _, rfl, i1, i2, i3, i4, i5, i6, i7, i8⟩
                  | exact ⟨rfl, _, _, _, rfl, i1, i2, mI3_set i3 ht9 (keepS_ok h4 (prS_key i1.2.1 a4 b4 h2) hF224.symm) hT224 hO224, i4, i5, i6, i7, i8⟩
            · refine gw_iconst (v := nI (0)) dX12_product_56 (by decide) ?_
              refine gw_istore dX12_product_57 (by decide) rfl ?_
              have cut59 : ∀ (fu : Nat) (j : Nat) (m : Nat) (kk : Nat → Int32) (nn : Nat → Int64), (j ≤ (sSm σ (mPl b)).length) → (prRow (prS (takeS (ia 7) (la 8) (300 * mPl a) i) (takeS (ia 7) (la 8) (300 * mPl b) (sSm σ (mPl b)).length)) (ia 7 (300 * mPl a + i), la 8 (300 * mPl a + i)) (takeS (ia 7) (la 8) (300 * mPl b) j) = some (takeS kk nn 0 m)) → (m ≤ 300) → (sOrd (takeS kk nn 0 m)) → ((sSm σ (mPl b)).length - j) < fu → gw_W l kX12_product cy (gw_R kX12_product post) (mW cy ad (va_up iv 9 (nI (m))) (va_up ia 10 (kk)) (va_up la 11 (nn))) 0 0 59 [some (.ref (ad 0)), some (.int (t)), some (.int (a)), some (.int (b)), some (.int (nI (mPl a))), some (.int (nI (mPl b))), some (.int (nI (i))), some (.int (nI (j))), none, none, none, none, none, none, none, none] [] := by
                intro fu
                induction fu with
                | zero => intro j m kk nn g1 g2 g3 g4 hfu; exact absurd hfu (Nat.not_lt_zero _)
                | succ fu ih59 =>
                  intro j m kk nn g1 g2 g3 g4 hfu
                  refine gw_iload dX12_product_59 rfl ?_
                  refine gw_aload_n dX12_product_61 rfl ?_
                  refine gm_get_many rfl dX12_product_62 ?_
                  refine gw_iload dX12_product_65 rfl ?_
                  refine gm_ld_many (j := mPl b) (rfl) (by omega) dX12_product_67 ?_
                  refine gw_topi (y := (ia 6) (mPl b)) rfl ?_
                  refine gw_topi (y := nI ((sSm σ (mPl b)).length)) (b1) ?_
                  refine gw_icmpN_ge (tgt := 213) dX12_product_68 (by decide) (by omega) (by omega) (fun c68 => ?_) (fun c68 => ?_)
                  · have e2 : j = (sSm σ (mPl b)).length := by omega
                    rw [e2] at g2
                    refine gw_iinc (v := nI (i + 1)) dX12_product_213 rfl (nI_add _ 1) (by decide) rfl ?_
                    refine gw_goto (tgt := 44) dX12_product_216 (by decide) ?_
                    refine gw_W.wd (w' := (mW cy ad (va_up iv 9 (nI (m))) (va_up ia 10 (((kk)))) (va_up la 11 (((nn)))))) rfl ?_
                    refine gw_W.forget 7 ?_
                    refine ih44 (i + 1) (m) ((kk)) ((nn)) (by omega) (by rw [takeS_snoc, prS_snoc]; exact g2) g3 g4 ?_
                    omega
                  · obtain ⟨qn, qg, qk⟩ := (i3 (mPl b) hb9).1.2.2 (ia 7 (300 * mPl b + j), la 8 (300 * mPl b + j)) (by
                      have q1 : (ia 7 (300 * mPl b + j), la 8 (300 * mPl b + j)) ∈ (takeS (ia 7) (la 8) (300 * mPl b) (sSm σ (mPl b)).length) := takeS_mem.mpr ⟨j, by omega, rfl⟩
                      rw [b3] at q1; exact q1)
                    have qn : ¬ la 8 (300 * mPl b + j) = 0 := of_decide_eq_true qn
                    have qg := (Bool.and_eq_true_iff.mp qg).1
                    have cut207 : ∀ (m2 : Nat) (kk2 : Nat → Int32) (nn2 : Nat → Int64), (prRow (prS (takeS (ia 7) (la 8) (300 * mPl a) i) (takeS (ia 7) (la 8) (300 * mPl b) (sSm σ (mPl b)).length)) (ia 7 (300 * mPl a + i), la 8 (300 * mPl a + i)) (takeS (ia 7) (la 8) (300 * mPl b) (j + 1)) = some (takeS kk2 nn2 0 m2)) → (m2 ≤ 300) → (sOrd (takeS kk2 nn2 0 m2)) → gw_W l kX12_product cy (gw_R kX12_product post) (mW cy ad (va_up iv 9 (nI (m2))) (va_up ia 10 (kk2)) (va_up la 11 (nn2))) 0 0 207 [some (.ref (ad 0)), some (.int (t)), some (.int (a)), some (.int (b)), some (.int (nI (mPl a))), some (.int (nI (mPl b))), some (.int (nI (i))), some (.int (nI (j))), none, none, none, none, none, none, none, none] [] := by
                      intro m2 kk2 nn2 r2 r3 r4
                      refine gw_iinc (v := nI (j + 1)) dX12_product_207 rfl (nI_add _ 1) (by decide) rfl ?_
                      refine gw_goto (tgt := 59) dX12_product_210 (by decide) ?_
                      refine gw_W.wd (w' := (mW cy ad (va_up iv 9 (nI ((m2)))) (va_up ia 10 (((kk2)))) (va_up la 11 (((nn2)))))) rfl ?_
                      refine ih59 (j + 1) (m2) ((kk2)) ((nn2)) (by omega) r2 r3 r4 ?_
                      omega
                    refine gw_aload_n dX12_product_71 rfl ?_
                    refine gm_get_key rfl dX12_product_72 ?_
                    refine gw_sipush (v := nI (300)) dX12_product_75 (by decide) ?_
                    refine gw_iload dX12_product_78 rfl ?_
                    refine gw_imulN dX12_product_80 ?_
                    refine gw_iload dX12_product_81 rfl ?_
                    refine gw_iaddN dX12_product_83 ?_
                    refine gm_ld_key (j := (300 * (mPl a)) + i) (rfl) (by omega) dX12_product_84 ?_
                    refine gw_topi (y := (ia 7) ((300 * (mPl a)) + i)) rfl ?_
                    refine gw_istore dX12_product_85 (by decide) rfl ?_
                    refine gw_aload_n dX12_product_87 rfl ?_
                    refine gm_get_key rfl dX12_product_88 ?_
                    refine gw_sipush (v := nI (300)) dX12_product_91 (by decide) ?_
                    refine gw_iload dX12_product_94 rfl ?_
                    refine gw_imulN dX12_product_96 ?_
                    refine gw_iload dX12_product_97 rfl ?_
                    refine gw_iaddN dX12_product_99 ?_
                    refine gm_ld_key (j := (300 * (mPl b)) + j) (rfl) (by omega) dX12_product_100 ?_
                    refine gw_topi (y := (ia 7) ((300 * (mPl b)) + j)) rfl ?_
                    refine gw_istore dX12_product_101 (by decide) rfl ?_
                    refine gw_iload dX12_product_103 rfl ?_
                    refine gw_callS (As := [.int ((ia 7) ((300 * (mPl a)) + i))]) (st := []) (c_mproductOf l cy ((ia 7) ((300 * (mPl a)) + i)) (mW cy ad (va_up iv 9 (nI (m))) (va_up ia 10 (kk)) (va_up la 11 (nn)))) ok_X12_productOf wd_992 rfl rfl dX12_product_105 (by decide) (by decide) (Nat.le_of_ble_eq_true rfl) (fun r105 w105 hp105 => ?_)
                    obtain ⟨rfl, rfl⟩ := hp105
                    refine gw_W.norm (st' := [.int (mProd ((ia 7) ((300 * (mPl a)) + i)))]) (k1 := 0) (k2 := 0) rfl rfl rfl ?_
                    refine gw_iload dX12_product_108 rfl ?_
                    refine gw_callS (As := [.int ((ia 7) ((300 * (mPl b)) + j))]) (st := [.int (mProd ((ia 7) ((300 * (mPl a)) + i)))]) (c_mproductOf l cy ((ia 7) ((300 * (mPl b)) + j)) (mW cy ad (va_up iv 9 (nI (m))) (va_up ia 10 (kk)) (va_up la 11 (nn)))) ok_X12_productOf wd_992 rfl rfl dX12_product_110 (by decide) (by decide) (Nat.le_of_ble_eq_true rfl) (fun r110 w110 hp110 => ?_)
                    obtain ⟨rfl, rfl⟩ := hp110
                    refine gw_W.norm (st' := [.int (mProd ((ia 7) ((300 * (mPl b)) + j))), .int (mProd ((ia 7) ((300 * (mPl a)) + i)))]) (k1 := 0) (k2 := 0) rfl rfl rfl ?_
                    refine gw_icmp_ne (tgt := 207) dX12_product_113 (by decide) (fun c113 => ?_) (fun c113 => ?_)
                    · refine gw_W.wd (w' := (mW cy ad (va_up iv 9 (nI ((m)))) (va_up ia 10 (((kk)))) (va_up la 11 (((nn)))))) rfl ?_
                      refine gw_W.forget 8 ?_
                      refine gw_W.forget 9 ?_
                      refine cut207 (m) ((kk)) ((nn)) (by rw [takeS_snoc, prRow_snoc, g2]; exact prOne_eq (p := (ia 7 (300 * mPl a + i), la 8 (300 * mPl a + i))) (q := (ia 7 (300 * mPl b + j), la 8 (300 * mPl b + j))) c113) g3 g4
                    · refine gw_aload_n dX12_product_116 rfl ?_
                      refine gm_get_number rfl dX12_product_117 ?_
                      refine gw_sipush (v := nI (300)) dX12_product_120 (by decide) ?_
                      refine gw_iload dX12_product_123 rfl ?_
                      refine gw_imulN dX12_product_125 ?_
                      refine gw_iload dX12_product_126 rfl ?_
                      refine gw_iaddN dX12_product_128 ?_
                      refine gm_ld_number (j := (300 * (mPl a)) + i) (rfl) (by omega) dX12_product_129 ?_
                      refine gw_topl (y := (la 8) ((300 * (mPl a)) + i)) rfl ?_
                      refine gw_lstore dX12_product_130 (by decide) rfl ?_
                      refine gw_aload_n dX12_product_132 rfl ?_
                      refine gm_get_number rfl dX12_product_133 ?_
                      refine gw_sipush (v := nI (300)) dX12_product_136 (by decide) ?_
                      refine gw_iload dX12_product_139 rfl ?_
                      refine gw_imulN dX12_product_141 ?_
                      refine gw_iload dX12_product_142 rfl ?_
                      refine gw_iaddN dX12_product_144 ?_
                      refine gm_ld_number (j := (300 * (mPl b)) + j) (rfl) (by omega) dX12_product_145 ?_
                      refine gw_topl (y := (la 8) ((300 * (mPl b)) + j)) rfl ?_
                      refine gw_lstore dX12_product_146 (by decide) rfl ?_
                      refine gw_ldc2 dX12_product_148 wd_961 ?_
                      have cut166 : ∀ (u : Int64), (u = if la 8 (300 * mPl b + j) < 0 then -la 8 (300 * mPl b + j) else la 8 (300 * mPl b + j)) → gw_W l kX12_product cy (gw_R kX12_product post) (mW cy ad (va_up iv 9 (nI (m))) (va_up ia 10 (kk)) (va_up la 11 (nn))) 0 0 166 [some (.ref (ad 0)), some (.int (t)), some (.int (a)), some (.int (b)), some (.int (nI (mPl a))), some (.int (nI (mPl b))), some (.int (nI (i))), some (.int (nI (j))), some (.int (ia 7 (300 * mPl a + i))), some (.int (ia 7 (300 * mPl b + j))), some (.long (la 8 (300 * mPl a + i))), none, some (.long (la 8 (300 * mPl b + j))), none, none, none] [.long (u), .long ((1000000000000 : Int64))] := by
                        intro u u1
                        obtain ⟨v1, v2⟩ := pr_div qn qg u u1
                        have u0 : ¬ u = 0 := pr_u0 qn u1
                        refine gw_ldiv dX12_product_166 (u0) ?_
                        refine gw_lstore dX12_product_167 (by decide) rfl ?_
                        refine gw_lload dX12_product_169 rfl ?_
                        refine gw_lload dX12_product_171 rfl ?_
                        refine gw_lneg dX12_product_173 ?_
                        refine gw_lload dX12_product_174 rfl ?_
                        refine gw_callS (As := [.long (la 8 (300 * mPl a + i)), .long (-(((1000000000000 : Int64)) / (u))), .long (((1000000000000 : Int64)) / (u))]) (st := []) (c_min l cy (la 8 (300 * mPl a + i)) (-(((1000000000000 : Int64)) / (u))) (((1000000000000 : Int64)) / (u)) (mW cy ad (va_up iv 9 (nI (m))) (va_up ia 10 (kk)) (va_up la 11 (nn)))) ok_X12_in wd_899 rfl rfl dX12_product_176 (by decide) (by decide) (Nat.le_of_ble_eq_true rfl) (fun r176 w176 hp176 => ?_)
                        obtain ⟨rfl, rfl⟩ := hp176
                        refine gw_W.norm (st' := [.int (bI (inZ (la 8 (300 * mPl a + i)).toInt (-(((1000000000000 : Int64)) / (u))).toInt (((1000000000000 : Int64)) / (u)).toInt))]) (k1 := 0) (k2 := 0) rfl rfl rfl ?_
                        refine gw_if_eq (tgt := 204) dX12_product_179 (by decide) (fun c179 => ?_) (fun c179 => ?_)
                        · rw [bI_0, v1, v2] at c179
                          have d179 : prIn (la 8 (300 * mPl a + i)) (la 8 (300 * mPl b + j)) = false := c179
                          refine gw_ldc dX12_product_204 wd_965 ?_
                          refine gw_iret (?_) (by decide) (by decide) rfl dX12_product_206
                          subst hpost
                          have eN : prRow (prS (takeS (ia 7) (la 8) (300 * mPl a) i) (takeS (ia 7) (la 8) (300 * mPl b) (sSm σ (mPl b)).length)) (ia 7 (300 * mPl a + i), la 8 (300 * mPl a + i)) (takeS (ia 7) (la 8) (300 * mPl b) (j + 1)) = none := by
                            rw [takeS_snoc, prRow_snoc, g2]
                            first
                            | exact prOne_no (p := (ia 7 (300 * mPl a + i), la 8 (300 * mPl a + i))) (q := (ia 7 (300 * mPl b + j), la 8 (300 * mPl b + j))) c113 (Or.inl d179)
                            | exact prOne_no (p := (ia 7 (300 * mPl a + i), la 8 (300 * mPl a + i))) (q := (ia 7 (300 * mPl b + j), la 8 (300 * mPl b + j))) c113 (Or.inr c201)
                          have eS := prS_bad (i := i) (j := j) (a := (sSm σ (mPl a)).length) (b := (sSm σ (mPl b)).length) (by omega) (by omega) rfl eN
                          rw [a3, b3] at eS
                          unfold spProduct
                          rw [if_pos ⟨c4, c11, c18⟩, eS]
                          exact ⟨rfl, _, _, _, rfl, i1, i2, i3, i4, i5, i6, i7, i8⟩
                        · rw [bI_n0, v1, v2] at c179
                          have d179 : prIn (la 8 (300 * mPl a + i)) (la 8 (300 * mPl b + j)) = true := c179
                          refine gw_aload_n dX12_product_182 rfl ?_
                          refine gw_iload dX12_product_183 rfl ?_
                          refine gw_ldc dX12_product_185 wd_1003 ?_
                          refine gw_iand dX12_product_187 ?_
                          refine gw_iload dX12_product_188 rfl ?_
                          refine gw_ldc dX12_product_190 wd_1003 ?_
                          refine gw_iand dX12_product_192 ?_
                          refine gw_lload dX12_product_193 rfl ?_
                          refine gw_lload dX12_product_195 rfl ?_
                          refine gw_lmul dX12_product_197 ?_
                          refine gw_callV 0 (As := [.int ((ia 7 (300 * mPl a + i)) &&& ((1048575 : Int32))), .int ((ia 7 (300 * mPl b + j)) &&& ((1048575 : Int32))), .long ((la 8 (300 * mPl a + i)) * (la 8 (300 * mPl b + j)))]) (st := []) (c_mmultiply l cy ad (va_up iv 9 (nI (m))) (va_up ia 10 (kk)) (va_up la 11 (nn)) m ((ia 7 (300 * mPl a + i)) &&& ((1048575 : Int32))) ((ia 7 (300 * mPl b + j)) &&& ((1048575 : Int32))) ((la 8 (300 * mPl a + i)) * (la 8 (300 * mPl b + j))) rfl g3 g4) ok_X12_multiply rfl rfl rfl wd_1052 rfl rfl dX12_product_198 (by decide) (by decide) (Nat.le_of_ble_eq_true rfl) (fun r198 w198 hp198 => ?_)
                          obtain ⟨m198, k198, n198, rfl, rfl, hM198⟩ := hp198
                          have hM198 : mulOk ((ia 7 (300 * mPl a + i)) &&& ((1048575 : Int32))) ((ia 7 (300 * mPl b + j)) &&& ((1048575 : Int32))) ((la 8 (300 * mPl a + i)) * (la 8 (300 * mPl b + j))) (takeS kk nn 0 m) = true → takeS k198 n198 0 m198 = sPuts (takeS kk nn 0 m) (mulP ((ia 7 (300 * mPl a + i)) &&& ((1048575 : Int32))) ((ia 7 (300 * mPl b + j)) &&& ((1048575 : Int32))) ((la 8 (300 * mPl a + i)) * (la 8 (300 * mPl b + j)))) := hM198
                          refine gw_W.norm (st' := [.int (bI (mulOk ((ia 7 (300 * mPl a + i)) &&& ((1048575 : Int32))) ((ia 7 (300 * mPl b + j)) &&& ((1048575 : Int32))) ((la 8 (300 * mPl a + i)) * (la 8 (300 * mPl b + j))) (takeS kk nn 0 m)))]) (k1 := 0) (k2 := 0) rfl rfl rfl ?_
                          refine gw_W.wd (w' := (mW cy ad (va_up iv 9 (nI (m198))) (va_up ia 10 (k198)) (va_up la 11 (n198)))) rfl ?_
                          refine gw_if_ne (tgt := 207) dX12_product_201 (by decide) (fun c201 => ?_) (fun c201 => ?_)
                          · rw [bI_n0] at c201
                            have hM9 := hM198 c201
                            refine gw_W.wd (w' := (mW cy ad (va_up iv 9 (nI ((m198)))) (va_up ia 10 (((k198)))) (va_up la 11 (((n198)))))) rfl ?_
                            refine gw_W.forget 8 ?_
                            refine gw_W.forget 9 ?_
                            refine gw_W.forget 10 ?_
                            refine gw_W.forget 12 ?_
                            refine gw_W.forget 14 ?_
                            refine cut207 (m198) ((k198)) ((n198)) (by rw [takeS_snoc, prRow_snoc, g2, prOne_ok (p := (ia 7 (300 * mPl a + i), la 8 (300 * mPl a + i))) (q := (ia 7 (300 * mPl b + j), la 8 (300 * mPl b + j))) c113 d179 c201]; exact congrArg some hM9.symm) (by have q9 := mulOk_len c201; rw [← hM9, takeS_len] at q9; exact q9) (by rw [hM9]; exact sPuts_ord g4)
                          · rw [bI_0] at c201
                            refine gw_ldc dX12_product_204 wd_965 ?_
                            refine gw_iret (?_) (by decide) (by decide) rfl dX12_product_206
                            subst hpost
                            have eN : prRow (prS (takeS (ia 7) (la 8) (300 * mPl a) i) (takeS (ia 7) (la 8) (300 * mPl b) (sSm σ (mPl b)).length)) (ia 7 (300 * mPl a + i), la 8 (300 * mPl a + i)) (takeS (ia 7) (la 8) (300 * mPl b) (j + 1)) = none := by
                              rw [takeS_snoc, prRow_snoc, g2]
                              first
                              | exact prOne_no (p := (ia 7 (300 * mPl a + i), la 8 (300 * mPl a + i))) (q := (ia 7 (300 * mPl b + j), la 8 (300 * mPl b + j))) c113 (Or.inl d179)
                              | exact prOne_no (p := (ia 7 (300 * mPl a + i), la 8 (300 * mPl a + i))) (q := (ia 7 (300 * mPl b + j), la 8 (300 * mPl b + j))) c113 (Or.inr c201)
                            have eS := prS_bad (i := i) (j := j) (a := (sSm σ (mPl a)).length) (b := (sSm σ (mPl b)).length) (by omega) (by omega) rfl eN
                            rw [a3, b3] at eS
                            unfold spProduct
                            rw [if_pos ⟨c4, c11, c18⟩, eS]
                            exact ⟨rfl, _, _, _, rfl, i1, i2, i3, i4, i5, i6, i7, i8⟩
                      refine gw_lload dX12_product_151 rfl ?_
                      refine gw_lconst (v := (0 : Int64)) dX12_product_153 (by decide) ?_
                      refine gw_lcmp dX12_product_154 ?_
                      refine gw_if_ge (tgt := 164) dX12_product_155 (by decide) (fun c155 => ?_) (fun c155 => ?_)
                      · rw [lg_cmp_ge, i64_le] at c155
                        refine gw_lload dX12_product_164 rfl ?_
                        refine cut166 ((la 8) ((300 * (mPl b)) + j)) (by rw [if_neg (by rw [i64_lt]; exact Int.not_lt.mpr c155)])
                      · rw [lg_cmp_ge, i64_le] at c155
                        refine gw_lload dX12_product_158 rfl ?_
                        refine gw_lneg dX12_product_160 ?_
                        refine gw_goto (tgt := 166) dX12_product_161 (by decide) ?_
                        refine cut166 (-((la 8) ((300 * (mPl b)) + j))) (by rw [if_pos (by rw [i64_lt]; exact Int.not_le.mp c155)])
              refine gw_W.wd (w' := (mW cy ad (va_up iv 9 (nI (m))) (va_up ia 10 (((kk)))) (va_up la 11 (((nn)))))) rfl ?_
              refine cut59 _ (0) (m) ((kk)) ((nn)) (Nat.zero_le _) h2 h3 h4 (Nat.lt_succ_self _)
        refine gw_W.wd (w' := mW cy ad (va_up iv 9 (nI (0))) (va_up ia 10 (ia 10)) (va_up la 11 (la 11))) (by rw [va_up_id, va_up_id]) ?_
        refine gw_W.wd (w' := (mW cy ad (va_up iv 9 (nI ((0)))) (va_up ia 10 ((ia 10))) (va_up la 11 ((la 11))))) rfl ?_
        refine cut44 _ (0) (0) (ia 10) (la 11) (Nat.zero_le _) rfl (Nat.zero_le _) List.Pairwise.nil (Nat.lt_succ_self _)
      · rw [bI_0] at c18
        refine gw_ldc dX12_product_21 wd_903 ?_
        refine gw_iret (?_) (by decide) (by decide) rfl dX12_product_23
        subst hpost
        unfold spProduct
        rw [if_neg (fun h => by first | exact absurd h.1 (by rw [c4]; decide) | exact absurd h.2.1 (by rw [c11]; decide) | exact absurd h.2.2 (by rw [c18]; decide))]
        exact ⟨rfl, iv, ia, la, rfl, i1, i2, i3, i4, i5, i6, i7, i8⟩
