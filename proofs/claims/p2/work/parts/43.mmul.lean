abbrev kX12_multiply : gw_K := (yX12_multiply, cX12_multiply, 12, { frames := 1, cells := 0, slots := 0, locals := 26 }, (some .boolean))
theorem ok_X12_multiply : gw_calV kX12_multiply 3 := ⟨⟨wd_1055, wd_62, by decide, by decide, by decide +kernel⟩, wd_1054, wd_46⟩
set_option maxHeartbeats 4000000 in
set_option maxRecDepth 100000 in
theorem c_mmultiply (l : Launch) (cy : Nat → ClassId) (ad : Nat → Nat) (iv : Nat → Int32) (ia : Nat → Nat → Int32) (la : Nat → Nat → Int64) (n : Nat) (a b : Int32) (v : Int64) (hn : iv 9 = nI n) (hlt : n ≤ 300) (hso : sOrd (takeS (ia 10) (la 11) 0 n)) : gw_M l kX12_multiply cy [.ref (ad 0), .int (a), .int (b), .long (v)] (mW cy ad iv ia la) (fun r w' => ∃ (m : Nat) (kk : Nat → Int32) (nn : Nat → Int64), w' = mW cy ad (va_up iv 9 (nI m)) (va_up ia 10 kk) (va_up la 11 nn) ∧ r = some (.int (bI (mulOk a b v (takeS (ia 10) (la 11) 0 n)))) ∧ (mulOk a b v (takeS (ia 10) (la 11) 0 n) = true → takeS kk nn 0 m = sPuts (takeS (ia 10) (la 11) 0 n) (mulP a b v))) := by
  refine gw_M.mk (lv := [some (.ref (ad 0)), some (.int (a)), some (.int (b)), some (.long (v)), none, none, none, none, none, none, none, none]) (by decide) (Nat.le_of_ble_eq_true rfl) rfl ?_
  generalize hpost : (fun r w' => ∃ (m : Nat) (kk : Nat → Int32) (nn : Nat → Int64), w' = mW cy ad (va_up iv 9 (nI m)) (va_up ia 10 kk) (va_up la 11 nn) ∧ r = some (.int (bI (mulOk a b v (takeS (ia 10) (la 11) 0 n)))) ∧ (mulOk a b v (takeS (ia 10) (la 11) 0 n) = true → takeS kk nn 0 m = sPuts (takeS (ia 10) (la 11) 0 n) (mulP a b v)) : gw_Q) = post
  refine gw_iconst (v := nI (0)) dX12_multiply_0 (by decide) ?_
  refine gw_istore dX12_multiply_1 (by decide) rfl ?_
  refine gw_iconst (v := nI (0)) dX12_multiply_3 (by decide) ?_
  refine gw_istore dX12_multiply_4 (by decide) rfl ?_
  refine gw_iconst (v := nI (0)) dX12_multiply_6 (by decide) ?_
  refine gw_istore dX12_multiply_7 (by decide) rfl ?_
  have cut9 : ∀ (fu : Nat) (pl : Int32) (tw : Int32) (x : Nat), (x ≤ 4) → (pl = mPlain a b x) → (tw = mTwice a b x) → (∀ y, y < x → mOk a b y = true) → (4 - x) < fu → gw_W l kX12_multiply cy (gw_R kX12_multiply post) (mW cy ad iv ia la) 0 0 9 [some (.ref (ad 0)), some (.int (a)), some (.int (b)), some (.long (v)), none, some (.int (pl)), some (.int (tw)), some (.int (nI (x))), none, none, none, none] [] := by
    intro fu
    induction fu with
    | zero => intro pl tw x h1 h2 h3 h4 hfu; exact absurd hfu (Nat.not_lt_zero _)
    | succ fu ih9 =>
      intro pl tw x h1 h2 h3 h4 hfu
      refine gw_iload dX12_multiply_9 rfl ?_
      refine gw_iconst (v := nI (4)) dX12_multiply_11 (by decide) ?_
      refine gw_icmpN_ge (tgt := 138) dX12_multiply_12 (by decide) (by omega) (by omega) (fun c12 => ?_) (fun c12 => ?_)
      · have e1 : x = 4 := by omega
        rw [e1] at h2 h3 h4
        refine gw_iconst (v := nI (0)) dX12_multiply_138 (by decide) ?_
        refine gw_istore dX12_multiply_139 (by decide) rfl ?_
        have cut141 : ∀ (fu : Nat) (so : Nat) (m : Nat) (kk : Nat → Int32) (nn : Nat → Int64), (so ≤ 16) → (takeS kk nn 0 m = sPuts (takeS (ia 10) (la 11) 0 n) (mRows pl tw v so)) → (m ≤ 300) → (sOrd (takeS kk nn 0 m)) → (16 - so) < fu → gw_W l kX12_multiply cy (gw_R kX12_multiply post) (mW cy ad (va_up iv 9 (nI (m))) (va_up ia 10 (kk)) (va_up la 11 (nn))) 0 0 141 [some (.ref (ad 0)), some (.int (a)), some (.int (b)), some (.long (v)), none, some (.int (pl)), some (.int (tw)), some (.int (nI (so))), none, none, none, none] [] := by
          intro fu
          induction fu with
          | zero => intro so m kk nn g1 g2 g3 g4 hfu; exact absurd hfu (Nat.not_lt_zero _)
          | succ fu ih141 =>
            intro so m kk nn g1 g2 g3 g4 hfu
            refine gw_iload dX12_multiply_141 rfl ?_
            refine gw_bipush (v := nI (16)) dX12_multiply_143 (by decide) ?_
            refine gw_icmpN_ge (tgt := 234) dX12_multiply_145 (by decide) (by omega) (by omega) (fun c145 => ?_) (fun c145 => ?_)
            · have e3 : so = 16 := by omega
              rw [e3] at g2
              refine gw_iconst (v := nI (1)) dX12_multiply_234 (by decide) ?_
              refine gw_zret (?_) (by decide) (by decide) rfl (by decide) dX12_multiply_235
              subst hpost
              have e8 : takeS kk nn 0 m = sPuts (takeS (ia 10) (la 11) 0 n) (mulP a b v) := by rw [g2, h2, h3]; rfl
              have e9 := mulOk_good (v := v) (C := (takeS (ia 10) (la 11) 0 n)) h4 (by rw [← e8, takeS_len]; exact g3)
              exact ⟨m, kk, nn, rfl, by rw [e9]; rfl, fun _ => e8⟩
            · refine gw_iload dX12_multiply_148 rfl ?_
              refine gw_iload dX12_multiply_150 rfl ?_
              refine gw_iconst (v := (-1 : Int32)) dX12_multiply_152 (by decide) ?_
              refine gw_ixor dX12_multiply_153 ?_
              refine gw_iand dX12_multiply_154 ?_
              refine gw_if_ne (tgt := 228) dX12_multiply_155 (by decide) (fun c155 => ?_) (fun c155 => ?_)
              · refine gw_iinc (v := nI (so + 1)) dX12_multiply_228 rfl (nI_add _ 1) (by decide) rfl ?_
                refine gw_goto (tgt := 141) dX12_multiply_231 (by decide) ?_
                refine gw_W.wd (w' := (mW cy ad (va_up iv 9 (nI (m))) (va_up ia 10 (((kk)))) (va_up la 11 (((nn)))))) rfl ?_
                refine ih141 (so + 1) (m) ((kk)) ((nn)) ?_ ?_ ?_ ?_ ?_
                · omega
                · first | (rw [mRows_f c155]; exact g2) | exact hR213
                · first | exact g3 | omega
                · first | exact g4 | exact hs213
                · omega
              · refine gw_iload dX12_multiply_158 rfl ?_
                refine gw_istore dX12_multiply_160 (by decide) rfl ?_
                refine gw_lload_n dX12_multiply_162 rfl ?_
                refine gw_lstore dX12_multiply_163 (by decide) rfl ?_
                refine gw_iconst (v := nI (0)) dX12_multiply_165 (by decide) ?_
                refine gw_istore dX12_multiply_166 (by decide) rfl ?_
                have cut168 : ∀ (fu : Nat) (kx : Int32) (wx : Int64) (y : Nat), (y ≤ 4) → (kx = mRow pl so y) → (wx = mNum v so y) → (4 - y) < fu → gw_W l kX12_multiply cy (gw_R kX12_multiply post) (mW cy ad (va_up iv 9 (nI (m))) (va_up ia 10 (kk)) (va_up la 11 (nn))) 0 0 168 [some (.ref (ad 0)), some (.int (a)), some (.int (b)), some (.long (v)), none, some (.int (pl)), some (.int (tw)), some (.int (nI (so))), some (.int (kx)), some (.long (wx)), none, some (.int (nI (y)))] [] := by
                  intro fu
                  induction fu with
                  | zero => intro kx wx y k1 k2 k3 hfu; exact absurd hfu (Nat.not_lt_zero _)
                  | succ fu ih168 =>
                    intro kx wx y k1 k2 k3 hfu
                    refine gw_iload dX12_multiply_168 rfl ?_
                    refine gw_iconst (v := nI (4)) dX12_multiply_170 (by decide) ?_
                    refine gw_icmpN_ge (tgt := 208) dX12_multiply_171 (by decide) (by omega) (by omega) (fun c171 => ?_) (fun c171 => ?_)
                    · have e4 : y = 4 := by omega
                      rw [e4] at k2 k3
                      refine gw_aload_n dX12_multiply_208 rfl ?_
                      refine gw_iload dX12_multiply_209 rfl ?_
                      refine gw_lload dX12_multiply_211 rfl ?_
                      refine gw_callV 0 (As := [.int (kx), .long (wx)]) (st := []) (c_mput l cy ad (va_up iv 9 (nI (m))) (va_up ia 10 (kk)) (va_up la 11 (nn)) (m) (kx) (wx) rfl (by omega) (g4)) ok_X12_put rfl rfl rfl wd_948 rfl rfl dX12_multiply_213 (by decide) (by decide) (Nat.le_of_ble_eq_true rfl) (fun r213 w213 hp213 => ?_)
                      obtain ⟨rfl, n213, kk213, nn213, rfl, hT213⟩ := hp213
                      have hT213 : takeS kk213 nn213 0 n213 = sIns (kx) (wx) (takeS (kk) (nn) 0 m) := hT213
                      refine gw_W.wd (w' := (mW cy ad (va_up iv 9 (nI (n213))) (va_up ia 10 (kk213)) (va_up la 11 (nn213)))) rfl ?_
                      have hl213 := put_len hT213
                      have hs213 := put_ord hT213 g4
                      have hR213 : takeS kk213 nn213 0 n213 = sPuts (takeS (ia 10) (la 11) 0 n) (mRows pl tw v (so + 1)) := by rw [hT213, g2, mRows_t c155, sPuts_snoc, k2, k3]
                      refine gw_W.norm (st' := []) (k1 := 0) (k2 := 0) rfl rfl rfl ?_
                      refine gw_aload_n dX12_multiply_216 rfl ?_
                      refine gm_get_made rfl dX12_multiply_217 ?_
                      refine gw_topi (y := nI (n213)) (rfl) ?_
                      refine gw_sipush (v := nI (300)) dX12_multiply_220 (by decide) ?_
                      refine gw_icmpN_le (tgt := 228) dX12_multiply_223 (by decide) (by omega) (by omega) (fun c223 => ?_) (fun c223 => ?_)
                      · refine gw_iinc (v := nI (so + 1)) dX12_multiply_228 rfl (nI_add _ 1) (by decide) rfl ?_
                        refine gw_goto (tgt := 141) dX12_multiply_231 (by decide) ?_
                        refine gw_W.wd (w' := (mW cy ad (va_up iv 9 (nI ((n213)))) (va_up ia 10 (((kk213)))) (va_up la 11 (((nn213)))))) rfl ?_
                        refine gw_W.forget 8 ?_
                        refine gw_W.forget 9 ?_
                        refine gw_W.forget 11 ?_
                        refine ih141 (so + 1) (n213) ((kk213)) ((nn213)) ?_ ?_ ?_ ?_ ?_
                        · omega
                        · first | (rw [mRows_f c155]; exact g2) | exact hR213
                        · first | exact g3 | omega
                        · first | exact g4 | exact hs213
                        · omega
                      · refine gw_iconst (v := nI (0)) dX12_multiply_226 (by decide) ?_
                        refine gw_zret (?_) (by decide) (by decide) rfl (by decide) dX12_multiply_227
                        subst hpost
                        have e9 := mulOk_bad2 (a := a) (b := b) (v := v) (C := (takeS (ia 10) (la 11) 0 n)) (so := so + 1) (by omega) (by rw [← h2, ← h3, ← hR213, takeS_len]; omega)
                        exact ⟨n213, kk213, nn213, rfl, by rw [e9]; rfl, fun h => by rw [e9] at h; cases h⟩
                    · refine gw_iload dX12_multiply_174 rfl ?_
                      refine gw_iload dX12_multiply_176 rfl ?_
                      refine gw_ishr dX12_multiply_178 ?_
                      refine gw_iconst (v := nI (1)) dX12_multiply_179 (by decide) ?_
                      refine gw_iand dX12_multiply_180 ?_
                      refine gw_iconst (v := nI (1)) dX12_multiply_181 (by decide) ?_
                      refine gw_icmp_ne (tgt := 202) dX12_multiply_182 (by decide) (fun c182 => ?_) (fun c182 => ?_)
                      · refine gw_iinc (v := nI (y + 1)) dX12_multiply_202 rfl (nI_add _ 1) (by decide) rfl ?_
                        refine gw_goto (tgt := 168) dX12_multiply_205 (by decide) ?_
                        refine ih168 (kx) (wx) (y + 1) ?_ ?_ ?_ ?_
                        · omega
                        · rw [mRow, ← k2]
                          first
                          | (rw [if_pos c182])
                          | (rw [if_neg c182])
                        · rw [mNum, ← k3]
                          first
                          | (rw [if_pos c182])
                          | (rw [if_neg c182])
                        · omega
                      · refine gw_iload dX12_multiply_185 rfl ?_
                        refine gw_iconst (v := nI (2)) dX12_multiply_187 (by decide) ?_
                        refine gw_iload dX12_multiply_188 rfl ?_
                        refine gw_callS (As := [.int (nI (y))]) (st := [.int (nI (2)), .int (kx)]) (c_moneCosine l cy (nI (y)) (mW cy ad (va_up iv 9 (nI (m))) (va_up ia 10 (kk)) (va_up la 11 (nn)))) ok_X12_oneCosine wd_1015 rfl rfl dX12_multiply_190 (by decide) (by decide) (Nat.le_of_ble_eq_true rfl) (fun r190 w190 hp190 => ?_)
                        obtain ⟨rfl, rfl⟩ := hp190
                        refine gw_W.norm (st' := [.int (mOneC (nI (y))), .int (nI (2)), .int (kx)]) (k1 := 0) (k2 := 0) rfl rfl rfl ?_
                        refine gw_imul dX12_multiply_193 ?_
                        refine gw_iadd dX12_multiply_194 ?_
                        refine gw_istore dX12_multiply_195 (by decide) rfl ?_
                        refine gw_lload dX12_multiply_197 rfl ?_
                        refine gw_lneg dX12_multiply_199 ?_
                        refine gw_lstore dX12_multiply_200 (by decide) rfl ?_
                        refine gw_iinc (v := nI (y + 1)) dX12_multiply_202 rfl (nI_add _ 1) (by decide) rfl ?_
                        refine gw_goto (tgt := 168) dX12_multiply_205 (by decide) ?_
                        refine ih168 ((kx) + ((nI (2)) * (mOneC (nI (y))))) (-(wx)) (y + 1) ?_ ?_ ?_ ?_
                        · omega
                        · rw [mRow, ← k2]
                          first
                          | (rw [if_pos c182])
                          | (rw [if_neg c182])
                        · rw [mNum, ← k3]
                          first
                          | (rw [if_pos c182])
                          | (rw [if_neg c182])
                        · omega
                refine cut168 _ (pl) (v) (0) (Nat.zero_le _) rfl rfl (Nat.lt_succ_self _)
        refine gw_W.wd (w' := mW cy ad (va_up iv 9 (nI (n))) ia la) (by rw [← hn, va_up_id]) ?_
        refine gw_W.wd (w' := (mW cy ad (va_up iv 9 (nI ((n)))) (va_up ia 10 (((ia 10)))) (va_up la 11 (((la 11)))))) rfl ?_
        refine cut141 _ (0) (n) ((ia 10)) ((la 11)) (Nat.zero_le _) rfl hlt hso (Nat.lt_succ_self _)
      · refine gw_iload_n dX12_multiply_15 rfl ?_
        refine gw_iload dX12_multiply_16 rfl ?_
        refine gw_callS (As := [.int (a), .int (nI (x))]) (st := []) (c_mcosine l cy (a) (nI (x)) (mW cy ad iv ia la)) ok_X12_cosine wd_962 rfl rfl dX12_multiply_18 (by decide) (by decide) (Nat.le_of_ble_eq_true rfl) (fun r18 w18 hp18 => ?_)
        obtain ⟨rfl, rfl⟩ := hp18
        refine gw_W.norm (st' := [.int (mCos (a) (nI (x)))]) (k1 := 0) (k2 := 0) rfl rfl rfl ?_
        refine gw_iload_n dX12_multiply_21 rfl ?_
        refine gw_iload dX12_multiply_22 rfl ?_
        refine gw_callS (As := [.int (b), .int (nI (x))]) (st := [.int (mCos (a) (nI (x)))]) (c_mcosine l cy (b) (nI (x)) (mW cy ad iv ia la)) ok_X12_cosine wd_962 rfl rfl dX12_multiply_24 (by decide) (by decide) (Nat.le_of_ble_eq_true rfl) (fun r24 w24 hp24 => ?_)
        obtain ⟨rfl, rfl⟩ := hp24
        refine gw_W.norm (st' := [.int (mCos (b) (nI (x))), .int (mCos (a) (nI (x)))]) (k1 := 0) (k2 := 0) rfl rfl rfl ?_
        refine gw_iadd dX12_multiply_27 ?_
        refine gw_topi (y := mC2 a b x) (rfl) ?_
        refine gw_istore dX12_multiply_28 (by decide) rfl ?_
        refine gw_iload_n dX12_multiply_30 rfl ?_
        refine gw_iload dX12_multiply_31 rfl ?_
        refine gw_callS (As := [.int (a), .int (nI (x))]) (st := []) (c_msine l cy (a) (nI (x)) (mW cy ad iv ia la)) ok_X12_sine wd_1018 rfl rfl dX12_multiply_33 (by decide) (by decide) (Nat.le_of_ble_eq_true rfl) (fun r33 w33 hp33 => ?_)
        obtain ⟨rfl, rfl⟩ := hp33
        refine gw_W.norm (st' := [.int (mSin (a) (nI (x)))]) (k1 := 0) (k2 := 0) rfl rfl rfl ?_
        refine gw_iload_n dX12_multiply_36 rfl ?_
        refine gw_iload dX12_multiply_37 rfl ?_
        refine gw_callS (As := [.int (b), .int (nI (x))]) (st := [.int (mSin (a) (nI (x)))]) (c_msine l cy (b) (nI (x)) (mW cy ad iv ia la)) ok_X12_sine wd_1018 rfl rfl dX12_multiply_39 (by decide) (by decide) (Nat.le_of_ble_eq_true rfl) (fun r39 w39 hp39 => ?_)
        obtain ⟨rfl, rfl⟩ := hp39
        refine gw_W.norm (st' := [.int (mSin (b) (nI (x))), .int (mSin (a) (nI (x)))]) (k1 := 0) (k2 := 0) rfl rfl rfl ?_
        refine gw_iadd dX12_multiply_42 ?_
        refine gw_topi (y := mS2 a b x) (rfl) ?_
        refine gw_iconst (v := nI (2)) dX12_multiply_43 (by decide) ?_
        refine gw_icmp_ne (tgt := 51) dX12_multiply_44 (by decide) (fun c44 => ?_) (fun c44 => ?_)
        · have cb : mBoth a b x = false := decide_eq_false c44
          refine gw_iconst (v := nI (0)) dX12_multiply_51 (by decide) ?_
          refine gw_istore dX12_multiply_52 (by decide) rfl ?_
          refine gw_iload dX12_multiply_54 rfl ?_
          refine gw_iload dX12_multiply_56 rfl ?_
          refine gw_ifN_eq (tgt := 65) dX12_multiply_58 (by decide) (by omega) (fun _ => ?_) (fun h => absurd h (by decide))
          refine gw_iconst (v := nI (0)) dX12_multiply_65 (by decide) ?_
          refine gw_iadd dX12_multiply_66 ?_
          refine gw_topi (y := mC2 a b x + cond (mBoth a b x) (nI 2) (nI 0)) (by rw [cb]; rfl) ?_
          refine gw_bipush (v := nI (12)) dX12_multiply_67 (by decide) ?_
          refine gw_icmp_le (tgt := 74) dX12_multiply_69 (by decide) (fun c69 => ?_) (fun c69 => ?_)
          · refine gw_iload dX12_multiply_74 rfl ?_
            refine gw_iload dX12_multiply_76 rfl ?_
            refine gw_iload dX12_multiply_78 rfl ?_
            refine gw_callS (As := [.int (nI (x))]) (st := [.int (mC2 a b x), .int (pl)]) (c_moneCosine l cy (nI (x)) (mW cy ad iv ia la)) ok_X12_oneCosine wd_1015 rfl rfl dX12_multiply_80 (by decide) (by decide) (Nat.le_of_ble_eq_true rfl) (fun r80 w80 hp80 => ?_)
            obtain ⟨rfl, rfl⟩ := hp80
            refine gw_W.norm (st' := [.int (mOneC (nI (x))), .int (mC2 a b x), .int (pl)]) (k1 := 0) (k2 := 0) rfl rfl rfl ?_
            refine gw_imul dX12_multiply_83 ?_
            refine gw_iload_n dX12_multiply_84 rfl ?_
            refine gw_iload dX12_multiply_85 rfl ?_
            refine gw_callS (As := [.int (a), .int (nI (x))]) (st := [.int ((mC2 a b x) * (mOneC (nI (x)))), .int (pl)]) (c_msine l cy (a) (nI (x)) (mW cy ad iv ia la)) ok_X12_sine wd_1018 rfl rfl dX12_multiply_87 (by decide) (by decide) (Nat.le_of_ble_eq_true rfl) (fun r87 w87 hp87 => ?_)
            obtain ⟨rfl, rfl⟩ := hp87
            refine gw_W.norm (st' := [.int (mSin (a) (nI (x))), .int ((mC2 a b x) * (mOneC (nI (x)))), .int (pl)]) (k1 := 0) (k2 := 0) rfl rfl rfl ?_
            refine gw_iload_n dX12_multiply_90 rfl ?_
            refine gw_iload dX12_multiply_91 rfl ?_
            refine gw_callS (As := [.int (b), .int (nI (x))]) (st := [.int (mSin (a) (nI (x))), .int ((mC2 a b x) * (mOneC (nI (x)))), .int (pl)]) (c_msine l cy (b) (nI (x)) (mW cy ad iv ia la)) ok_X12_sine wd_1018 rfl rfl dX12_multiply_93 (by decide) (by decide) (Nat.le_of_ble_eq_true rfl) (fun r93 w93 hp93 => ?_)
            obtain ⟨rfl, rfl⟩ := hp93
            refine gw_W.norm (st' := [.int (mSin (b) (nI (x))), .int (mSin (a) (nI (x))), .int ((mC2 a b x) * (mOneC (nI (x)))), .int (pl)]) (k1 := 0) (k2 := 0) rfl rfl rfl ?_
            refine gw_iadd dX12_multiply_96 ?_
            refine gw_topi (y := mS2 a b x) (rfl) ?_
            refine gw_iconst (v := nI (1)) dX12_multiply_97 (by decide) ?_
            refine gw_icmp_ne (tgt := 109) dX12_multiply_98 (by decide) (fun c98 => ?_) (fun c98 => ?_)
            · refine gw_iconst (v := nI (0)) dX12_multiply_109 (by decide) ?_
              refine gw_iadd dX12_multiply_110 ?_
              refine gw_iadd dX12_multiply_111 ?_
              refine gw_istore dX12_multiply_112 (by decide) rfl ?_
              refine gw_iload dX12_multiply_114 rfl ?_
              refine gw_iload dX12_multiply_116 rfl ?_
              refine gw_ifN_eq (tgt := 128) dX12_multiply_118 (by decide) (by omega) (fun _ => ?_) (fun h => absurd h (by decide))
              refine gw_iconst (v := nI (0)) dX12_multiply_128 (by decide) ?_
              refine gw_ior dX12_multiply_129 ?_
              refine gw_istore dX12_multiply_130 (by decide) rfl ?_
              refine gw_iinc (v := nI (x + 1)) dX12_multiply_132 rfl (nI_add _ 1) (by decide) rfl ?_
              refine gw_goto (tgt := 9) dX12_multiply_135 (by decide) ?_
              refine gw_W.forget 8 ?_
              refine gw_W.forget 9 ?_
              refine ih9 ((pl) + (((mC2 a b x) * (mOneC (nI (x)))) + (nI (0)))) ((tw) ||| (nI (0))) (x + 1) ?_ ?_ ?_ ?_ ?_
              · omega
              · rw [mPlain, ← h2]
                first
                | (rw [if_pos c98])
                | (rw [if_neg c98])
              · rw [mTwice, ← h3, cb]; rfl
              · intro y hy
                rcases Nat.lt_or_ge y x with g | g
                · exact h4 y g
                · have e2 : y = x := by omega
                  rw [e2]; exact decide_eq_true c69
              · omega
            · refine gw_iload dX12_multiply_101 rfl ?_
              refine gw_callS (As := [.int (nI (x))]) (st := [.int ((mC2 a b x) * (mOneC (nI (x)))), .int (pl)]) (c_moneSine l cy (nI (x)) (mW cy ad iv ia la)) ok_X12_oneSine wd_1021 rfl rfl dX12_multiply_103 (by decide) (by decide) (Nat.le_of_ble_eq_true rfl) (fun r103 w103 hp103 => ?_)
              obtain ⟨rfl, rfl⟩ := hp103
              refine gw_W.norm (st' := [.int (mOneS (nI (x))), .int ((mC2 a b x) * (mOneC (nI (x)))), .int (pl)]) (k1 := 0) (k2 := 0) rfl rfl rfl ?_
              refine gw_goto (tgt := 110) dX12_multiply_106 (by decide) ?_
              refine gw_iadd dX12_multiply_110 ?_
              refine gw_iadd dX12_multiply_111 ?_
              refine gw_istore dX12_multiply_112 (by decide) rfl ?_
              refine gw_iload dX12_multiply_114 rfl ?_
              refine gw_iload dX12_multiply_116 rfl ?_
              refine gw_ifN_eq (tgt := 128) dX12_multiply_118 (by decide) (by omega) (fun _ => ?_) (fun h => absurd h (by decide))
              refine gw_iconst (v := nI (0)) dX12_multiply_128 (by decide) ?_
              refine gw_ior dX12_multiply_129 ?_
              refine gw_istore dX12_multiply_130 (by decide) rfl ?_
              refine gw_iinc (v := nI (x + 1)) dX12_multiply_132 rfl (nI_add _ 1) (by decide) rfl ?_
              refine gw_goto (tgt := 9) dX12_multiply_135 (by decide) ?_
              refine gw_W.forget 8 ?_
              refine gw_W.forget 9 ?_
              refine ih9 ((pl) + (((mC2 a b x) * (mOneC (nI (x)))) + (mOneS (nI (x))))) ((tw) ||| (nI (0))) (x + 1) ?_ ?_ ?_ ?_ ?_
              · omega
              · rw [mPlain, ← h2]
                first
                | (rw [if_pos c98])
                | (rw [if_neg c98])
              · rw [mTwice, ← h3, cb]; rfl
              · intro y hy
                rcases Nat.lt_or_ge y x with g | g
                · exact h4 y g
                · have e2 : y = x := by omega
                  rw [e2]; exact decide_eq_true c69
              · omega
          · refine gw_iconst (v := nI (0)) dX12_multiply_72 (by decide) ?_
            refine gw_zret (?_) (by decide) (by decide) rfl (by decide) dX12_multiply_73
            subst hpost
            have e9 := mulOk_bad1 (v := v) (C := (takeS (ia 10) (la 11) 0 n)) (x := x) (by omega) (decide_eq_false c69)
            exact ⟨n, ia 10, la 11, by rw [← hn, va_up_id, va_up_id, va_up_id], by rw [e9]; rfl, fun h => by rw [e9] at h; cases h⟩
        · have cb : mBoth a b x = true := decide_eq_true c44
          refine gw_iconst (v := nI (1)) dX12_multiply_47 (by decide) ?_
          refine gw_goto (tgt := 52) dX12_multiply_48 (by decide) ?_
          refine gw_istore dX12_multiply_52 (by decide) rfl ?_
          refine gw_iload dX12_multiply_54 rfl ?_
          refine gw_iload dX12_multiply_56 rfl ?_
          refine gw_ifN_eq (tgt := 65) dX12_multiply_58 (by decide) (by omega) (fun h => absurd h (by decide)) (fun _ => ?_)
          refine gw_iconst (v := nI (2)) dX12_multiply_61 (by decide) ?_
          refine gw_goto (tgt := 66) dX12_multiply_62 (by decide) ?_
          refine gw_iadd dX12_multiply_66 ?_
          refine gw_topi (y := mC2 a b x + cond (mBoth a b x) (nI 2) (nI 0)) (by rw [cb]; rfl) ?_
          refine gw_bipush (v := nI (12)) dX12_multiply_67 (by decide) ?_
          refine gw_icmp_le (tgt := 74) dX12_multiply_69 (by decide) (fun c69 => ?_) (fun c69 => ?_)
          · refine gw_iload dX12_multiply_74 rfl ?_
            refine gw_iload dX12_multiply_76 rfl ?_
            refine gw_iload dX12_multiply_78 rfl ?_
            refine gw_callS (As := [.int (nI (x))]) (st := [.int (mC2 a b x), .int (pl)]) (c_moneCosine l cy (nI (x)) (mW cy ad iv ia la)) ok_X12_oneCosine wd_1015 rfl rfl dX12_multiply_80 (by decide) (by decide) (Nat.le_of_ble_eq_true rfl) (fun r80 w80 hp80 => ?_)
            obtain ⟨rfl, rfl⟩ := hp80
            refine gw_W.norm (st' := [.int (mOneC (nI (x))), .int (mC2 a b x), .int (pl)]) (k1 := 0) (k2 := 0) rfl rfl rfl ?_
            refine gw_imul dX12_multiply_83 ?_
            refine gw_iload_n dX12_multiply_84 rfl ?_
            refine gw_iload dX12_multiply_85 rfl ?_
            refine gw_callS (As := [.int (a), .int (nI (x))]) (st := [.int ((mC2 a b x) * (mOneC (nI (x)))), .int (pl)]) (c_msine l cy (a) (nI (x)) (mW cy ad iv ia la)) ok_X12_sine wd_1018 rfl rfl dX12_multiply_87 (by decide) (by decide) (Nat.le_of_ble_eq_true rfl) (fun r87 w87 hp87 => ?_)
            obtain ⟨rfl, rfl⟩ := hp87
            refine gw_W.norm (st' := [.int (mSin (a) (nI (x))), .int ((mC2 a b x) * (mOneC (nI (x)))), .int (pl)]) (k1 := 0) (k2 := 0) rfl rfl rfl ?_
            refine gw_iload_n dX12_multiply_90 rfl ?_
            refine gw_iload dX12_multiply_91 rfl ?_
            refine gw_callS (As := [.int (b), .int (nI (x))]) (st := [.int (mSin (a) (nI (x))), .int ((mC2 a b x) * (mOneC (nI (x)))), .int (pl)]) (c_msine l cy (b) (nI (x)) (mW cy ad iv ia la)) ok_X12_sine wd_1018 rfl rfl dX12_multiply_93 (by decide) (by decide) (Nat.le_of_ble_eq_true rfl) (fun r93 w93 hp93 => ?_)
            obtain ⟨rfl, rfl⟩ := hp93
            refine gw_W.norm (st' := [.int (mSin (b) (nI (x))), .int (mSin (a) (nI (x))), .int ((mC2 a b x) * (mOneC (nI (x)))), .int (pl)]) (k1 := 0) (k2 := 0) rfl rfl rfl ?_
            refine gw_iadd dX12_multiply_96 ?_
            refine gw_topi (y := mS2 a b x) (rfl) ?_
            refine gw_iconst (v := nI (1)) dX12_multiply_97 (by decide) ?_
            refine gw_icmp_ne (tgt := 109) dX12_multiply_98 (by decide) (fun c98 => ?_) (fun c98 => ?_)
            · refine gw_iconst (v := nI (0)) dX12_multiply_109 (by decide) ?_
              refine gw_iadd dX12_multiply_110 ?_
              refine gw_iadd dX12_multiply_111 ?_
              refine gw_istore dX12_multiply_112 (by decide) rfl ?_
              refine gw_iload dX12_multiply_114 rfl ?_
              refine gw_iload dX12_multiply_116 rfl ?_
              refine gw_ifN_eq (tgt := 128) dX12_multiply_118 (by decide) (by omega) (fun h => absurd h (by decide)) (fun _ => ?_)
              refine gw_iconst (v := nI (1)) dX12_multiply_121 (by decide) ?_
              refine gw_iload dX12_multiply_122 rfl ?_
              refine gw_ishl dX12_multiply_124 ?_
              refine gw_goto (tgt := 129) dX12_multiply_125 (by decide) ?_
              refine gw_ior dX12_multiply_129 ?_
              refine gw_istore dX12_multiply_130 (by decide) rfl ?_
              refine gw_iinc (v := nI (x + 1)) dX12_multiply_132 rfl (nI_add _ 1) (by decide) rfl ?_
              refine gw_goto (tgt := 9) dX12_multiply_135 (by decide) ?_
              refine gw_W.forget 8 ?_
              refine gw_W.forget 9 ?_
              refine ih9 ((pl) + (((mC2 a b x) * (mOneC (nI (x)))) + (nI (0)))) ((tw) ||| ((nI (1)) <<< ((nI (x)) &&& 31))) (x + 1) ?_ ?_ ?_ ?_ ?_
              · omega
              · rw [mPlain, ← h2]
                first
                | (rw [if_pos c98])
                | (rw [if_neg c98])
              · rw [mTwice, ← h3, cb]; rfl
              · intro y hy
                rcases Nat.lt_or_ge y x with g | g
                · exact h4 y g
                · have e2 : y = x := by omega
                  rw [e2]; exact decide_eq_true c69
              · omega
            · refine gw_iload dX12_multiply_101 rfl ?_
              refine gw_callS (As := [.int (nI (x))]) (st := [.int ((mC2 a b x) * (mOneC (nI (x)))), .int (pl)]) (c_moneSine l cy (nI (x)) (mW cy ad iv ia la)) ok_X12_oneSine wd_1021 rfl rfl dX12_multiply_103 (by decide) (by decide) (Nat.le_of_ble_eq_true rfl) (fun r103 w103 hp103 => ?_)
              obtain ⟨rfl, rfl⟩ := hp103
              refine gw_W.norm (st' := [.int (mOneS (nI (x))), .int ((mC2 a b x) * (mOneC (nI (x)))), .int (pl)]) (k1 := 0) (k2 := 0) rfl rfl rfl ?_
              refine gw_goto (tgt := 110) dX12_multiply_106 (by decide) ?_
              refine gw_iadd dX12_multiply_110 ?_
              refine gw_iadd dX12_multiply_111 ?_
              refine gw_istore dX12_multiply_112 (by decide) rfl ?_
              refine gw_iload dX12_multiply_114 rfl ?_
              refine gw_iload dX12_multiply_116 rfl ?_
              refine gw_ifN_eq (tgt := 128) dX12_multiply_118 (by decide) (by omega) (fun h => absurd h (by decide)) (fun _ => ?_)
              refine gw_iconst (v := nI (1)) dX12_multiply_121 (by decide) ?_
              refine gw_iload dX12_multiply_122 rfl ?_
              refine gw_ishl dX12_multiply_124 ?_
              refine gw_goto (tgt := 129) dX12_multiply_125 (by decide) ?_
              refine gw_ior dX12_multiply_129 ?_
              refine gw_istore dX12_multiply_130 (by decide) rfl ?_
              refine gw_iinc (v := nI (x + 1)) dX12_multiply_132 rfl (nI_add _ 1) (by decide) rfl ?_
              refine gw_goto (tgt := 9) dX12_multiply_135 (by decide) ?_
              refine gw_W.forget 8 ?_
              refine gw_W.forget 9 ?_
              refine ih9 ((pl) + (((mC2 a b x) * (mOneC (nI (x)))) + (mOneS (nI (x))))) ((tw) ||| ((nI (1)) <<< ((nI (x)) &&& 31))) (x + 1) ?_ ?_ ?_ ?_ ?_
              · omega
              · rw [mPlain, ← h2]
                first
                | (rw [if_pos c98])
                | (rw [if_neg c98])
              · rw [mTwice, ← h3, cb]; rfl
              · intro y hy
                rcases Nat.lt_or_ge y x with g | g
                · exact h4 y g
                · have e2 : y = x := by omega
                  rw [e2]; exact decide_eq_true c69
              · omega
          · refine gw_iconst (v := nI (0)) dX12_multiply_72 (by decide) ?_
            refine gw_zret (?_) (by decide) (by decide) rfl (by decide) dX12_multiply_73
            subst hpost
            have e9 := mulOk_bad1 (v := v) (C := (takeS (ia 10) (la 11) 0 n)) (x := x) (by omega) (decide_eq_false c69)
            exact ⟨n, ia 10, la 11, by rw [← hn, va_up_id, va_up_id, va_up_id], by rw [e9]; rfl, fun h => by rw [e9] at h; cases h⟩
  refine cut9 _ (nI (0)) (nI (0)) (0) (Nat.zero_le _) rfl rfl (fun y h => absurd h (Nat.not_lt_zero _)) (Nat.lt_succ_self _)
