def tlP (n g : Nat) (x way : Int32) (q : sT) : List sT := if fitN n g (kn q.1 / 2 ^ 20) = true then [q] else (q.1 + mOneC x, q.2) :: (if mSin q.1 x = 0 then [(tqK g q.1 + mOneS x, (way * sgN n g (kn q.1 / 2 ^ 20)).toInt64 * q.2)] else [(tqK g q.1 - mOneS x, (way * sgN n g (kn q.1 / 2 ^ 20)).toInt64 * q.2), (tqK g q.1 - mOneS x + nI 2 * mOneC x, -((way * sgN n g (kn q.1 / 2 ^ 20)).toInt64 * q.2))])
theorem tlP_a {n g : Nat} {x way : Int32} {q : sT} (h : fitN n g (kn q.1 / 2 ^ 20) = true) : tlP n g x way q = [q] := if_pos h
theorem tlP_b {n g : Nat} {x way : Int32} {q : sT} (h : ¬ fitN n g (kn q.1 / 2 ^ 20) = true) (h2 : mSin q.1 x = 0) : tlP n g x way q = [(q.1 + mOneC x, q.2), (tqK g q.1 + mOneS x, (way * sgN n g (kn q.1 / 2 ^ 20)).toInt64 * q.2)] := by
  rw [tlP, if_neg h, if_pos h2]
theorem tlP_c {n g : Nat} {x way : Int32} {q : sT} (h : ¬ fitN n g (kn q.1 / 2 ^ 20) = true) (h2 : ¬ mSin q.1 x = 0) : tlP n g x way q = [(q.1 + mOneC x, q.2), (tqK g q.1 - mOneS x, (way * sgN n g (kn q.1 / 2 ^ 20)).toInt64 * q.2), (tqK g q.1 - mOneS x + nI 2 * mOneC x, -((way * sgN n g (kn q.1 / 2 ^ 20)).toInt64 * q.2))] := by
  rw [tlP, if_neg h, if_neg h2]
theorem put_len {kk k2 : Nat → Int32} {nn n2 : Nat → Int64} {n m : Nat} {k : Int32} {v : Int64} (h : takeS kk nn 0 n = sIns k v (takeS k2 n2 0 m)) : n ≤ m + 1 := by
  have q1 := congrArg List.length h
  have q2 := sIns_len k v (takeS k2 n2 0 m)
  rw [takeS_len] at q1 q2; omega
theorem put_ord {kk k2 : Nat → Int32} {nn n2 : Nat → Int64} {n m : Nat} {k : Int32} {v : Int64} (h : takeS kk nn 0 n = sIns k v (takeS k2 n2 0 m)) (ho : sOrd (takeS k2 n2 0 m)) : sOrd (takeS kk nn 0 n) := by
  rw [h]; exact sIns_ord ho
theorem flat_snoc (C : List sT) (f : sT → List sT) (ks : Nat → Int32) (ns : Nat → Int64) (off i : Nat) : sPuts C ((takeS ks ns off (i + 1)).flatMap f) = sPuts (sPuts C ((takeS ks ns off i).flatMap f)) (f (ks (off + i), ns (off + i))) := by
  rw [takeS_snoc, List.flatMap_append, sPuts_app]; simp
abbrev kX12_turnLetter : gw_K := (yX12_turnLetter, cX12_turnLetter, 11, { frames := 2, cells := 0, slots := 0, locals := 50 }, (some .boolean))
theorem ok_X12_turnLetter : gw_calV kX12_turnLetter 3 := ⟨⟨wd_1014, wd_62, by decide, by decide, by decide +kernel⟩, wd_1013, wd_44⟩
set_option maxHeartbeats 4000000 in
set_option maxRecDepth 100000 in
theorem c_mturnLetter (l : Launch) (cy : Nat → ClassId) (ad : Nat → Nat) (iv : Nat → Int32) (ia : Nat → Nat → Int32) (la : Nat → Nat → Int64) (n g c : Nat) (hn : iv 0 = nI n) (hn4 : n ≤ 4) (hg : g < 4 ^ n) (hc : ia 6 8 = nI c) (hc3 : c ≤ 300) (hks : ∀ j, j < c → keyOK n (ia 7 (2400 + j))) (x way : Int32) : gw_M l kX12_turnLetter cy [.ref (ad 0), .int (nI (g)), .int (x), .int (way)] (mW cy ad iv ia la) (fun r w' => ∃ sg, qm_kept cy ad (va_up iv 24 sg) ia la (sPuts [] ((takeS (ia 7) (la 8) 2400 c).flatMap (tlP n g x way))) 8 ansB r w') := by
  refine gw_M.mk (lv := [some (.ref (ad 0)), some (.int (nI (g))), some (.int (x)), some (.int (way)), none, none, none, none, none, none, none]) (by decide) (Nat.le_of_ble_eq_true rfl) rfl ?_
  generalize hpost : (fun r w' => ∃ sg, qm_kept cy ad (va_up iv 24 sg) ia la (sPuts [] ((takeS (ia 7) (la 8) 2400 c).flatMap (tlP n g x way))) 8 ansB r w' : gw_Q) = post
  have hg2 : g < 256 := Nat.lt_of_lt_of_le hg (pow4_le hn4)
  refine gw_aload_n dX12_turnLetter_0 rfl ?_
  refine gw_iconst (v := nI (0)) dX12_turnLetter_1 (by decide) ?_
  refine gm_put_made rfl dX12_turnLetter_2 ?_
  refine gw_W.wd (w' := (mW cy ad (va_up iv 9 (nI (0))) ia la)) rfl ?_
  refine gw_iconst (v := nI (0)) dX12_turnLetter_5 (by decide) ?_
  refine gw_istore dX12_turnLetter_6 (by decide) rfl ?_
  have cut8 : ∀ (fu : Nat) (i : Nat) (m : Nat) (sg : Int32) (kk : Nat → Int32) (nn : Nat → Int64), (i ≤ c) → (takeS kk nn 0 m = sPuts [] ((takeS (ia 7) (la 8) 2400 i).flatMap (tlP n g x way))) → (m ≤ 3 * i) → (sOrd (takeS kk nn 0 m)) → (c - i) < fu → gw_W l kX12_turnLetter cy (gw_R kX12_turnLetter post) (mW cy ad (va_up (va_up iv 9 (nI (m))) 24 (sg)) (va_up ia 10 (kk)) (va_up la 11 (nn))) 0 0 8 [some (.ref (ad 0)), some (.int (nI (g))), some (.int (x)), some (.int (way)), some (.int (nI (i))), none, none, none, none, none, none] [] := by
    intro fu
    induction fu with
    | zero => intro i m sg kk nn h1 h2 h3 h4 hfu; exact absurd hfu (Nat.not_lt_zero _)
    | succ fu ih8 =>
      intro i m sg kk nn h1 h2 h3 h4 hfu
      refine gw_iload dX12_turnLetter_8 rfl ?_
      refine gw_aload_n dX12_turnLetter_10 rfl ?_
      refine gm_get_many rfl dX12_turnLetter_11 ?_
      refine gw_bipush (v := nI (8)) dX12_turnLetter_14 (by decide) ?_
      refine gm_ld_many (j := 8) (rfl) (by omega) dX12_turnLetter_16 ?_
      refine gw_topi (y := (ia 6) (8)) rfl ?_
      refine gw_topi (y := nI (c)) (hc) ?_
      refine gw_icmpN_ge (tgt := 181) dX12_turnLetter_17 (by decide) (by omega) (by omega) (fun c17 => ?_) (fun c17 => ?_)
      · have e1 : i = c := by omega
        rw [e1] at h2 h3
        refine gw_aload_n dX12_turnLetter_181 rfl ?_
        refine gw_bipush (v := nI (8)) dX12_turnLetter_182 (by decide) ?_
        refine gw_callV 0 (As := [.int (nI (8))]) (st := []) (c_mkeep l cy ad (va_up (va_up iv 9 (nI (m))) 24 (sg)) (va_up ia 10 (kk)) (va_up la 11 (nn)) (m) (8) (rfl) (by omega) (by decide)) ok_X12_keep rfl rfl rfl wd_956 rfl rfl dX12_turnLetter_184 (by decide) (by decide) (Nat.le_of_ble_eq_true rfl) (fun r184 w184 hp184 => ?_)
        obtain ⟨F184, hF184, rfl, hN184, hS184⟩ := hp184
        cases F184 with
        | none =>
          obtain rfl := hN184 rfl
          refine gw_W.norm (st' := [.int (nI (0))]) (k1 := 0) (k2 := 0) rfl rfl rfl ?_
          refine gw_zret (?_) (by decide) (by decide) rfl (by decide) dX12_turnLetter_187
          subst hpost
          have eC := hF184.trans (congrArg keepS h2)
          first
            | exact ⟨sg, by rw [← eC]; rfl, m, kk, nn, fun _ => rfl, fun S h => by rw [← eC] at h; cases h⟩
            | exact ⟨sg, by rw [← eC]; rfl, m, kk, nn, fun h => (by rw [← eC] at h; cases h), fun S h => (by
                rw [← eC] at h; cases h
                exact ⟨kk184, nn184, rfl, hT184, hO184⟩)⟩
        | some S184 =>
          obtain ⟨kk184, nn184, rfl, hT184, hO184⟩ := hS184 S184 rfl
          refine gw_W.norm (st' := [.int (nI (1))]) (k1 := 0) (k2 := 0) rfl rfl rfl ?_
          refine gw_W.wd (w' := (mW cy ad (va_up (va_up iv 9 (nI (m))) 24 (sg)) (va_up (va_up (va_up ia 6 (upd (ia 6) (8) (nI (S184.length)))) 7 (kk184)) 10 (kk)) (va_up (va_up la 8 (nn184)) 11 (nn)))) rfl ?_
          refine gw_zret (?_) (by decide) (by decide) rfl (by decide) dX12_turnLetter_187
          subst hpost
          have eC := hF184.trans (congrArg keepS h2)
          first
            | exact ⟨sg, by rw [← eC]; rfl, m, kk, nn, fun _ => rfl, fun S h => by rw [← eC] at h; cases h⟩
            | exact ⟨sg, by rw [← eC]; rfl, m, kk, nn, fun h => (by rw [← eC] at h; cases h), fun S h => (by
                rw [← eC] at h; cases h
                exact ⟨kk184, nn184, rfl, hT184, hO184⟩)⟩
      · have hk := hks i (by omega)
        have hp4 := kn_prod_lt hk
        have hpl : kn (ia 7 (2400 + i)) / 2 ^ 20 < 256 := Nat.lt_of_lt_of_le hp4 (pow4_le hn4)
        have hx4 : g ^^^ (kn (ia 7 (2400 + i)) / 2 ^ 20) < 256 := Nat.lt_of_lt_of_le (xor_lt4 hg hp4) (pow4_le hn4)
        refine gw_aload_n dX12_turnLetter_20 rfl ?_
        refine gm_get_key rfl dX12_turnLetter_21 ?_
        refine gw_sipush (v := nI (2400)) dX12_turnLetter_24 (by decide) ?_
        refine gw_iload dX12_turnLetter_27 rfl ?_
        refine gw_iaddN dX12_turnLetter_29 ?_
        refine gm_ld_key (j := 2400 + i) (rfl) (by omega) dX12_turnLetter_30 ?_
        refine gw_topi (y := (ia 7) (2400 + i)) rfl ?_
        refine gw_istore dX12_turnLetter_31 (by decide) rfl ?_
        refine gw_aload_n dX12_turnLetter_33 rfl ?_
        refine gm_get_number rfl dX12_turnLetter_34 ?_
        refine gw_sipush (v := nI (2400)) dX12_turnLetter_37 (by decide) ?_
        refine gw_iload dX12_turnLetter_40 rfl ?_
        refine gw_iaddN dX12_turnLetter_42 ?_
        refine gm_ld_number (j := 2400 + i) (rfl) (by omega) dX12_turnLetter_43 ?_
        refine gw_topl (y := (la 8) (2400 + i)) rfl ?_
        refine gw_lstore dX12_turnLetter_44 (by decide) rfl ?_
        refine gw_aload_n dX12_turnLetter_46 rfl ?_
        refine gw_iload_n dX12_turnLetter_47 rfl ?_
        refine gw_iload dX12_turnLetter_48 rfl ?_
        refine gw_callS (As := [.int ((ia 7) (2400 + i))]) (st := [.int (nI (g)), .ref (ad 0)]) (c_mproductOf l cy ((ia 7) (2400 + i)) (mW cy ad (va_up (va_up iv 9 (nI (m))) 24 (sg)) (va_up ia 10 (kk)) (va_up la 11 (nn)))) ok_X12_productOf wd_992 rfl rfl dX12_turnLetter_50 (by decide) (by decide) (Nat.le_of_ble_eq_true rfl) (fun r50 w50 hp50 => ?_)
        obtain ⟨rfl, rfl⟩ := hp50
        refine gw_W.norm (st' := [.int (mProd ((ia 7) (2400 + i))), .int (nI (g)), .ref (ad 0)]) (k1 := 0) (k2 := 0) rfl rfl rfl ?_
        refine gw_topi (y := nI (kn (ia 7 (2400 + i)) / 2 ^ 20)) (kn_prod hk hn4) ?_
        refine gw_callV 0 (As := [.int (nI (g)), .int (nI (kn (ia 7 (2400 + i)) / 2 ^ 20))]) (st := []) (c_mfits l cy ad (va_up (va_up iv 9 (nI (m))) 24 (sg)) (va_up ia 10 (kk)) (va_up la 11 (nn)) n g (kn (ia 7 (2400 + i)) / 2 ^ 20) hn hn4 hg2 hpl) ok_X12_fits rfl rfl rfl wd_995 rfl rfl dX12_turnLetter_53 (by decide) (by decide) (Nat.le_of_ble_eq_true rfl) (fun r53 w53 hp53 => ?_)
        obtain ⟨rfl, rfl⟩ := hp53
        refine gw_W.norm (st' := [.int (bI (fitN n g (kn (ia 7 (2400 + i)) / 2 ^ 20)))]) (k1 := 0) (k2 := 0) rfl rfl rfl ?_
        refine gw_if_eq (tgt := 70) dX12_turnLetter_56 (by decide) (fun c56 => ?_) (fun c56 => ?_)
        · rw [bI_0] at c56
          refine gw_aload_n dX12_turnLetter_70 rfl ?_
          refine gw_iload dX12_turnLetter_71 rfl ?_
          refine gw_iload_n dX12_turnLetter_73 rfl ?_
          refine gw_callS (As := [.int (x)]) (st := [.int ((ia 7) (2400 + i)), .ref (ad 0)]) (c_moneCosine l cy (x) (mW cy ad (va_up (va_up iv 9 (nI (m))) 24 (sg)) (va_up ia 10 (kk)) (va_up la 11 (nn)))) ok_X12_oneCosine wd_1015 rfl rfl dX12_turnLetter_74 (by decide) (by decide) (Nat.le_of_ble_eq_true rfl) (fun r74 w74 hp74 => ?_)
          obtain ⟨rfl, rfl⟩ := hp74
          refine gw_W.norm (st' := [.int (mOneC (x)), .int ((ia 7) (2400 + i)), .ref (ad 0)]) (k1 := 0) (k2 := 0) rfl rfl rfl ?_
          refine gw_iadd dX12_turnLetter_77 ?_
          refine gw_lload dX12_turnLetter_78 rfl ?_
          refine gw_callV 0 (As := [.int (((ia 7) (2400 + i)) + (mOneC (x))), .long ((la 8) (2400 + i))]) (st := []) (c_mput l cy ad (va_up (va_up iv 9 (nI (m))) 24 (sg)) (va_up ia 10 (kk)) (va_up la 11 (nn)) (m) (((ia 7) (2400 + i)) + (mOneC (x))) ((la 8) (2400 + i)) rfl (by omega) (h4)) ok_X12_put rfl rfl rfl wd_948 rfl rfl dX12_turnLetter_80 (by decide) (by decide) (Nat.le_of_ble_eq_true rfl) (fun r80 w80 hp80 => ?_)
          obtain ⟨rfl, n80, kk80, nn80, rfl, hT80⟩ := hp80
          have hT80 : takeS kk80 nn80 0 n80 = sIns (((ia 7) (2400 + i)) + (mOneC (x))) ((la 8) (2400 + i)) (takeS (kk) (nn) 0 m) := hT80
          refine gw_W.wd (w' := (mW cy ad (va_up (va_up iv 9 (nI (n80))) 24 (sg)) (va_up ia 10 (kk80)) (va_up la 11 (nn80)))) rfl ?_
          have hl80 := put_len hT80
          have hs80 := put_ord hT80 h4
          refine gw_W.norm (st' := []) (k1 := 0) (k2 := 0) rfl rfl rfl ?_
          refine gw_aload_n dX12_turnLetter_83 rfl ?_
          refine gw_iload_n dX12_turnLetter_84 rfl ?_
          refine gw_iload dX12_turnLetter_85 rfl ?_
          refine gw_callS (As := [.int ((ia 7) (2400 + i))]) (st := [.int (nI (g)), .ref (ad 0)]) (c_mproductOf l cy ((ia 7) (2400 + i)) (mW cy ad (va_up (va_up iv 9 (nI (n80))) 24 (sg)) (va_up ia 10 (kk80)) (va_up la 11 (nn80)))) ok_X12_productOf wd_992 rfl rfl dX12_turnLetter_87 (by decide) (by decide) (Nat.le_of_ble_eq_true rfl) (fun r87 w87 hp87 => ?_)
          obtain ⟨rfl, rfl⟩ := hp87
          refine gw_W.norm (st' := [.int (mProd ((ia 7) (2400 + i))), .int (nI (g)), .ref (ad 0)]) (k1 := 0) (k2 := 0) rfl rfl rfl ?_
          refine gw_topi (y := nI (kn (ia 7 (2400 + i)) / 2 ^ 20)) (kn_prod hk hn4) ?_
          refine gw_callV 0 (As := [.int (nI (g)), .int (nI (kn (ia 7 (2400 + i)) / 2 ^ 20))]) (st := []) (c_mwith l cy ad (va_up (va_up iv 9 (nI (n80))) 24 (sg)) (va_up ia 10 (kk80)) (va_up la 11 (nn80)) n g (kn (ia 7 (2400 + i)) / 2 ^ 20) hn hn4 hg hp4 hg2 hpl) ok_X12_with rfl rfl rfl wd_999 rfl rfl dX12_turnLetter_90 (by decide) (by decide) (Nat.le_of_ble_eq_true rfl) (fun r90 w90 hp90 => ?_)
          obtain ⟨rfl, rfl⟩ := hp90
          refine gw_W.wd (w' := (mW cy ad (va_up (va_up iv 9 (nI (n80))) 24 (sgN n g (kn (ia 7 (2400 + i)) / 2 ^ 20))) (va_up ia 10 (kk80)) (va_up la 11 (nn80)))) rfl ?_
          refine gw_W.norm (st' := [.int (nI (g ^^^ (kn (ia 7 (2400 + i)) / 2 ^ 20)))]) (k1 := 0) (k2 := 0) rfl rfl rfl ?_
          refine gw_bipush (v := nI (20)) dX12_turnLetter_93 (by decide) ?_
          refine gw_ishl dX12_turnLetter_95 ?_
          refine gw_iload dX12_turnLetter_96 rfl ?_
          refine gw_ldc dX12_turnLetter_98 wd_1003 ?_
          refine gw_iand dX12_turnLetter_100 ?_
          refine gw_ior dX12_turnLetter_101 ?_
          refine gw_topi (y := tqK g (ia 7 (2400 + i))) (tqK_eq hk hn4 hx4) ?_
          refine gw_istore dX12_turnLetter_102 (by decide) rfl ?_
          refine gw_iload_n dX12_turnLetter_104 rfl ?_
          refine gw_aload_n dX12_turnLetter_105 rfl ?_
          refine gm_get_sign rfl dX12_turnLetter_106 ?_
          refine gw_topi (y := (sgN n g (kn (ia 7 (2400 + i)) / 2 ^ 20))) rfl ?_
          refine gw_imul dX12_turnLetter_109 ?_
          refine gw_i2l dX12_turnLetter_110 rfl ?_
          refine gw_lload dX12_turnLetter_111 rfl ?_
          refine gw_lmul dX12_turnLetter_113 ?_
          refine gw_lstore dX12_turnLetter_114 (by decide) rfl ?_
          refine gw_iload dX12_turnLetter_116 rfl ?_
          refine gw_iload_n dX12_turnLetter_118 rfl ?_
          refine gw_callS (As := [.int ((ia 7) (2400 + i)), .int (x)]) (st := []) (c_msine l cy ((ia 7) (2400 + i)) (x) (mW cy ad (va_up (va_up iv 9 (nI (n80))) 24 (sgN n g (kn (ia 7 (2400 + i)) / 2 ^ 20))) (va_up ia 10 (kk80)) (va_up la 11 (nn80)))) ok_X12_sine wd_1018 rfl rfl dX12_turnLetter_119 (by decide) (by decide) (Nat.le_of_ble_eq_true rfl) (fun r119 w119 hp119 => ?_)
          obtain ⟨rfl, rfl⟩ := hp119
          refine gw_W.norm (st' := [.int (mSin ((ia 7) (2400 + i)) (x))]) (k1 := 0) (k2 := 0) rfl rfl rfl ?_
          refine gw_if_ne (tgt := 141) dX12_turnLetter_122 (by decide) (fun c122 => ?_) (fun c122 => ?_)
          · refine gw_aload_n dX12_turnLetter_141 rfl ?_
            refine gw_iload dX12_turnLetter_142 rfl ?_
            refine gw_iload_n dX12_turnLetter_144 rfl ?_
            refine gw_callS (As := [.int (x)]) (st := [.int (tqK g (ia 7 (2400 + i))), .ref (ad 0)]) (c_moneSine l cy (x) (mW cy ad (va_up (va_up iv 9 (nI (n80))) 24 (sgN n g (kn (ia 7 (2400 + i)) / 2 ^ 20))) (va_up ia 10 (kk80)) (va_up la 11 (nn80)))) ok_X12_oneSine wd_1021 rfl rfl dX12_turnLetter_145 (by decide) (by decide) (Nat.le_of_ble_eq_true rfl) (fun r145 w145 hp145 => ?_)
            obtain ⟨rfl, rfl⟩ := hp145
            refine gw_W.norm (st' := [.int (mOneS (x)), .int (tqK g (ia 7 (2400 + i))), .ref (ad 0)]) (k1 := 0) (k2 := 0) rfl rfl rfl ?_
            refine gw_isub dX12_turnLetter_148 ?_
            refine gw_lload dX12_turnLetter_149 rfl ?_
            refine gw_callV 0 (As := [.int ((tqK g (ia 7 (2400 + i))) - (mOneS (x))), .long ((((way) * ((sgN n g (kn (ia 7 (2400 + i)) / 2 ^ 20)))).toInt64) * ((la 8) (2400 + i)))]) (st := []) (c_mput l cy ad (va_up (va_up iv 9 (nI (n80))) 24 (sgN n g (kn (ia 7 (2400 + i)) / 2 ^ 20))) (va_up ia 10 (kk80)) (va_up la 11 (nn80)) (n80) ((tqK g (ia 7 (2400 + i))) - (mOneS (x))) ((((way) * ((sgN n g (kn (ia 7 (2400 + i)) / 2 ^ 20)))).toInt64) * ((la 8) (2400 + i))) rfl (by omega) (hs80)) ok_X12_put rfl rfl rfl wd_948 rfl rfl dX12_turnLetter_151 (by decide) (by decide) (Nat.le_of_ble_eq_true rfl) (fun r151 w151 hp151 => ?_)
            obtain ⟨rfl, n151, kk151, nn151, rfl, hT151⟩ := hp151
            have hT151 : takeS kk151 nn151 0 n151 = sIns ((tqK g (ia 7 (2400 + i))) - (mOneS (x))) ((((way) * ((sgN n g (kn (ia 7 (2400 + i)) / 2 ^ 20)))).toInt64) * ((la 8) (2400 + i))) (takeS (kk80) (nn80) 0 n80) := hT151
            refine gw_W.wd (w' := (mW cy ad (va_up (va_up iv 9 (nI (n151))) 24 (sgN n g (kn (ia 7 (2400 + i)) / 2 ^ 20))) (va_up ia 10 (kk151)) (va_up la 11 (nn151)))) rfl ?_
            have hl151 := put_len hT151
            have hs151 := put_ord hT151 hs80
            refine gw_W.norm (st' := []) (k1 := 0) (k2 := 0) rfl rfl rfl ?_
            refine gw_aload_n dX12_turnLetter_154 rfl ?_
            refine gw_iload dX12_turnLetter_155 rfl ?_
            refine gw_iload_n dX12_turnLetter_157 rfl ?_
            refine gw_callS (As := [.int (x)]) (st := [.int (tqK g (ia 7 (2400 + i))), .ref (ad 0)]) (c_moneSine l cy (x) (mW cy ad (va_up (va_up iv 9 (nI (n151))) 24 (sgN n g (kn (ia 7 (2400 + i)) / 2 ^ 20))) (va_up ia 10 (kk151)) (va_up la 11 (nn151)))) ok_X12_oneSine wd_1021 rfl rfl dX12_turnLetter_158 (by decide) (by decide) (Nat.le_of_ble_eq_true rfl) (fun r158 w158 hp158 => ?_)
            obtain ⟨rfl, rfl⟩ := hp158
            refine gw_W.norm (st' := [.int (mOneS (x)), .int (tqK g (ia 7 (2400 + i))), .ref (ad 0)]) (k1 := 0) (k2 := 0) rfl rfl rfl ?_
            refine gw_isub dX12_turnLetter_161 ?_
            refine gw_iconst (v := nI (2)) dX12_turnLetter_162 (by decide) ?_
            refine gw_iload_n dX12_turnLetter_163 rfl ?_
            refine gw_callS (As := [.int (x)]) (st := [.int (nI (2)), .int ((tqK g (ia 7 (2400 + i))) - (mOneS (x))), .ref (ad 0)]) (c_moneCosine l cy (x) (mW cy ad (va_up (va_up iv 9 (nI (n151))) 24 (sgN n g (kn (ia 7 (2400 + i)) / 2 ^ 20))) (va_up ia 10 (kk151)) (va_up la 11 (nn151)))) ok_X12_oneCosine wd_1015 rfl rfl dX12_turnLetter_164 (by decide) (by decide) (Nat.le_of_ble_eq_true rfl) (fun r164 w164 hp164 => ?_)
            obtain ⟨rfl, rfl⟩ := hp164
            refine gw_W.norm (st' := [.int (mOneC (x)), .int (nI (2)), .int ((tqK g (ia 7 (2400 + i))) - (mOneS (x))), .ref (ad 0)]) (k1 := 0) (k2 := 0) rfl rfl rfl ?_
            refine gw_imul dX12_turnLetter_167 ?_
            refine gw_iadd dX12_turnLetter_168 ?_
            refine gw_lload dX12_turnLetter_169 rfl ?_
            refine gw_lneg dX12_turnLetter_171 ?_
            refine gw_callV 0 (As := [.int (((tqK g (ia 7 (2400 + i))) - (mOneS (x))) + ((nI (2)) * (mOneC (x)))), .long (-((((way) * ((sgN n g (kn (ia 7 (2400 + i)) / 2 ^ 20)))).toInt64) * ((la 8) (2400 + i))))]) (st := []) (c_mput l cy ad (va_up (va_up iv 9 (nI (n151))) 24 (sgN n g (kn (ia 7 (2400 + i)) / 2 ^ 20))) (va_up ia 10 (kk151)) (va_up la 11 (nn151)) (n151) (((tqK g (ia 7 (2400 + i))) - (mOneS (x))) + ((nI (2)) * (mOneC (x)))) (-((((way) * ((sgN n g (kn (ia 7 (2400 + i)) / 2 ^ 20)))).toInt64) * ((la 8) (2400 + i)))) rfl (by omega) (hs151)) ok_X12_put rfl rfl rfl wd_948 rfl rfl dX12_turnLetter_172 (by decide) (by decide) (Nat.le_of_ble_eq_true rfl) (fun r172 w172 hp172 => ?_)
            obtain ⟨rfl, n172, kk172, nn172, rfl, hT172⟩ := hp172
            have hT172 : takeS kk172 nn172 0 n172 = sIns (((tqK g (ia 7 (2400 + i))) - (mOneS (x))) + ((nI (2)) * (mOneC (x)))) (-((((way) * ((sgN n g (kn (ia 7 (2400 + i)) / 2 ^ 20)))).toInt64) * ((la 8) (2400 + i)))) (takeS (kk151) (nn151) 0 n151) := hT172
            refine gw_W.wd (w' := (mW cy ad (va_up (va_up iv 9 (nI (n172))) 24 (sgN n g (kn (ia 7 (2400 + i)) / 2 ^ 20))) (va_up ia 10 (kk172)) (va_up la 11 (nn172)))) rfl ?_
            have hl172 := put_len hT172
            have hs172 := put_ord hT172 hs151
            refine gw_W.norm (st' := []) (k1 := 0) (k2 := 0) rfl rfl rfl ?_
            refine gw_iinc (v := nI (i + 1)) dX12_turnLetter_175 rfl (nI_add _ 1) (by decide) rfl ?_
            refine gw_goto (tgt := 8) dX12_turnLetter_178 (by decide) ?_
            refine gw_W.wd (w' := (mW cy ad (va_up (va_up iv 9 (nI ((n172)))) 24 (((sgN n g (kn (ia 7 (2400 + i)) / 2 ^ 20))))) (va_up ia 10 (((kk172)))) (va_up la 11 (((nn172)))))) rfl ?_
            refine gw_W.forget 5 ?_
            refine gw_W.forget 6 ?_
            refine gw_W.forget 8 ?_
            refine gw_W.forget 9 ?_
            refine ih8 (i + 1) (n172) ((sgN n g (kn (ia 7 (2400 + i)) / 2 ^ 20))) ((kk172)) ((nn172)) ?_ ?_ ?_ ?_ ?_
            · omega
            · first
              | (rw [flat_snoc, tlP_a (q := (ia 7 (2400 + i), la 8 (2400 + i))) c56, hT64, h2]; rfl)
              | (rw [flat_snoc, tlP_b (q := (ia 7 (2400 + i), la 8 (2400 + i))) (by rw [c56]; decide) c122, hT135, hT80, h2]; rfl)
              | (rw [flat_snoc, tlP_c (q := (ia 7 (2400 + i), la 8 (2400 + i))) (by rw [c56]; decide) c122, hT172, hT151, hT80, h2]; rfl)
            · omega
            · first | exact hs64 | exact hs135 | exact hs172
            · omega
          · refine gw_aload_n dX12_turnLetter_125 rfl ?_
            refine gw_iload dX12_turnLetter_126 rfl ?_
            refine gw_iload_n dX12_turnLetter_128 rfl ?_
            refine gw_callS (As := [.int (x)]) (st := [.int (tqK g (ia 7 (2400 + i))), .ref (ad 0)]) (c_moneSine l cy (x) (mW cy ad (va_up (va_up iv 9 (nI (n80))) 24 (sgN n g (kn (ia 7 (2400 + i)) / 2 ^ 20))) (va_up ia 10 (kk80)) (va_up la 11 (nn80)))) ok_X12_oneSine wd_1021 rfl rfl dX12_turnLetter_129 (by decide) (by decide) (Nat.le_of_ble_eq_true rfl) (fun r129 w129 hp129 => ?_)
            obtain ⟨rfl, rfl⟩ := hp129
            refine gw_W.norm (st' := [.int (mOneS (x)), .int (tqK g (ia 7 (2400 + i))), .ref (ad 0)]) (k1 := 0) (k2 := 0) rfl rfl rfl ?_
            refine gw_iadd dX12_turnLetter_132 ?_
            refine gw_lload dX12_turnLetter_133 rfl ?_
            refine gw_callV 0 (As := [.int ((tqK g (ia 7 (2400 + i))) + (mOneS (x))), .long ((((way) * ((sgN n g (kn (ia 7 (2400 + i)) / 2 ^ 20)))).toInt64) * ((la 8) (2400 + i)))]) (st := []) (c_mput l cy ad (va_up (va_up iv 9 (nI (n80))) 24 (sgN n g (kn (ia 7 (2400 + i)) / 2 ^ 20))) (va_up ia 10 (kk80)) (va_up la 11 (nn80)) (n80) ((tqK g (ia 7 (2400 + i))) + (mOneS (x))) ((((way) * ((sgN n g (kn (ia 7 (2400 + i)) / 2 ^ 20)))).toInt64) * ((la 8) (2400 + i))) rfl (by omega) (hs80)) ok_X12_put rfl rfl rfl wd_948 rfl rfl dX12_turnLetter_135 (by decide) (by decide) (Nat.le_of_ble_eq_true rfl) (fun r135 w135 hp135 => ?_)
            obtain ⟨rfl, n135, kk135, nn135, rfl, hT135⟩ := hp135
            have hT135 : takeS kk135 nn135 0 n135 = sIns ((tqK g (ia 7 (2400 + i))) + (mOneS (x))) ((((way) * ((sgN n g (kn (ia 7 (2400 + i)) / 2 ^ 20)))).toInt64) * ((la 8) (2400 + i))) (takeS (kk80) (nn80) 0 n80) := hT135
            refine gw_W.wd (w' := (mW cy ad (va_up (va_up iv 9 (nI (n135))) 24 (sgN n g (kn (ia 7 (2400 + i)) / 2 ^ 20))) (va_up ia 10 (kk135)) (va_up la 11 (nn135)))) rfl ?_
            have hl135 := put_len hT135
            have hs135 := put_ord hT135 hs80
            refine gw_W.norm (st' := []) (k1 := 0) (k2 := 0) rfl rfl rfl ?_
            refine gw_goto (tgt := 175) dX12_turnLetter_138 (by decide) ?_
            refine gw_iinc (v := nI (i + 1)) dX12_turnLetter_175 rfl (nI_add _ 1) (by decide) rfl ?_
            refine gw_goto (tgt := 8) dX12_turnLetter_178 (by decide) ?_
            refine gw_W.wd (w' := (mW cy ad (va_up (va_up iv 9 (nI ((n135)))) 24 (((sgN n g (kn (ia 7 (2400 + i)) / 2 ^ 20))))) (va_up ia 10 (((kk135)))) (va_up la 11 (((nn135)))))) rfl ?_
            refine gw_W.forget 5 ?_
            refine gw_W.forget 6 ?_
            refine gw_W.forget 8 ?_
            refine gw_W.forget 9 ?_
            refine ih8 (i + 1) (n135) ((sgN n g (kn (ia 7 (2400 + i)) / 2 ^ 20))) ((kk135)) ((nn135)) ?_ ?_ ?_ ?_ ?_
            · omega
            · first
              | (rw [flat_snoc, tlP_a (q := (ia 7 (2400 + i), la 8 (2400 + i))) c56, hT64, h2]; rfl)
              | (rw [flat_snoc, tlP_b (q := (ia 7 (2400 + i), la 8 (2400 + i))) (by rw [c56]; decide) c122, hT135, hT80, h2]; rfl)
              | (rw [flat_snoc, tlP_c (q := (ia 7 (2400 + i), la 8 (2400 + i))) (by rw [c56]; decide) c122, hT172, hT151, hT80, h2]; rfl)
            · omega
            · first | exact hs64 | exact hs135 | exact hs172
            · omega
        · rw [bI_n0] at c56
          refine gw_aload_n dX12_turnLetter_59 rfl ?_
          refine gw_iload dX12_turnLetter_60 rfl ?_
          refine gw_lload dX12_turnLetter_62 rfl ?_
          refine gw_callV 0 (As := [.int ((ia 7) (2400 + i)), .long ((la 8) (2400 + i))]) (st := []) (c_mput l cy ad (va_up (va_up iv 9 (nI (m))) 24 (sg)) (va_up ia 10 (kk)) (va_up la 11 (nn)) (m) ((ia 7) (2400 + i)) ((la 8) (2400 + i)) rfl (by omega) (h4)) ok_X12_put rfl rfl rfl wd_948 rfl rfl dX12_turnLetter_64 (by decide) (by decide) (Nat.le_of_ble_eq_true rfl) (fun r64 w64 hp64 => ?_)
          obtain ⟨rfl, n64, kk64, nn64, rfl, hT64⟩ := hp64
          have hT64 : takeS kk64 nn64 0 n64 = sIns ((ia 7) (2400 + i)) ((la 8) (2400 + i)) (takeS (kk) (nn) 0 m) := hT64
          refine gw_W.wd (w' := (mW cy ad (va_up (va_up iv 9 (nI (n64))) 24 (sg)) (va_up ia 10 (kk64)) (va_up la 11 (nn64)))) rfl ?_
          have hl64 := put_len hT64
          have hs64 := put_ord hT64 h4
          refine gw_W.norm (st' := []) (k1 := 0) (k2 := 0) rfl rfl rfl ?_
          refine gw_goto (tgt := 175) dX12_turnLetter_67 (by decide) ?_
          refine gw_iinc (v := nI (i + 1)) dX12_turnLetter_175 rfl (nI_add _ 1) (by decide) rfl ?_
          refine gw_goto (tgt := 8) dX12_turnLetter_178 (by decide) ?_
          refine gw_W.wd (w' := (mW cy ad (va_up (va_up iv 9 (nI ((n64)))) 24 (((sg)))) (va_up ia 10 (((kk64)))) (va_up la 11 (((nn64)))))) rfl ?_
          refine gw_W.forget 5 ?_
          refine gw_W.forget 6 ?_
          refine ih8 (i + 1) (n64) ((sg)) ((kk64)) ((nn64)) ?_ ?_ ?_ ?_ ?_
          · omega
          · first
            | (rw [flat_snoc, tlP_a (q := (ia 7 (2400 + i), la 8 (2400 + i))) c56, hT64, h2]; rfl)
            | (rw [flat_snoc, tlP_b (q := (ia 7 (2400 + i), la 8 (2400 + i))) (by rw [c56]; decide) c122, hT135, hT80, h2]; rfl)
            | (rw [flat_snoc, tlP_c (q := (ia 7 (2400 + i), la 8 (2400 + i))) (by rw [c56]; decide) c122, hT172, hT151, hT80, h2]; rfl)
          · omega
          · first | exact hs64 | exact hs135 | exact hs172
          · omega
  refine gw_W.wd (w' := (mW cy ad (va_up (va_up iv 9 (nI ((0)))) 24 ((iv 24))) (va_up ia 10 (((ia 10)))) (va_up la 11 (((la 11)))))) rfl ?_
  refine cut8 _ (0) (0) (iv 24) ((ia 10)) ((la 11)) (Nat.zero_le _) rfl (Nat.le_refl _) List.Pairwise.nil (Nat.lt_succ_self _)
