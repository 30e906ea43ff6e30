abbrev kX12_turnQuarter : gw_K := (yX12_turnQuarter, cX12_turnQuarter, 8, { frames := 2, cells := 0, slots := 0, locals := 50 }, none)
theorem ok_X12_turnQuarter : gw_calV kX12_turnQuarter 2 := ⟨⟨wd_991, wd_62, by decide, by decide, by decide +kernel⟩, wd_990, wd_41⟩
set_option maxHeartbeats 4000000 in
set_option maxRecDepth 100000 in
theorem c_mturnQuarter (l : Launch) (cy : Nat → ClassId) (ad : Nat → Nat) (iv : Nat → Int32) (ia : Nat → Nat → Int32) (la : Nat → Nat → Int64) (n g c : Nat) (hn : iv 0 = nI n) (hn4 : n ≤ 4) (hg : g < 4 ^ n) (hc : ia 6 8 = nI c) (hc3 : c ≤ 300) (hks : ∀ j, j < c → keyOK n (ia 7 (2400 + j))) (q : Nat) (hq : q < 4) : gw_M l kX12_turnQuarter cy [.ref (ad 0), .int (nI (g)), .int (nI (q))] (mW cy ad iv ia la) (fun r w' => ∃ sg, qm_kept cy ad (va_up iv 24 sg) ia la (sPuts [] ((takeS (ia 7) (la 8) 2400 c).map (tq n g q))) 8 ansV r w') := by
  refine gw_M.mk (lv := [some (.ref (ad 0)), some (.int (nI (g))), some (.int (nI (q))), none, none, none, none, none]) (by decide) (Nat.le_of_ble_eq_true rfl) rfl ?_
  generalize hpost : (fun r w' => ∃ sg, qm_kept cy ad (va_up iv 24 sg) ia la (sPuts [] ((takeS (ia 7) (la 8) 2400 c).map (tq n g q))) 8 ansV r w' : gw_Q) = post
  have hg2 : g < 256 := Nat.lt_of_lt_of_le hg (pow4_le hn4)
  refine gw_aload_n dX12_turnQuarter_0 rfl ?_
  refine gw_iconst (v := nI (0)) dX12_turnQuarter_1 (by decide) ?_
  refine gm_put_made rfl dX12_turnQuarter_2 ?_
  refine gw_W.wd (w' := (mW cy ad (va_up iv 9 (nI (0))) ia la)) rfl ?_
  refine gw_iconst (v := nI (0)) dX12_turnQuarter_5 (by decide) ?_
  refine gw_istore_n dX12_turnQuarter_6 (by decide) rfl ?_
  have cut7 : ∀ (fu : Nat) (i : Nat) (m : Nat) (sg : Int32) (kk : Nat → Int32) (nn : Nat → Int64), (i ≤ c) → (takeS kk nn 0 m = sPuts [] ((takeS (ia 7) (la 8) 2400 i).map (tq n g q))) → (m ≤ i) → (sOrd (takeS kk nn 0 m)) → (c - i) < fu → gw_W l kX12_turnQuarter cy (gw_R kX12_turnQuarter post) (mW cy ad (va_up (va_up iv 9 (nI (m))) 24 (sg)) (va_up ia 10 (kk)) (va_up la 11 (nn))) 0 0 7 [some (.ref (ad 0)), some (.int (nI (g))), some (.int (nI (q))), some (.int (nI (i))), none, none, none, none] [] := by
    intro fu
    induction fu with
    | zero => intro i m sg kk nn h1 h2 h3 h4 hfu; exact absurd hfu (Nat.not_lt_zero _)
    | succ fu ih7 =>
      intro i m sg kk nn h1 h2 h3 h4 hfu
      refine gw_iload_n dX12_turnQuarter_7 rfl ?_
      refine gw_aload_n dX12_turnQuarter_8 rfl ?_
      refine gm_get_many rfl dX12_turnQuarter_9 ?_
      refine gw_bipush (v := nI (8)) dX12_turnQuarter_12 (by decide) ?_
      refine gm_ld_many (j := 8) (rfl) (by omega) dX12_turnQuarter_14 ?_
      refine gw_topi (y := (ia 6) (8)) rfl ?_
      refine gw_topi (y := nI (c)) (hc) ?_
      refine gw_icmpN_ge (tgt := 145) dX12_turnQuarter_15 (by decide) (by omega) (by omega) (fun c15 => ?_) (fun c15 => ?_)
      · have e1 : i = c := by omega
        rw [e1] at h2 h3
        refine gw_aload_n dX12_turnQuarter_145 rfl ?_
        refine gw_bipush (v := nI (8)) dX12_turnQuarter_146 (by decide) ?_
        refine gw_callV 0 (As := [.int (nI (8))]) (st := []) (c_mkeep l cy ad (va_up (va_up iv 9 (nI (m))) 24 (sg)) (va_up ia 10 (kk)) (va_up la 11 (nn)) (m) (8) (rfl) (by omega) (by decide)) ok_X12_keep rfl rfl rfl wd_956 rfl rfl dX12_turnQuarter_148 (by decide) (by decide) (Nat.le_of_ble_eq_true rfl) (fun r148 w148 hp148 => ?_)
        obtain ⟨F148, hF148, rfl, hN148, hS148⟩ := hp148
        cases F148 with
        | none =>
          obtain rfl := hN148 rfl
          refine gw_W.norm (st' := [.int (nI (0))]) (k1 := 0) (k2 := 0) rfl rfl rfl ?_
          refine gw_istore_n dX12_turnQuarter_151 (by decide) rfl ?_
          refine gw_vret (?_) (by decide) (by decide) rfl dX12_turnQuarter_152
          subst hpost
          have eC := hF148.trans (congrArg keepS h2)
          first
            | exact ⟨sg, rfl, m, kk, nn, fun _ => rfl, fun S h => by rw [← eC] at h; cases h⟩
            | exact ⟨sg, rfl, m, kk, nn, fun h => (by rw [← eC] at h; cases h), fun S h => (by
                rw [← eC] at h; cases h
                exact ⟨kk148, nn148, rfl, hT148, hO148⟩)⟩
        | some S148 =>
          obtain ⟨kk148, nn148, rfl, hT148, hO148⟩ := hS148 S148 rfl
          refine gw_W.norm (st' := [.int (nI (1))]) (k1 := 0) (k2 := 0) rfl rfl rfl ?_
          refine gw_W.wd (w' := (mW cy ad (va_up (va_up iv 9 (nI (m))) 24 (sg)) (va_up (va_up (va_up ia 6 (upd (ia 6) (8) (nI (S148.length)))) 7 (kk148)) 10 (kk)) (va_up (va_up la 8 (nn148)) 11 (nn)))) rfl ?_
          refine gw_istore_n dX12_turnQuarter_151 (by decide) rfl ?_
          refine gw_vret (?_) (by decide) (by decide) rfl dX12_turnQuarter_152
          subst hpost
          have eC := hF148.trans (congrArg keepS h2)
          first
            | exact ⟨sg, rfl, m, kk, nn, fun _ => rfl, fun S h => by rw [← eC] at h; cases h⟩
            | exact ⟨sg, rfl, m, kk, nn, fun h => (by rw [← eC] at h; cases h), fun S h => (by
                rw [← eC] at h; cases h
                exact ⟨kk148, nn148, rfl, hT148, hO148⟩)⟩
      · have hk := hks i (by omega)
        have hp4 := kn_prod_lt hk
        have hpl : kn (ia 7 (2400 + i)) / 2 ^ 20 < 256 := Nat.lt_of_lt_of_le hp4 (pow4_le hn4)
        have hx4 : g ^^^ (kn (ia 7 (2400 + i)) / 2 ^ 20) < 256 := Nat.lt_of_lt_of_le (xor_lt4 hg hp4) (pow4_le hn4)
        refine gw_aload_n dX12_turnQuarter_18 rfl ?_
        refine gm_get_key rfl dX12_turnQuarter_19 ?_
        refine gw_sipush (v := nI (2400)) dX12_turnQuarter_22 (by decide) ?_
        refine gw_iload_n dX12_turnQuarter_25 rfl ?_
        refine gw_iaddN dX12_turnQuarter_26 ?_
        refine gm_ld_key (j := 2400 + i) (rfl) (by omega) dX12_turnQuarter_27 ?_
        refine gw_topi (y := (ia 7) (2400 + i)) rfl ?_
        refine gw_istore dX12_turnQuarter_28 (by decide) rfl ?_
        refine gw_aload_n dX12_turnQuarter_30 rfl ?_
        refine gm_get_number rfl dX12_turnQuarter_31 ?_
        refine gw_sipush (v := nI (2400)) dX12_turnQuarter_34 (by decide) ?_
        refine gw_iload_n dX12_turnQuarter_37 rfl ?_
        refine gw_iaddN dX12_turnQuarter_38 ?_
        refine gm_ld_number (j := 2400 + i) (rfl) (by omega) dX12_turnQuarter_39 ?_
        refine gw_topl (y := (la 8) (2400 + i)) rfl ?_
        refine gw_lstore dX12_turnQuarter_40 (by decide) rfl ?_
        refine gw_aload_n dX12_turnQuarter_42 rfl ?_
        refine gw_iload_n dX12_turnQuarter_43 rfl ?_
        refine gw_iload dX12_turnQuarter_44 rfl ?_
        refine gw_callS (As := [.int ((ia 7) (2400 + i))]) (st := [.int (nI (g)), .ref (ad 0)]) (c_mproductOf l cy ((ia 7) (2400 + i)) (mW cy ad (va_up (va_up iv 9 (nI (m))) 24 (sg)) (va_up ia 10 (kk)) (va_up la 11 (nn)))) ok_X12_productOf wd_992 rfl rfl dX12_turnQuarter_46 (by decide) (by decide) (Nat.le_of_ble_eq_true rfl) (fun r46 w46 hp46 => ?_)
        obtain ⟨rfl, rfl⟩ := hp46
        refine gw_W.norm (st' := [.int (mProd ((ia 7) (2400 + i))), .int (nI (g)), .ref (ad 0)]) (k1 := 0) (k2 := 0) rfl rfl rfl ?_
        refine gw_topi (y := nI (kn (ia 7 (2400 + i)) / 2 ^ 20)) (kn_prod hk hn4) ?_
        refine gw_callV 0 (As := [.int (nI (g)), .int (nI (kn (ia 7 (2400 + i)) / 2 ^ 20))]) (st := []) (c_mfits l cy ad (va_up (va_up iv 9 (nI (m))) 24 (sg)) (va_up ia 10 (kk)) (va_up la 11 (nn)) n g (kn (ia 7 (2400 + i)) / 2 ^ 20) hn hn4 hg2 hpl) ok_X12_fits rfl rfl rfl wd_995 rfl rfl dX12_turnQuarter_49 (by decide) (by decide) (Nat.le_of_ble_eq_true rfl) (fun r49 w49 hp49 => ?_)
        obtain ⟨rfl, rfl⟩ := hp49
        refine gw_W.norm (st' := [.int (bI (fitN n g (kn (ia 7 (2400 + i)) / 2 ^ 20)))]) (k1 := 0) (k2 := 0) rfl rfl rfl ?_
        refine gw_if_ne (tgt := 59) dX12_turnQuarter_52 (by decide) (fun c52 => ?_) (fun c52 => ?_)
        · rw [bI_n0] at c52
          refine gw_aload_n dX12_turnQuarter_59 rfl ?_
          refine gw_iload dX12_turnQuarter_60 rfl ?_
          refine gw_lload dX12_turnQuarter_62 rfl ?_
          refine gw_callV 0 (As := [.int ((ia 7) (2400 + i)), .long ((la 8) (2400 + i))]) (st := []) (c_mput l cy ad (va_up (va_up iv 9 (nI (m))) 24 (sg)) (va_up ia 10 (kk)) (va_up la 11 (nn)) (m) ((ia 7) (2400 + i)) ((la 8) (2400 + i)) rfl (by omega) (h4)) ok_X12_put rfl rfl rfl wd_948 rfl rfl dX12_turnQuarter_64 (by decide) (by decide) (Nat.le_of_ble_eq_true rfl) (fun r64 w64 hp64 => ?_)
          obtain ⟨rfl, n64, kk64, nn64, rfl, hT64⟩ := hp64
          have hT64 : takeS kk64 nn64 0 n64 = sIns ((ia 7) (2400 + i)) ((la 8) (2400 + i)) (takeS (kk) (nn) 0 m) := hT64
          refine gw_W.wd (w' := (mW cy ad (va_up (va_up iv 9 (nI (n64))) 24 (sg)) (va_up ia 10 (kk64)) (va_up la 11 (nn64)))) rfl ?_
          refine gw_W.norm (st' := []) (k1 := 0) (k2 := 0) rfl rfl rfl ?_
          refine gw_goto (tgt := 139) dX12_turnQuarter_67 (by decide) ?_
          refine gw_iinc (v := nI (i + 1)) dX12_turnQuarter_139 rfl (nI_add _ 1) (by decide) rfl ?_
          refine gw_goto (tgt := 7) dX12_turnQuarter_142 (by decide) ?_
          refine gw_W.wd (w' := (mW cy ad (va_up (va_up iv 9 (nI ((n64)))) 24 (((sg)))) (va_up ia 10 (((kk64)))) (va_up la 11 (((nn64)))))) rfl ?_
          refine gw_W.forget 4 ?_
          refine gw_W.forget 5 ?_
          refine ih7 (i + 1) (n64) ((sg)) ((kk64)) ((nn64)) ?_ ?_ ?_ ?_ ?_
          · omega
          · first
            | (rw [hT64, h2, takeS_snoc, List.map_append, List.map_singleton, sPuts_snoc, tq_a (x := (ia 7 (2400 + i), la 8 (2400 + i))) (by first | exact Or.inl c52 | exact Or.inr c56)])
            | (rw [hT81, h2, takeS_snoc, List.map_append, List.map_singleton, sPuts_snoc, tq_b (x := (ia 7 (2400 + i), la 8 (2400 + i))) (by rw [c52]; decide) c56 c72])
            | (rw [hT136, h2, takeS_snoc, List.map_append, List.map_singleton, sPuts_snoc, tq_c (x := (ia 7 (2400 + i), la 8 (2400 + i))) (by rw [c52]; decide) c56 c72 c113])
            | (rw [hT136, h2, takeS_snoc, List.map_append, List.map_singleton, sPuts_snoc, tq_d (x := (ia 7 (2400 + i), la 8 (2400 + i))) (by rw [c52]; decide) c56 c72 c113])
          · first
            | (have q1 := congrArg List.length hT64
               have q2 := sIns_len _ _ _ |> Nat.le_trans (Nat.le_of_eq q1)
               rw [takeS_len, takeS_len] at q2; omega)
            | (have q1 := congrArg List.length hT81
               have q2 := sIns_len _ _ _ |> Nat.le_trans (Nat.le_of_eq q1)
               rw [takeS_len, takeS_len] at q2; omega)
            | (have q1 := congrArg List.length hT136
               have q2 := sIns_len _ _ _ |> Nat.le_trans (Nat.le_of_eq q1)
               rw [takeS_len, takeS_len] at q2; omega)
          · first
            | (rw [hT64]; exact sIns_ord h4)
            | (rw [hT81]; exact sIns_ord h4)
            | (rw [hT136]; exact sIns_ord h4)
          · omega
        · rw [bI_0] at c52
          refine gw_iload_n dX12_turnQuarter_55 rfl ?_
          refine gw_ifN_ne (tgt := 70) dX12_turnQuarter_56 (by decide) (by omega) (fun c56 => ?_) (fun c56 => ?_)
          · refine gw_iload_n dX12_turnQuarter_70 rfl ?_
            refine gw_iconst (v := nI (2)) dX12_turnQuarter_71 (by decide) ?_
            refine gw_icmpN_ne (tgt := 87) dX12_turnQuarter_72 (by decide) (by omega) (by omega) (fun c72 => ?_) (fun c72 => ?_)
            · refine gw_aload_n dX12_turnQuarter_87 rfl ?_
              refine gw_iload_n dX12_turnQuarter_88 rfl ?_
              refine gw_iload dX12_turnQuarter_89 rfl ?_
              refine gw_callS (As := [.int ((ia 7) (2400 + i))]) (st := [.int (nI (g)), .ref (ad 0)]) (c_mproductOf l cy ((ia 7) (2400 + i)) (mW cy ad (va_up (va_up iv 9 (nI (m))) 24 (sg)) (va_up ia 10 (kk)) (va_up la 11 (nn)))) ok_X12_productOf wd_992 rfl rfl dX12_turnQuarter_91 (by decide) (by decide) (Nat.le_of_ble_eq_true rfl) (fun r91 w91 hp91 => ?_)
              obtain ⟨rfl, rfl⟩ := hp91
              refine gw_W.norm (st' := [.int (mProd ((ia 7) (2400 + i))), .int (nI (g)), .ref (ad 0)]) (k1 := 0) (k2 := 0) rfl rfl rfl ?_
              refine gw_topi (y := nI (kn (ia 7 (2400 + i)) / 2 ^ 20)) (kn_prod hk hn4) ?_
              refine gw_callV 0 (As := [.int (nI (g)), .int (nI (kn (ia 7 (2400 + i)) / 2 ^ 20))]) (st := []) (c_mwith l cy ad (va_up (va_up iv 9 (nI (m))) 24 (sg)) (va_up ia 10 (kk)) (va_up la 11 (nn)) n g (kn (ia 7 (2400 + i)) / 2 ^ 20) hn hn4 hg hp4 hg2 hpl) ok_X12_with rfl rfl rfl wd_999 rfl rfl dX12_turnQuarter_94 (by decide) (by decide) (Nat.le_of_ble_eq_true rfl) (fun r94 w94 hp94 => ?_)
              obtain ⟨rfl, rfl⟩ := hp94
              refine gw_W.wd (w' := (mW cy ad (va_up (va_up iv 9 (nI (m))) 24 (sgN n g (kn (ia 7 (2400 + i)) / 2 ^ 20))) (va_up ia 10 (kk)) (va_up la 11 (nn)))) rfl ?_
              refine gw_W.norm (st' := [.int (nI (g ^^^ (kn (ia 7 (2400 + i)) / 2 ^ 20)))]) (k1 := 0) (k2 := 0) rfl rfl rfl ?_
              refine gw_bipush (v := nI (20)) dX12_turnQuarter_97 (by decide) ?_
              refine gw_ishl dX12_turnQuarter_99 ?_
              refine gw_iload dX12_turnQuarter_100 rfl ?_
              refine gw_ldc dX12_turnQuarter_102 wd_1003 ?_
              refine gw_iand dX12_turnQuarter_104 ?_
              refine gw_ior dX12_turnQuarter_105 ?_
              refine gw_topi (y := tqK g (ia 7 (2400 + i))) (tqK_eq hk hn4 hx4) ?_
              refine gw_istore dX12_turnQuarter_106 (by decide) rfl ?_
              refine gw_aload_n dX12_turnQuarter_108 rfl ?_
              refine gw_iload dX12_turnQuarter_109 rfl ?_
              refine gw_iload_n dX12_turnQuarter_111 rfl ?_
              refine gw_iconst (v := nI (1)) dX12_turnQuarter_112 (by decide) ?_
              refine gw_icmpN_ne (tgt := 127) dX12_turnQuarter_113 (by decide) (by omega) (by omega) (fun c113 => ?_) (fun c113 => ?_)
              · refine gw_aload_n dX12_turnQuarter_127 rfl ?_
                refine gm_get_sign rfl dX12_turnQuarter_128 ?_
                refine gw_topi (y := (sgN n g (kn (ia 7 (2400 + i)) / 2 ^ 20))) rfl ?_
                refine gw_ineg dX12_turnQuarter_131 ?_
                refine gw_i2l dX12_turnQuarter_132 rfl ?_
                refine gw_lload dX12_turnQuarter_133 rfl ?_
                refine gw_lmul dX12_turnQuarter_135 ?_
                refine gw_callV 0 (As := [.int (tqK g (ia 7 (2400 + i))), .long (((-((sgN n g (kn (ia 7 (2400 + i)) / 2 ^ 20)))).toInt64) * ((la 8) (2400 + i)))]) (st := []) (c_mput l cy ad (va_up (va_up iv 9 (nI (m))) 24 (sgN n g (kn (ia 7 (2400 + i)) / 2 ^ 20))) (va_up ia 10 (kk)) (va_up la 11 (nn)) (m) (tqK g (ia 7 (2400 + i))) (((-((sgN n g (kn (ia 7 (2400 + i)) / 2 ^ 20)))).toInt64) * ((la 8) (2400 + i))) rfl (by omega) (h4)) ok_X12_put rfl rfl rfl wd_948 rfl rfl dX12_turnQuarter_136 (by decide) (by decide) (Nat.le_of_ble_eq_true rfl) (fun r136 w136 hp136 => ?_)
                obtain ⟨rfl, n136, kk136, nn136, rfl, hT136⟩ := hp136
                have hT136 : takeS kk136 nn136 0 n136 = sIns (tqK g (ia 7 (2400 + i))) (((-((sgN n g (kn (ia 7 (2400 + i)) / 2 ^ 20)))).toInt64) * ((la 8) (2400 + i))) (takeS (kk) (nn) 0 m) := hT136
                refine gw_W.wd (w' := (mW cy ad (va_up (va_up iv 9 (nI (n136))) 24 (sgN n g (kn (ia 7 (2400 + i)) / 2 ^ 20))) (va_up ia 10 (kk136)) (va_up la 11 (nn136)))) rfl ?_
                refine gw_W.norm (st' := []) (k1 := 0) (k2 := 0) rfl rfl rfl ?_
                refine gw_iinc (v := nI (i + 1)) dX12_turnQuarter_139 rfl (nI_add _ 1) (by decide) rfl ?_
                refine gw_goto (tgt := 7) dX12_turnQuarter_142 (by decide) ?_
                refine gw_W.wd (w' := (mW cy ad (va_up (va_up iv 9 (nI ((n136)))) 24 (((sgN n g (kn (ia 7 (2400 + i)) / 2 ^ 20))))) (va_up ia 10 (((kk136)))) (va_up la 11 (((nn136)))))) rfl ?_
                refine gw_W.forget 4 ?_
                refine gw_W.forget 5 ?_
                refine gw_W.forget 7 ?_
                refine ih7 (i + 1) (n136) ((sgN n g (kn (ia 7 (2400 + i)) / 2 ^ 20))) ((kk136)) ((nn136)) ?_ ?_ ?_ ?_ ?_
                · omega
                · first
                  | (rw [hT64, h2, takeS_snoc, List.map_append, List.map_singleton, sPuts_snoc, tq_a (x := (ia 7 (2400 + i), la 8 (2400 + i))) (by first | exact Or.inl c52 | exact Or.inr c56)])
                  | (rw [hT81, h2, takeS_snoc, List.map_append, List.map_singleton, sPuts_snoc, tq_b (x := (ia 7 (2400 + i), la 8 (2400 + i))) (by rw [c52]; decide) c56 c72])
                  | (rw [hT136, h2, takeS_snoc, List.map_append, List.map_singleton, sPuts_snoc, tq_c (x := (ia 7 (2400 + i), la 8 (2400 + i))) (by rw [c52]; decide) c56 c72 c113])
                  | (rw [hT136, h2, takeS_snoc, List.map_append, List.map_singleton, sPuts_snoc, tq_d (x := (ia 7 (2400 + i), la 8 (2400 + i))) (by rw [c52]; decide) c56 c72 c113])
                · first
                  | (have q1 := congrArg List.length hT64
                     have q2 := sIns_len _ _ _ |> Nat.le_trans (Nat.le_of_eq q1)
                     rw [takeS_len, takeS_len] at q2; omega)
                  | (have q1 := congrArg List.length hT81
                     have q2 := sIns_len _ _ _ |> Nat.le_trans (Nat.le_of_eq q1)
                     rw [takeS_len, takeS_len] at q2; omega)
                  | (have q1 := congrArg List.length hT136
                     have q2 := sIns_len _ _ _ |> Nat.le_trans (Nat.le_of_eq q1)
                     rw [takeS_len, takeS_len] at q2; omega)
                · first
                  | (rw [hT64]; exact sIns_ord h4)
                  | (rw [hT81]; exact sIns_ord h4)
                  | (rw [hT136]; exact sIns_ord h4)
                · omega
              · refine gw_aload_n dX12_turnQuarter_116 rfl ?_
                refine gm_get_sign rfl dX12_turnQuarter_117 ?_
                refine gw_topi (y := (sgN n g (kn (ia 7 (2400 + i)) / 2 ^ 20))) rfl ?_
                refine gw_i2l dX12_turnQuarter_120 rfl ?_
                refine gw_lload dX12_turnQuarter_121 rfl ?_
                refine gw_lmul dX12_turnQuarter_123 ?_
                refine gw_goto (tgt := 136) dX12_turnQuarter_124 (by decide) ?_
                refine gw_callV 0 (As := [.int (tqK g (ia 7 (2400 + i))), .long ((((sgN n g (kn (ia 7 (2400 + i)) / 2 ^ 20))).toInt64) * ((la 8) (2400 + i)))]) (st := []) (c_mput l cy ad (va_up (va_up iv 9 (nI (m))) 24 (sgN n g (kn (ia 7 (2400 + i)) / 2 ^ 20))) (va_up ia 10 (kk)) (va_up la 11 (nn)) (m) (tqK g (ia 7 (2400 + i))) ((((sgN n g (kn (ia 7 (2400 + i)) / 2 ^ 20))).toInt64) * ((la 8) (2400 + i))) rfl (by omega) (h4)) ok_X12_put rfl rfl rfl wd_948 rfl rfl dX12_turnQuarter_136 (by decide) (by decide) (Nat.le_of_ble_eq_true rfl) (fun r136 w136 hp136 => ?_)
                obtain ⟨rfl, n136, kk136, nn136, rfl, hT136⟩ := hp136
                have hT136 : takeS kk136 nn136 0 n136 = sIns (tqK g (ia 7 (2400 + i))) ((((sgN n g (kn (ia 7 (2400 + i)) / 2 ^ 20))).toInt64) * ((la 8) (2400 + i))) (takeS (kk) (nn) 0 m) := hT136
                refine gw_W.wd (w' := (mW cy ad (va_up (va_up iv 9 (nI (n136))) 24 (sgN n g (kn (ia 7 (2400 + i)) / 2 ^ 20))) (va_up ia 10 (kk136)) (va_up la 11 (nn136)))) rfl ?_
                refine gw_W.norm (st' := []) (k1 := 0) (k2 := 0) rfl rfl rfl ?_
                refine gw_iinc (v := nI (i + 1)) dX12_turnQuarter_139 rfl (nI_add _ 1) (by decide) rfl ?_
                refine gw_goto (tgt := 7) dX12_turnQuarter_142 (by decide) ?_
                refine gw_W.wd (w' := (mW cy ad (va_up (va_up iv 9 (nI ((n136)))) 24 (((sgN n g (kn (ia 7 (2400 + i)) / 2 ^ 20))))) (va_up ia 10 (((kk136)))) (va_up la 11 (((nn136)))))) rfl ?_
                refine gw_W.forget 4 ?_
                refine gw_W.forget 5 ?_
                refine gw_W.forget 7 ?_
                refine ih7 (i + 1) (n136) ((sgN n g (kn (ia 7 (2400 + i)) / 2 ^ 20))) ((kk136)) ((nn136)) ?_ ?_ ?_ ?_ ?_
                · omega
                · first
                  | (rw [hT64, h2, takeS_snoc, List.map_append, List.map_singleton, sPuts_snoc, tq_a (x := (ia 7 (2400 + i), la 8 (2400 + i))) (by first | exact Or.inl c52 | exact Or.inr c56)])
                  | (rw [hT81, h2, takeS_snoc, List.map_append, List.map_singleton, sPuts_snoc, tq_b (x := (ia 7 (2400 + i), la 8 (2400 + i))) (by rw [c52]; decide) c56 c72])
                  | (rw [hT136, h2, takeS_snoc, List.map_append, List.map_singleton, sPuts_snoc, tq_c (x := (ia 7 (2400 + i), la 8 (2400 + i))) (by rw [c52]; decide) c56 c72 c113])
                  | (rw [hT136, h2, takeS_snoc, List.map_append, List.map_singleton, sPuts_snoc, tq_d (x := (ia 7 (2400 + i), la 8 (2400 + i))) (by rw [c52]; decide) c56 c72 c113])
                · first
                  | (have q1 := congrArg List.length hT64
                     have q2 := sIns_len _ _ _ |> Nat.le_trans (Nat.le_of_eq q1)
                     rw [takeS_len, takeS_len] at q2; omega)
                  | (have q1 := congrArg List.length hT81
                     have q2 := sIns_len _ _ _ |> Nat.le_trans (Nat.le_of_eq q1)
                     rw [takeS_len, takeS_len] at q2; omega)
                  | (have q1 := congrArg List.length hT136
                     have q2 := sIns_len _ _ _ |> Nat.le_trans (Nat.le_of_eq q1)
                     rw [takeS_len, takeS_len] at q2; omega)
                · first
                  | (rw [hT64]; exact sIns_ord h4)
                  | (rw [hT81]; exact sIns_ord h4)
                  | (rw [hT136]; exact sIns_ord h4)
                · omega
            · refine gw_aload_n dX12_turnQuarter_75 rfl ?_
              refine gw_iload dX12_turnQuarter_76 rfl ?_
              refine gw_lload dX12_turnQuarter_78 rfl ?_
              refine gw_lneg dX12_turnQuarter_80 ?_
              refine gw_callV 0 (As := [.int ((ia 7) (2400 + i)), .long (-((la 8) (2400 + i)))]) (st := []) (c_mput l cy ad (va_up (va_up iv 9 (nI (m))) 24 (sg)) (va_up ia 10 (kk)) (va_up la 11 (nn)) (m) ((ia 7) (2400 + i)) (-((la 8) (2400 + i))) rfl (by omega) (h4)) ok_X12_put rfl rfl rfl wd_948 rfl rfl dX12_turnQuarter_81 (by decide) (by decide) (Nat.le_of_ble_eq_true rfl) (fun r81 w81 hp81 => ?_)
              obtain ⟨rfl, n81, kk81, nn81, rfl, hT81⟩ := hp81
              have hT81 : takeS kk81 nn81 0 n81 = sIns ((ia 7) (2400 + i)) (-((la 8) (2400 + i))) (takeS (kk) (nn) 0 m) := hT81
              refine gw_W.wd (w' := (mW cy ad (va_up (va_up iv 9 (nI (n81))) 24 (sg)) (va_up ia 10 (kk81)) (va_up la 11 (nn81)))) rfl ?_
              refine gw_W.norm (st' := []) (k1 := 0) (k2 := 0) rfl rfl rfl ?_
              refine gw_goto (tgt := 139) dX12_turnQuarter_84 (by decide) ?_
              refine gw_iinc (v := nI (i + 1)) dX12_turnQuarter_139 rfl (nI_add _ 1) (by decide) rfl ?_
              refine gw_goto (tgt := 7) dX12_turnQuarter_142 (by decide) ?_
              refine gw_W.wd (w' := (mW cy ad (va_up (va_up iv 9 (nI ((n81)))) 24 (((sg)))) (va_up ia 10 (((kk81)))) (va_up la 11 (((nn81)))))) rfl ?_
              refine gw_W.forget 4 ?_
              refine gw_W.forget 5 ?_
              refine ih7 (i + 1) (n81) ((sg)) ((kk81)) ((nn81)) ?_ ?_ ?_ ?_ ?_
              · omega
              · first
                | (rw [hT64, h2, takeS_snoc, List.map_append, List.map_singleton, sPuts_snoc, tq_a (x := (ia 7 (2400 + i), la 8 (2400 + i))) (by first | exact Or.inl c52 | exact Or.inr c56)])
                | (rw [hT81, h2, takeS_snoc, List.map_append, List.map_singleton, sPuts_snoc, tq_b (x := (ia 7 (2400 + i), la 8 (2400 + i))) (by rw [c52]; decide) c56 c72])
                | (rw [hT136, h2, takeS_snoc, List.map_append, List.map_singleton, sPuts_snoc, tq_c (x := (ia 7 (2400 + i), la 8 (2400 + i))) (by rw [c52]; decide) c56 c72 c113])
                | (rw [hT136, h2, takeS_snoc, List.map_append, List.map_singleton, sPuts_snoc, tq_d (x := (ia 7 (2400 + i), la 8 (2400 + i))) (by rw [c52]; decide) c56 c72 c113])
              · first
                | (have q1 := congrArg List.length hT64
                   have q2 := sIns_len _ _ _ |> Nat.le_trans (Nat.le_of_eq q1)
                   rw [takeS_len, takeS_len] at q2; omega)
                | (have q1 := congrArg List.length hT81
                   have q2 := sIns_len _ _ _ |> Nat.le_trans (Nat.le_of_eq q1)
                   rw [takeS_len, takeS_len] at q2; omega)
                | (have q1 := congrArg List.length hT136
                   have q2 := sIns_len _ _ _ |> Nat.le_trans (Nat.le_of_eq q1)
                   rw [takeS_len, takeS_len] at q2; omega)
              · first
                | (rw [hT64]; exact sIns_ord h4)
                | (rw [hT81]; exact sIns_ord h4)
                | (rw [hT136]; exact sIns_ord h4)
              · omega
          · refine gw_aload_n dX12_turnQuarter_59 rfl ?_
            refine gw_iload dX12_turnQuarter_60 rfl ?_
            refine gw_lload dX12_turnQuarter_62 rfl ?_
            refine gw_callV 0 (As := [.int ((ia 7) (2400 + i)), .long ((la 8) (2400 + i))]) (st := []) (c_mput l cy ad (va_up (va_up iv 9 (nI (m))) 24 (sg)) (va_up ia 10 (kk)) (va_up la 11 (nn)) (m) ((ia 7) (2400 + i)) ((la 8) (2400 + i)) rfl (by omega) (h4)) ok_X12_put rfl rfl rfl wd_948 rfl rfl dX12_turnQuarter_64 (by decide) (by decide) (Nat.le_of_ble_eq_true rfl) (fun r64 w64 hp64 => ?_)
            obtain ⟨rfl, n64, kk64, nn64, rfl, hT64⟩ := hp64
            have hT64 : takeS kk64 nn64 0 n64 = sIns ((ia 7) (2400 + i)) ((la 8) (2400 + i)) (takeS (kk) (nn) 0 m) := hT64
            refine gw_W.wd (w' := (mW cy ad (va_up (va_up iv 9 (nI (n64))) 24 (sg)) (va_up ia 10 (kk64)) (va_up la 11 (nn64)))) rfl ?_
            refine gw_W.norm (st' := []) (k1 := 0) (k2 := 0) rfl rfl rfl ?_
            refine gw_goto (tgt := 139) dX12_turnQuarter_67 (by decide) ?_
            refine gw_iinc (v := nI (i + 1)) dX12_turnQuarter_139 rfl (nI_add _ 1) (by decide) rfl ?_
            refine gw_goto (tgt := 7) dX12_turnQuarter_142 (by decide) ?_
            refine gw_W.wd (w' := (mW cy ad (va_up (va_up iv 9 (nI ((n64)))) 24 (((sg)))) (va_up ia 10 (((kk64)))) (va_up la 11 (((nn64)))))) rfl ?_
            refine gw_W.forget 4 ?_
            refine gw_W.forget 5 ?_
            refine ih7 (i + 1) (n64) ((sg)) ((kk64)) ((nn64)) ?_ ?_ ?_ ?_ ?_
            · omega
            · first
              | (rw [hT64, h2, takeS_snoc, List.map_append, List.map_singleton, sPuts_snoc, tq_a (x := (ia 7 (2400 + i), la 8 (2400 + i))) (by first | exact Or.inl c52 | exact Or.inr c56)])
              | (rw [hT81, h2, takeS_snoc, List.map_append, List.map_singleton, sPuts_snoc, tq_b (x := (ia 7 (2400 + i), la 8 (2400 + i))) (by rw [c52]; decide) c56 c72])
              | (rw [hT136, h2, takeS_snoc, List.map_append, List.map_singleton, sPuts_snoc, tq_c (x := (ia 7 (2400 + i), la 8 (2400 + i))) (by rw [c52]; decide) c56 c72 c113])
              | (rw [hT136, h2, takeS_snoc, List.map_append, List.map_singleton, sPuts_snoc, tq_d (x := (ia 7 (2400 + i), la 8 (2400 + i))) (by rw [c52]; decide) c56 c72 c113])
            · first
              | (have q1 := congrArg List.length hT64
                 have q2 := sIns_len _ _ _ |> Nat.le_trans (Nat.le_of_eq q1)
                 rw [takeS_len, takeS_len] at q2; omega)
              | (have q1 := congrArg List.length hT81
                 have q2 := sIns_len _ _ _ |> Nat.le_trans (Nat.le_of_eq q1)
                 rw [takeS_len, takeS_len] at q2; omega)
              | (have q1 := congrArg List.length hT136
                 have q2 := sIns_len _ _ _ |> Nat.le_trans (Nat.le_of_eq q1)
                 rw [takeS_len, takeS_len] at q2; omega)
            · first
              | (rw [hT64]; exact sIns_ord h4)
              | (rw [hT81]; exact sIns_ord h4)
              | (rw [hT136]; exact sIns_ord h4)
            · omega
  refine gw_W.wd (w' := (mW cy ad (va_up (va_up iv 9 (nI ((0)))) 24 ((iv 24))) (va_up ia 10 (((ia 10)))) (va_up la 11 (((la 11)))))) rfl ?_
  refine cut7 _ (0) (0) (iv 24) ((ia 10)) ((la 11)) (Nat.zero_le _) rfl (Nat.le_refl _) List.Pairwise.nil (Nat.lt_succ_self _)
