def spSame (σ : aS) (a b : Int32) : Int32 × aS := if inZ a.toInt (-1) 7 = true ∧ inZ b.toInt (-1) 7 = true then (bI (decide (sSm σ (mPl a) = sSm σ (mPl b))), σ) else (-1000001, σ)
theorem take_el {ks : Nat → Int32} {ns : Nat → Int64} {o1 o2 l1 l2 i : Nat} (h : takeS ks ns o1 l1 = takeS ks ns o2 l2) (hi : i < l1) : ks (o1 + i) = ks (o2 + i) ∧ ns (o1 + i) = ns (o2 + i) := by
  have hl : l1 = l2 := by have := congrArg List.length h; rw [takeS_len, takeS_len] at this; exact this
  have h1 := takeS_get (ks := ks) (ns := ns) (off := o1) hi
  rw [h, takeS_get (by omega)] at h1
  cases h1' : (ks (o2 + i), ns (o2 + i)) with
  | mk u v =>
    rw [h1'] at h1
    have h2 := Option.some.inj h1
    exact ⟨(congrArg Prod.fst (h2.symm.trans h1'.symm)), (congrArg Prod.snd (h2.symm.trans h1'.symm))⟩
abbrev kX12_same : gw_K := (yX12_same, cX12_same, 7, { frames := 2, cells := 0, slots := 0, locals := 45 }, (some .int))
theorem ok_X12_same : gw_calV kX12_same 2 := ⟨⟨wd_1047, wd_62, by decide, by decide, by decide +kernel⟩, wd_1045, wd_1046⟩
set_option maxHeartbeats 4000000 in
set_option maxRecDepth 100000 in
theorem t_msame (l : Launch) (cy : Nat → ClassId) (ad : Nat → Nat) (iv : Nat → Int32) (ia : Nat → Nat → Int32) (la : Nat → Nat → Int64) (σ : aS) (hI : mInv σ iv ia la) (a b : Int32) : gw_M l kX12_same cy [.ref (ad 0), .int (a), .int (b)] (mW cy ad iv ia la) (mPost cy ad (spSame σ a b)) := by
  refine gw_M.mk (lv := [some (.ref (ad 0)), some (.int (a)), some (.int (b)), none, none, none, none]) (by decide) (Nat.le_of_ble_eq_true rfl) rfl ?_
  generalize hpost : (mPost cy ad (spSame σ a b) : gw_Q) = post
  obtain ⟨i1, i2, i3, i4, i5, i6, i7, i8⟩ := hI
  refine gw_iload_n dX12_same_0 rfl ?_
  refine gw_callS (As := [.int (a)]) (st := []) (c_misShelf l cy (a) (mW cy ad iv ia la)) ok_X12_isShelf wd_929 rfl rfl dX12_same_1 (by decide) (by decide) (Nat.le_of_ble_eq_true rfl) (fun r1 w1 hp1 => ?_)
  obtain ⟨rfl, rfl⟩ := hp1
  refine gw_W.norm (st' := [.int (bI (inZ (a).toInt (-1) 7))]) (k1 := 0) (k2 := 0) rfl rfl rfl ?_
  refine gw_if_eq (tgt := 14) dX12_same_4 (by decide) (fun c4 => ?_) (fun c4 => ?_)
  · rw [bI_0] at c4
    refine gw_ldc dX12_same_14 wd_903 ?_
    refine gw_iret (?_) (by decide) (by decide) rfl dX12_same_16
    subst hpost
    unfold spSame
    rw [if_neg (fun h => by first | exact absurd h.1 (by rw [c4]; decide) | exact absurd h.2 (by rw [c11]; decide))]
    exact ⟨rfl, iv, ia, la, rfl, i1, i2, i3, i4, i5, i6, i7, i8⟩
  · rw [bI_n0] at c4
    refine gw_iload_n dX12_same_7 rfl ?_
    refine gw_callS (As := [.int (b)]) (st := []) (c_misShelf l cy (b) (mW cy ad iv ia la)) ok_X12_isShelf wd_929 rfl rfl dX12_same_8 (by decide) (by decide) (Nat.le_of_ble_eq_true rfl) (fun r8 w8 hp8 => ?_)
    obtain ⟨rfl, rfl⟩ := hp8
    refine gw_W.norm (st' := [.int (bI (inZ (b).toInt (-1) 7))]) (k1 := 0) (k2 := 0) rfl rfl rfl ?_
    refine gw_if_ne (tgt := 17) dX12_same_11 (by decide) (fun c11 => ?_) (fun c11 => ?_)
    · rw [bI_n0] at c11
      have ha9 := mPl_lt c4
      have hb9 := mPl_lt c11
      obtain ⟨a1, a2, a3, a4⟩ := mI3_take i3 ha9
      obtain ⟨b1, b2, b3, b4⟩ := mI3_take i3 hb9
      have a2 : (sSm σ (mPl a)).length ≤ 300 := a2
      have b2 : (sSm σ (mPl b)).length ≤ 300 := b2
      have a3 : takeS (ia 7) (la 8) (300 * mPl a) (sSm σ (mPl a)).length = sSm σ (mPl a) := a3
      have b3 : takeS (ia 7) (la 8) (300 * mPl b) (sSm σ (mPl b)).length = sSm σ (mPl b) := b3
      refine gw_iload_n dX12_same_17 rfl ?_
      refine gw_callS (As := [.int (a)]) (st := []) (c_mplaceOf l cy (a) (c4) (mW cy ad iv ia la)) ok_X12_placeOf wd_933 rfl rfl dX12_same_18 (by decide) (by decide) (Nat.le_of_ble_eq_true rfl) (fun r18 w18 hp18 => ?_)
      obtain ⟨rfl, rfl⟩ := hp18
      refine gw_W.norm (st' := [.int (nI (mPl (a)))]) (k1 := 0) (k2 := 0) rfl rfl rfl ?_
      refine gw_istore_n dX12_same_21 (by decide) rfl ?_
      refine gw_iload_n dX12_same_22 rfl ?_
      refine gw_callS (As := [.int (b)]) (st := []) (c_mplaceOf l cy (b) (c11) (mW cy ad iv ia la)) ok_X12_placeOf wd_933 rfl rfl dX12_same_23 (by decide) (by decide) (Nat.le_of_ble_eq_true rfl) (fun r23 w23 hp23 => ?_)
      obtain ⟨rfl, rfl⟩ := hp23
      refine gw_W.norm (st' := [.int (nI (mPl (b)))]) (k1 := 0) (k2 := 0) rfl rfl rfl ?_
      refine gw_istore dX12_same_26 (by decide) rfl ?_
      have cut54 : ∀ (fu : Nat) (g : Int32) (i : Nat), (i ≤ (sSm σ (mPl a)).length) → ((g = nI 1 ∧ (sSm σ (mPl a)).length = (sSm σ (mPl b)).length ∧ ∀ j, j < i → (ia 7 (300 * mPl a + j) = ia 7 (300 * mPl b + j) ∧ la 8 (300 * mPl a + j) = la 8 (300 * mPl b + j))) ∨ (g = nI 0 ∧ ¬ sSm σ (mPl a) = sSm σ (mPl b))) → ((sSm σ (mPl a)).length - i) < fu → gw_W l kX12_same cy (gw_R kX12_same post) (mW cy ad iv ia la) 0 0 54 [some (.ref (ad 0)), some (.int (a)), some (.int (b)), some (.int (nI (mPl (a)))), some (.int (nI (mPl (b)))), some (.int (g)), some (.int (nI (i)))] [] := by
        intro fu
        induction fu with
        | zero => intro g i h1 h2 hfu; exact absurd hfu (Nat.not_lt_zero _)
        | succ fu ih54 =>
          intro g i h1 h2 hfu
          refine gw_iload dX12_same_54 rfl ?_
          refine gw_aload_n dX12_same_56 rfl ?_
          refine gm_get_many rfl dX12_same_57 ?_
          refine gw_iload_n dX12_same_60 rfl ?_
          refine gm_ld_many (j := mPl (a)) (rfl) (by omega) dX12_same_61 ?_
          refine gw_topi (y := nI ((sSm σ (mPl a)).length)) (a1) ?_
          refine gw_icmpN_ge (tgt := 144) dX12_same_62 (by decide) (by omega) (by omega) (fun c62 => ?_) (fun c62 => ?_)
          · have e1 : i = (sSm σ (mPl a)).length := by omega
            refine gw_iload dX12_same_144 rfl ?_
            refine gw_if_eq (tgt := 153) dX12_same_146 (by decide) (fun c146 => ?_) (fun c146 => ?_)
            · refine gw_iconst (v := nI (0)) dX12_same_153 (by decide) ?_
              refine gw_iret (?_) (by decide) (by decide) rfl dX12_same_154
              subst hpost
              unfold spSame
              rw [if_pos ⟨c4, c11⟩]
              first
                | exact absurd c67 c146
                | (rcases h2 with h2 | h2
                   · have e9 : sSm σ (mPl a) = sSm σ (mPl b) := by
                       rw [← a3, ← b3, ← h2.2.1]
                       exact takeS_congr (fun j hj => h2.2.2 j (by omega))
                     first
                     | (exact ⟨by rw [decide_eq_true e9]; rfl, iv, ia, la, rfl, i1, i2, i3, i4, i5, i6, i7, i8⟩)
                     | exact absurd (h2.1.symm.trans c146) (by decide)
                   · first
                     | (exact ⟨by rw [decide_eq_false h2.2]; rfl, iv, ia, la, rfl, i1, i2, i3, i4, i5, i6, i7, i8⟩)
                     | exact absurd (h2.1.trans nI_0) c146)
                | (rcases h2 with h2 | h2
                   · exact absurd (h2.1.symm.trans c67) (by decide)
                   · exact ⟨by rw [decide_eq_false h2.2]; rfl, iv, ia, la, rfl, i1, i2, i3, i4, i5, i6, i7, i8⟩)
            · refine gw_iconst (v := nI (1)) dX12_same_149 (by decide) ?_
              refine gw_goto (tgt := 154) dX12_same_150 (by decide) ?_
              refine gw_iret (?_) (by decide) (by decide) rfl dX12_same_154
              subst hpost
              unfold spSame
              rw [if_pos ⟨c4, c11⟩]
              first
                | exact absurd c67 c146
                | (rcases h2 with h2 | h2
                   · have e9 : sSm σ (mPl a) = sSm σ (mPl b) := by
                       rw [← a3, ← b3, ← h2.2.1]
                       exact takeS_congr (fun j hj => h2.2.2 j (by omega))
                     first
                     | (exact ⟨by rw [decide_eq_true e9]; rfl, iv, ia, la, rfl, i1, i2, i3, i4, i5, i6, i7, i8⟩)
                     | exact absurd (h2.1.symm.trans c146) (by decide)
                   · first
                     | (exact ⟨by rw [decide_eq_false h2.2]; rfl, iv, ia, la, rfl, i1, i2, i3, i4, i5, i6, i7, i8⟩)
                     | exact absurd (h2.1.trans nI_0) c146)
                | (rcases h2 with h2 | h2
                   · exact absurd (h2.1.symm.trans c67) (by decide)
                   · exact ⟨by rw [decide_eq_false h2.2]; rfl, iv, ia, la, rfl, i1, i2, i3, i4, i5, i6, i7, i8⟩)
          · refine gw_iload dX12_same_65 rfl ?_
            refine gw_if_eq (tgt := 144) dX12_same_67 (by decide) (fun c67 => ?_) (fun c67 => ?_)
            · refine gw_iload dX12_same_144 rfl ?_
              refine gw_if_eq (tgt := 153) dX12_same_146 (by decide) (fun c146 => ?_) (fun c146 => ?_)
              · refine gw_iconst (v := nI (0)) dX12_same_153 (by decide) ?_
                refine gw_iret (?_) (by decide) (by decide) rfl dX12_same_154
                subst hpost
                unfold spSame
                rw [if_pos ⟨c4, c11⟩]
                first
                  | exact absurd c67 c146
                  | (rcases h2 with h2 | h2
                     · have e9 : sSm σ (mPl a) = sSm σ (mPl b) := by
                         rw [← a3, ← b3, ← h2.2.1]
                         exact takeS_congr (fun j hj => h2.2.2 j (by omega))
                       first
                       | (exact ⟨by rw [decide_eq_true e9]; rfl, iv, ia, la, rfl, i1, i2, i3, i4, i5, i6, i7, i8⟩)
                       | exact absurd (h2.1.symm.trans c146) (by decide)
                     · first
                       | (exact ⟨by rw [decide_eq_false h2.2]; rfl, iv, ia, la, rfl, i1, i2, i3, i4, i5, i6, i7, i8⟩)
                       | exact absurd (h2.1.trans nI_0) c146)
                  | (rcases h2 with h2 | h2
                     · exact absurd (h2.1.symm.trans c67) (by decide)
                     · exact ⟨by rw [decide_eq_false h2.2]; rfl, iv, ia, la, rfl, i1, i2, i3, i4, i5, i6, i7, i8⟩)
              · refine gw_iconst (v := nI (1)) dX12_same_149 (by decide) ?_
                refine gw_goto (tgt := 154) dX12_same_150 (by decide) ?_
                refine gw_iret (?_) (by decide) (by decide) rfl dX12_same_154
                subst hpost
                unfold spSame
                rw [if_pos ⟨c4, c11⟩]
                first
                  | exact absurd c67 c146
                  | (rcases h2 with h2 | h2
                     · have e9 : sSm σ (mPl a) = sSm σ (mPl b) := by
                         rw [← a3, ← b3, ← h2.2.1]
                         exact takeS_congr (fun j hj => h2.2.2 j (by omega))
                       first
                       | (exact ⟨by rw [decide_eq_true e9]; rfl, iv, ia, la, rfl, i1, i2, i3, i4, i5, i6, i7, i8⟩)
                       | exact absurd (h2.1.symm.trans c146) (by decide)
                     · first
                       | (exact ⟨by rw [decide_eq_false h2.2]; rfl, iv, ia, la, rfl, i1, i2, i3, i4, i5, i6, i7, i8⟩)
                       | exact absurd (h2.1.trans nI_0) c146)
                  | (rcases h2 with h2 | h2
                     · exact absurd (h2.1.symm.trans c67) (by decide)
                     · exact ⟨by rw [decide_eq_false h2.2]; rfl, iv, ia, la, rfl, i1, i2, i3, i4, i5, i6, i7, i8⟩)
            · have h3 : (sSm σ (mPl a)).length = (sSm σ (mPl b)).length ∧ ∀ j, j < i → (ia 7 (300 * mPl a + j) = ia 7 (300 * mPl b + j) ∧ la 8 (300 * mPl a + j) = la 8 (300 * mPl b + j)) := by
                rcases h2 with h2 | h2
                · exact h2.2
                · exact absurd (h2.1.trans nI_0) c67
              refine gw_aload_n dX12_same_70 rfl ?_
              refine gm_get_key rfl dX12_same_71 ?_
              refine gw_sipush (v := nI (300)) dX12_same_74 (by decide) ?_
              refine gw_iload_n dX12_same_77 rfl ?_
              refine gw_imulN dX12_same_78 ?_
              refine gw_iload dX12_same_79 rfl ?_
              refine gw_iaddN dX12_same_81 ?_
              refine gm_ld_key (j := (300 * (mPl (a))) + i) (rfl) (by omega) dX12_same_82 ?_
              refine gw_aload_n dX12_same_83 rfl ?_
              refine gm_get_key rfl dX12_same_84 ?_
              refine gw_sipush (v := nI (300)) dX12_same_87 (by decide) ?_
              refine gw_iload dX12_same_90 rfl ?_
              refine gw_imulN dX12_same_92 ?_
              refine gw_iload dX12_same_93 rfl ?_
              refine gw_iaddN dX12_same_95 ?_
              refine gm_ld_key (j := (300 * (mPl (b))) + i) (rfl) (by omega) dX12_same_96 ?_
              refine gw_icmp_ne (tgt := 135) dX12_same_97 (by decide) (fun c97 => ?_) (fun c97 => ?_)
              · refine gw_iconst (v := nI (0)) dX12_same_135 (by decide) ?_
                refine gw_istore dX12_same_136 (by decide) rfl ?_
                refine gw_iinc (v := nI (i + 1)) dX12_same_138 rfl (nI_add _ 1) (by decide) rfl ?_
                refine gw_goto (tgt := 54) dX12_same_141 (by decide) ?_
                refine ih54 (nI (0)) (i + 1) ?_ ?_ ?_
                · omega
                · first
                  | exact Or.inl ⟨rfl, h3.1, lt_s h3.2 ⟨c97, c128⟩⟩
                  | exact Or.inr ⟨rfl, fun e => c128 (take_el (a3.trans (e.trans b3.symm)) (by omega)).2⟩
                  | exact Or.inr ⟨rfl, fun e => c97 (take_el (a3.trans (e.trans b3.symm)) (by omega)).1⟩
                · omega
              · refine gw_aload_n dX12_same_100 rfl ?_
                refine gm_get_number rfl dX12_same_101 ?_
                refine gw_sipush (v := nI (300)) dX12_same_104 (by decide) ?_
                refine gw_iload_n dX12_same_107 rfl ?_
                refine gw_imulN dX12_same_108 ?_
                refine gw_iload dX12_same_109 rfl ?_
                refine gw_iaddN dX12_same_111 ?_
                refine gm_ld_number (j := (300 * (mPl (a))) + i) (rfl) (by omega) dX12_same_112 ?_
                refine gw_aload_n dX12_same_113 rfl ?_
                refine gm_get_number rfl dX12_same_114 ?_
                refine gw_sipush (v := nI (300)) dX12_same_117 (by decide) ?_
                refine gw_iload dX12_same_120 rfl ?_
                refine gw_imulN dX12_same_122 ?_
                refine gw_iload dX12_same_123 rfl ?_
                refine gw_iaddN dX12_same_125 ?_
                refine gm_ld_number (j := (300 * (mPl (b))) + i) (rfl) (by omega) dX12_same_126 ?_
                refine gw_lcmp dX12_same_127 ?_
                refine gw_if_ne (tgt := 135) dX12_same_128 (by decide) (fun c128 => ?_) (fun c128 => ?_)
                · rw [lg_cmp_eq] at c128
                  refine gw_iconst (v := nI (0)) dX12_same_135 (by decide) ?_
                  refine gw_istore dX12_same_136 (by decide) rfl ?_
                  refine gw_iinc (v := nI (i + 1)) dX12_same_138 rfl (nI_add _ 1) (by decide) rfl ?_
                  refine gw_goto (tgt := 54) dX12_same_141 (by decide) ?_
                  refine ih54 (nI (0)) (i + 1) ?_ ?_ ?_
                  · omega
                  · first
                    | exact Or.inl ⟨rfl, h3.1, lt_s h3.2 ⟨c97, c128⟩⟩
                    | exact Or.inr ⟨rfl, fun e => c128 (take_el (a3.trans (e.trans b3.symm)) (by omega)).2⟩
                    | exact Or.inr ⟨rfl, fun e => c97 (take_el (a3.trans (e.trans b3.symm)) (by omega)).1⟩
                  · omega
                · rw [lg_cmp_eq] at c128
                  refine gw_iconst (v := nI (1)) dX12_same_131 (by decide) ?_
                  refine gw_goto (tgt := 136) dX12_same_132 (by decide) ?_
                  refine gw_istore dX12_same_136 (by decide) rfl ?_
                  refine gw_iinc (v := nI (i + 1)) dX12_same_138 rfl (nI_add _ 1) (by decide) rfl ?_
                  refine gw_goto (tgt := 54) dX12_same_141 (by decide) ?_
                  refine ih54 (nI (1)) (i + 1) ?_ ?_ ?_
                  · omega
                  · first
                    | exact Or.inl ⟨rfl, h3.1, lt_s h3.2 ⟨c97, c128⟩⟩
                    | exact Or.inr ⟨rfl, fun e => c128 (take_el (a3.trans (e.trans b3.symm)) (by omega)).2⟩
                    | exact Or.inr ⟨rfl, fun e => c97 (take_el (a3.trans (e.trans b3.symm)) (by omega)).1⟩
                  · omega
      refine gw_aload_n dX12_same_28 rfl ?_
      refine gm_get_many rfl dX12_same_29 ?_
      refine gw_iload_n dX12_same_32 rfl ?_
      refine gm_ld_many (j := mPl (a)) (rfl) (by omega) dX12_same_33 ?_
      refine gw_topi (y := nI ((sSm σ (mPl a)).length)) (a1) ?_
      refine gw_aload_n dX12_same_34 rfl ?_
      refine gm_get_many rfl dX12_same_35 ?_
      refine gw_iload dX12_same_38 rfl ?_
      refine gm_ld_many (j := mPl (b)) (rfl) (by omega) dX12_same_40 ?_
      refine gw_topi (y := nI ((sSm σ (mPl b)).length)) (b1) ?_
      refine gw_icmpN_ne (tgt := 48) dX12_same_41 (by decide) (by omega) (by omega) (fun c41 => ?_) (fun c41 => ?_)
      · refine gw_iconst (v := nI (0)) dX12_same_48 (by decide) ?_
        refine gw_istore dX12_same_49 (by decide) rfl ?_
        refine gw_iconst (v := nI (0)) dX12_same_51 (by decide) ?_
        refine gw_istore dX12_same_52 (by decide) rfl ?_
        refine cut54 _ (nI (0)) (0) (Nat.zero_le _) ?_ (Nat.lt_succ_self _)
        first
          | exact Or.inl ⟨rfl, c41, fun j h => absurd h (Nat.not_lt_zero _)⟩
          | exact Or.inr ⟨rfl, fun e => c41 (by rw [e])⟩
      · refine gw_iconst (v := nI (1)) dX12_same_44 (by decide) ?_
        refine gw_goto (tgt := 49) dX12_same_45 (by decide) ?_
        refine gw_istore dX12_same_49 (by decide) rfl ?_
        refine gw_iconst (v := nI (0)) dX12_same_51 (by decide) ?_
        refine gw_istore dX12_same_52 (by decide) rfl ?_
        refine cut54 _ (nI (1)) (0) (Nat.zero_le _) ?_ (Nat.lt_succ_self _)
        first
          | exact Or.inl ⟨rfl, c41, fun j h => absurd h (Nat.not_lt_zero _)⟩
          | exact Or.inr ⟨rfl, fun e => c41 (by rw [e])⟩
    · rw [bI_0] at c11
      refine gw_ldc dX12_same_14 wd_903 ?_
      refine gw_iret (?_) (by decide) (by decide) rfl dX12_same_16
      subst hpost
      unfold spSame
      rw [if_neg (fun h => by first | exact absurd h.1 (by rw [c4]; decide) | exact absurd h.2 (by rw [c11]; decide))]
      exact ⟨rfl, iv, ia, la, rfl, i1, i2, i3, i4, i5, i6, i7, i8⟩
