/-! copy, count: against the state -/
theorem tbP_open2 {cy : Nat → ClassId} {ta : Nat → Nat} {tb : Nat → aT} {w : va_W} (h : tbP cy ta tb w) {i j : Nat} (hi : i < 8) (hj : j < 8) (hne : ¬ j = i) : ∃ (ms la sz : Int32) (it : Nat → Int32) (mt lt zt : Int32) (jt : Nat → Int32) (R : va_W), w.Perm ((tW2 cy (ta (2 * i)) (ta (2 * i + 1)) mt lt zt jt ++ tW2 cy (ta (2 * j)) (ta (2 * j + 1)) ms la sz it) ++ R) ∧ tabR (tb j) ms la sz it ∧ tabR (tb i) mt lt zt jt ∧ ∀ (T : aT) (mt' lt' zt' : Int32) (jt' : Nat → Int32) (w' : va_W), tabR T mt' lt' zt' jt' → w'.Perm ((tW2 cy (ta (2 * i)) (ta (2 * i + 1)) mt' lt' zt' jt' ++ tW2 cy (ta (2 * j)) (ta (2 * j + 1)) ms la sz it) ++ R) → tbP cy ta (va_up tb i T) w' := by
  obtain ⟨tm, tl, tz, ti, hw, hc⟩ := h
  obtain ⟨R, g1, g2⟩ := fam_out2 (tF cy ta tm tl tz ti) hi hj hne
  refine ⟨tm j, tl j, tz j, ti j, tm i, tl i, tz i, ti i, R, ?_, hc j hj, hc i hi, fun T mt' lt' zt' jt' w' h1 hp => ?_⟩
  · rw [List.append_assoc]; exact hw.trans g1
  · refine ⟨va_up tm i mt', va_up tl i lt', va_up tz i zt', va_up ti i jt', ?_, fun k hk => ?_⟩
    · have := g2 (tF cy ta (va_up tm i mt') (va_up tl i lt') (va_up tz i zt') (va_up ti i jt')) (fun k hk => by unfold tF; rw [va_up_ne _ _ hk, va_up_ne _ _ hk, va_up_ne _ _ hk, va_up_ne _ _ hk])
      rw [tF, va_up_self, va_up_self, va_up_self, va_up_self] at this
      rw [List.append_assoc] at hp
      exact hp.trans this.symm
    · by_cases e : k = i
      · subst e; rw [va_up_self, va_up_self, va_up_self, va_up_self, va_up_self]; exact h1
      · rw [va_up_ne _ _ e, va_up_ne _ _ e, va_up_ne _ _ e, va_up_ne _ _ e, va_up_ne _ _ e]; exact hc k hk
theorem cp_row {f g : Nat → Int32} {A B : List Int32} {i j n : Nat} (hf : ∀ k, k < A.length → f k = A.getD k 0) (hg : ∀ k, k < B.length → g k = B.getD k 0) (h1 : i + n ≤ A.length) : ∀ k, k < (cpI A B i j n).length → va_cpy f g i j n k = (cpI A B i j n).getD k 0 := by
  intro k hk
  rw [cpI_len] at hk
  rw [cpI_get hk]
  unfold va_cpy
  by_cases c : j ≤ k ∧ k < j + n
  · rw [if_pos c, if_pos c]; exact hf _ (by omega)
  · rw [if_neg c, if_neg c]; exact hg k hk
theorem tb_memG {cy : Nat → ClassId} {ta : Nat → Nat} {tbf : Nat → aT} {tb : va_W} (h : tbP cy ta tbf tb) {i : Nat} (hi : i < 8) : ∃ (ms la sz : Int32) (it : Nat → Int32), (ta (2 * i), .inr (8, [.ref (ta (2 * i + 1)), .int ms, .int la, .int sz])) ∈ tb ∧ tabR (tbf i) ms la sz it := by
  obtain ⟨ms, la, sz, it, R, o1, o2, -⟩ := tbP_open h hi
  exact ⟨ms, la, sz, it, o1.mem_iff.mpr (List.mem_append_left _ (List.mem_cons_self ..)), o2⟩
theorem cs_sum {σ : aS} {cs : Nat → List sT} (h : csS σ cs) : smN cs 9 = smN (sSm σ) 9 := by
  have h0 := (h 0 (by decide)).1; have h1 := (h 1 (by decide)).1; have h2 := (h 2 (by decide)).1; have h3 := (h 3 (by decide)).1; have h4 := (h 4 (by decide)).1; have h5 := (h 5 (by decide)).1; have h6 := (h 6 (by decide)).1; have h7 := (h 7 (by decide)).1; have h8 := (h 8 (by decide)).1
  have h0 : cs 1 = sSm σ 0 := h0
  have h1 : cs 2 = sSm σ 1 := h1
  have h2 : cs 3 = sSm σ 2 := h2
  have h3 : cs 4 = sSm σ 3 := h3
  have h4 : cs 5 = sSm σ 4 := h4
  have h5 : cs 6 = sSm σ 5 := h5
  have h6 : cs 7 = sSm σ 6 := h6
  have h7 : cs 8 = sSm σ 7 := h7
  have h8 : cs 0 = sSm σ 8 := h8
  show ((((((((0 + (cs 0).length) + (cs 1).length) + (cs 2).length) + (cs 3).length) + (cs 4).length) + (cs 5).length) + (cs 6).length) + (cs 7).length) + (cs 8).length = ((((((((0 + (sSm σ 0).length) + (sSm σ 1).length) + (sSm σ 2).length) + (sSm σ 3).length) + (sSm σ 4).length) + (sSm σ 5).length) + (sSm σ 6).length) + (sSm σ 7).length) + (sSm σ 8).length
  rw [h0, h1, h2, h3, h4, h5, h6, h7, h8]; omega
abbrev kX11_presentTables : gw_K := (yX11_presentTables, cX11_presentTables, 3, { frames := 0, cells := 0, slots := 0, locals := 0 }, (some .int))
theorem ok_X11_presentTables : gw_calV kX11_presentTables 0 := ⟨⟨wd_787, wd_57, by decide, by decide, by decide +kernel⟩, wd_786, wd_30⟩
set_option maxHeartbeats 4000000 in
set_option maxRecDepth 100000 in
theorem c_bpres (l : Launch) (cy : Nat → ClassId) (ad sa ta : Nat → Nat) (n ln bb : Nat) (nx sd lb lf : Int32) (lo : Option Nat) (pg : Nat → Option Nat) (bo : Nat → Int32) (xs tb op : va_W) (tbf : Nat → aT) (htb : tbP cy ta tbf tb) : gw_M l kX11_presentTables cy [.ref (ad 0)] (bW cy ad sa ta n ln bb nx sd lb lf lo pg bo ++ (xs ++ (tb ++ op))) (fun r w' => r = some (.int (nI (tbN tbf 8))) ∧ w' = bW cy ad sa ta n ln bb nx sd lb lf lo pg bo ++ (xs ++ (tb ++ op))) := by
  refine gw_M.mk (lv := [some (.ref (ad 0)), none, none]) (by decide) (Nat.le_of_ble_eq_true rfl) rfl ?_
  generalize hpost : (fun r w' => r = some (.int (nI (tbN tbf 8))) ∧ w' = bW cy ad sa ta n ln bb nx sd lb lf lo pg bo ++ (xs ++ (tb ++ op)) : gw_Q) = post
  refine gw_W.wd (w' := ([(ad 0, .inr (9, [.int (nI (n)), .ref (ad 1), .ref (ad 2), .ref (sa (3 * 0)), .ref (ad 4), .ref (ad 5), .ref (ad 6), .int (nI (ln)), va_rf (lo), .int (nx), .int (sd), .int (lb), .ref (ad 12), .int (nI (bb)), .int (lf)])), (ad 1, .inl (cy 3, 9, .inr (.inr (.inr (.inr (fun i => some (sa (3 * i)))))))), (ad 2, .inl (cy 3, 9, .inr (.inr (.inr (.inr (fun i => some (sa (3 * (9 + i))))))))), (ad 5, .inl (cy 4, 8, .inr (.inr (.inr (.inr (fun i => some (ta (2 * i)))))))), (ad 6, .inl (cy 2, 40, .inr (.inr (.inr (.inr (pg)))))), (ad 12, .inl (cy 0, 16, .inl (bo)))] ++ (xs ++ (tb ++ op)))) rfl ?_
  refine gw_iconst (v := nI (0)) dX11_presentTables_0 (by decide) ?_
  refine gw_istore_n dX11_presentTables_1 (by decide) rfl ?_
  refine gw_iconst (v := nI (0)) dX11_presentTables_2 (by decide) ?_
  refine gw_istore_n dX11_presentTables_3 (by decide) rfl ?_
  have cut4 : ∀ (fu : Nat) (i : Nat), (i ≤ 8) → (8 - i) < fu → gw_W l kX11_presentTables cy (gw_R kX11_presentTables post) ([(ad 0, .inr (9, [.int (nI (n)), .ref (ad 1), .ref (ad 2), .ref (sa (3 * 0)), .ref (ad 4), .ref (ad 5), .ref (ad 6), .int (nI (ln)), va_rf (lo), .int (nx), .int (sd), .int (lb), .ref (ad 12), .int (nI (bb)), .int (lf)])), (ad 1, .inl (cy 3, 9, .inr (.inr (.inr (.inr (fun i => some (sa (3 * i)))))))), (ad 2, .inl (cy 3, 9, .inr (.inr (.inr (.inr (fun i => some (sa (3 * (9 + i))))))))), (ad 5, .inl (cy 4, 8, .inr (.inr (.inr (.inr (fun i => some (ta (2 * i)))))))), (ad 6, .inl (cy 2, 40, .inr (.inr (.inr (.inr (pg)))))), (ad 12, .inl (cy 0, 16, .inl (bo)))] ++ (xs ++ (tb ++ op))) 0 0 4 [some (.ref (ad 0)), some (.int (nI (tbN tbf i))), some (.int (nI (i)))] [] := by
    intro fu
    induction fu with
    | zero => intro i h1 hfu; exact absurd hfu (Nat.not_lt_zero _)
    | succ fu ih4 =>
      intro i h1 hfu
      refine gw_iload_n dX11_presentTables_4 rfl ?_
      refine gw_bipush (v := nI (8)) dX11_presentTables_5 (by decide) ?_
      refine gw_icmpN_ge (tgt := 31) dX11_presentTables_7 (by decide) (by omega) (by omega) (fun c7 => ?_) (fun c7 => ?_)
      · obtain rfl : i = 8 := by omega
        refine gw_iload_n dX11_presentTables_31 rfl ?_
        refine gw_iret (?_) (by decide) (by decide) rfl dX11_presentTables_32
        subst hpost
        exact ⟨rfl, rfl⟩
      · obtain ⟨ms, la, sz, it, hm, hR⟩ := tb_memG htb (i := i) (by omega)
        refine gw_aload_n dX11_presentTables_10 rfl ?_
        refine gw_get (C0 := RX11) (T := TX11) (N := 15) (ref := RX11) 0 rfl rfl inX11 5 (by decide) wd_180 (Or.inl rfl) rfl dX11_presentTables_11 ?_
        refine gw_iload_n dX11_presentTables_14 rfl ?_
        refine gw_aald4 3 rfl (rfl) (by omega) (by decide) dX11_presentTables_15 ?_
        refine gw_W.rst (st' := [.ref (ta (2 * i))]) (rfl) ?_
        refine gw_getMN (C0 := RX10) (T := TX10) (N := 4) (ref := RX10) (List.mem_append_right _ (List.mem_append_right _ (List.mem_append_left _ hm))) rfl inX10 1 (by decide) (host := "SpinBench") (by decide +kernel) (Or.inl rfl) rfl dX11_presentTables_16 ?_
        refine gw_if_ne (tgt := 25) dX11_presentTables_19 (by decide) (fun c19 => ?_) (fun c19 => ?_)
        · have hz : tbN tbf (i + 1) = tbN tbf i := by rw [tbN, tab_none hR c19]; rfl
          refine gw_iinc (v := nI (i + 1)) dX11_presentTables_25 rfl (nI_add _ 1) (by decide) rfl ?_
          refine gw_goto (tgt := 4) dX11_presentTables_28 (by decide) ?_
          rw [← hz]
          refine ih4 (i + 1) (by omega) ?_
          omega
        · obtain ⟨q, hq, -⟩ := tab_some hR c19
          have hz : tbN tbf (i + 1) = tbN tbf i + 1 := by rw [tbN, hq]; rfl
          refine gw_iinc (v := nI (tbN tbf i + 1)) dX11_presentTables_22 rfl (nI_add _ 1) (by decide) rfl ?_
          refine gw_iinc (v := nI (i + 1)) dX11_presentTables_25 rfl (nI_add _ 1) (by decide) rfl ?_
          refine gw_goto (tgt := 4) dX11_presentTables_28 (by decide) ?_
          rw [← hz]
          refine ih4 (i + 1) (by omega) ?_
          omega
  refine cut4 _ (0) (Nat.zero_le _) (Nat.lt_succ_self _)
abbrev kX11_allTerms : gw_K := (yX11_allTerms, cX11_allTerms, 3, { frames := 0, cells := 0, slots := 0, locals := 0 }, (some .int))
theorem ok_X11_allTerms : gw_calV kX11_allTerms 0 := ⟨⟨wd_791, wd_57, by decide, by decide, by decide +kernel⟩, wd_790, wd_31⟩
set_option maxHeartbeats 4000000 in
set_option maxRecDepth 100000 in
theorem c_ball (l : Launch) (cy : Nat → ClassId) (ad sa ta : Nat → Nat) (n ln bb : Nat) (nx sd lb lf : Int32) (lo : Option Nat) (pg : Nat → Option Nat) (bo : Nat → Int32) (xs tb op : va_W) (cs : Nat → List sT) (hxs : xsP cy (ad 4) sa cs xs) : gw_M l kX11_allTerms cy [.ref (ad 0)] (bW cy ad sa ta n ln bb nx sd lb lf lo pg bo ++ (xs ++ (tb ++ op))) (fun r w' => r = some (.int (nI (smN cs 9))) ∧ w' = bW cy ad sa ta n ln bb nx sd lb lf lo pg bo ++ (xs ++ (tb ++ op))) := by
  refine gw_M.mk (lv := [some (.ref (ad 0)), none, none]) (by decide) (Nat.le_of_ble_eq_true rfl) rfl ?_
  generalize hpost : (fun r w' => r = some (.int (nI (smN cs 9))) ∧ w' = bW cy ad sa ta n ln bb nx sd lb lf lo pg bo ++ (xs ++ (tb ++ op)) : gw_Q) = post
  refine gw_W.wd (w' := ([(ad 0, .inr (9, [.int (nI (n)), .ref (ad 1), .ref (ad 2), .ref (sa (3 * 0)), .ref (ad 4), .ref (ad 5), .ref (ad 6), .int (nI (ln)), va_rf (lo), .int (nx), .int (sd), .int (lb), .ref (ad 12), .int (nI (bb)), .int (lf)])), (ad 1, .inl (cy 3, 9, .inr (.inr (.inr (.inr (fun i => some (sa (3 * i)))))))), (ad 2, .inl (cy 3, 9, .inr (.inr (.inr (.inr (fun i => some (sa (3 * (9 + i))))))))), (ad 5, .inl (cy 4, 8, .inr (.inr (.inr (.inr (fun i => some (ta (2 * i)))))))), (ad 6, .inl (cy 2, 40, .inr (.inr (.inr (.inr (pg)))))), (ad 12, .inl (cy 0, 16, .inl (bo)))] ++ (xs ++ (tb ++ op)))) rfl ?_
  refine gw_iconst (v := nI (0)) dX11_allTerms_0 (by decide) ?_
  refine gw_istore_n dX11_allTerms_1 (by decide) rfl ?_
  refine gw_iconst (v := nI (0)) dX11_allTerms_2 (by decide) ?_
  refine gw_istore_n dX11_allTerms_3 (by decide) rfl ?_
  have cut4 : ∀ (fu : Nat) (i : Nat), (i ≤ 9) → (9 - i) < fu → gw_W l kX11_allTerms cy (gw_R kX11_allTerms post) ([(ad 0, .inr (9, [.int (nI (n)), .ref (ad 1), .ref (ad 2), .ref (sa (3 * 0)), .ref (ad 4), .ref (ad 5), .ref (ad 6), .int (nI (ln)), va_rf (lo), .int (nx), .int (sd), .int (lb), .ref (ad 12), .int (nI (bb)), .int (lf)])), (ad 1, .inl (cy 3, 9, .inr (.inr (.inr (.inr (fun i => some (sa (3 * i)))))))), (ad 2, .inl (cy 3, 9, .inr (.inr (.inr (.inr (fun i => some (sa (3 * (9 + i))))))))), (ad 5, .inl (cy 4, 8, .inr (.inr (.inr (.inr (fun i => some (ta (2 * i)))))))), (ad 6, .inl (cy 2, 40, .inr (.inr (.inr (.inr (pg)))))), (ad 12, .inl (cy 0, 16, .inl (bo)))] ++ (xs ++ (tb ++ op))) 0 0 4 [some (.ref (ad 0)), some (.int (nI (smN cs i))), some (.int (nI (i)))] [] := by
    intro fu
    induction fu with
    | zero => intro i h1 hfu; exact absurd hfu (Nat.not_lt_zero _)
    | succ fu ih4 =>
      intro i h1 hfu
      refine gw_iload_n dX11_allTerms_4 rfl ?_
      refine gw_aload_n dX11_allTerms_5 rfl ?_
      refine gw_get (C0 := RX11) (T := TX11) (N := 15) (ref := RX11) 0 rfl rfl inX11 1 (by decide) wd_174 (Or.inl rfl) rfl dX11_allTerms_6 ?_
      refine gw_alen (t0 := 3) 1 rfl rfl dX11_allTerms_9 ?_
      refine gw_icmpN_ge (tgt := 31) dX11_allTerms_10 (by decide) (by omega) (by omega) (fun c10 => ?_) (fun c10 => ?_)
      · obtain rfl : i = 9 := by omega
        refine gw_iload_n dX11_allTerms_31 rfl ?_
        refine gw_iret (?_) (by decide) (by decide) rfl dX11_allTerms_32
        subst hpost
        exact ⟨rfl, rfl⟩
      · obtain ⟨sk, sn, hm, -, -, g4, -⟩ := xsP_mem hxs (i := i) (by omega)
        refine gw_iload_n dX11_allTerms_13 rfl ?_
        refine gw_aload_n dX11_allTerms_14 rfl ?_
        refine gw_get (C0 := RX11) (T := TX11) (N := 15) (ref := RX11) 0 rfl rfl inX11 1 (by decide) wd_174 (Or.inl rfl) rfl dX11_allTerms_15 ?_
        refine gw_iload_n dX11_allTerms_18 rfl ?_
        refine gw_aald3 1 rfl (rfl) (by omega) (by decide) dX11_allTerms_19 ?_
        refine gw_W.rst (st' := [.ref (sa (3 * i)), .int (nI (smN cs i))]) (rfl) ?_
        refine gw_getMN (C0 := RX9) (T := TX9) (N := 3) (ref := RX9) (List.mem_append_right _ (List.mem_append_left _ hm)) rfl inX9 2 (by decide) (host := "SpinBench") (by decide +kernel) (Or.inl rfl) rfl dX11_allTerms_20 ?_
        refine gw_iaddN dX11_allTerms_23 ?_
        refine gw_topi (y := nI (smN cs (i + 1))) (rfl) ?_
        refine gw_istore_n dX11_allTerms_24 (by decide) rfl ?_
        refine gw_iinc (v := nI (i + 1)) dX11_allTerms_25 rfl (nI_add _ 1) (by decide) rfl ?_
        refine gw_goto (tgt := 4) dX11_allTerms_28 (by decide) ?_
        refine ih4 (i + 1) (by omega) ?_
        omega
  refine cut4 _ (0) (Nat.zero_le _) (Nat.lt_succ_self _)
abbrev kX11_count : gw_K := (yX11_count, cX11_count, 2, { frames := 1, cells := 0, slots := 0, locals := 22 }, (some .int))
theorem ok_X11_count : gw_calV kX11_count 1 := ⟨⟨wd_783, wd_57, by decide, by decide, by decide +kernel⟩, wd_781, wd_782⟩
set_option maxHeartbeats 4000000 in
set_option maxRecDepth 100000 in
theorem t_cgcount (l : Launch) (cy : Nat → ClassId) (b : Nat) (σ : aS) (w : va_W) (hI : cInv cy b σ w) (x : Int32) : gw_M l kX11_count cy [.ref (b), .int (x)] (w) (cPost cy b (spCount σ x)) := by
  obtain ⟨ad, sa, ta, oa, nx, lo, pg, bo, cs, xs, tb, op, td, rfl, hw, hxs, hcs, htb, hop, hN, hbo⟩ := hI
  have hn4 : 1 ≤ σ.1 ∧ σ.1 ≤ 4 := ⟨hN.1, hN.2.1⟩
  refine gw_M.pm hw ?_
  obtain ⟨oc, hoc⟩ := hN.2.2.2.2.1
  have l40 : (sOp σ).length ≤ 40 := hN.2.2.2.1
  have hC := opC_eq hoc
  have hk := opk_C hoc
  refine gw_M.mk (lv := [some (.ref (ad 0)), some (.int (x))]) (by decide) (Nat.le_of_ble_eq_true rfl) rfl ?_
  generalize hpost : (cPost cy (ad 0) (spCount σ x) : gw_Q) = post
  refine gw_W.wd (w' := ([(ad 0, .inr (9, [.int (nI (σ.1)), .ref (ad 1), .ref (ad 2), .ref (sa (3 * 0)), .ref (ad 4), .ref (ad 5), .ref (ad 6), .int (nI ((sOp σ).length)), va_rf (lo), .int (nx), .int (σ.2.2.2.2.2.2.1), .int (σ.2.2.2.2.2.2.2), .ref (ad 12), .int (nI ((sTr σ).length)), .int (σ.2.2.2.2.1)])), (ad 1, .inl (cy 3, 9, .inr (.inr (.inr (.inr (fun i => some (sa (3 * i)))))))), (ad 2, .inl (cy 3, 9, .inr (.inr (.inr (.inr (fun i => some (sa (3 * (9 + i))))))))), (ad 5, .inl (cy 4, 8, .inr (.inr (.inr (.inr (fun i => some (ta (2 * i)))))))), (ad 6, .inl (cy 2, 40, .inr (.inr (.inr (.inr (pg)))))), (ad 12, .inl (cy 0, 16, .inl (bo)))] ++ (xs ++ (tb ++ op)))) rfl ?_
  refine gw_iload_n dX11_count_0 rfl ?_
  by_cases c1_0 : (x).toInt = 0
  · refine gw_tableIn (off := 35) (tgt := 36) dX11_count_1 (by omega) (by omega) (by rw [c1_0]; rfl) (by decide) ?_
    refine gw_aload_n dX11_count_36 rfl ?_
    refine gw_get (C0 := RX11) (T := TX11) (N := 15) (ref := RX11) 0 rfl rfl inX11 0 (by decide) wd_173 (Or.inl rfl) rfl dX11_count_37 ?_
    refine gw_W.wd (w' := bW cy ad sa ta (σ.1) ((sOp σ).length) ((sTr σ).length) nx (σ.2.2.2.2.2.2.1) (σ.2.2.2.2.2.2.2) (σ.2.2.2.2.1) lo pg bo ++ (xs ++ (tb ++ op))) rfl ?_
    refine gw_iret (?_) (by decide) (by decide) rfl dX11_count_40
    subst hpost
    unfold spCount
    rw [if_pos c1_0]
    exact ⟨rfl, ad, sa, ta, oa, nx, lo, pg, bo, cs, xs, tb, op, td, rfl, List.Perm.refl _, hxs, hcs, htb, hop, hN, hbo⟩
  by_cases c1_1 : (x).toInt = 1
  · refine gw_tableIn (off := 40) (tgt := 41) dX11_count_1 (by omega) (by omega) (by rw [c1_1]; rfl) (by decide) ?_
    refine gw_aload_n dX11_count_41 rfl ?_
    refine gw_get (C0 := RX11) (T := TX11) (N := 15) (ref := RX11) 0 rfl rfl inX11 7 (by decide) wd_182 (Or.inl rfl) rfl dX11_count_42 ?_
    refine gw_W.wd (w' := bW cy ad sa ta (σ.1) ((sOp σ).length) ((sTr σ).length) nx (σ.2.2.2.2.2.2.1) (σ.2.2.2.2.2.2.2) (σ.2.2.2.2.1) lo pg bo ++ (xs ++ (tb ++ op))) rfl ?_
    refine gw_iret (?_) (by decide) (by decide) rfl dX11_count_45
    subst hpost
    unfold spCount
    rw [if_neg c1_0, if_pos c1_1]
    exact ⟨rfl, ad, sa, ta, oa, nx, lo, pg, bo, cs, xs, tb, op, td, rfl, List.Perm.refl _, hxs, hcs, htb, hop, hN, hbo⟩
  by_cases c1_2 : (x).toInt = 2
  · refine gw_tableIn (off := 45) (tgt := 46) dX11_count_1 (by omega) (by omega) (by rw [c1_2]; rfl) (by decide) ?_
    refine gw_aload_n dX11_count_46 rfl ?_
    refine gw_W.wd (w' := bW cy ad sa ta (σ.1) ((sOp σ).length) ((sTr σ).length) nx (σ.2.2.2.2.2.2.1) (σ.2.2.2.2.2.2.2) (σ.2.2.2.2.1) lo pg bo ++ (xs ++ (tb ++ op))) rfl ?_
    refine gw_callV 0 (As := []) (st := []) (c_bpres l cy ad sa ta (σ.1) ((sOp σ).length) ((sTr σ).length) nx (σ.2.2.2.2.2.2.1) (σ.2.2.2.2.2.2.2) (σ.2.2.2.2.1) lo pg bo xs tb op (sTb σ) htb) ok_X11_presentTables rfl rfl rfl wd_784 rfl rfl dX11_count_47 (by decide) (by decide) (Nat.le_of_ble_eq_true rfl) (fun r47 w47 hp47 => ?_)
    obtain ⟨rfl, rfl⟩ := hp47
    refine gw_W.norm (st' := [.int (nI (tbN (sTb σ) 8))]) (k1 := 0) (k2 := 0) rfl rfl rfl ?_
    refine gw_W.wd (w' := ([(ad 0, .inr (9, [.int (nI (σ.1)), .ref (ad 1), .ref (ad 2), .ref (sa (3 * 0)), .ref (ad 4), .ref (ad 5), .ref (ad 6), .int (nI ((sOp σ).length)), va_rf (lo), .int (nx), .int (σ.2.2.2.2.2.2.1), .int (σ.2.2.2.2.2.2.2), .ref (ad 12), .int (nI ((sTr σ).length)), .int (σ.2.2.2.2.1)])), (ad 1, .inl (cy 3, 9, .inr (.inr (.inr (.inr (fun i => some (sa (3 * i)))))))), (ad 2, .inl (cy 3, 9, .inr (.inr (.inr (.inr (fun i => some (sa (3 * (9 + i))))))))), (ad 5, .inl (cy 4, 8, .inr (.inr (.inr (.inr (fun i => some (ta (2 * i)))))))), (ad 6, .inl (cy 2, 40, .inr (.inr (.inr (.inr (pg)))))), (ad 12, .inl (cy 0, 16, .inl (bo)))] ++ (xs ++ (tb ++ op)))) rfl ?_
    refine gw_W.wd (w' := bW cy ad sa ta (σ.1) ((sOp σ).length) ((sTr σ).length) nx (σ.2.2.2.2.2.2.1) (σ.2.2.2.2.2.2.2) (σ.2.2.2.2.1) lo pg bo ++ (xs ++ (tb ++ op))) rfl ?_
    refine gw_iret (?_) (by decide) (by decide) rfl dX11_count_50
    subst hpost
    unfold spCount
    rw [if_neg c1_0, if_neg c1_1, if_pos c1_2]
    exact ⟨rfl, ad, sa, ta, oa, nx, lo, pg, bo, cs, xs, tb, op, td, rfl, List.Perm.refl _, hxs, hcs, htb, hop, hN, hbo⟩
  by_cases c1_3 : (x).toInt = 3
  · refine gw_tableIn (off := 50) (tgt := 51) dX11_count_1 (by omega) (by omega) (by rw [c1_3]; rfl) (by decide) ?_
    refine gw_aload_n dX11_count_51 rfl ?_
    refine gw_W.wd (w' := bW cy ad sa ta (σ.1) ((sOp σ).length) ((sTr σ).length) nx (σ.2.2.2.2.2.2.1) (σ.2.2.2.2.2.2.2) (σ.2.2.2.2.1) lo pg bo ++ (xs ++ (tb ++ op))) rfl ?_
    refine gw_callV 0 (As := []) (st := []) (c_bopen l cy ad sa ta oa σ.1 (sTr σ).length nx σ.2.2.2.2.2.2.1 σ.2.2.2.2.2.2.2 σ.2.2.2.2.1 lo pg bo xs tb op (sOp σ) td hop) ok_X11_openRounds rfl rfl rfl wd_555 rfl rfl dX11_count_52 (by decide) (by decide) (Nat.le_of_ble_eq_true rfl) (fun r52 w52 hp52 => ?_)
    obtain ⟨rfl, rfl⟩ := hp52
    refine gw_W.norm (st' := [.int (nI ((opk (sOp σ) (sOp σ).length).length))]) (k1 := 0) (k2 := 0) rfl rfl rfl ?_
    refine gw_W.wd (w' := ([(ad 0, .inr (9, [.int (nI (σ.1)), .ref (ad 1), .ref (ad 2), .ref (sa (3 * 0)), .ref (ad 4), .ref (ad 5), .ref (ad 6), .int (nI ((sOp σ).length)), va_rf (lo), .int (nx), .int (σ.2.2.2.2.2.2.1), .int (σ.2.2.2.2.2.2.2), .ref (ad 12), .int (nI ((sTr σ).length)), .int (σ.2.2.2.2.1)])), (ad 1, .inl (cy 3, 9, .inr (.inr (.inr (.inr (fun i => some (sa (3 * i)))))))), (ad 2, .inl (cy 3, 9, .inr (.inr (.inr (.inr (fun i => some (sa (3 * (9 + i))))))))), (ad 5, .inl (cy 4, 8, .inr (.inr (.inr (.inr (fun i => some (ta (2 * i)))))))), (ad 6, .inl (cy 2, 40, .inr (.inr (.inr (.inr (pg)))))), (ad 12, .inl (cy 0, 16, .inl (bo)))] ++ (xs ++ (tb ++ op)))) rfl ?_
    refine gw_W.wd (w' := bW cy ad sa ta (σ.1) ((sOp σ).length) ((sTr σ).length) nx (σ.2.2.2.2.2.2.1) (σ.2.2.2.2.2.2.2) (σ.2.2.2.2.1) lo pg bo ++ (xs ++ (tb ++ op))) rfl ?_
    refine gw_iret (?_) (by decide) (by decide) rfl dX11_count_55
    subst hpost
    unfold spCount
    rw [if_neg c1_0, if_neg c1_1, if_neg c1_2, if_pos c1_3]
    rw [hC, ← hk]
    exact ⟨rfl, ad, sa, ta, oa, nx, lo, pg, bo, cs, xs, tb, op, td, rfl, List.Perm.refl _, hxs, hcs, htb, hop, hN, hbo⟩
  by_cases c1_4 : (x).toInt = 4
  · refine gw_tableIn (off := 55) (tgt := 56) dX11_count_1 (by omega) (by omega) (by rw [c1_4]; rfl) (by decide) ?_
    refine gw_aload_n dX11_count_56 rfl ?_
    refine gw_W.wd (w' := bW cy ad sa ta (σ.1) ((sOp σ).length) ((sTr σ).length) nx (σ.2.2.2.2.2.2.1) (σ.2.2.2.2.2.2.2) (σ.2.2.2.2.1) lo pg bo ++ (xs ++ (tb ++ op))) rfl ?_
    refine gw_callV 0 (As := []) (st := []) (c_ball l cy ad sa ta (σ.1) ((sOp σ).length) ((sTr σ).length) nx (σ.2.2.2.2.2.2.1) (σ.2.2.2.2.2.2.2) (σ.2.2.2.2.1) lo pg bo xs tb op cs hxs) ok_X11_allTerms rfl rfl rfl wd_788 rfl rfl dX11_count_57 (by decide) (by decide) (Nat.le_of_ble_eq_true rfl) (fun r57 w57 hp57 => ?_)
    obtain ⟨rfl, rfl⟩ := hp57
    refine gw_W.norm (st' := [.int (nI (smN cs 9))]) (k1 := 0) (k2 := 0) rfl rfl rfl ?_
    refine gw_W.wd (w' := ([(ad 0, .inr (9, [.int (nI (σ.1)), .ref (ad 1), .ref (ad 2), .ref (sa (3 * 0)), .ref (ad 4), .ref (ad 5), .ref (ad 6), .int (nI ((sOp σ).length)), va_rf (lo), .int (nx), .int (σ.2.2.2.2.2.2.1), .int (σ.2.2.2.2.2.2.2), .ref (ad 12), .int (nI ((sTr σ).length)), .int (σ.2.2.2.2.1)])), (ad 1, .inl (cy 3, 9, .inr (.inr (.inr (.inr (fun i => some (sa (3 * i)))))))), (ad 2, .inl (cy 3, 9, .inr (.inr (.inr (.inr (fun i => some (sa (3 * (9 + i))))))))), (ad 5, .inl (cy 4, 8, .inr (.inr (.inr (.inr (fun i => some (ta (2 * i)))))))), (ad 6, .inl (cy 2, 40, .inr (.inr (.inr (.inr (pg)))))), (ad 12, .inl (cy 0, 16, .inl (bo)))] ++ (xs ++ (tb ++ op)))) rfl ?_
    refine gw_W.wd (w' := bW cy ad sa ta (σ.1) ((sOp σ).length) ((sTr σ).length) nx (σ.2.2.2.2.2.2.1) (σ.2.2.2.2.2.2.2) (σ.2.2.2.2.1) lo pg bo ++ (xs ++ (tb ++ op))) rfl ?_
    refine gw_iret (?_) (by decide) (by decide) rfl dX11_count_60
    subst hpost
    unfold spCount
    rw [if_neg c1_0, if_neg c1_1, if_neg c1_2, if_neg c1_3, if_pos c1_4]
    rw [← cs_sum hcs]
    exact ⟨rfl, ad, sa, ta, oa, nx, lo, pg, bo, cs, xs, tb, op, td, rfl, List.Perm.refl _, hxs, hcs, htb, hop, hN, hbo⟩
  refine gw_tableOut (tgt := 61) dX11_count_1 (by omega) (by decide) ?_
  refine gw_ldc dX11_count_61 wd_233 ?_
  refine gw_W.wd (w' := bW cy ad sa ta (σ.1) ((sOp σ).length) ((sTr σ).length) nx (σ.2.2.2.2.2.2.1) (σ.2.2.2.2.2.2.2) (σ.2.2.2.2.1) lo pg bo ++ (xs ++ (tb ++ op))) rfl ?_
  refine gw_iret (?_) (by decide) (by decide) rfl dX11_count_63
  subst hpost
  unfold spCount
  rw [if_neg c1_0, if_neg c1_1, if_neg c1_2, if_neg c1_3, if_neg c1_4]
  exact ⟨rfl, ad, sa, ta, oa, nx, lo, pg, bo, cs, xs, tb, op, td, rfl, List.Perm.refl _, hxs, hcs, htb, hop, hN, hbo⟩
theorem perm_tb3 {α : Type} {B xs op a b r : List α} : (B ++ (a ++ (b ++ (xs ++ (r ++ op))))).Perm (B ++ (xs ++ (((a ++ b) ++ r) ++ op))) := by
  have := (perm_tb (B := B) (xs := xs) (op := op) (List.Perm.refl ((a ++ b) ++ r))).symm
  rw [List.append_assoc a b] at this
  exact this
theorem perm_tb4 {α : Type} {B xs tb op a b r : List α} (h : tb.Perm ((a ++ b) ++ r)) : (B ++ (a ++ (b ++ (xs ++ (r ++ op))))).Perm (B ++ (xs ++ (tb ++ op))) := by
  have := (perm_tb (B := B) (xs := xs) (op := op) h).symm
  rw [List.append_assoc a b] at this
  exact this
abbrev kX11_copy : gw_K := (yX11_copy, cX11_copy, 8, { frames := 2, cells := 0, slots := 0, locals := 60 }, (some .int))
theorem ok_X11_copy : gw_calV kX11_copy 5 := ⟨⟨wd_265, wd_57, by decide, by decide, by decide +kernel⟩, wd_263, wd_264⟩
set_option maxHeartbeats 4000000 in
set_option maxRecDepth 100000 in
theorem t_cgcopy (l : Launch) (cy : Nat → ClassId) (b : Nat) (σ : aS) (w : va_W) (hI : cInv cy b σ w) (x i y j n : Int32) : gw_M l kX11_copy cy [.ref (b), .int (x), .int (i), .int (y), .int (j), .int (n)] (w) (cPost cy b (spCopy σ x i y j n)) := by
  obtain ⟨ad, sa, ta, oa, nx, lo, pg, bo, cs, xs, tb, op, td, rfl, hw, hxs, hcs, htb, hop, hN, hbo⟩ := hI
  have hn4 : 1 ≤ σ.1 ∧ σ.1 ≤ 4 := ⟨hN.1, hN.2.1⟩
  refine gw_M.pm hw ?_
  obtain ⟨oc, hoc⟩ := hN.2.2.2.2.1
  have l40 : (sOp σ).length ≤ 40 := hN.2.2.2.1
  by_cases eab : tI x = tI y
  ·
    refine gw_M.mk (lv := [some (.ref (ad 0)), some (.int (x)), some (.int (i)), some (.int (y)), some (.int (j)), some (.int (n)), none, none]) (by decide) (Nat.le_of_ble_eq_true rfl) rfl ?_
    generalize hpost : (cPost cy (ad 0) (spCopy σ x i y j n) : gw_Q) = post
    refine gw_W.wd (w' := ([(ad 0, .inr (9, [.int (nI (σ.1)), .ref (ad 1), .ref (ad 2), .ref (sa (3 * 0)), .ref (ad 4), .ref (ad 5), .ref (ad 6), .int (nI ((sOp σ).length)), va_rf (lo), .int (nx), .int (σ.2.2.2.2.2.2.1), .int (σ.2.2.2.2.2.2.2), .ref (ad 12), .int (nI ((sTr σ).length)), .int (σ.2.2.2.2.1)])), (ad 1, .inl (cy 3, 9, .inr (.inr (.inr (.inr (fun i => some (sa (3 * i)))))))), (ad 2, .inl (cy 3, 9, .inr (.inr (.inr (.inr (fun i => some (sa (3 * (9 + i))))))))), (ad 5, .inl (cy 4, 8, .inr (.inr (.inr (.inr (fun i => some (ta (2 * i)))))))), (ad 6, .inl (cy 2, 40, .inr (.inr (.inr (.inr (pg)))))), (ad 12, .inl (cy 0, 16, .inl (bo)))] ++ (xs ++ (tb ++ op)))) rfl ?_
    refine gw_aload_n dX11_copy_0 rfl ?_
    refine gw_iload_n dX11_copy_1 rfl ?_
    refine gw_W.wd (w' := bW cy ad sa ta (σ.1) ((sOp σ).length) ((sTr σ).length) nx (σ.2.2.2.2.2.2.1) (σ.2.2.2.2.2.2.2) (σ.2.2.2.2.1) lo pg bo ++ (xs ++ (tb ++ op))) rfl ?_
    refine gw_callV 0 (As := [.int (x)]) (st := []) (c_btableAt l cy ad sa ta (σ.1) ((sOp σ).length) ((sTr σ).length) nx (σ.2.2.2.2.2.2.1) (σ.2.2.2.2.2.2.2) (σ.2.2.2.2.1) lo pg bo (xs ++ (tb ++ op)) (x)) ok_X11_tableAt rfl rfl rfl wd_226 rfl rfl dX11_copy_2 (by decide) (by decide) (Nat.le_of_ble_eq_true rfl) (fun r2 w2 hp2 => ?_)
    obtain ⟨rfl, rfl⟩ := hp2
    by_cases h2 : inZ (x).toInt 0 7 = true
    · rw [if_pos h2]
      refine gw_W.norm (st' := [.ref (ta (2 * tI (x)))]) (k1 := 0) (k2 := 0) rfl rfl rfl ?_
      refine gw_W.wd (w' := ([(ad 0, .inr (9, [.int (nI (σ.1)), .ref (ad 1), .ref (ad 2), .ref (sa (3 * 0)), .ref (ad 4), .ref (ad 5), .ref (ad 6), .int (nI ((sOp σ).length)), va_rf (lo), .int (nx), .int (σ.2.2.2.2.2.2.1), .int (σ.2.2.2.2.2.2.2), .ref (ad 12), .int (nI ((sTr σ).length)), .int (σ.2.2.2.2.1)])), (ad 1, .inl (cy 3, 9, .inr (.inr (.inr (.inr (fun i => some (sa (3 * i)))))))), (ad 2, .inl (cy 3, 9, .inr (.inr (.inr (.inr (fun i => some (sa (3 * (9 + i))))))))), (ad 5, .inl (cy 4, 8, .inr (.inr (.inr (.inr (fun i => some (ta (2 * i)))))))), (ad 6, .inl (cy 2, 40, .inr (.inr (.inr (.inr (pg)))))), (ad 12, .inl (cy 0, 16, .inl (bo)))] ++ (xs ++ (tb ++ op)))) rfl ?_
      refine gw_astore dX11_copy_5 (by decide) rfl ?_
      refine gw_aload_n dX11_copy_7 rfl ?_
      refine gw_iload_n dX11_copy_8 rfl ?_
      refine gw_W.wd (w' := bW cy ad sa ta (σ.1) ((sOp σ).length) ((sTr σ).length) nx (σ.2.2.2.2.2.2.1) (σ.2.2.2.2.2.2.2) (σ.2.2.2.2.1) lo pg bo ++ (xs ++ (tb ++ op))) rfl ?_
      refine gw_callV 0 (As := [.int (y)]) (st := []) (c_btableAt l cy ad sa ta (σ.1) ((sOp σ).length) ((sTr σ).length) nx (σ.2.2.2.2.2.2.1) (σ.2.2.2.2.2.2.2) (σ.2.2.2.2.1) lo pg bo (xs ++ (tb ++ op)) (y)) ok_X11_tableAt rfl rfl rfl wd_226 rfl rfl dX11_copy_9 (by decide) (by decide) (Nat.le_of_ble_eq_true rfl) (fun r9 w9 hp9 => ?_)
      obtain ⟨rfl, rfl⟩ := hp9
      by_cases h9 : inZ (y).toInt 0 7 = true
      · rw [if_pos h9]
        refine gw_W.norm (st' := [.ref (ta (2 * tI (y)))]) (k1 := 0) (k2 := 0) rfl rfl rfl ?_
        refine gw_W.wd (w' := ([(ad 0, .inr (9, [.int (nI (σ.1)), .ref (ad 1), .ref (ad 2), .ref (sa (3 * 0)), .ref (ad 4), .ref (ad 5), .ref (ad 6), .int (nI ((sOp σ).length)), va_rf (lo), .int (nx), .int (σ.2.2.2.2.2.2.1), .int (σ.2.2.2.2.2.2.2), .ref (ad 12), .int (nI ((sTr σ).length)), .int (σ.2.2.2.2.1)])), (ad 1, .inl (cy 3, 9, .inr (.inr (.inr (.inr (fun i => some (sa (3 * i)))))))), (ad 2, .inl (cy 3, 9, .inr (.inr (.inr (.inr (fun i => some (sa (3 * (9 + i))))))))), (ad 5, .inl (cy 4, 8, .inr (.inr (.inr (.inr (fun i => some (ta (2 * i)))))))), (ad 6, .inl (cy 2, 40, .inr (.inr (.inr (.inr (pg)))))), (ad 12, .inl (cy 0, 16, .inl (bo)))] ++ (xs ++ (tb ++ op)))) rfl ?_
        refine gw_astore dX11_copy_12 (by decide) rfl ?_
        obtain ⟨ms, la, sz, it, R, o1, o2, o3⟩ := tbP_open htb (i := tI (x)) (tI_lt h2)
        refine gw_W.perm (w' := ([(ad 0, .inr (9, [.int (nI (σ.1)), .ref (ad 1), .ref (ad 2), .ref (sa (3 * 0)), .ref (ad 4), .ref (ad 5), .ref (ad 6), .int (nI ((sOp σ).length)), va_rf (lo), .int (nx), .int (σ.2.2.2.2.2.2.1), .int (σ.2.2.2.2.2.2.2), .ref (ad 12), .int (nI ((sTr σ).length)), .int (σ.2.2.2.2.1)])), (ad 1, .inl (cy 3, 9, .inr (.inr (.inr (.inr (fun i => some (sa (3 * i)))))))), (ad 2, .inl (cy 3, 9, .inr (.inr (.inr (.inr (fun i => some (sa (3 * (9 + i))))))))), (ad 5, .inl (cy 4, 8, .inr (.inr (.inr (.inr (fun i => some (ta (2 * i)))))))), (ad 6, .inl (cy 2, 40, .inr (.inr (.inr (.inr (pg)))))), (ad 12, .inl (cy 0, 16, .inl (bo))), (ta (2 * tI (x)), .inr (8, [.ref (ta (2 * tI (x) + 1)), .int (ms), .int (la), .int (sz)])), (ta (2 * tI (x) + 1), .inl (cy 0, 60, .inl (it)))] ++ (xs ++ (R ++ op)))) (perm_tb (B := ([(ad 0, .inr (9, [.int (nI (σ.1)), .ref (ad 1), .ref (ad 2), .ref (sa (3 * 0)), .ref (ad 4), .ref (ad 5), .ref (ad 6), .int (nI ((sOp σ).length)), va_rf (lo), .int (nx), .int (σ.2.2.2.2.2.2.1), .int (σ.2.2.2.2.2.2.2), .ref (ad 12), .int (nI ((sTr σ).length)), .int (σ.2.2.2.2.1)])), (ad 1, .inl (cy 3, 9, .inr (.inr (.inr (.inr (fun i => some (sa (3 * i)))))))), (ad 2, .inl (cy 3, 9, .inr (.inr (.inr (.inr (fun i => some (sa (3 * (9 + i))))))))), (ad 5, .inl (cy 4, 8, .inr (.inr (.inr (.inr (fun i => some (ta (2 * i)))))))), (ad 6, .inl (cy 2, 40, .inr (.inr (.inr (.inr (pg)))))), (ad 12, .inl (cy 0, 16, .inl (bo)))] : va_W)) o1) ?_
        refine gw_W.rlv (lv' := [some (.ref (ad 0)), some (.int (x)), some (.int (i)), some (.int (y)), some (.int (j)), some (.int (n)), some (.ref (ta (2 * tI (x)))), some (.ref (ta (2 * tI (x))))]) (by rw [eab]; rfl) ?_
        refine gw_aload dX11_copy_14 rfl ?_
        refine gw_ifnull dX11_copy_16 ?_
        refine gw_aload dX11_copy_19 rfl ?_
        refine gw_ifnonnull (tgt := 27) dX11_copy_21 (by decide) ?_
        refine gw_aload dX11_copy_27 rfl ?_
        refine gw_getN (C0 := RX10) (T := TX10) (N := 4) (ref := RX10) 6 rfl rfl inX10 1 (by decide) (host := "SpinBench") (by decide +kernel) (Or.inl rfl) rfl dX11_copy_29 ?_
        refine gw_if_ne (tgt := 43) dX11_copy_32 (by decide) (fun c32 => ?_) (fun c32 => ?_)
        · refine gw_aload_n dX11_copy_43 rfl ?_
          refine gw_iconst (v := nI (1)) dX11_copy_44 (by decide) ?_
          refine gw_W.wd (w' := bW cy ad sa ta (σ.1) ((sOp σ).length) ((sTr σ).length) nx (σ.2.2.2.2.2.2.1) (σ.2.2.2.2.2.2.2) (σ.2.2.2.2.1) lo pg bo ++ ([(ta (2 * tI (x)), .inr (8, [.ref (ta (2 * tI (x) + 1)), .int (ms), .int (la), .int (sz)])), (ta (2 * tI (x) + 1), .inl (cy 0, 60, .inl (it)))] ++ (xs ++ (R ++ op)))) rfl ?_
          refine gw_callV 0 (As := [.int (nI (1))]) (st := []) (c_bfound l cy ad sa ta (σ.1) ((sOp σ).length) ((sTr σ).length) nx (σ.2.2.2.2.2.2.1) (σ.2.2.2.2.2.2.2) (σ.2.2.2.2.1) lo pg bo ([(ta (2 * tI (x)), .inr (8, [.ref (ta (2 * tI (x) + 1)), .int (ms), .int (la), .int (sz)])), (ta (2 * tI (x) + 1), .inl (cy 0, 60, .inl (it)))] ++ (xs ++ (R ++ op))) (nI (1))) ok_X11_found rfl rfl rfl wd_234 rfl rfl dX11_copy_45 (by decide) (by decide) (Nat.le_of_ble_eq_true rfl) (fun r45 w45 hp45 => ?_)
          obtain ⟨rfl, rfl⟩ := hp45
          refine gw_W.norm (st' := [.int ((-1000010) - (nI (1)))]) (k1 := 0) (k2 := 0) rfl rfl rfl ?_
          refine gw_W.wd (w' := ([(ad 0, .inr (9, [.int (nI (σ.1)), .ref (ad 1), .ref (ad 2), .ref (sa (3 * 0)), .ref (ad 4), .ref (ad 5), .ref (ad 6), .int (nI ((sOp σ).length)), va_rf (lo), .int (nx), .int (σ.2.2.2.2.2.2.1), .int (σ.2.2.2.2.2.2.2), .ref (ad 12), .int (nI ((sTr σ).length)), .int (nI (1))])), (ad 1, .inl (cy 3, 9, .inr (.inr (.inr (.inr (fun i => some (sa (3 * i)))))))), (ad 2, .inl (cy 3, 9, .inr (.inr (.inr (.inr (fun i => some (sa (3 * (9 + i))))))))), (ad 5, .inl (cy 4, 8, .inr (.inr (.inr (.inr (fun i => some (ta (2 * i)))))))), (ad 6, .inl (cy 2, 40, .inr (.inr (.inr (.inr (pg)))))), (ad 12, .inl (cy 0, 16, .inl (bo))), (ta (2 * tI (x)), .inr (8, [.ref (ta (2 * tI (x) + 1)), .int (ms), .int (la), .int (sz)])), (ta (2 * tI (x) + 1), .inl (cy 0, 60, .inl (it)))] ++ (xs ++ (R ++ op)))) rfl ?_
          refine gw_W.wd (w' := bW cy ad sa ta (σ.1) ((sOp σ).length) ((sTr σ).length) nx (σ.2.2.2.2.2.2.1) (σ.2.2.2.2.2.2.2) (nI (1)) lo pg bo ++ (tW2 cy (ta (2 * tI (x))) (ta (2 * tI (x) + 1)) ms la sz it ++ (xs ++ (R ++ op)))) rfl ?_
          refine gw_iret (?_) (by decide) (by decide) rfl dX11_copy_48
          subst hpost
          unfold spCopy
          rw [if_pos ⟨h2, h9⟩]
          rw [tab_none o2 c32]
          exact ⟨rfl, ad, sa, ta, oa, nx, lo, pg, bo, cs, xs, tb, op, td, rfl, (perm_tb o1).symm, hxs, hcs, htb, hop, hN, hbo⟩
        · obtain ⟨q, hq, e2, e3, e4, e5, e6⟩ := tab_some o2 c32
          subst e3; subst e5
          refine gw_aload dX11_copy_35 rfl ?_
          refine gw_getN (C0 := RX10) (T := TX10) (N := 4) (ref := RX10) 6 rfl rfl inX10 1 (by decide) (host := "SpinBench") (by decide +kernel) (Or.inl rfl) rfl dX11_copy_37 ?_
          refine gw_if_eq (tgt := 49) dX11_copy_40 (by decide) (fun c40 => ?_) (fun c40 => ?_)
          · refine gw_aload dX11_copy_49 rfl ?_
            refine gw_getN (C0 := RX10) (T := TX10) (N := 4) (ref := RX10) 6 rfl rfl inX10 2 (by decide) (host := "SpinBench") (by decide +kernel) (Or.inl rfl) rfl dX11_copy_51 ?_
            refine gw_aload dX11_copy_54 rfl ?_
            refine gw_getN (C0 := RX10) (T := TX10) (N := 4) (ref := RX10) 6 rfl rfl inX10 2 (by decide) (host := "SpinBench") (by decide +kernel) (Or.inl rfl) rfl dX11_copy_56 ?_
            refine gw_icmp_eq (tgt := 68) dX11_copy_59 (by decide) (fun c59 => ?_) (fun c59 => ?_)
            · refine gw_aload dX11_copy_68 rfl ?_
              refine gw_iload_n dX11_copy_70 rfl ?_
              refine gw_iload dX11_copy_71 rfl ?_
              refine gw_callVN 6 (As := [.int (i), .int (n)]) (st := []) ((c_thas l cy (ta (2 * tI (x))) (ta (2 * tI (x) + 1)) ms (nI q.1) q.2.length it [] (i) (n) e4).frame (w2 := ([(ad 0, .inr (9, [.int (nI (σ.1)), .ref (ad 1), .ref (ad 2), .ref (sa (3 * 0)), .ref (ad 4), .ref (ad 5), .ref (ad 6), .int (nI ((sOp σ).length)), va_rf (lo), .int (nx), .int (σ.2.2.2.2.2.2.1), .int (σ.2.2.2.2.2.2.2), .ref (ad 12), .int (nI ((sTr σ).length)), .int (σ.2.2.2.2.1)])), (ad 1, .inl (cy 3, 9, .inr (.inr (.inr (.inr (fun i => some (sa (3 * i)))))))), (ad 2, .inl (cy 3, 9, .inr (.inr (.inr (.inr (fun i => some (sa (3 * (9 + i))))))))), (ad 5, .inl (cy 4, 8, .inr (.inr (.inr (.inr (fun i => some (ta (2 * i)))))))), (ad 6, .inl (cy 2, 40, .inr (.inr (.inr (.inr (pg)))))), (ad 12, .inl (cy 0, 16, .inl (bo))), (ta (2 * tI (x)), .inr (8, [.ref (ta (2 * tI (x) + 1)), .int (ms), .int (nI (q.1)), .int (nI (q.2.length))])), (ta (2 * tI (x) + 1), .inl (cy 0, 60, .inl (it)))] ++ (xs ++ (R ++ op)))) (f := ((([(ad 0, .inr (9, [.int (nI (σ.1)), .ref (ad 1), .ref (ad 2), .ref (sa (3 * 0)), .ref (ad 4), .ref (ad 5), .ref (ad 6), .int (nI ((sOp σ).length)), va_rf (lo), .int (nx), .int (σ.2.2.2.2.2.2.1), .int (σ.2.2.2.2.2.2.2), .ref (ad 12), .int (nI ((sTr σ).length)), .int (σ.2.2.2.2.1)])), (ad 1, .inl (cy 3, 9, .inr (.inr (.inr (.inr (fun i => some (sa (3 * i)))))))), (ad 2, .inl (cy 3, 9, .inr (.inr (.inr (.inr (fun i => some (sa (3 * (9 + i))))))))), (ad 5, .inl (cy 4, 8, .inr (.inr (.inr (.inr (fun i => some (ta (2 * i)))))))), (ad 6, .inl (cy 2, 40, .inr (.inr (.inr (.inr (pg)))))), (ad 12, .inl (cy 0, 16, .inl (bo)))] : va_W) ++ ([] : va_W)) ++ (xs ++ (R ++ op)))) (perm_mid (A := ([(ad 0, .inr (9, [.int (nI (σ.1)), .ref (ad 1), .ref (ad 2), .ref (sa (3 * 0)), .ref (ad 4), .ref (ad 5), .ref (ad 6), .int (nI ((sOp σ).length)), va_rf (lo), .int (nx), .int (σ.2.2.2.2.2.2.1), .int (σ.2.2.2.2.2.2.2), .ref (ad 12), .int (nI ((sTr σ).length)), .int (σ.2.2.2.2.1)])), (ad 1, .inl (cy 3, 9, .inr (.inr (.inr (.inr (fun i => some (sa (3 * i)))))))), (ad 2, .inl (cy 3, 9, .inr (.inr (.inr (.inr (fun i => some (sa (3 * (9 + i))))))))), (ad 5, .inl (cy 4, 8, .inr (.inr (.inr (.inr (fun i => some (ta (2 * i)))))))), (ad 6, .inl (cy 2, 40, .inr (.inr (.inr (.inr (pg)))))), (ad 12, .inl (cy 0, 16, .inl (bo)))] : va_W)) (a := ([(ta (2 * tI (x)), .inr (8, [.ref (ta (2 * tI (x) + 1)), .int (ms), .int (nI (q.1)), .int (nI (q.2.length))])), (ta (2 * tI (x) + 1), .inl (cy 0, 60, .inl (it)))] : va_W)) (B := ([] : va_W)) (r := (xs ++ (R ++ op))))) ok_X10_hasPlaces rfl rfl rfl (host := "SpinBench") (by decide +kernel) rfl rfl dX11_copy_73 (by decide) (by decide) (Nat.le_of_ble_eq_true rfl) (fun r73 w73 hp73 => ?_)
              obtain ⟨w73, ⟨rfl, rfl⟩, rfl⟩ := hp73
              refine gw_W.norm (st' := [.int (bI (decide (0 ≤ (i).toInt ∧ 0 ≤ (n).toInt ∧ (i).toInt + (n).toInt ≤ q.2.length)))]) (k1 := 0) (k2 := 0) rfl rfl rfl ?_
              refine gw_W.wd (w' := ((([(ta (2 * tI (x)), .inr (8, [.ref (ta (2 * tI (x) + 1)), .int (ms), .int (nI (q.1)), .int (nI (q.2.length))])), (ta (2 * tI (x) + 1), .inl (cy 0, 60, .inl (it)))] : va_W) ++ []) ++ ((([(ad 0, .inr (9, [.int (nI (σ.1)), .ref (ad 1), .ref (ad 2), .ref (sa (3 * 0)), .ref (ad 4), .ref (ad 5), .ref (ad 6), .int (nI ((sOp σ).length)), va_rf (lo), .int (nx), .int (σ.2.2.2.2.2.2.1), .int (σ.2.2.2.2.2.2.2), .ref (ad 12), .int (nI ((sTr σ).length)), .int (σ.2.2.2.2.1)])), (ad 1, .inl (cy 3, 9, .inr (.inr (.inr (.inr (fun i => some (sa (3 * i)))))))), (ad 2, .inl (cy 3, 9, .inr (.inr (.inr (.inr (fun i => some (sa (3 * (9 + i))))))))), (ad 5, .inl (cy 4, 8, .inr (.inr (.inr (.inr (fun i => some (ta (2 * i)))))))), (ad 6, .inl (cy 2, 40, .inr (.inr (.inr (.inr (pg)))))), (ad 12, .inl (cy 0, 16, .inl (bo)))] : va_W) ++ ([] : va_W)) ++ (xs ++ (R ++ op))))) rfl ?_
              refine gw_W.perm (perm_mid (A := ([(ad 0, .inr (9, [.int (nI (σ.1)), .ref (ad 1), .ref (ad 2), .ref (sa (3 * 0)), .ref (ad 4), .ref (ad 5), .ref (ad 6), .int (nI ((sOp σ).length)), va_rf (lo), .int (nx), .int (σ.2.2.2.2.2.2.1), .int (σ.2.2.2.2.2.2.2), .ref (ad 12), .int (nI ((sTr σ).length)), .int (σ.2.2.2.2.1)])), (ad 1, .inl (cy 3, 9, .inr (.inr (.inr (.inr (fun i => some (sa (3 * i)))))))), (ad 2, .inl (cy 3, 9, .inr (.inr (.inr (.inr (fun i => some (sa (3 * (9 + i))))))))), (ad 5, .inl (cy 4, 8, .inr (.inr (.inr (.inr (fun i => some (ta (2 * i)))))))), (ad 6, .inl (cy 2, 40, .inr (.inr (.inr (.inr (pg)))))), (ad 12, .inl (cy 0, 16, .inl (bo)))] : va_W)) (a := ([(ta (2 * tI (x)), .inr (8, [.ref (ta (2 * tI (x) + 1)), .int (ms), .int (nI (q.1)), .int (nI (q.2.length))])), (ta (2 * tI (x) + 1), .inl (cy 0, 60, .inl (it)))] : va_W)) (B := ([] : va_W)) (r := (xs ++ (R ++ op)))).symm ?_
              refine gw_W.wd (w' := ([(ad 0, .inr (9, [.int (nI (σ.1)), .ref (ad 1), .ref (ad 2), .ref (sa (3 * 0)), .ref (ad 4), .ref (ad 5), .ref (ad 6), .int (nI ((sOp σ).length)), va_rf (lo), .int (nx), .int (σ.2.2.2.2.2.2.1), .int (σ.2.2.2.2.2.2.2), .ref (ad 12), .int (nI ((sTr σ).length)), .int (σ.2.2.2.2.1)])), (ad 1, .inl (cy 3, 9, .inr (.inr (.inr (.inr (fun i => some (sa (3 * i)))))))), (ad 2, .inl (cy 3, 9, .inr (.inr (.inr (.inr (fun i => some (sa (3 * (9 + i))))))))), (ad 5, .inl (cy 4, 8, .inr (.inr (.inr (.inr (fun i => some (ta (2 * i)))))))), (ad 6, .inl (cy 2, 40, .inr (.inr (.inr (.inr (pg)))))), (ad 12, .inl (cy 0, 16, .inl (bo))), (ta (2 * tI (x)), .inr (8, [.ref (ta (2 * tI (x) + 1)), .int (ms), .int (nI (q.1)), .int (nI (q.2.length))])), (ta (2 * tI (x) + 1), .inl (cy 0, 60, .inl (it)))] ++ (xs ++ (R ++ op)))) rfl ?_
              refine gw_if_eq (tgt := 91) dX11_copy_76 (by decide) (fun c76 => ?_) (fun c76 => ?_)
              · rw [bI_0, decide_eq_false_iff_not] at c76
                refine gw_aload_n dX11_copy_91 rfl ?_
                refine gw_iconst (v := nI (2)) dX11_copy_92 (by decide) ?_
                refine gw_W.wd (w' := bW cy ad sa ta (σ.1) ((sOp σ).length) ((sTr σ).length) nx (σ.2.2.2.2.2.2.1) (σ.2.2.2.2.2.2.2) (σ.2.2.2.2.1) lo pg bo ++ ([(ta (2 * tI (x)), .inr (8, [.ref (ta (2 * tI (x) + 1)), .int (ms), .int (nI (q.1)), .int (nI (q.2.length))])), (ta (2 * tI (x) + 1), .inl (cy 0, 60, .inl (it)))] ++ (xs ++ (R ++ op)))) rfl ?_
                refine gw_callV 0 (As := [.int (nI (2))]) (st := []) (c_bfound l cy ad sa ta (σ.1) ((sOp σ).length) ((sTr σ).length) nx (σ.2.2.2.2.2.2.1) (σ.2.2.2.2.2.2.2) (σ.2.2.2.2.1) lo pg bo ([(ta (2 * tI (x)), .inr (8, [.ref (ta (2 * tI (x) + 1)), .int (ms), .int (nI (q.1)), .int (nI (q.2.length))])), (ta (2 * tI (x) + 1), .inl (cy 0, 60, .inl (it)))] ++ (xs ++ (R ++ op))) (nI (2))) ok_X11_found rfl rfl rfl wd_234 rfl rfl dX11_copy_93 (by decide) (by decide) (Nat.le_of_ble_eq_true rfl) (fun r93 w93 hp93 => ?_)
                obtain ⟨rfl, rfl⟩ := hp93
                refine gw_W.norm (st' := [.int ((-1000010) - (nI (2)))]) (k1 := 0) (k2 := 0) rfl rfl rfl ?_
                refine gw_W.wd (w' := ([(ad 0, .inr (9, [.int (nI (σ.1)), .ref (ad 1), .ref (ad 2), .ref (sa (3 * 0)), .ref (ad 4), .ref (ad 5), .ref (ad 6), .int (nI ((sOp σ).length)), va_rf (lo), .int (nx), .int (σ.2.2.2.2.2.2.1), .int (σ.2.2.2.2.2.2.2), .ref (ad 12), .int (nI ((sTr σ).length)), .int (nI (2))])), (ad 1, .inl (cy 3, 9, .inr (.inr (.inr (.inr (fun i => some (sa (3 * i)))))))), (ad 2, .inl (cy 3, 9, .inr (.inr (.inr (.inr (fun i => some (sa (3 * (9 + i))))))))), (ad 5, .inl (cy 4, 8, .inr (.inr (.inr (.inr (fun i => some (ta (2 * i)))))))), (ad 6, .inl (cy 2, 40, .inr (.inr (.inr (.inr (pg)))))), (ad 12, .inl (cy 0, 16, .inl (bo))), (ta (2 * tI (x)), .inr (8, [.ref (ta (2 * tI (x) + 1)), .int (ms), .int (nI (q.1)), .int (nI (q.2.length))])), (ta (2 * tI (x) + 1), .inl (cy 0, 60, .inl (it)))] ++ (xs ++ (R ++ op)))) rfl ?_
                refine gw_W.wd (w' := bW cy ad sa ta (σ.1) ((sOp σ).length) ((sTr σ).length) nx (σ.2.2.2.2.2.2.1) (σ.2.2.2.2.2.2.2) (nI (2)) lo pg bo ++ (tW2 cy (ta (2 * tI (x))) (ta (2 * tI (x) + 1)) ms (nI (q.1)) (nI (q.2.length)) it ++ (xs ++ (R ++ op)))) rfl ?_
                refine gw_iret (?_) (by decide) (by decide) rfl dX11_copy_96
                subst hpost
                unfold spCopy
                rw [if_pos ⟨h2, h9⟩]
                rw [← eab, show sTb σ (tI x) = some q from hq]
                simp only
                rw [if_pos trivial, if_neg (fun h => by unfold cpOk at h; rw [decide_eq_true_eq] at h; first | exact c76 ⟨h.1, h.2.2.1, h.2.2.2.1⟩ | exact c88 ⟨h.2.1, h.2.2.1, h.2.2.2.2⟩)]
                exact ⟨rfl, ad, sa, ta, oa, nx, lo, pg, bo, cs, xs, tb, op, td, rfl, (perm_tb o1).symm, hxs, hcs, htb, hop, hN, hbo⟩
              · rw [bI_n0, decide_eq_true_eq] at c76
                refine gw_aload dX11_copy_79 rfl ?_
                refine gw_iload dX11_copy_81 rfl ?_
                refine gw_iload dX11_copy_83 rfl ?_
                refine gw_callVN 6 (As := [.int (j), .int (n)]) (st := []) ((c_thas l cy (ta (2 * tI (x))) (ta (2 * tI (x) + 1)) ms (nI q.1) q.2.length it [] (j) (n) e4).frame (w2 := ([(ad 0, .inr (9, [.int (nI (σ.1)), .ref (ad 1), .ref (ad 2), .ref (sa (3 * 0)), .ref (ad 4), .ref (ad 5), .ref (ad 6), .int (nI ((sOp σ).length)), va_rf (lo), .int (nx), .int (σ.2.2.2.2.2.2.1), .int (σ.2.2.2.2.2.2.2), .ref (ad 12), .int (nI ((sTr σ).length)), .int (σ.2.2.2.2.1)])), (ad 1, .inl (cy 3, 9, .inr (.inr (.inr (.inr (fun i => some (sa (3 * i)))))))), (ad 2, .inl (cy 3, 9, .inr (.inr (.inr (.inr (fun i => some (sa (3 * (9 + i))))))))), (ad 5, .inl (cy 4, 8, .inr (.inr (.inr (.inr (fun i => some (ta (2 * i)))))))), (ad 6, .inl (cy 2, 40, .inr (.inr (.inr (.inr (pg)))))), (ad 12, .inl (cy 0, 16, .inl (bo))), (ta (2 * tI (x)), .inr (8, [.ref (ta (2 * tI (x) + 1)), .int (ms), .int (nI (q.1)), .int (nI (q.2.length))])), (ta (2 * tI (x) + 1), .inl (cy 0, 60, .inl (it)))] ++ (xs ++ (R ++ op)))) (f := ((([(ad 0, .inr (9, [.int (nI (σ.1)), .ref (ad 1), .ref (ad 2), .ref (sa (3 * 0)), .ref (ad 4), .ref (ad 5), .ref (ad 6), .int (nI ((sOp σ).length)), va_rf (lo), .int (nx), .int (σ.2.2.2.2.2.2.1), .int (σ.2.2.2.2.2.2.2), .ref (ad 12), .int (nI ((sTr σ).length)), .int (σ.2.2.2.2.1)])), (ad 1, .inl (cy 3, 9, .inr (.inr (.inr (.inr (fun i => some (sa (3 * i)))))))), (ad 2, .inl (cy 3, 9, .inr (.inr (.inr (.inr (fun i => some (sa (3 * (9 + i))))))))), (ad 5, .inl (cy 4, 8, .inr (.inr (.inr (.inr (fun i => some (ta (2 * i)))))))), (ad 6, .inl (cy 2, 40, .inr (.inr (.inr (.inr (pg)))))), (ad 12, .inl (cy 0, 16, .inl (bo)))] : va_W) ++ ([] : va_W)) ++ (xs ++ (R ++ op)))) (perm_mid (A := ([(ad 0, .inr (9, [.int (nI (σ.1)), .ref (ad 1), .ref (ad 2), .ref (sa (3 * 0)), .ref (ad 4), .ref (ad 5), .ref (ad 6), .int (nI ((sOp σ).length)), va_rf (lo), .int (nx), .int (σ.2.2.2.2.2.2.1), .int (σ.2.2.2.2.2.2.2), .ref (ad 12), .int (nI ((sTr σ).length)), .int (σ.2.2.2.2.1)])), (ad 1, .inl (cy 3, 9, .inr (.inr (.inr (.inr (fun i => some (sa (3 * i)))))))), (ad 2, .inl (cy 3, 9, .inr (.inr (.inr (.inr (fun i => some (sa (3 * (9 + i))))))))), (ad 5, .inl (cy 4, 8, .inr (.inr (.inr (.inr (fun i => some (ta (2 * i)))))))), (ad 6, .inl (cy 2, 40, .inr (.inr (.inr (.inr (pg)))))), (ad 12, .inl (cy 0, 16, .inl (bo)))] : va_W)) (a := ([(ta (2 * tI (x)), .inr (8, [.ref (ta (2 * tI (x) + 1)), .int (ms), .int (nI (q.1)), .int (nI (q.2.length))])), (ta (2 * tI (x) + 1), .inl (cy 0, 60, .inl (it)))] : va_W)) (B := ([] : va_W)) (r := (xs ++ (R ++ op))))) ok_X10_hasPlaces rfl rfl rfl (host := "SpinBench") (by decide +kernel) rfl rfl dX11_copy_85 (by decide) (by decide) (Nat.le_of_ble_eq_true rfl) (fun r85 w85 hp85 => ?_)
                obtain ⟨w85, ⟨rfl, rfl⟩, rfl⟩ := hp85
                refine gw_W.norm (st' := [.int (bI (decide (0 ≤ (j).toInt ∧ 0 ≤ (n).toInt ∧ (j).toInt + (n).toInt ≤ q.2.length)))]) (k1 := 0) (k2 := 0) rfl rfl rfl ?_
                refine gw_W.wd (w' := ((([(ta (2 * tI (x)), .inr (8, [.ref (ta (2 * tI (x) + 1)), .int (ms), .int (nI (q.1)), .int (nI (q.2.length))])), (ta (2 * tI (x) + 1), .inl (cy 0, 60, .inl (it)))] : va_W) ++ []) ++ ((([(ad 0, .inr (9, [.int (nI (σ.1)), .ref (ad 1), .ref (ad 2), .ref (sa (3 * 0)), .ref (ad 4), .ref (ad 5), .ref (ad 6), .int (nI ((sOp σ).length)), va_rf (lo), .int (nx), .int (σ.2.2.2.2.2.2.1), .int (σ.2.2.2.2.2.2.2), .ref (ad 12), .int (nI ((sTr σ).length)), .int (σ.2.2.2.2.1)])), (ad 1, .inl (cy 3, 9, .inr (.inr (.inr (.inr (fun i => some (sa (3 * i)))))))), (ad 2, .inl (cy 3, 9, .inr (.inr (.inr (.inr (fun i => some (sa (3 * (9 + i))))))))), (ad 5, .inl (cy 4, 8, .inr (.inr (.inr (.inr (fun i => some (ta (2 * i)))))))), (ad 6, .inl (cy 2, 40, .inr (.inr (.inr (.inr (pg)))))), (ad 12, .inl (cy 0, 16, .inl (bo)))] : va_W) ++ ([] : va_W)) ++ (xs ++ (R ++ op))))) rfl ?_
                refine gw_W.perm (perm_mid (A := ([(ad 0, .inr (9, [.int (nI (σ.1)), .ref (ad 1), .ref (ad 2), .ref (sa (3 * 0)), .ref (ad 4), .ref (ad 5), .ref (ad 6), .int (nI ((sOp σ).length)), va_rf (lo), .int (nx), .int (σ.2.2.2.2.2.2.1), .int (σ.2.2.2.2.2.2.2), .ref (ad 12), .int (nI ((sTr σ).length)), .int (σ.2.2.2.2.1)])), (ad 1, .inl (cy 3, 9, .inr (.inr (.inr (.inr (fun i => some (sa (3 * i)))))))), (ad 2, .inl (cy 3, 9, .inr (.inr (.inr (.inr (fun i => some (sa (3 * (9 + i))))))))), (ad 5, .inl (cy 4, 8, .inr (.inr (.inr (.inr (fun i => some (ta (2 * i)))))))), (ad 6, .inl (cy 2, 40, .inr (.inr (.inr (.inr (pg)))))), (ad 12, .inl (cy 0, 16, .inl (bo)))] : va_W)) (a := ([(ta (2 * tI (x)), .inr (8, [.ref (ta (2 * tI (x) + 1)), .int (ms), .int (nI (q.1)), .int (nI (q.2.length))])), (ta (2 * tI (x) + 1), .inl (cy 0, 60, .inl (it)))] : va_W)) (B := ([] : va_W)) (r := (xs ++ (R ++ op)))).symm ?_
                refine gw_W.wd (w' := ([(ad 0, .inr (9, [.int (nI (σ.1)), .ref (ad 1), .ref (ad 2), .ref (sa (3 * 0)), .ref (ad 4), .ref (ad 5), .ref (ad 6), .int (nI ((sOp σ).length)), va_rf (lo), .int (nx), .int (σ.2.2.2.2.2.2.1), .int (σ.2.2.2.2.2.2.2), .ref (ad 12), .int (nI ((sTr σ).length)), .int (σ.2.2.2.2.1)])), (ad 1, .inl (cy 3, 9, .inr (.inr (.inr (.inr (fun i => some (sa (3 * i)))))))), (ad 2, .inl (cy 3, 9, .inr (.inr (.inr (.inr (fun i => some (sa (3 * (9 + i))))))))), (ad 5, .inl (cy 4, 8, .inr (.inr (.inr (.inr (fun i => some (ta (2 * i)))))))), (ad 6, .inl (cy 2, 40, .inr (.inr (.inr (.inr (pg)))))), (ad 12, .inl (cy 0, 16, .inl (bo))), (ta (2 * tI (x)), .inr (8, [.ref (ta (2 * tI (x) + 1)), .int (ms), .int (nI (q.1)), .int (nI (q.2.length))])), (ta (2 * tI (x) + 1), .inl (cy 0, 60, .inl (it)))] ++ (xs ++ (R ++ op)))) rfl ?_
                refine gw_if_ne (tgt := 97) dX11_copy_88 (by decide) (fun c88 => ?_) (fun c88 => ?_)
                · rw [bI_n0, decide_eq_true_eq] at c88
                  obtain ⟨i0, n0, in60⟩ := c76
                  obtain ⟨j0, -, jn60⟩ := c88
                  have xi : i = nI (tI i) := tI_of i0
                  have xj : j = nI (tI j) := tI_of j0
                  have xn : n = nI (tI n) := tI_of n0
                  have ti : (tI i : Int) = i.toInt := by unfold tI; omega
                  have tj : (tI j : Int) = j.toInt := by unfold tI; omega
                  have tn : (tI n : Int) = n.toInt := by unfold tI; omega
                  refine gw_aload dX11_copy_97 rfl ?_
                  refine gw_getN (C0 := RX10) (T := TX10) (N := 4) (ref := RX10) 6 rfl rfl inX10 0 (by decide) (host := "SpinBench") (by decide +kernel) (Or.inl rfl) rfl dX11_copy_99 ?_
                  refine gw_iload_n dX11_copy_102 rfl ?_
                  refine gw_aload dX11_copy_103 rfl ?_
                  refine gw_getN (C0 := RX10) (T := TX10) (N := 4) (ref := RX10) 6 rfl rfl inX10 0 (by decide) (host := "SpinBench") (by decide +kernel) (Or.inl rfl) rfl dX11_copy_105 ?_
                  refine gw_iload dX11_copy_108 rfl ?_
                  refine gw_iload dX11_copy_110 rfl ?_
                  refine gw_copyI (sp := tI i) (dp := tI j) (n := tI n) wd_266 wd_268 wd_267 wd_64 7 7 rfl rfl (xi) (xj) (xn) (by omega) (by omega) (by decide) ⟨by decide, Nat.le_of_ble_eq_true rfl⟩ dX11_copy_112 ?_
                  refine gw_W.wd (w' := ([(ad 0, .inr (9, [.int (nI (σ.1)), .ref (ad 1), .ref (ad 2), .ref (sa (3 * 0)), .ref (ad 4), .ref (ad 5), .ref (ad 6), .int (nI ((sOp σ).length)), va_rf (lo), .int (nx), .int (σ.2.2.2.2.2.2.1), .int (σ.2.2.2.2.2.2.2), .ref (ad 12), .int (nI ((sTr σ).length)), .int (σ.2.2.2.2.1)])), (ad 1, .inl (cy 3, 9, .inr (.inr (.inr (.inr (fun i => some (sa (3 * i)))))))), (ad 2, .inl (cy 3, 9, .inr (.inr (.inr (.inr (fun i => some (sa (3 * (9 + i))))))))), (ad 5, .inl (cy 4, 8, .inr (.inr (.inr (.inr (fun i => some (ta (2 * i)))))))), (ad 6, .inl (cy 2, 40, .inr (.inr (.inr (.inr (pg)))))), (ad 12, .inl (cy 0, 16, .inl (bo))), (ta (2 * tI (x)), .inr (8, [.ref (ta (2 * tI (x) + 1)), .int (ms), .int (nI (q.1)), .int (nI (q.2.length))])), (ta (2 * tI (x) + 1), .inl (cy 0, 60, .inl (va_cpy it it (tI i) (tI j) (tI n))))] ++ (xs ++ (R ++ op)))) rfl ?_
                  refine gw_aload_n dX11_copy_115 rfl ?_
                  refine gw_iload dX11_copy_116 rfl ?_
                  refine gw_W.wd (w' := bW cy ad sa ta (σ.1) ((sOp σ).length) ((sTr σ).length) nx (σ.2.2.2.2.2.2.1) (σ.2.2.2.2.2.2.2) (σ.2.2.2.2.1) lo pg bo ++ ([(ta (2 * tI (x)), .inr (8, [.ref (ta (2 * tI (x) + 1)), .int (ms), .int (nI (q.1)), .int (nI (q.2.length))])), (ta (2 * tI (x) + 1), .inl (cy 0, 60, .inl (va_cpy it it (tI i) (tI j) (tI n))))] ++ (xs ++ (R ++ op)))) rfl ?_
                  refine gw_callV 0 (As := [.int (n)]) (st := []) (c_bnotFound l cy ad sa ta (σ.1) ((sOp σ).length) ((sTr σ).length) nx (σ.2.2.2.2.2.2.1) (σ.2.2.2.2.2.2.2) (σ.2.2.2.2.1) lo pg bo ([(ta (2 * tI (x)), .inr (8, [.ref (ta (2 * tI (x) + 1)), .int (ms), .int (nI (q.1)), .int (nI (q.2.length))])), (ta (2 * tI (x) + 1), .inl (cy 0, 60, .inl (va_cpy it it (tI i) (tI j) (tI n))))] ++ (xs ++ (R ++ op))) (n)) ok_X11_notFound rfl rfl rfl wd_246 rfl rfl dX11_copy_118 (by decide) (by decide) (Nat.le_of_ble_eq_true rfl) (fun r118 w118 hp118 => ?_)
                  obtain ⟨rfl, rfl⟩ := hp118
                  refine gw_W.norm (st' := [.int (n)]) (k1 := 0) (k2 := 0) rfl rfl rfl ?_
                  refine gw_W.wd (w' := ([(ad 0, .inr (9, [.int (nI (σ.1)), .ref (ad 1), .ref (ad 2), .ref (sa (3 * 0)), .ref (ad 4), .ref (ad 5), .ref (ad 6), .int (nI ((sOp σ).length)), va_rf (lo), .int (nx), .int (σ.2.2.2.2.2.2.1), .int (σ.2.2.2.2.2.2.2), .ref (ad 12), .int (nI ((sTr σ).length)), .int (0)])), (ad 1, .inl (cy 3, 9, .inr (.inr (.inr (.inr (fun i => some (sa (3 * i)))))))), (ad 2, .inl (cy 3, 9, .inr (.inr (.inr (.inr (fun i => some (sa (3 * (9 + i))))))))), (ad 5, .inl (cy 4, 8, .inr (.inr (.inr (.inr (fun i => some (ta (2 * i)))))))), (ad 6, .inl (cy 2, 40, .inr (.inr (.inr (.inr (pg)))))), (ad 12, .inl (cy 0, 16, .inl (bo))), (ta (2 * tI (x)), .inr (8, [.ref (ta (2 * tI (x) + 1)), .int (ms), .int (nI (q.1)), .int (nI (q.2.length))])), (ta (2 * tI (x) + 1), .inl (cy 0, 60, .inl (va_cpy it it (tI i) (tI j) (tI n))))] ++ (xs ++ (R ++ op)))) rfl ?_
                  refine gw_W.wd (w' := bW cy ad sa ta (σ.1) ((sOp σ).length) ((sTr σ).length) nx (σ.2.2.2.2.2.2.1) (σ.2.2.2.2.2.2.2) 0 lo pg bo ++ (tW2 cy (ta (2 * tI (x))) (ta (2 * tI (x) + 1)) ms (nI (q.1)) (nI (q.2.length)) (va_cpy it it (tI i) (tI j) (tI n)) ++ (xs ++ (R ++ op)))) rfl ?_
                  refine gw_iret (?_) (by decide) (by decide) rfl dX11_copy_121
                  subst hpost
                  unfold spCopy
                  rw [if_pos ⟨h2, h9⟩]
                  rw [← eab, show sTb σ (tI x) = some q from hq]
                  simp only
                  rw [if_pos trivial, if_pos (show cpOk i j n q.2.length q.2.length = true from by unfold cpOk; rw [decide_eq_true_eq]; exact ⟨i0, j0, n0, in60, jn60⟩)]
                  exact ⟨rfl, ad, sa, ta, oa, nx, lo, pg, bo, cs, xs, (tW2 cy (ta (2 * tI (x))) (ta (2 * tI (x) + 1)) ms (nI q.1) (nI q.2.length) (va_cpy it it (tI i) (tI j) (tI n)) ++ R), op, td, rfl, perm_tb2 _ _ _ _ _, hxs, hcs, o3 (some (q.1, cpI q.2 q.2 (tI i) (tI j) (tI n))) ms (nI q.1) (nI q.2.length) (va_cpy it it (tI i) (tI j) (tI n)) _ ⟨c32, e2, rfl, by rw [cpI_len]; exact e4, by rw [cpI_len], cp_row e6 e6 (by omega)⟩ (List.Perm.refl _), hop, hN, hbo⟩
                · rw [bI_0, decide_eq_false_iff_not] at c88
                  refine gw_aload_n dX11_copy_91 rfl ?_
                  refine gw_iconst (v := nI (2)) dX11_copy_92 (by decide) ?_
                  refine gw_W.wd (w' := bW cy ad sa ta (σ.1) ((sOp σ).length) ((sTr σ).length) nx (σ.2.2.2.2.2.2.1) (σ.2.2.2.2.2.2.2) (σ.2.2.2.2.1) lo pg bo ++ ([(ta (2 * tI (x)), .inr (8, [.ref (ta (2 * tI (x) + 1)), .int (ms), .int (nI (q.1)), .int (nI (q.2.length))])), (ta (2 * tI (x) + 1), .inl (cy 0, 60, .inl (it)))] ++ (xs ++ (R ++ op)))) rfl ?_
                  refine gw_callV 0 (As := [.int (nI (2))]) (st := []) (c_bfound l cy ad sa ta (σ.1) ((sOp σ).length) ((sTr σ).length) nx (σ.2.2.2.2.2.2.1) (σ.2.2.2.2.2.2.2) (σ.2.2.2.2.1) lo pg bo ([(ta (2 * tI (x)), .inr (8, [.ref (ta (2 * tI (x) + 1)), .int (ms), .int (nI (q.1)), .int (nI (q.2.length))])), (ta (2 * tI (x) + 1), .inl (cy 0, 60, .inl (it)))] ++ (xs ++ (R ++ op))) (nI (2))) ok_X11_found rfl rfl rfl wd_234 rfl rfl dX11_copy_93 (by decide) (by decide) (Nat.le_of_ble_eq_true rfl) (fun r93 w93 hp93 => ?_)
                  obtain ⟨rfl, rfl⟩ := hp93
                  refine gw_W.norm (st' := [.int ((-1000010) - (nI (2)))]) (k1 := 0) (k2 := 0) rfl rfl rfl ?_
                  refine gw_W.wd (w' := ([(ad 0, .inr (9, [.int (nI (σ.1)), .ref (ad 1), .ref (ad 2), .ref (sa (3 * 0)), .ref (ad 4), .ref (ad 5), .ref (ad 6), .int (nI ((sOp σ).length)), va_rf (lo), .int (nx), .int (σ.2.2.2.2.2.2.1), .int (σ.2.2.2.2.2.2.2), .ref (ad 12), .int (nI ((sTr σ).length)), .int (nI (2))])), (ad 1, .inl (cy 3, 9, .inr (.inr (.inr (.inr (fun i => some (sa (3 * i)))))))), (ad 2, .inl (cy 3, 9, .inr (.inr (.inr (.inr (fun i => some (sa (3 * (9 + i))))))))), (ad 5, .inl (cy 4, 8, .inr (.inr (.inr (.inr (fun i => some (ta (2 * i)))))))), (ad 6, .inl (cy 2, 40, .inr (.inr (.inr (.inr (pg)))))), (ad 12, .inl (cy 0, 16, .inl (bo))), (ta (2 * tI (x)), .inr (8, [.ref (ta (2 * tI (x) + 1)), .int (ms), .int (nI (q.1)), .int (nI (q.2.length))])), (ta (2 * tI (x) + 1), .inl (cy 0, 60, .inl (it)))] ++ (xs ++ (R ++ op)))) rfl ?_
                  refine gw_W.wd (w' := bW cy ad sa ta (σ.1) ((sOp σ).length) ((sTr σ).length) nx (σ.2.2.2.2.2.2.1) (σ.2.2.2.2.2.2.2) (nI (2)) lo pg bo ++ (tW2 cy (ta (2 * tI (x))) (ta (2 * tI (x) + 1)) ms (nI (q.1)) (nI (q.2.length)) it ++ (xs ++ (R ++ op)))) rfl ?_
                  refine gw_iret (?_) (by decide) (by decide) rfl dX11_copy_96
                  subst hpost
                  unfold spCopy
                  rw [if_pos ⟨h2, h9⟩]
                  rw [← eab, show sTb σ (tI x) = some q from hq]
                  simp only
                  rw [if_pos trivial, if_neg (fun h => by unfold cpOk at h; rw [decide_eq_true_eq] at h; first | exact c76 ⟨h.1, h.2.2.1, h.2.2.2.1⟩ | exact c88 ⟨h.2.1, h.2.2.1, h.2.2.2.2⟩)]
                  exact ⟨rfl, ad, sa, ta, oa, nx, lo, pg, bo, cs, xs, tb, op, td, rfl, (perm_tb o1).symm, hxs, hcs, htb, hop, hN, hbo⟩
            · exact absurd rfl c59
          · exact absurd c32 c40
      · rw [if_neg h9]
        refine gw_W.norm (st' := [.null]) (k1 := 0) (k2 := 0) rfl rfl rfl ?_
        refine gw_W.wd (w' := ([(ad 0, .inr (9, [.int (nI (σ.1)), .ref (ad 1), .ref (ad 2), .ref (sa (3 * 0)), .ref (ad 4), .ref (ad 5), .ref (ad 6), .int (nI ((sOp σ).length)), va_rf (lo), .int (nx), .int (σ.2.2.2.2.2.2.1), .int (σ.2.2.2.2.2.2.2), .ref (ad 12), .int (nI ((sTr σ).length)), .int (σ.2.2.2.2.1)])), (ad 1, .inl (cy 3, 9, .inr (.inr (.inr (.inr (fun i => some (sa (3 * i)))))))), (ad 2, .inl (cy 3, 9, .inr (.inr (.inr (.inr (fun i => some (sa (3 * (9 + i))))))))), (ad 5, .inl (cy 4, 8, .inr (.inr (.inr (.inr (fun i => some (ta (2 * i)))))))), (ad 6, .inl (cy 2, 40, .inr (.inr (.inr (.inr (pg)))))), (ad 12, .inl (cy 0, 16, .inl (bo)))] ++ (xs ++ (tb ++ op)))) rfl ?_
        refine gw_astoreN dX11_copy_12 (by decide) rfl ?_
        refine gw_aload dX11_copy_14 rfl ?_
        refine gw_ifnull dX11_copy_16 ?_
        refine gw_aloadN dX11_copy_19 rfl ?_
        refine gw_ifnonnullN dX11_copy_21 ?_
        refine gw_ldc dX11_copy_24 wd_233 ?_
        refine gw_W.wd (w' := bW cy ad sa ta (σ.1) ((sOp σ).length) ((sTr σ).length) nx (σ.2.2.2.2.2.2.1) (σ.2.2.2.2.2.2.2) (σ.2.2.2.2.1) lo pg bo ++ (xs ++ (tb ++ op))) rfl ?_
        refine gw_iret (?_) (by decide) (by decide) rfl dX11_copy_26
        subst hpost
        unfold spCopy
        rw [if_neg (fun h => by first | exact h2 h.1 | exact h9 h.2)]
        exact ⟨rfl, ad, sa, ta, oa, nx, lo, pg, bo, cs, xs, tb, op, td, rfl, List.Perm.refl _, hxs, hcs, htb, hop, hN, hbo⟩
    · rw [if_neg h2]
      refine gw_W.norm (st' := [.null]) (k1 := 0) (k2 := 0) rfl rfl rfl ?_
      refine gw_W.wd (w' := ([(ad 0, .inr (9, [.int (nI (σ.1)), .ref (ad 1), .ref (ad 2), .ref (sa (3 * 0)), .ref (ad 4), .ref (ad 5), .ref (ad 6), .int (nI ((sOp σ).length)), va_rf (lo), .int (nx), .int (σ.2.2.2.2.2.2.1), .int (σ.2.2.2.2.2.2.2), .ref (ad 12), .int (nI ((sTr σ).length)), .int (σ.2.2.2.2.1)])), (ad 1, .inl (cy 3, 9, .inr (.inr (.inr (.inr (fun i => some (sa (3 * i)))))))), (ad 2, .inl (cy 3, 9, .inr (.inr (.inr (.inr (fun i => some (sa (3 * (9 + i))))))))), (ad 5, .inl (cy 4, 8, .inr (.inr (.inr (.inr (fun i => some (ta (2 * i)))))))), (ad 6, .inl (cy 2, 40, .inr (.inr (.inr (.inr (pg)))))), (ad 12, .inl (cy 0, 16, .inl (bo)))] ++ (xs ++ (tb ++ op)))) rfl ?_
      refine gw_astoreN dX11_copy_5 (by decide) rfl ?_
      refine gw_aload_n dX11_copy_7 rfl ?_
      refine gw_iload_n dX11_copy_8 rfl ?_
      refine gw_W.wd (w' := bW cy ad sa ta (σ.1) ((sOp σ).length) ((sTr σ).length) nx (σ.2.2.2.2.2.2.1) (σ.2.2.2.2.2.2.2) (σ.2.2.2.2.1) lo pg bo ++ (xs ++ (tb ++ op))) rfl ?_
      refine gw_callV 0 (As := [.int (y)]) (st := []) (c_btableAt l cy ad sa ta (σ.1) ((sOp σ).length) ((sTr σ).length) nx (σ.2.2.2.2.2.2.1) (σ.2.2.2.2.2.2.2) (σ.2.2.2.2.1) lo pg bo (xs ++ (tb ++ op)) (y)) ok_X11_tableAt rfl rfl rfl wd_226 rfl rfl dX11_copy_9 (by decide) (by decide) (Nat.le_of_ble_eq_true rfl) (fun r9 w9 hp9 => ?_)
      obtain ⟨rfl, rfl⟩ := hp9
      by_cases h9 : inZ (y).toInt 0 7 = true
      · rw [if_pos h9]
        refine gw_W.norm (st' := [.ref (ta (2 * tI (y)))]) (k1 := 0) (k2 := 0) rfl rfl rfl ?_
        refine gw_W.wd (w' := ([(ad 0, .inr (9, [.int (nI (σ.1)), .ref (ad 1), .ref (ad 2), .ref (sa (3 * 0)), .ref (ad 4), .ref (ad 5), .ref (ad 6), .int (nI ((sOp σ).length)), va_rf (lo), .int (nx), .int (σ.2.2.2.2.2.2.1), .int (σ.2.2.2.2.2.2.2), .ref (ad 12), .int (nI ((sTr σ).length)), .int (σ.2.2.2.2.1)])), (ad 1, .inl (cy 3, 9, .inr (.inr (.inr (.inr (fun i => some (sa (3 * i)))))))), (ad 2, .inl (cy 3, 9, .inr (.inr (.inr (.inr (fun i => some (sa (3 * (9 + i))))))))), (ad 5, .inl (cy 4, 8, .inr (.inr (.inr (.inr (fun i => some (ta (2 * i)))))))), (ad 6, .inl (cy 2, 40, .inr (.inr (.inr (.inr (pg)))))), (ad 12, .inl (cy 0, 16, .inl (bo)))] ++ (xs ++ (tb ++ op)))) rfl ?_
        refine gw_astore dX11_copy_12 (by decide) rfl ?_
        refine gw_aloadN dX11_copy_14 rfl ?_
        refine gw_ifnullN (tgt := 24) dX11_copy_16 (by decide) ?_
        refine gw_ldc dX11_copy_24 wd_233 ?_
        refine gw_W.wd (w' := bW cy ad sa ta (σ.1) ((sOp σ).length) ((sTr σ).length) nx (σ.2.2.2.2.2.2.1) (σ.2.2.2.2.2.2.2) (σ.2.2.2.2.1) lo pg bo ++ (xs ++ (tb ++ op))) rfl ?_
        refine gw_iret (?_) (by decide) (by decide) rfl dX11_copy_26
        subst hpost
        unfold spCopy
        rw [if_neg (fun h => by first | exact h2 h.1 | exact h9 h.2)]
        exact ⟨rfl, ad, sa, ta, oa, nx, lo, pg, bo, cs, xs, tb, op, td, rfl, List.Perm.refl _, hxs, hcs, htb, hop, hN, hbo⟩
      · rw [if_neg h9]
        refine gw_W.norm (st' := [.null]) (k1 := 0) (k2 := 0) rfl rfl rfl ?_
        refine gw_W.wd (w' := ([(ad 0, .inr (9, [.int (nI (σ.1)), .ref (ad 1), .ref (ad 2), .ref (sa (3 * 0)), .ref (ad 4), .ref (ad 5), .ref (ad 6), .int (nI ((sOp σ).length)), va_rf (lo), .int (nx), .int (σ.2.2.2.2.2.2.1), .int (σ.2.2.2.2.2.2.2), .ref (ad 12), .int (nI ((sTr σ).length)), .int (σ.2.2.2.2.1)])), (ad 1, .inl (cy 3, 9, .inr (.inr (.inr (.inr (fun i => some (sa (3 * i)))))))), (ad 2, .inl (cy 3, 9, .inr (.inr (.inr (.inr (fun i => some (sa (3 * (9 + i))))))))), (ad 5, .inl (cy 4, 8, .inr (.inr (.inr (.inr (fun i => some (ta (2 * i)))))))), (ad 6, .inl (cy 2, 40, .inr (.inr (.inr (.inr (pg)))))), (ad 12, .inl (cy 0, 16, .inl (bo)))] ++ (xs ++ (tb ++ op)))) rfl ?_
        refine gw_astoreN dX11_copy_12 (by decide) rfl ?_
        refine gw_aloadN dX11_copy_14 rfl ?_
        refine gw_ifnullN (tgt := 24) dX11_copy_16 (by decide) ?_
        refine gw_ldc dX11_copy_24 wd_233 ?_
        refine gw_W.wd (w' := bW cy ad sa ta (σ.1) ((sOp σ).length) ((sTr σ).length) nx (σ.2.2.2.2.2.2.1) (σ.2.2.2.2.2.2.2) (σ.2.2.2.2.1) lo pg bo ++ (xs ++ (tb ++ op))) rfl ?_
        refine gw_iret (?_) (by decide) (by decide) rfl dX11_copy_26
        subst hpost
        unfold spCopy
        rw [if_neg (fun h => by first | exact h2 h.1 | exact h9 h.2)]
        exact ⟨rfl, ad, sa, ta, oa, nx, lo, pg, bo, cs, xs, tb, op, td, rfl, List.Perm.refl _, hxs, hcs, htb, hop, hN, hbo⟩
  ·
    refine gw_M.mk (lv := [some (.ref (ad 0)), some (.int (x)), some (.int (i)), some (.int (y)), some (.int (j)), some (.int (n)), none, none]) (by decide) (Nat.le_of_ble_eq_true rfl) rfl ?_
    generalize hpost : (cPost cy (ad 0) (spCopy σ x i y j n) : gw_Q) = post
    refine gw_W.wd (w' := ([(ad 0, .inr (9, [.int (nI (σ.1)), .ref (ad 1), .ref (ad 2), .ref (sa (3 * 0)), .ref (ad 4), .ref (ad 5), .ref (ad 6), .int (nI ((sOp σ).length)), va_rf (lo), .int (nx), .int (σ.2.2.2.2.2.2.1), .int (σ.2.2.2.2.2.2.2), .ref (ad 12), .int (nI ((sTr σ).length)), .int (σ.2.2.2.2.1)])), (ad 1, .inl (cy 3, 9, .inr (.inr (.inr (.inr (fun i => some (sa (3 * i)))))))), (ad 2, .inl (cy 3, 9, .inr (.inr (.inr (.inr (fun i => some (sa (3 * (9 + i))))))))), (ad 5, .inl (cy 4, 8, .inr (.inr (.inr (.inr (fun i => some (ta (2 * i)))))))), (ad 6, .inl (cy 2, 40, .inr (.inr (.inr (.inr (pg)))))), (ad 12, .inl (cy 0, 16, .inl (bo)))] ++ (xs ++ (tb ++ op)))) rfl ?_
    refine gw_aload_n dX11_copy_0 rfl ?_
    refine gw_iload_n dX11_copy_1 rfl ?_
    refine gw_W.wd (w' := bW cy ad sa ta (σ.1) ((sOp σ).length) ((sTr σ).length) nx (σ.2.2.2.2.2.2.1) (σ.2.2.2.2.2.2.2) (σ.2.2.2.2.1) lo pg bo ++ (xs ++ (tb ++ op))) rfl ?_
    refine gw_callV 0 (As := [.int (x)]) (st := []) (c_btableAt l cy ad sa ta (σ.1) ((sOp σ).length) ((sTr σ).length) nx (σ.2.2.2.2.2.2.1) (σ.2.2.2.2.2.2.2) (σ.2.2.2.2.1) lo pg bo (xs ++ (tb ++ op)) (x)) ok_X11_tableAt rfl rfl rfl wd_226 rfl rfl dX11_copy_2 (by decide) (by decide) (Nat.le_of_ble_eq_true rfl) (fun r2 w2 hp2 => ?_)
    obtain ⟨rfl, rfl⟩ := hp2
    by_cases h2 : inZ (x).toInt 0 7 = true
    · rw [if_pos h2]
      refine gw_W.norm (st' := [.ref (ta (2 * tI (x)))]) (k1 := 0) (k2 := 0) rfl rfl rfl ?_
      refine gw_W.wd (w' := ([(ad 0, .inr (9, [.int (nI (σ.1)), .ref (ad 1), .ref (ad 2), .ref (sa (3 * 0)), .ref (ad 4), .ref (ad 5), .ref (ad 6), .int (nI ((sOp σ).length)), va_rf (lo), .int (nx), .int (σ.2.2.2.2.2.2.1), .int (σ.2.2.2.2.2.2.2), .ref (ad 12), .int (nI ((sTr σ).length)), .int (σ.2.2.2.2.1)])), (ad 1, .inl (cy 3, 9, .inr (.inr (.inr (.inr (fun i => some (sa (3 * i)))))))), (ad 2, .inl (cy 3, 9, .inr (.inr (.inr (.inr (fun i => some (sa (3 * (9 + i))))))))), (ad 5, .inl (cy 4, 8, .inr (.inr (.inr (.inr (fun i => some (ta (2 * i)))))))), (ad 6, .inl (cy 2, 40, .inr (.inr (.inr (.inr (pg)))))), (ad 12, .inl (cy 0, 16, .inl (bo)))] ++ (xs ++ (tb ++ op)))) rfl ?_
      refine gw_astore dX11_copy_5 (by decide) rfl ?_
      refine gw_aload_n dX11_copy_7 rfl ?_
      refine gw_iload_n dX11_copy_8 rfl ?_
      refine gw_W.wd (w' := bW cy ad sa ta (σ.1) ((sOp σ).length) ((sTr σ).length) nx (σ.2.2.2.2.2.2.1) (σ.2.2.2.2.2.2.2) (σ.2.2.2.2.1) lo pg bo ++ (xs ++ (tb ++ op))) rfl ?_
      refine gw_callV 0 (As := [.int (y)]) (st := []) (c_btableAt l cy ad sa ta (σ.1) ((sOp σ).length) ((sTr σ).length) nx (σ.2.2.2.2.2.2.1) (σ.2.2.2.2.2.2.2) (σ.2.2.2.2.1) lo pg bo (xs ++ (tb ++ op)) (y)) ok_X11_tableAt rfl rfl rfl wd_226 rfl rfl dX11_copy_9 (by decide) (by decide) (Nat.le_of_ble_eq_true rfl) (fun r9 w9 hp9 => ?_)
      obtain ⟨rfl, rfl⟩ := hp9
      by_cases h9 : inZ (y).toInt 0 7 = true
      · rw [if_pos h9]
        refine gw_W.norm (st' := [.ref (ta (2 * tI (y)))]) (k1 := 0) (k2 := 0) rfl rfl rfl ?_
        refine gw_W.wd (w' := ([(ad 0, .inr (9, [.int (nI (σ.1)), .ref (ad 1), .ref (ad 2), .ref (sa (3 * 0)), .ref (ad 4), .ref (ad 5), .ref (ad 6), .int (nI ((sOp σ).length)), va_rf (lo), .int (nx), .int (σ.2.2.2.2.2.2.1), .int (σ.2.2.2.2.2.2.2), .ref (ad 12), .int (nI ((sTr σ).length)), .int (σ.2.2.2.2.1)])), (ad 1, .inl (cy 3, 9, .inr (.inr (.inr (.inr (fun i => some (sa (3 * i)))))))), (ad 2, .inl (cy 3, 9, .inr (.inr (.inr (.inr (fun i => some (sa (3 * (9 + i))))))))), (ad 5, .inl (cy 4, 8, .inr (.inr (.inr (.inr (fun i => some (ta (2 * i)))))))), (ad 6, .inl (cy 2, 40, .inr (.inr (.inr (.inr (pg)))))), (ad 12, .inl (cy 0, 16, .inl (bo)))] ++ (xs ++ (tb ++ op)))) rfl ?_
        refine gw_astore dX11_copy_12 (by decide) rfl ?_
        obtain ⟨ms, la, sz, it, mt, lt, zt, jt, R, o1, o2, o4, o3⟩ := tbP_open2 htb (i := tI (y)) (j := tI (x)) (tI_lt h9) (tI_lt h2) eab
        refine gw_W.perm (w' := ([(ad 0, .inr (9, [.int (nI (σ.1)), .ref (ad 1), .ref (ad 2), .ref (sa (3 * 0)), .ref (ad 4), .ref (ad 5), .ref (ad 6), .int (nI ((sOp σ).length)), va_rf (lo), .int (nx), .int (σ.2.2.2.2.2.2.1), .int (σ.2.2.2.2.2.2.2), .ref (ad 12), .int (nI ((sTr σ).length)), .int (σ.2.2.2.2.1)])), (ad 1, .inl (cy 3, 9, .inr (.inr (.inr (.inr (fun i => some (sa (3 * i)))))))), (ad 2, .inl (cy 3, 9, .inr (.inr (.inr (.inr (fun i => some (sa (3 * (9 + i))))))))), (ad 5, .inl (cy 4, 8, .inr (.inr (.inr (.inr (fun i => some (ta (2 * i)))))))), (ad 6, .inl (cy 2, 40, .inr (.inr (.inr (.inr (pg)))))), (ad 12, .inl (cy 0, 16, .inl (bo))), (ta (2 * tI (y)), .inr (8, [.ref (ta (2 * tI (y) + 1)), .int (mt), .int (lt), .int (zt)])), (ta (2 * tI (y) + 1), .inl (cy 0, 60, .inl (jt))), (ta (2 * tI (x)), .inr (8, [.ref (ta (2 * tI (x) + 1)), .int (ms), .int (la), .int (sz)])), (ta (2 * tI (x) + 1), .inl (cy 0, 60, .inl (it)))] ++ (xs ++ (R ++ op)))) (perm_tb (B := ([(ad 0, .inr (9, [.int (nI (σ.1)), .ref (ad 1), .ref (ad 2), .ref (sa (3 * 0)), .ref (ad 4), .ref (ad 5), .ref (ad 6), .int (nI ((sOp σ).length)), va_rf (lo), .int (nx), .int (σ.2.2.2.2.2.2.1), .int (σ.2.2.2.2.2.2.2), .ref (ad 12), .int (nI ((sTr σ).length)), .int (σ.2.2.2.2.1)])), (ad 1, .inl (cy 3, 9, .inr (.inr (.inr (.inr (fun i => some (sa (3 * i)))))))), (ad 2, .inl (cy 3, 9, .inr (.inr (.inr (.inr (fun i => some (sa (3 * (9 + i))))))))), (ad 5, .inl (cy 4, 8, .inr (.inr (.inr (.inr (fun i => some (ta (2 * i)))))))), (ad 6, .inl (cy 2, 40, .inr (.inr (.inr (.inr (pg)))))), (ad 12, .inl (cy 0, 16, .inl (bo)))] : va_W)) o1) ?_
        refine gw_aload dX11_copy_14 rfl ?_
        refine gw_ifnull dX11_copy_16 ?_
        refine gw_aload dX11_copy_19 rfl ?_
        refine gw_ifnonnull (tgt := 27) dX11_copy_21 (by decide) ?_
        refine gw_aload dX11_copy_27 rfl ?_
        refine gw_getN (C0 := RX10) (T := TX10) (N := 4) (ref := RX10) 8 rfl rfl inX10 1 (by decide) (host := "SpinBench") (by decide +kernel) (Or.inl rfl) rfl dX11_copy_29 ?_
        refine gw_if_ne (tgt := 43) dX11_copy_32 (by decide) (fun c32 => ?_) (fun c32 => ?_)
        · refine gw_aload_n dX11_copy_43 rfl ?_
          refine gw_iconst (v := nI (1)) dX11_copy_44 (by decide) ?_
          refine gw_W.wd (w' := bW cy ad sa ta (σ.1) ((sOp σ).length) ((sTr σ).length) nx (σ.2.2.2.2.2.2.1) (σ.2.2.2.2.2.2.2) (σ.2.2.2.2.1) lo pg bo ++ ([(ta (2 * tI (y)), .inr (8, [.ref (ta (2 * tI (y) + 1)), .int (mt), .int (lt), .int (zt)])), (ta (2 * tI (y) + 1), .inl (cy 0, 60, .inl (jt))), (ta (2 * tI (x)), .inr (8, [.ref (ta (2 * tI (x) + 1)), .int (ms), .int (la), .int (sz)])), (ta (2 * tI (x) + 1), .inl (cy 0, 60, .inl (it)))] ++ (xs ++ (R ++ op)))) rfl ?_
          refine gw_callV 0 (As := [.int (nI (1))]) (st := []) (c_bfound l cy ad sa ta (σ.1) ((sOp σ).length) ((sTr σ).length) nx (σ.2.2.2.2.2.2.1) (σ.2.2.2.2.2.2.2) (σ.2.2.2.2.1) lo pg bo ([(ta (2 * tI (y)), .inr (8, [.ref (ta (2 * tI (y) + 1)), .int (mt), .int (lt), .int (zt)])), (ta (2 * tI (y) + 1), .inl (cy 0, 60, .inl (jt))), (ta (2 * tI (x)), .inr (8, [.ref (ta (2 * tI (x) + 1)), .int (ms), .int (la), .int (sz)])), (ta (2 * tI (x) + 1), .inl (cy 0, 60, .inl (it)))] ++ (xs ++ (R ++ op))) (nI (1))) ok_X11_found rfl rfl rfl wd_234 rfl rfl dX11_copy_45 (by decide) (by decide) (Nat.le_of_ble_eq_true rfl) (fun r45 w45 hp45 => ?_)
          obtain ⟨rfl, rfl⟩ := hp45
          refine gw_W.norm (st' := [.int ((-1000010) - (nI (1)))]) (k1 := 0) (k2 := 0) rfl rfl rfl ?_
          refine gw_W.wd (w' := ([(ad 0, .inr (9, [.int (nI (σ.1)), .ref (ad 1), .ref (ad 2), .ref (sa (3 * 0)), .ref (ad 4), .ref (ad 5), .ref (ad 6), .int (nI ((sOp σ).length)), va_rf (lo), .int (nx), .int (σ.2.2.2.2.2.2.1), .int (σ.2.2.2.2.2.2.2), .ref (ad 12), .int (nI ((sTr σ).length)), .int (nI (1))])), (ad 1, .inl (cy 3, 9, .inr (.inr (.inr (.inr (fun i => some (sa (3 * i)))))))), (ad 2, .inl (cy 3, 9, .inr (.inr (.inr (.inr (fun i => some (sa (3 * (9 + i))))))))), (ad 5, .inl (cy 4, 8, .inr (.inr (.inr (.inr (fun i => some (ta (2 * i)))))))), (ad 6, .inl (cy 2, 40, .inr (.inr (.inr (.inr (pg)))))), (ad 12, .inl (cy 0, 16, .inl (bo))), (ta (2 * tI (y)), .inr (8, [.ref (ta (2 * tI (y) + 1)), .int (mt), .int (lt), .int (zt)])), (ta (2 * tI (y) + 1), .inl (cy 0, 60, .inl (jt))), (ta (2 * tI (x)), .inr (8, [.ref (ta (2 * tI (x) + 1)), .int (ms), .int (la), .int (sz)])), (ta (2 * tI (x) + 1), .inl (cy 0, 60, .inl (it)))] ++ (xs ++ (R ++ op)))) rfl ?_
          refine gw_W.wd (w' := bW cy ad sa ta (σ.1) ((sOp σ).length) ((sTr σ).length) nx (σ.2.2.2.2.2.2.1) (σ.2.2.2.2.2.2.2) (nI (1)) lo pg bo ++ (tW2 cy (ta (2 * tI (y))) (ta (2 * tI (y) + 1)) mt lt zt jt ++ (tW2 cy (ta (2 * tI (x))) (ta (2 * tI (x) + 1)) ms la sz it ++ (xs ++ (R ++ op))))) rfl ?_
          refine gw_iret (?_) (by decide) (by decide) rfl dX11_copy_48
          subst hpost
          unfold spCopy
          rw [if_pos ⟨h2, h9⟩]
          first
            | (rw [tab_none o2 c32]; exact ⟨rfl, ad, sa, ta, oa, nx, lo, pg, bo, cs, xs, tb, op, td, rfl, (perm_tb4 o1), hxs, hcs, htb, hop, hN, hbo⟩)
            | (rw [show sTb σ (tI x) = some q from hq, tab_none o4 c40]; exact ⟨rfl, ad, sa, ta, oa, nx, lo, pg, bo, cs, xs, tb, op, td, rfl, (perm_tb4 o1), hxs, hcs, htb, hop, hN, hbo⟩)
        · obtain ⟨q, hq, e2, e3, e4, e5, e6⟩ := tab_some o2 c32
          subst e3; subst e5
          refine gw_aload dX11_copy_35 rfl ?_
          refine gw_getN (C0 := RX10) (T := TX10) (N := 4) (ref := RX10) 6 rfl rfl inX10 1 (by decide) (host := "SpinBench") (by decide +kernel) (Or.inl rfl) rfl dX11_copy_37 ?_
          refine gw_if_eq (tgt := 49) dX11_copy_40 (by decide) (fun c40 => ?_) (fun c40 => ?_)
          · obtain ⟨p, hp, f2, f3, f4, f5, f6⟩ := tab_some o4 c40
            subst f3; subst f5
            refine gw_aload dX11_copy_49 rfl ?_
            refine gw_getN (C0 := RX10) (T := TX10) (N := 4) (ref := RX10) 8 rfl rfl inX10 2 (by decide) (host := "SpinBench") (by decide +kernel) (Or.inl rfl) rfl dX11_copy_51 ?_
            refine gw_aload dX11_copy_54 rfl ?_
            refine gw_getN (C0 := RX10) (T := TX10) (N := 4) (ref := RX10) 6 rfl rfl inX10 2 (by decide) (host := "SpinBench") (by decide +kernel) (Or.inl rfl) rfl dX11_copy_56 ?_
            refine gw_icmpN_eq (tgt := 68) dX11_copy_59 (by decide) (by omega) (by omega) (fun c59 => ?_) (fun c59 => ?_)
            · refine gw_aload dX11_copy_68 rfl ?_
              refine gw_iload_n dX11_copy_70 rfl ?_
              refine gw_iload dX11_copy_71 rfl ?_
              refine gw_callVN 8 (As := [.int (i), .int (n)]) (st := []) ((c_thas l cy (ta (2 * tI (x))) (ta (2 * tI (x) + 1)) ms (nI q.1) q.2.length it [] (i) (n) e4).frame (w2 := ([(ad 0, .inr (9, [.int (nI (σ.1)), .ref (ad 1), .ref (ad 2), .ref (sa (3 * 0)), .ref (ad 4), .ref (ad 5), .ref (ad 6), .int (nI ((sOp σ).length)), va_rf (lo), .int (nx), .int (σ.2.2.2.2.2.2.1), .int (σ.2.2.2.2.2.2.2), .ref (ad 12), .int (nI ((sTr σ).length)), .int (σ.2.2.2.2.1)])), (ad 1, .inl (cy 3, 9, .inr (.inr (.inr (.inr (fun i => some (sa (3 * i)))))))), (ad 2, .inl (cy 3, 9, .inr (.inr (.inr (.inr (fun i => some (sa (3 * (9 + i))))))))), (ad 5, .inl (cy 4, 8, .inr (.inr (.inr (.inr (fun i => some (ta (2 * i)))))))), (ad 6, .inl (cy 2, 40, .inr (.inr (.inr (.inr (pg)))))), (ad 12, .inl (cy 0, 16, .inl (bo))), (ta (2 * tI (y)), .inr (8, [.ref (ta (2 * tI (y) + 1)), .int (mt), .int (nI (p.1)), .int (nI (p.2.length))])), (ta (2 * tI (y) + 1), .inl (cy 0, 60, .inl (jt))), (ta (2 * tI (x)), .inr (8, [.ref (ta (2 * tI (x) + 1)), .int (ms), .int (nI (q.1)), .int (nI (q.2.length))])), (ta (2 * tI (x) + 1), .inl (cy 0, 60, .inl (it)))] ++ (xs ++ (R ++ op)))) (f := ((([(ad 0, .inr (9, [.int (nI (σ.1)), .ref (ad 1), .ref (ad 2), .ref (sa (3 * 0)), .ref (ad 4), .ref (ad 5), .ref (ad 6), .int (nI ((sOp σ).length)), va_rf (lo), .int (nx), .int (σ.2.2.2.2.2.2.1), .int (σ.2.2.2.2.2.2.2), .ref (ad 12), .int (nI ((sTr σ).length)), .int (σ.2.2.2.2.1)])), (ad 1, .inl (cy 3, 9, .inr (.inr (.inr (.inr (fun i => some (sa (3 * i)))))))), (ad 2, .inl (cy 3, 9, .inr (.inr (.inr (.inr (fun i => some (sa (3 * (9 + i))))))))), (ad 5, .inl (cy 4, 8, .inr (.inr (.inr (.inr (fun i => some (ta (2 * i)))))))), (ad 6, .inl (cy 2, 40, .inr (.inr (.inr (.inr (pg)))))), (ad 12, .inl (cy 0, 16, .inl (bo))), (ta (2 * tI (y)), .inr (8, [.ref (ta (2 * tI (y) + 1)), .int (mt), .int (nI (p.1)), .int (nI (p.2.length))])), (ta (2 * tI (y) + 1), .inl (cy 0, 60, .inl (jt)))] : va_W) ++ ([] : va_W)) ++ (xs ++ (R ++ op)))) (perm_mid (A := ([(ad 0, .inr (9, [.int (nI (σ.1)), .ref (ad 1), .ref (ad 2), .ref (sa (3 * 0)), .ref (ad 4), .ref (ad 5), .ref (ad 6), .int (nI ((sOp σ).length)), va_rf (lo), .int (nx), .int (σ.2.2.2.2.2.2.1), .int (σ.2.2.2.2.2.2.2), .ref (ad 12), .int (nI ((sTr σ).length)), .int (σ.2.2.2.2.1)])), (ad 1, .inl (cy 3, 9, .inr (.inr (.inr (.inr (fun i => some (sa (3 * i)))))))), (ad 2, .inl (cy 3, 9, .inr (.inr (.inr (.inr (fun i => some (sa (3 * (9 + i))))))))), (ad 5, .inl (cy 4, 8, .inr (.inr (.inr (.inr (fun i => some (ta (2 * i)))))))), (ad 6, .inl (cy 2, 40, .inr (.inr (.inr (.inr (pg)))))), (ad 12, .inl (cy 0, 16, .inl (bo))), (ta (2 * tI (y)), .inr (8, [.ref (ta (2 * tI (y) + 1)), .int (mt), .int (nI (p.1)), .int (nI (p.2.length))])), (ta (2 * tI (y) + 1), .inl (cy 0, 60, .inl (jt)))] : va_W)) (a := ([(ta (2 * tI (x)), .inr (8, [.ref (ta (2 * tI (x) + 1)), .int (ms), .int (nI (q.1)), .int (nI (q.2.length))])), (ta (2 * tI (x) + 1), .inl (cy 0, 60, .inl (it)))] : va_W)) (B := ([] : va_W)) (r := (xs ++ (R ++ op))))) ok_X10_hasPlaces rfl rfl rfl (host := "SpinBench") (by decide +kernel) rfl rfl dX11_copy_73 (by decide) (by decide) (Nat.le_of_ble_eq_true rfl) (fun r73 w73 hp73 => ?_)
              obtain ⟨w73, ⟨rfl, rfl⟩, rfl⟩ := hp73
              refine gw_W.norm (st' := [.int (bI (decide (0 ≤ (i).toInt ∧ 0 ≤ (n).toInt ∧ (i).toInt + (n).toInt ≤ q.2.length)))]) (k1 := 0) (k2 := 0) rfl rfl rfl ?_
              refine gw_W.wd (w' := ((([(ta (2 * tI (x)), .inr (8, [.ref (ta (2 * tI (x) + 1)), .int (ms), .int (nI (q.1)), .int (nI (q.2.length))])), (ta (2 * tI (x) + 1), .inl (cy 0, 60, .inl (it)))] : va_W) ++ []) ++ ((([(ad 0, .inr (9, [.int (nI (σ.1)), .ref (ad 1), .ref (ad 2), .ref (sa (3 * 0)), .ref (ad 4), .ref (ad 5), .ref (ad 6), .int (nI ((sOp σ).length)), va_rf (lo), .int (nx), .int (σ.2.2.2.2.2.2.1), .int (σ.2.2.2.2.2.2.2), .ref (ad 12), .int (nI ((sTr σ).length)), .int (σ.2.2.2.2.1)])), (ad 1, .inl (cy 3, 9, .inr (.inr (.inr (.inr (fun i => some (sa (3 * i)))))))), (ad 2, .inl (cy 3, 9, .inr (.inr (.inr (.inr (fun i => some (sa (3 * (9 + i))))))))), (ad 5, .inl (cy 4, 8, .inr (.inr (.inr (.inr (fun i => some (ta (2 * i)))))))), (ad 6, .inl (cy 2, 40, .inr (.inr (.inr (.inr (pg)))))), (ad 12, .inl (cy 0, 16, .inl (bo))), (ta (2 * tI (y)), .inr (8, [.ref (ta (2 * tI (y) + 1)), .int (mt), .int (nI (p.1)), .int (nI (p.2.length))])), (ta (2 * tI (y) + 1), .inl (cy 0, 60, .inl (jt)))] : va_W) ++ ([] : va_W)) ++ (xs ++ (R ++ op))))) rfl ?_
              refine gw_W.perm (perm_mid (A := ([(ad 0, .inr (9, [.int (nI (σ.1)), .ref (ad 1), .ref (ad 2), .ref (sa (3 * 0)), .ref (ad 4), .ref (ad 5), .ref (ad 6), .int (nI ((sOp σ).length)), va_rf (lo), .int (nx), .int (σ.2.2.2.2.2.2.1), .int (σ.2.2.2.2.2.2.2), .ref (ad 12), .int (nI ((sTr σ).length)), .int (σ.2.2.2.2.1)])), (ad 1, .inl (cy 3, 9, .inr (.inr (.inr (.inr (fun i => some (sa (3 * i)))))))), (ad 2, .inl (cy 3, 9, .inr (.inr (.inr (.inr (fun i => some (sa (3 * (9 + i))))))))), (ad 5, .inl (cy 4, 8, .inr (.inr (.inr (.inr (fun i => some (ta (2 * i)))))))), (ad 6, .inl (cy 2, 40, .inr (.inr (.inr (.inr (pg)))))), (ad 12, .inl (cy 0, 16, .inl (bo))), (ta (2 * tI (y)), .inr (8, [.ref (ta (2 * tI (y) + 1)), .int (mt), .int (nI (p.1)), .int (nI (p.2.length))])), (ta (2 * tI (y) + 1), .inl (cy 0, 60, .inl (jt)))] : va_W)) (a := ([(ta (2 * tI (x)), .inr (8, [.ref (ta (2 * tI (x) + 1)), .int (ms), .int (nI (q.1)), .int (nI (q.2.length))])), (ta (2 * tI (x) + 1), .inl (cy 0, 60, .inl (it)))] : va_W)) (B := ([] : va_W)) (r := (xs ++ (R ++ op)))).symm ?_
              refine gw_W.wd (w' := ([(ad 0, .inr (9, [.int (nI (σ.1)), .ref (ad 1), .ref (ad 2), .ref (sa (3 * 0)), .ref (ad 4), .ref (ad 5), .ref (ad 6), .int (nI ((sOp σ).length)), va_rf (lo), .int (nx), .int (σ.2.2.2.2.2.2.1), .int (σ.2.2.2.2.2.2.2), .ref (ad 12), .int (nI ((sTr σ).length)), .int (σ.2.2.2.2.1)])), (ad 1, .inl (cy 3, 9, .inr (.inr (.inr (.inr (fun i => some (sa (3 * i)))))))), (ad 2, .inl (cy 3, 9, .inr (.inr (.inr (.inr (fun i => some (sa (3 * (9 + i))))))))), (ad 5, .inl (cy 4, 8, .inr (.inr (.inr (.inr (fun i => some (ta (2 * i)))))))), (ad 6, .inl (cy 2, 40, .inr (.inr (.inr (.inr (pg)))))), (ad 12, .inl (cy 0, 16, .inl (bo))), (ta (2 * tI (y)), .inr (8, [.ref (ta (2 * tI (y) + 1)), .int (mt), .int (nI (p.1)), .int (nI (p.2.length))])), (ta (2 * tI (y) + 1), .inl (cy 0, 60, .inl (jt))), (ta (2 * tI (x)), .inr (8, [.ref (ta (2 * tI (x) + 1)), .int (ms), .int (nI (q.1)), .int (nI (q.2.length))])), (ta (2 * tI (x) + 1), .inl (cy 0, 60, .inl (it)))] ++ (xs ++ (R ++ op)))) rfl ?_
              refine gw_if_eq (tgt := 91) dX11_copy_76 (by decide) (fun c76 => ?_) (fun c76 => ?_)
              · rw [bI_0, decide_eq_false_iff_not] at c76
                refine gw_aload_n dX11_copy_91 rfl ?_
                refine gw_iconst (v := nI (2)) dX11_copy_92 (by decide) ?_
                refine gw_W.wd (w' := bW cy ad sa ta (σ.1) ((sOp σ).length) ((sTr σ).length) nx (σ.2.2.2.2.2.2.1) (σ.2.2.2.2.2.2.2) (σ.2.2.2.2.1) lo pg bo ++ ([(ta (2 * tI (y)), .inr (8, [.ref (ta (2 * tI (y) + 1)), .int (mt), .int (nI (p.1)), .int (nI (p.2.length))])), (ta (2 * tI (y) + 1), .inl (cy 0, 60, .inl (jt))), (ta (2 * tI (x)), .inr (8, [.ref (ta (2 * tI (x) + 1)), .int (ms), .int (nI (q.1)), .int (nI (q.2.length))])), (ta (2 * tI (x) + 1), .inl (cy 0, 60, .inl (it)))] ++ (xs ++ (R ++ op)))) rfl ?_
                refine gw_callV 0 (As := [.int (nI (2))]) (st := []) (c_bfound l cy ad sa ta (σ.1) ((sOp σ).length) ((sTr σ).length) nx (σ.2.2.2.2.2.2.1) (σ.2.2.2.2.2.2.2) (σ.2.2.2.2.1) lo pg bo ([(ta (2 * tI (y)), .inr (8, [.ref (ta (2 * tI (y) + 1)), .int (mt), .int (nI (p.1)), .int (nI (p.2.length))])), (ta (2 * tI (y) + 1), .inl (cy 0, 60, .inl (jt))), (ta (2 * tI (x)), .inr (8, [.ref (ta (2 * tI (x) + 1)), .int (ms), .int (nI (q.1)), .int (nI (q.2.length))])), (ta (2 * tI (x) + 1), .inl (cy 0, 60, .inl (it)))] ++ (xs ++ (R ++ op))) (nI (2))) ok_X11_found rfl rfl rfl wd_234 rfl rfl dX11_copy_93 (by decide) (by decide) (Nat.le_of_ble_eq_true rfl) (fun r93 w93 hp93 => ?_)
                obtain ⟨rfl, rfl⟩ := hp93
                refine gw_W.norm (st' := [.int ((-1000010) - (nI (2)))]) (k1 := 0) (k2 := 0) rfl rfl rfl ?_
                refine gw_W.wd (w' := ([(ad 0, .inr (9, [.int (nI (σ.1)), .ref (ad 1), .ref (ad 2), .ref (sa (3 * 0)), .ref (ad 4), .ref (ad 5), .ref (ad 6), .int (nI ((sOp σ).length)), va_rf (lo), .int (nx), .int (σ.2.2.2.2.2.2.1), .int (σ.2.2.2.2.2.2.2), .ref (ad 12), .int (nI ((sTr σ).length)), .int (nI (2))])), (ad 1, .inl (cy 3, 9, .inr (.inr (.inr (.inr (fun i => some (sa (3 * i)))))))), (ad 2, .inl (cy 3, 9, .inr (.inr (.inr (.inr (fun i => some (sa (3 * (9 + i))))))))), (ad 5, .inl (cy 4, 8, .inr (.inr (.inr (.inr (fun i => some (ta (2 * i)))))))), (ad 6, .inl (cy 2, 40, .inr (.inr (.inr (.inr (pg)))))), (ad 12, .inl (cy 0, 16, .inl (bo))), (ta (2 * tI (y)), .inr (8, [.ref (ta (2 * tI (y) + 1)), .int (mt), .int (nI (p.1)), .int (nI (p.2.length))])), (ta (2 * tI (y) + 1), .inl (cy 0, 60, .inl (jt))), (ta (2 * tI (x)), .inr (8, [.ref (ta (2 * tI (x) + 1)), .int (ms), .int (nI (q.1)), .int (nI (q.2.length))])), (ta (2 * tI (x) + 1), .inl (cy 0, 60, .inl (it)))] ++ (xs ++ (R ++ op)))) rfl ?_
                refine gw_W.wd (w' := bW cy ad sa ta (σ.1) ((sOp σ).length) ((sTr σ).length) nx (σ.2.2.2.2.2.2.1) (σ.2.2.2.2.2.2.2) (nI (2)) lo pg bo ++ (tW2 cy (ta (2 * tI (y))) (ta (2 * tI (y) + 1)) mt (nI (p.1)) (nI (p.2.length)) jt ++ (tW2 cy (ta (2 * tI (x))) (ta (2 * tI (x) + 1)) ms (nI (q.1)) (nI (q.2.length)) it ++ (xs ++ (R ++ op))))) rfl ?_
                refine gw_iret (?_) (by decide) (by decide) rfl dX11_copy_96
                subst hpost
                unfold spCopy
                rw [if_pos ⟨h2, h9⟩]
                rw [show sTb σ (tI x) = some q from hq, show sTb σ (tI y) = some p from hp]
                simp only
                rw [if_pos c59, if_neg (fun h => by unfold cpOk at h; rw [decide_eq_true_eq] at h; first | exact c76 ⟨h.1, h.2.2.1, h.2.2.2.1⟩ | exact c88 ⟨h.2.1, h.2.2.1, h.2.2.2.2⟩)]
                exact ⟨rfl, ad, sa, ta, oa, nx, lo, pg, bo, cs, xs, tb, op, td, rfl, (perm_tb4 o1), hxs, hcs, htb, hop, hN, hbo⟩
              · rw [bI_n0, decide_eq_true_eq] at c76
                refine gw_aload dX11_copy_79 rfl ?_
                refine gw_iload dX11_copy_81 rfl ?_
                refine gw_iload dX11_copy_83 rfl ?_
                refine gw_callVN 6 (As := [.int (j), .int (n)]) (st := []) ((c_thas l cy (ta (2 * tI (y))) (ta (2 * tI (y) + 1)) mt (nI p.1) p.2.length jt [] (j) (n) f4).frame (w2 := ([(ad 0, .inr (9, [.int (nI (σ.1)), .ref (ad 1), .ref (ad 2), .ref (sa (3 * 0)), .ref (ad 4), .ref (ad 5), .ref (ad 6), .int (nI ((sOp σ).length)), va_rf (lo), .int (nx), .int (σ.2.2.2.2.2.2.1), .int (σ.2.2.2.2.2.2.2), .ref (ad 12), .int (nI ((sTr σ).length)), .int (σ.2.2.2.2.1)])), (ad 1, .inl (cy 3, 9, .inr (.inr (.inr (.inr (fun i => some (sa (3 * i)))))))), (ad 2, .inl (cy 3, 9, .inr (.inr (.inr (.inr (fun i => some (sa (3 * (9 + i))))))))), (ad 5, .inl (cy 4, 8, .inr (.inr (.inr (.inr (fun i => some (ta (2 * i)))))))), (ad 6, .inl (cy 2, 40, .inr (.inr (.inr (.inr (pg)))))), (ad 12, .inl (cy 0, 16, .inl (bo))), (ta (2 * tI (y)), .inr (8, [.ref (ta (2 * tI (y) + 1)), .int (mt), .int (nI (p.1)), .int (nI (p.2.length))])), (ta (2 * tI (y) + 1), .inl (cy 0, 60, .inl (jt))), (ta (2 * tI (x)), .inr (8, [.ref (ta (2 * tI (x) + 1)), .int (ms), .int (nI (q.1)), .int (nI (q.2.length))])), (ta (2 * tI (x) + 1), .inl (cy 0, 60, .inl (it)))] ++ (xs ++ (R ++ op)))) (f := ((([(ad 0, .inr (9, [.int (nI (σ.1)), .ref (ad 1), .ref (ad 2), .ref (sa (3 * 0)), .ref (ad 4), .ref (ad 5), .ref (ad 6), .int (nI ((sOp σ).length)), va_rf (lo), .int (nx), .int (σ.2.2.2.2.2.2.1), .int (σ.2.2.2.2.2.2.2), .ref (ad 12), .int (nI ((sTr σ).length)), .int (σ.2.2.2.2.1)])), (ad 1, .inl (cy 3, 9, .inr (.inr (.inr (.inr (fun i => some (sa (3 * i)))))))), (ad 2, .inl (cy 3, 9, .inr (.inr (.inr (.inr (fun i => some (sa (3 * (9 + i))))))))), (ad 5, .inl (cy 4, 8, .inr (.inr (.inr (.inr (fun i => some (ta (2 * i)))))))), (ad 6, .inl (cy 2, 40, .inr (.inr (.inr (.inr (pg)))))), (ad 12, .inl (cy 0, 16, .inl (bo)))] : va_W) ++ ([(ta (2 * tI (x)), .inr (8, [.ref (ta (2 * tI (x) + 1)), .int (ms), .int (nI (q.1)), .int (nI (q.2.length))])), (ta (2 * tI (x) + 1), .inl (cy 0, 60, .inl (it)))] : va_W)) ++ (xs ++ (R ++ op)))) (perm_mid (A := ([(ad 0, .inr (9, [.int (nI (σ.1)), .ref (ad 1), .ref (ad 2), .ref (sa (3 * 0)), .ref (ad 4), .ref (ad 5), .ref (ad 6), .int (nI ((sOp σ).length)), va_rf (lo), .int (nx), .int (σ.2.2.2.2.2.2.1), .int (σ.2.2.2.2.2.2.2), .ref (ad 12), .int (nI ((sTr σ).length)), .int (σ.2.2.2.2.1)])), (ad 1, .inl (cy 3, 9, .inr (.inr (.inr (.inr (fun i => some (sa (3 * i)))))))), (ad 2, .inl (cy 3, 9, .inr (.inr (.inr (.inr (fun i => some (sa (3 * (9 + i))))))))), (ad 5, .inl (cy 4, 8, .inr (.inr (.inr (.inr (fun i => some (ta (2 * i)))))))), (ad 6, .inl (cy 2, 40, .inr (.inr (.inr (.inr (pg)))))), (ad 12, .inl (cy 0, 16, .inl (bo)))] : va_W)) (a := ([(ta (2 * tI (y)), .inr (8, [.ref (ta (2 * tI (y) + 1)), .int (mt), .int (nI (p.1)), .int (nI (p.2.length))])), (ta (2 * tI (y) + 1), .inl (cy 0, 60, .inl (jt)))] : va_W)) (B := ([(ta (2 * tI (x)), .inr (8, [.ref (ta (2 * tI (x) + 1)), .int (ms), .int (nI (q.1)), .int (nI (q.2.length))])), (ta (2 * tI (x) + 1), .inl (cy 0, 60, .inl (it)))] : va_W)) (r := (xs ++ (R ++ op))))) ok_X10_hasPlaces rfl rfl rfl (host := "SpinBench") (by decide +kernel) rfl rfl dX11_copy_85 (by decide) (by decide) (Nat.le_of_ble_eq_true rfl) (fun r85 w85 hp85 => ?_)
                obtain ⟨w85, ⟨rfl, rfl⟩, rfl⟩ := hp85
                refine gw_W.norm (st' := [.int (bI (decide (0 ≤ (j).toInt ∧ 0 ≤ (n).toInt ∧ (j).toInt + (n).toInt ≤ p.2.length)))]) (k1 := 0) (k2 := 0) rfl rfl rfl ?_
                refine gw_W.wd (w' := ((([(ta (2 * tI (y)), .inr (8, [.ref (ta (2 * tI (y) + 1)), .int (mt), .int (nI (p.1)), .int (nI (p.2.length))])), (ta (2 * tI (y) + 1), .inl (cy 0, 60, .inl (jt)))] : va_W) ++ []) ++ ((([(ad 0, .inr (9, [.int (nI (σ.1)), .ref (ad 1), .ref (ad 2), .ref (sa (3 * 0)), .ref (ad 4), .ref (ad 5), .ref (ad 6), .int (nI ((sOp σ).length)), va_rf (lo), .int (nx), .int (σ.2.2.2.2.2.2.1), .int (σ.2.2.2.2.2.2.2), .ref (ad 12), .int (nI ((sTr σ).length)), .int (σ.2.2.2.2.1)])), (ad 1, .inl (cy 3, 9, .inr (.inr (.inr (.inr (fun i => some (sa (3 * i)))))))), (ad 2, .inl (cy 3, 9, .inr (.inr (.inr (.inr (fun i => some (sa (3 * (9 + i))))))))), (ad 5, .inl (cy 4, 8, .inr (.inr (.inr (.inr (fun i => some (ta (2 * i)))))))), (ad 6, .inl (cy 2, 40, .inr (.inr (.inr (.inr (pg)))))), (ad 12, .inl (cy 0, 16, .inl (bo)))] : va_W) ++ ([(ta (2 * tI (x)), .inr (8, [.ref (ta (2 * tI (x) + 1)), .int (ms), .int (nI (q.1)), .int (nI (q.2.length))])), (ta (2 * tI (x) + 1), .inl (cy 0, 60, .inl (it)))] : va_W)) ++ (xs ++ (R ++ op))))) rfl ?_
                refine gw_W.perm (perm_mid (A := ([(ad 0, .inr (9, [.int (nI (σ.1)), .ref (ad 1), .ref (ad 2), .ref (sa (3 * 0)), .ref (ad 4), .ref (ad 5), .ref (ad 6), .int (nI ((sOp σ).length)), va_rf (lo), .int (nx), .int (σ.2.2.2.2.2.2.1), .int (σ.2.2.2.2.2.2.2), .ref (ad 12), .int (nI ((sTr σ).length)), .int (σ.2.2.2.2.1)])), (ad 1, .inl (cy 3, 9, .inr (.inr (.inr (.inr (fun i => some (sa (3 * i)))))))), (ad 2, .inl (cy 3, 9, .inr (.inr (.inr (.inr (fun i => some (sa (3 * (9 + i))))))))), (ad 5, .inl (cy 4, 8, .inr (.inr (.inr (.inr (fun i => some (ta (2 * i)))))))), (ad 6, .inl (cy 2, 40, .inr (.inr (.inr (.inr (pg)))))), (ad 12, .inl (cy 0, 16, .inl (bo)))] : va_W)) (a := ([(ta (2 * tI (y)), .inr (8, [.ref (ta (2 * tI (y) + 1)), .int (mt), .int (nI (p.1)), .int (nI (p.2.length))])), (ta (2 * tI (y) + 1), .inl (cy 0, 60, .inl (jt)))] : va_W)) (B := ([(ta (2 * tI (x)), .inr (8, [.ref (ta (2 * tI (x) + 1)), .int (ms), .int (nI (q.1)), .int (nI (q.2.length))])), (ta (2 * tI (x) + 1), .inl (cy 0, 60, .inl (it)))] : va_W)) (r := (xs ++ (R ++ op)))).symm ?_
                refine gw_W.wd (w' := ([(ad 0, .inr (9, [.int (nI (σ.1)), .ref (ad 1), .ref (ad 2), .ref (sa (3 * 0)), .ref (ad 4), .ref (ad 5), .ref (ad 6), .int (nI ((sOp σ).length)), va_rf (lo), .int (nx), .int (σ.2.2.2.2.2.2.1), .int (σ.2.2.2.2.2.2.2), .ref (ad 12), .int (nI ((sTr σ).length)), .int (σ.2.2.2.2.1)])), (ad 1, .inl (cy 3, 9, .inr (.inr (.inr (.inr (fun i => some (sa (3 * i)))))))), (ad 2, .inl (cy 3, 9, .inr (.inr (.inr (.inr (fun i => some (sa (3 * (9 + i))))))))), (ad 5, .inl (cy 4, 8, .inr (.inr (.inr (.inr (fun i => some (ta (2 * i)))))))), (ad 6, .inl (cy 2, 40, .inr (.inr (.inr (.inr (pg)))))), (ad 12, .inl (cy 0, 16, .inl (bo))), (ta (2 * tI (y)), .inr (8, [.ref (ta (2 * tI (y) + 1)), .int (mt), .int (nI (p.1)), .int (nI (p.2.length))])), (ta (2 * tI (y) + 1), .inl (cy 0, 60, .inl (jt))), (ta (2 * tI (x)), .inr (8, [.ref (ta (2 * tI (x) + 1)), .int (ms), .int (nI (q.1)), .int (nI (q.2.length))])), (ta (2 * tI (x) + 1), .inl (cy 0, 60, .inl (it)))] ++ (xs ++ (R ++ op)))) rfl ?_
                refine gw_if_ne (tgt := 97) dX11_copy_88 (by decide) (fun c88 => ?_) (fun c88 => ?_)
                · rw [bI_n0, decide_eq_true_eq] at c88
                  obtain ⟨i0, n0, in60⟩ := c76
                  obtain ⟨j0, -, jn60⟩ := c88
                  have xi : i = nI (tI i) := tI_of i0
                  have xj : j = nI (tI j) := tI_of j0
                  have xn : n = nI (tI n) := tI_of n0
                  have ti : (tI i : Int) = i.toInt := by unfold tI; omega
                  have tj : (tI j : Int) = j.toInt := by unfold tI; omega
                  have tn : (tI n : Int) = n.toInt := by unfold tI; omega
                  refine gw_aload dX11_copy_97 rfl ?_
                  refine gw_getN (C0 := RX10) (T := TX10) (N := 4) (ref := RX10) 8 rfl rfl inX10 0 (by decide) (host := "SpinBench") (by decide +kernel) (Or.inl rfl) rfl dX11_copy_99 ?_
                  refine gw_iload_n dX11_copy_102 rfl ?_
                  refine gw_aload dX11_copy_103 rfl ?_
                  refine gw_getN (C0 := RX10) (T := TX10) (N := 4) (ref := RX10) 6 rfl rfl inX10 0 (by decide) (host := "SpinBench") (by decide +kernel) (Or.inl rfl) rfl dX11_copy_105 ?_
                  refine gw_iload dX11_copy_108 rfl ?_
                  refine gw_iload dX11_copy_110 rfl ?_
                  refine gw_copyI (sp := tI i) (dp := tI j) (n := tI n) wd_266 wd_268 wd_267 wd_64 9 7 rfl rfl (xi) (xj) (xn) (by omega) (by omega) (by decide) ⟨by decide, Nat.le_of_ble_eq_true rfl⟩ dX11_copy_112 ?_
                  refine gw_W.wd (w' := ([(ad 0, .inr (9, [.int (nI (σ.1)), .ref (ad 1), .ref (ad 2), .ref (sa (3 * 0)), .ref (ad 4), .ref (ad 5), .ref (ad 6), .int (nI ((sOp σ).length)), va_rf (lo), .int (nx), .int (σ.2.2.2.2.2.2.1), .int (σ.2.2.2.2.2.2.2), .ref (ad 12), .int (nI ((sTr σ).length)), .int (σ.2.2.2.2.1)])), (ad 1, .inl (cy 3, 9, .inr (.inr (.inr (.inr (fun i => some (sa (3 * i)))))))), (ad 2, .inl (cy 3, 9, .inr (.inr (.inr (.inr (fun i => some (sa (3 * (9 + i))))))))), (ad 5, .inl (cy 4, 8, .inr (.inr (.inr (.inr (fun i => some (ta (2 * i)))))))), (ad 6, .inl (cy 2, 40, .inr (.inr (.inr (.inr (pg)))))), (ad 12, .inl (cy 0, 16, .inl (bo))), (ta (2 * tI (y)), .inr (8, [.ref (ta (2 * tI (y) + 1)), .int (mt), .int (nI (p.1)), .int (nI (p.2.length))])), (ta (2 * tI (y) + 1), .inl (cy 0, 60, .inl (va_cpy it jt (tI i) (tI j) (tI n)))), (ta (2 * tI (x)), .inr (8, [.ref (ta (2 * tI (x) + 1)), .int (ms), .int (nI (q.1)), .int (nI (q.2.length))])), (ta (2 * tI (x) + 1), .inl (cy 0, 60, .inl (it)))] ++ (xs ++ (R ++ op)))) rfl ?_
                  refine gw_aload_n dX11_copy_115 rfl ?_
                  refine gw_iload dX11_copy_116 rfl ?_
                  refine gw_W.wd (w' := bW cy ad sa ta (σ.1) ((sOp σ).length) ((sTr σ).length) nx (σ.2.2.2.2.2.2.1) (σ.2.2.2.2.2.2.2) (σ.2.2.2.2.1) lo pg bo ++ ([(ta (2 * tI (y)), .inr (8, [.ref (ta (2 * tI (y) + 1)), .int (mt), .int (nI (p.1)), .int (nI (p.2.length))])), (ta (2 * tI (y) + 1), .inl (cy 0, 60, .inl (va_cpy it jt (tI i) (tI j) (tI n)))), (ta (2 * tI (x)), .inr (8, [.ref (ta (2 * tI (x) + 1)), .int (ms), .int (nI (q.1)), .int (nI (q.2.length))])), (ta (2 * tI (x) + 1), .inl (cy 0, 60, .inl (it)))] ++ (xs ++ (R ++ op)))) rfl ?_
                  refine gw_callV 0 (As := [.int (n)]) (st := []) (c_bnotFound l cy ad sa ta (σ.1) ((sOp σ).length) ((sTr σ).length) nx (σ.2.2.2.2.2.2.1) (σ.2.2.2.2.2.2.2) (σ.2.2.2.2.1) lo pg bo ([(ta (2 * tI (y)), .inr (8, [.ref (ta (2 * tI (y) + 1)), .int (mt), .int (nI (p.1)), .int (nI (p.2.length))])), (ta (2 * tI (y) + 1), .inl (cy 0, 60, .inl (va_cpy it jt (tI i) (tI j) (tI n)))), (ta (2 * tI (x)), .inr (8, [.ref (ta (2 * tI (x) + 1)), .int (ms), .int (nI (q.1)), .int (nI (q.2.length))])), (ta (2 * tI (x) + 1), .inl (cy 0, 60, .inl (it)))] ++ (xs ++ (R ++ op))) (n)) ok_X11_notFound rfl rfl rfl wd_246 rfl rfl dX11_copy_118 (by decide) (by decide) (Nat.le_of_ble_eq_true rfl) (fun r118 w118 hp118 => ?_)
                  obtain ⟨rfl, rfl⟩ := hp118
                  refine gw_W.norm (st' := [.int (n)]) (k1 := 0) (k2 := 0) rfl rfl rfl ?_
                  refine gw_W.wd (w' := ([(ad 0, .inr (9, [.int (nI (σ.1)), .ref (ad 1), .ref (ad 2), .ref (sa (3 * 0)), .ref (ad 4), .ref (ad 5), .ref (ad 6), .int (nI ((sOp σ).length)), va_rf (lo), .int (nx), .int (σ.2.2.2.2.2.2.1), .int (σ.2.2.2.2.2.2.2), .ref (ad 12), .int (nI ((sTr σ).length)), .int (0)])), (ad 1, .inl (cy 3, 9, .inr (.inr (.inr (.inr (fun i => some (sa (3 * i)))))))), (ad 2, .inl (cy 3, 9, .inr (.inr (.inr (.inr (fun i => some (sa (3 * (9 + i))))))))), (ad 5, .inl (cy 4, 8, .inr (.inr (.inr (.inr (fun i => some (ta (2 * i)))))))), (ad 6, .inl (cy 2, 40, .inr (.inr (.inr (.inr (pg)))))), (ad 12, .inl (cy 0, 16, .inl (bo))), (ta (2 * tI (y)), .inr (8, [.ref (ta (2 * tI (y) + 1)), .int (mt), .int (nI (p.1)), .int (nI (p.2.length))])), (ta (2 * tI (y) + 1), .inl (cy 0, 60, .inl (va_cpy it jt (tI i) (tI j) (tI n)))), (ta (2 * tI (x)), .inr (8, [.ref (ta (2 * tI (x) + 1)), .int (ms), .int (nI (q.1)), .int (nI (q.2.length))])), (ta (2 * tI (x) + 1), .inl (cy 0, 60, .inl (it)))] ++ (xs ++ (R ++ op)))) rfl ?_
                  refine gw_W.wd (w' := bW cy ad sa ta (σ.1) ((sOp σ).length) ((sTr σ).length) nx (σ.2.2.2.2.2.2.1) (σ.2.2.2.2.2.2.2) 0 lo pg bo ++ (tW2 cy (ta (2 * tI (y))) (ta (2 * tI (y) + 1)) mt (nI (p.1)) (nI (p.2.length)) (va_cpy it jt (tI i) (tI j) (tI n)) ++ (tW2 cy (ta (2 * tI (x))) (ta (2 * tI (x) + 1)) ms (nI (q.1)) (nI (q.2.length)) it ++ (xs ++ (R ++ op))))) rfl ?_
                  refine gw_iret (?_) (by decide) (by decide) rfl dX11_copy_121
                  subst hpost
                  unfold spCopy
                  rw [if_pos ⟨h2, h9⟩]
                  rw [show sTb σ (tI x) = some q from hq, show sTb σ (tI y) = some p from hp]
                  simp only
                  rw [if_pos c59, if_pos (show cpOk i j n q.2.length p.2.length = true from by unfold cpOk; rw [decide_eq_true_eq]; exact ⟨i0, j0, n0, in60, jn60⟩)]
                  exact ⟨rfl, ad, sa, ta, oa, nx, lo, pg, bo, cs, xs, ((tW2 cy (ta (2 * tI (y))) (ta (2 * tI (y) + 1)) mt (nI p.1) (nI p.2.length) (va_cpy it jt (tI i) (tI j) (tI n)) ++ tW2 cy (ta (2 * tI (x))) (ta (2 * tI (x) + 1)) ms (nI q.1) (nI q.2.length) it) ++ R), op, td, rfl, perm_tb3, hxs, hcs, o3 (some (p.1, cpI q.2 p.2 (tI i) (tI j) (tI n))) mt (nI p.1) (nI p.2.length) (va_cpy it jt (tI i) (tI j) (tI n)) _ ⟨c40, f2, rfl, by rw [cpI_len]; exact f4, by rw [cpI_len], cp_row e6 f6 (by omega)⟩ (List.Perm.refl _), hop, hN, hbo⟩
                · rw [bI_0, decide_eq_false_iff_not] at c88
                  refine gw_aload_n dX11_copy_91 rfl ?_
                  refine gw_iconst (v := nI (2)) dX11_copy_92 (by decide) ?_
                  refine gw_W.wd (w' := bW cy ad sa ta (σ.1) ((sOp σ).length) ((sTr σ).length) nx (σ.2.2.2.2.2.2.1) (σ.2.2.2.2.2.2.2) (σ.2.2.2.2.1) lo pg bo ++ ([(ta (2 * tI (y)), .inr (8, [.ref (ta (2 * tI (y) + 1)), .int (mt), .int (nI (p.1)), .int (nI (p.2.length))])), (ta (2 * tI (y) + 1), .inl (cy 0, 60, .inl (jt))), (ta (2 * tI (x)), .inr (8, [.ref (ta (2 * tI (x) + 1)), .int (ms), .int (nI (q.1)), .int (nI (q.2.length))])), (ta (2 * tI (x) + 1), .inl (cy 0, 60, .inl (it)))] ++ (xs ++ (R ++ op)))) rfl ?_
                  refine gw_callV 0 (As := [.int (nI (2))]) (st := []) (c_bfound l cy ad sa ta (σ.1) ((sOp σ).length) ((sTr σ).length) nx (σ.2.2.2.2.2.2.1) (σ.2.2.2.2.2.2.2) (σ.2.2.2.2.1) lo pg bo ([(ta (2 * tI (y)), .inr (8, [.ref (ta (2 * tI (y) + 1)), .int (mt), .int (nI (p.1)), .int (nI (p.2.length))])), (ta (2 * tI (y) + 1), .inl (cy 0, 60, .inl (jt))), (ta (2 * tI (x)), .inr (8, [.ref (ta (2 * tI (x) + 1)), .int (ms), .int (nI (q.1)), .int (nI (q.2.length))])), (ta (2 * tI (x) + 1), .inl (cy 0, 60, .inl (it)))] ++ (xs ++ (R ++ op))) (nI (2))) ok_X11_found rfl rfl rfl wd_234 rfl rfl dX11_copy_93 (by decide) (by decide) (Nat.le_of_ble_eq_true rfl) (fun r93 w93 hp93 => ?_)
                  obtain ⟨rfl, rfl⟩ := hp93
                  refine gw_W.norm (st' := [.int ((-1000010) - (nI (2)))]) (k1 := 0) (k2 := 0) rfl rfl rfl ?_
                  refine gw_W.wd (w' := ([(ad 0, .inr (9, [.int (nI (σ.1)), .ref (ad 1), .ref (ad 2), .ref (sa (3 * 0)), .ref (ad 4), .ref (ad 5), .ref (ad 6), .int (nI ((sOp σ).length)), va_rf (lo), .int (nx), .int (σ.2.2.2.2.2.2.1), .int (σ.2.2.2.2.2.2.2), .ref (ad 12), .int (nI ((sTr σ).length)), .int (nI (2))])), (ad 1, .inl (cy 3, 9, .inr (.inr (.inr (.inr (fun i => some (sa (3 * i)))))))), (ad 2, .inl (cy 3, 9, .inr (.inr (.inr (.inr (fun i => some (sa (3 * (9 + i))))))))), (ad 5, .inl (cy 4, 8, .inr (.inr (.inr (.inr (fun i => some (ta (2 * i)))))))), (ad 6, .inl (cy 2, 40, .inr (.inr (.inr (.inr (pg)))))), (ad 12, .inl (cy 0, 16, .inl (bo))), (ta (2 * tI (y)), .inr (8, [.ref (ta (2 * tI (y) + 1)), .int (mt), .int (nI (p.1)), .int (nI (p.2.length))])), (ta (2 * tI (y) + 1), .inl (cy 0, 60, .inl (jt))), (ta (2 * tI (x)), .inr (8, [.ref (ta (2 * tI (x) + 1)), .int (ms), .int (nI (q.1)), .int (nI (q.2.length))])), (ta (2 * tI (x) + 1), .inl (cy 0, 60, .inl (it)))] ++ (xs ++ (R ++ op)))) rfl ?_
                  refine gw_W.wd (w' := bW cy ad sa ta (σ.1) ((sOp σ).length) ((sTr σ).length) nx (σ.2.2.2.2.2.2.1) (σ.2.2.2.2.2.2.2) (nI (2)) lo pg bo ++ (tW2 cy (ta (2 * tI (y))) (ta (2 * tI (y) + 1)) mt (nI (p.1)) (nI (p.2.length)) jt ++ (tW2 cy (ta (2 * tI (x))) (ta (2 * tI (x) + 1)) ms (nI (q.1)) (nI (q.2.length)) it ++ (xs ++ (R ++ op))))) rfl ?_
                  refine gw_iret (?_) (by decide) (by decide) rfl dX11_copy_96
                  subst hpost
                  unfold spCopy
                  rw [if_pos ⟨h2, h9⟩]
                  rw [show sTb σ (tI x) = some q from hq, show sTb σ (tI y) = some p from hp]
                  simp only
                  rw [if_pos c59, if_neg (fun h => by unfold cpOk at h; rw [decide_eq_true_eq] at h; first | exact c76 ⟨h.1, h.2.2.1, h.2.2.2.1⟩ | exact c88 ⟨h.2.1, h.2.2.1, h.2.2.2.2⟩)]
                  exact ⟨rfl, ad, sa, ta, oa, nx, lo, pg, bo, cs, xs, tb, op, td, rfl, (perm_tb4 o1), hxs, hcs, htb, hop, hN, hbo⟩
            · refine gw_aload_n dX11_copy_62 rfl ?_
              refine gw_iconst (v := nI (5)) dX11_copy_63 (by decide) ?_
              refine gw_W.wd (w' := bW cy ad sa ta (σ.1) ((sOp σ).length) ((sTr σ).length) nx (σ.2.2.2.2.2.2.1) (σ.2.2.2.2.2.2.2) (σ.2.2.2.2.1) lo pg bo ++ ([(ta (2 * tI (y)), .inr (8, [.ref (ta (2 * tI (y) + 1)), .int (mt), .int (nI (p.1)), .int (nI (p.2.length))])), (ta (2 * tI (y) + 1), .inl (cy 0, 60, .inl (jt))), (ta (2 * tI (x)), .inr (8, [.ref (ta (2 * tI (x) + 1)), .int (ms), .int (nI (q.1)), .int (nI (q.2.length))])), (ta (2 * tI (x) + 1), .inl (cy 0, 60, .inl (it)))] ++ (xs ++ (R ++ op)))) rfl ?_
              refine gw_callV 0 (As := [.int (nI (5))]) (st := []) (c_bfound l cy ad sa ta (σ.1) ((sOp σ).length) ((sTr σ).length) nx (σ.2.2.2.2.2.2.1) (σ.2.2.2.2.2.2.2) (σ.2.2.2.2.1) lo pg bo ([(ta (2 * tI (y)), .inr (8, [.ref (ta (2 * tI (y) + 1)), .int (mt), .int (nI (p.1)), .int (nI (p.2.length))])), (ta (2 * tI (y) + 1), .inl (cy 0, 60, .inl (jt))), (ta (2 * tI (x)), .inr (8, [.ref (ta (2 * tI (x) + 1)), .int (ms), .int (nI (q.1)), .int (nI (q.2.length))])), (ta (2 * tI (x) + 1), .inl (cy 0, 60, .inl (it)))] ++ (xs ++ (R ++ op))) (nI (5))) ok_X11_found rfl rfl rfl wd_234 rfl rfl dX11_copy_64 (by decide) (by decide) (Nat.le_of_ble_eq_true rfl) (fun r64 w64 hp64 => ?_)
              obtain ⟨rfl, rfl⟩ := hp64
              refine gw_W.norm (st' := [.int ((-1000010) - (nI (5)))]) (k1 := 0) (k2 := 0) rfl rfl rfl ?_
              refine gw_W.wd (w' := ([(ad 0, .inr (9, [.int (nI (σ.1)), .ref (ad 1), .ref (ad 2), .ref (sa (3 * 0)), .ref (ad 4), .ref (ad 5), .ref (ad 6), .int (nI ((sOp σ).length)), va_rf (lo), .int (nx), .int (σ.2.2.2.2.2.2.1), .int (σ.2.2.2.2.2.2.2), .ref (ad 12), .int (nI ((sTr σ).length)), .int (nI (5))])), (ad 1, .inl (cy 3, 9, .inr (.inr (.inr (.inr (fun i => some (sa (3 * i)))))))), (ad 2, .inl (cy 3, 9, .inr (.inr (.inr (.inr (fun i => some (sa (3 * (9 + i))))))))), (ad 5, .inl (cy 4, 8, .inr (.inr (.inr (.inr (fun i => some (ta (2 * i)))))))), (ad 6, .inl (cy 2, 40, .inr (.inr (.inr (.inr (pg)))))), (ad 12, .inl (cy 0, 16, .inl (bo))), (ta (2 * tI (y)), .inr (8, [.ref (ta (2 * tI (y) + 1)), .int (mt), .int (nI (p.1)), .int (nI (p.2.length))])), (ta (2 * tI (y) + 1), .inl (cy 0, 60, .inl (jt))), (ta (2 * tI (x)), .inr (8, [.ref (ta (2 * tI (x) + 1)), .int (ms), .int (nI (q.1)), .int (nI (q.2.length))])), (ta (2 * tI (x) + 1), .inl (cy 0, 60, .inl (it)))] ++ (xs ++ (R ++ op)))) rfl ?_
              refine gw_W.wd (w' := bW cy ad sa ta (σ.1) ((sOp σ).length) ((sTr σ).length) nx (σ.2.2.2.2.2.2.1) (σ.2.2.2.2.2.2.2) (nI (5)) lo pg bo ++ (tW2 cy (ta (2 * tI (y))) (ta (2 * tI (y) + 1)) mt (nI (p.1)) (nI (p.2.length)) jt ++ (tW2 cy (ta (2 * tI (x))) (ta (2 * tI (x) + 1)) ms (nI (q.1)) (nI (q.2.length)) it ++ (xs ++ (R ++ op))))) rfl ?_
              refine gw_iret (?_) (by decide) (by decide) rfl dX11_copy_67
              subst hpost
              unfold spCopy
              rw [if_pos ⟨h2, h9⟩]
              rw [show sTb σ (tI x) = some q from hq, show sTb σ (tI y) = some p from hp]
              simp only
              rw [if_neg c59]
              exact ⟨rfl, ad, sa, ta, oa, nx, lo, pg, bo, cs, xs, tb, op, td, rfl, (perm_tb4 o1), hxs, hcs, htb, hop, hN, hbo⟩
          · refine gw_aload_n dX11_copy_43 rfl ?_
            refine gw_iconst (v := nI (1)) dX11_copy_44 (by decide) ?_
            refine gw_W.wd (w' := bW cy ad sa ta (σ.1) ((sOp σ).length) ((sTr σ).length) nx (σ.2.2.2.2.2.2.1) (σ.2.2.2.2.2.2.2) (σ.2.2.2.2.1) lo pg bo ++ ([(ta (2 * tI (y)), .inr (8, [.ref (ta (2 * tI (y) + 1)), .int (mt), .int (lt), .int (zt)])), (ta (2 * tI (y) + 1), .inl (cy 0, 60, .inl (jt))), (ta (2 * tI (x)), .inr (8, [.ref (ta (2 * tI (x) + 1)), .int (ms), .int (nI (q.1)), .int (nI (q.2.length))])), (ta (2 * tI (x) + 1), .inl (cy 0, 60, .inl (it)))] ++ (xs ++ (R ++ op)))) rfl ?_
            refine gw_callV 0 (As := [.int (nI (1))]) (st := []) (c_bfound l cy ad sa ta (σ.1) ((sOp σ).length) ((sTr σ).length) nx (σ.2.2.2.2.2.2.1) (σ.2.2.2.2.2.2.2) (σ.2.2.2.2.1) lo pg bo ([(ta (2 * tI (y)), .inr (8, [.ref (ta (2 * tI (y) + 1)), .int (mt), .int (lt), .int (zt)])), (ta (2 * tI (y) + 1), .inl (cy 0, 60, .inl (jt))), (ta (2 * tI (x)), .inr (8, [.ref (ta (2 * tI (x) + 1)), .int (ms), .int (nI (q.1)), .int (nI (q.2.length))])), (ta (2 * tI (x) + 1), .inl (cy 0, 60, .inl (it)))] ++ (xs ++ (R ++ op))) (nI (1))) ok_X11_found rfl rfl rfl wd_234 rfl rfl dX11_copy_45 (by decide) (by decide) (Nat.le_of_ble_eq_true rfl) (fun r45 w45 hp45 => ?_)
            obtain ⟨rfl, rfl⟩ := hp45
            refine gw_W.norm (st' := [.int ((-1000010) - (nI (1)))]) (k1 := 0) (k2 := 0) rfl rfl rfl ?_
            refine gw_W.wd (w' := ([(ad 0, .inr (9, [.int (nI (σ.1)), .ref (ad 1), .ref (ad 2), .ref (sa (3 * 0)), .ref (ad 4), .ref (ad 5), .ref (ad 6), .int (nI ((sOp σ).length)), va_rf (lo), .int (nx), .int (σ.2.2.2.2.2.2.1), .int (σ.2.2.2.2.2.2.2), .ref (ad 12), .int (nI ((sTr σ).length)), .int (nI (1))])), (ad 1, .inl (cy 3, 9, .inr (.inr (.inr (.inr (fun i => some (sa (3 * i)))))))), (ad 2, .inl (cy 3, 9, .inr (.inr (.inr (.inr (fun i => some (sa (3 * (9 + i))))))))), (ad 5, .inl (cy 4, 8, .inr (.inr (.inr (.inr (fun i => some (ta (2 * i)))))))), (ad 6, .inl (cy 2, 40, .inr (.inr (.inr (.inr (pg)))))), (ad 12, .inl (cy 0, 16, .inl (bo))), (ta (2 * tI (y)), .inr (8, [.ref (ta (2 * tI (y) + 1)), .int (mt), .int (lt), .int (zt)])), (ta (2 * tI (y) + 1), .inl (cy 0, 60, .inl (jt))), (ta (2 * tI (x)), .inr (8, [.ref (ta (2 * tI (x) + 1)), .int (ms), .int (nI (q.1)), .int (nI (q.2.length))])), (ta (2 * tI (x) + 1), .inl (cy 0, 60, .inl (it)))] ++ (xs ++ (R ++ op)))) rfl ?_
            refine gw_W.wd (w' := bW cy ad sa ta (σ.1) ((sOp σ).length) ((sTr σ).length) nx (σ.2.2.2.2.2.2.1) (σ.2.2.2.2.2.2.2) (nI (1)) lo pg bo ++ (tW2 cy (ta (2 * tI (y))) (ta (2 * tI (y) + 1)) mt lt zt jt ++ (tW2 cy (ta (2 * tI (x))) (ta (2 * tI (x) + 1)) ms (nI (q.1)) (nI (q.2.length)) it ++ (xs ++ (R ++ op))))) rfl ?_
            refine gw_iret (?_) (by decide) (by decide) rfl dX11_copy_48
            subst hpost
            unfold spCopy
            rw [if_pos ⟨h2, h9⟩]
            first
              | (rw [tab_none o2 c32]; exact ⟨rfl, ad, sa, ta, oa, nx, lo, pg, bo, cs, xs, tb, op, td, rfl, (perm_tb4 o1), hxs, hcs, htb, hop, hN, hbo⟩)
              | (rw [show sTb σ (tI x) = some q from hq, tab_none o4 c40]; exact ⟨rfl, ad, sa, ta, oa, nx, lo, pg, bo, cs, xs, tb, op, td, rfl, (perm_tb4 o1), hxs, hcs, htb, hop, hN, hbo⟩)
      · rw [if_neg h9]
        refine gw_W.norm (st' := [.null]) (k1 := 0) (k2 := 0) rfl rfl rfl ?_
        refine gw_W.wd (w' := ([(ad 0, .inr (9, [.int (nI (σ.1)), .ref (ad 1), .ref (ad 2), .ref (sa (3 * 0)), .ref (ad 4), .ref (ad 5), .ref (ad 6), .int (nI ((sOp σ).length)), va_rf (lo), .int (nx), .int (σ.2.2.2.2.2.2.1), .int (σ.2.2.2.2.2.2.2), .ref (ad 12), .int (nI ((sTr σ).length)), .int (σ.2.2.2.2.1)])), (ad 1, .inl (cy 3, 9, .inr (.inr (.inr (.inr (fun i => some (sa (3 * i)))))))), (ad 2, .inl (cy 3, 9, .inr (.inr (.inr (.inr (fun i => some (sa (3 * (9 + i))))))))), (ad 5, .inl (cy 4, 8, .inr (.inr (.inr (.inr (fun i => some (ta (2 * i)))))))), (ad 6, .inl (cy 2, 40, .inr (.inr (.inr (.inr (pg)))))), (ad 12, .inl (cy 0, 16, .inl (bo)))] ++ (xs ++ (tb ++ op)))) rfl ?_
        refine gw_astoreN dX11_copy_12 (by decide) rfl ?_
        refine gw_aload dX11_copy_14 rfl ?_
        refine gw_ifnull dX11_copy_16 ?_
        refine gw_aloadN dX11_copy_19 rfl ?_
        refine gw_ifnonnullN dX11_copy_21 ?_
        refine gw_ldc dX11_copy_24 wd_233 ?_
        refine gw_W.wd (w' := bW cy ad sa ta (σ.1) ((sOp σ).length) ((sTr σ).length) nx (σ.2.2.2.2.2.2.1) (σ.2.2.2.2.2.2.2) (σ.2.2.2.2.1) lo pg bo ++ (xs ++ (tb ++ op))) rfl ?_
        refine gw_iret (?_) (by decide) (by decide) rfl dX11_copy_26
        subst hpost
        unfold spCopy
        rw [if_neg (fun h => by first | exact h2 h.1 | exact h9 h.2)]
        exact ⟨rfl, ad, sa, ta, oa, nx, lo, pg, bo, cs, xs, tb, op, td, rfl, List.Perm.refl _, hxs, hcs, htb, hop, hN, hbo⟩
    · rw [if_neg h2]
      refine gw_W.norm (st' := [.null]) (k1 := 0) (k2 := 0) rfl rfl rfl ?_
      refine gw_W.wd (w' := ([(ad 0, .inr (9, [.int (nI (σ.1)), .ref (ad 1), .ref (ad 2), .ref (sa (3 * 0)), .ref (ad 4), .ref (ad 5), .ref (ad 6), .int (nI ((sOp σ).length)), va_rf (lo), .int (nx), .int (σ.2.2.2.2.2.2.1), .int (σ.2.2.2.2.2.2.2), .ref (ad 12), .int (nI ((sTr σ).length)), .int (σ.2.2.2.2.1)])), (ad 1, .inl (cy 3, 9, .inr (.inr (.inr (.inr (fun i => some (sa (3 * i)))))))), (ad 2, .inl (cy 3, 9, .inr (.inr (.inr (.inr (fun i => some (sa (3 * (9 + i))))))))), (ad 5, .inl (cy 4, 8, .inr (.inr (.inr (.inr (fun i => some (ta (2 * i)))))))), (ad 6, .inl (cy 2, 40, .inr (.inr (.inr (.inr (pg)))))), (ad 12, .inl (cy 0, 16, .inl (bo)))] ++ (xs ++ (tb ++ op)))) rfl ?_
      refine gw_astoreN dX11_copy_5 (by decide) rfl ?_
      refine gw_aload_n dX11_copy_7 rfl ?_
      refine gw_iload_n dX11_copy_8 rfl ?_
      refine gw_W.wd (w' := bW cy ad sa ta (σ.1) ((sOp σ).length) ((sTr σ).length) nx (σ.2.2.2.2.2.2.1) (σ.2.2.2.2.2.2.2) (σ.2.2.2.2.1) lo pg bo ++ (xs ++ (tb ++ op))) rfl ?_
      refine gw_callV 0 (As := [.int (y)]) (st := []) (c_btableAt l cy ad sa ta (σ.1) ((sOp σ).length) ((sTr σ).length) nx (σ.2.2.2.2.2.2.1) (σ.2.2.2.2.2.2.2) (σ.2.2.2.2.1) lo pg bo (xs ++ (tb ++ op)) (y)) ok_X11_tableAt rfl rfl rfl wd_226 rfl rfl dX11_copy_9 (by decide) (by decide) (Nat.le_of_ble_eq_true rfl) (fun r9 w9 hp9 => ?_)
      obtain ⟨rfl, rfl⟩ := hp9
      by_cases h9 : inZ (y).toInt 0 7 = true
      · rw [if_pos h9]
        refine gw_W.norm (st' := [.ref (ta (2 * tI (y)))]) (k1 := 0) (k2 := 0) rfl rfl rfl ?_
        refine gw_W.wd (w' := ([(ad 0, .inr (9, [.int (nI (σ.1)), .ref (ad 1), .ref (ad 2), .ref (sa (3 * 0)), .ref (ad 4), .ref (ad 5), .ref (ad 6), .int (nI ((sOp σ).length)), va_rf (lo), .int (nx), .int (σ.2.2.2.2.2.2.1), .int (σ.2.2.2.2.2.2.2), .ref (ad 12), .int (nI ((sTr σ).length)), .int (σ.2.2.2.2.1)])), (ad 1, .inl (cy 3, 9, .inr (.inr (.inr (.inr (fun i => some (sa (3 * i)))))))), (ad 2, .inl (cy 3, 9, .inr (.inr (.inr (.inr (fun i => some (sa (3 * (9 + i))))))))), (ad 5, .inl (cy 4, 8, .inr (.inr (.inr (.inr (fun i => some (ta (2 * i)))))))), (ad 6, .inl (cy 2, 40, .inr (.inr (.inr (.inr (pg)))))), (ad 12, .inl (cy 0, 16, .inl (bo)))] ++ (xs ++ (tb ++ op)))) rfl ?_
        refine gw_astore dX11_copy_12 (by decide) rfl ?_
        refine gw_aloadN dX11_copy_14 rfl ?_
        refine gw_ifnullN (tgt := 24) dX11_copy_16 (by decide) ?_
        refine gw_ldc dX11_copy_24 wd_233 ?_
        refine gw_W.wd (w' := bW cy ad sa ta (σ.1) ((sOp σ).length) ((sTr σ).length) nx (σ.2.2.2.2.2.2.1) (σ.2.2.2.2.2.2.2) (σ.2.2.2.2.1) lo pg bo ++ (xs ++ (tb ++ op))) rfl ?_
        refine gw_iret (?_) (by decide) (by decide) rfl dX11_copy_26
        subst hpost
        unfold spCopy
        rw [if_neg (fun h => by first | exact h2 h.1 | exact h9 h.2)]
        exact ⟨rfl, ad, sa, ta, oa, nx, lo, pg, bo, cs, xs, tb, op, td, rfl, List.Perm.refl _, hxs, hcs, htb, hop, hN, hbo⟩
      · rw [if_neg h9]
        refine gw_W.norm (st' := [.null]) (k1 := 0) (k2 := 0) rfl rfl rfl ?_
        refine gw_W.wd (w' := ([(ad 0, .inr (9, [.int (nI (σ.1)), .ref (ad 1), .ref (ad 2), .ref (sa (3 * 0)), .ref (ad 4), .ref (ad 5), .ref (ad 6), .int (nI ((sOp σ).length)), va_rf (lo), .int (nx), .int (σ.2.2.2.2.2.2.1), .int (σ.2.2.2.2.2.2.2), .ref (ad 12), .int (nI ((sTr σ).length)), .int (σ.2.2.2.2.1)])), (ad 1, .inl (cy 3, 9, .inr (.inr (.inr (.inr (fun i => some (sa (3 * i)))))))), (ad 2, .inl (cy 3, 9, .inr (.inr (.inr (.inr (fun i => some (sa (3 * (9 + i))))))))), (ad 5, .inl (cy 4, 8, .inr (.inr (.inr (.inr (fun i => some (ta (2 * i)))))))), (ad 6, .inl (cy 2, 40, .inr (.inr (.inr (.inr (pg)))))), (ad 12, .inl (cy 0, 16, .inl (bo)))] ++ (xs ++ (tb ++ op)))) rfl ?_
        refine gw_astoreN dX11_copy_12 (by decide) rfl ?_
        refine gw_aloadN dX11_copy_14 rfl ?_
        refine gw_ifnullN (tgt := 24) dX11_copy_16 (by decide) ?_
        refine gw_ldc dX11_copy_24 wd_233 ?_
        refine gw_W.wd (w' := bW cy ad sa ta (σ.1) ((sOp σ).length) ((sTr σ).length) nx (σ.2.2.2.2.2.2.1) (σ.2.2.2.2.2.2.2) (σ.2.2.2.2.1) lo pg bo ++ (xs ++ (tb ++ op))) rfl ?_
        refine gw_iret (?_) (by decide) (by decide) rfl dX11_copy_26
        subst hpost
        unfold spCopy
        rw [if_neg (fun h => by first | exact h2 h.1 | exact h9 h.2)]
        exact ⟨rfl, ad, sa, ta, oa, nx, lo, pg, bo, cs, xs, tb, op, td, rfl, List.Perm.refl _, hxs, hcs, htb, hop, hN, hbo⟩
