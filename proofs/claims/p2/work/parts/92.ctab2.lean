/-! the class: drop, set, table, copy, against the state -/
theorem perm_mid {α : Type} {A a B r : List α} : (A ++ (a ++ (B ++ r))).Perm ((a ++ []) ++ ((A ++ B) ++ r)) := by
  rw [List.append_nil, List.append_assoc]
  rw [← List.append_assoc A a, ← List.append_assoc a A]
  exact List.perm_append_comm.append_right _
theorem tab_some {t : aT} {ms la sz : Int32} {it : Nat → Int32} (h : tabR t ms la sz it) (h0 : ms = 0) : ∃ q, t = some q ∧ q.1 < 3 ∧ la = nI q.1 ∧ q.2.length ≤ 60 ∧ sz = nI q.2.length ∧ ∀ j, j < q.2.length → it j = q.2.getD j 0 := by
  cases t with
  | none => rw [show ms = nI 1 from h] at h0; exact absurd h0 (by decide)
  | some q => exact ⟨q, rfl, h.2⟩
theorem tab_none {t : aT} {ms la sz : Int32} {it : Nat → Int32} (h : tabR t ms la sz it) (h0 : ¬ ms = 0) : t = none := by
  cases t with
  | none => rfl
  | some q => exact absurd h.1 h0
abbrev kX11_drop : gw_K := (yX11_drop, cX11_drop, 3, { frames := 2, cells := 0, slots := 0, locals := 43 }, (some .int))
theorem ok_X11_drop : gw_calV kX11_drop 1 := ⟨⟨wd_272, wd_57, by decide, by decide, by decide +kernel⟩, wd_270, wd_271⟩
set_option maxHeartbeats 4000000 in
set_option maxRecDepth 100000 in
theorem t_cdrop (l : Launch) (cy : Nat → ClassId) (b : Nat) (σ : aS) (w : va_W) (hI : cInv cy b σ w) (t : Int32) : gw_M l kX11_drop cy [.ref (b), .int (t)] (w) (cPost cy b (spDrop σ t)) := by
  obtain ⟨ad, sa, ta, oa, nx, lo, pg, bo, cs, xs, tb, op, td, rfl, hw, hxs, hcs, htb, hop, hN, hbo⟩ := hI
  have hn4 : 1 ≤ σ.1 ∧ σ.1 ≤ 4 := ⟨hN.1, hN.2.1⟩
  refine gw_M.pm hw ?_
  refine gw_M.mk (lv := [some (.ref (ad 0)), some (.int (t)), none]) (by decide) (Nat.le_of_ble_eq_true rfl) rfl ?_
  generalize hpost : (cPost cy (ad 0) (spDrop σ t) : gw_Q) = post
  refine gw_W.wd (w' := ([(ad 0, .inr (9, [.int (nI (σ.1)), .ref (ad 1), .ref (ad 2), .ref (sa (3 * 0)), .ref (ad 4), .ref (ad 5), .ref (ad 6), .int (nI ((sOp σ).length)), va_rf (lo), .int (nx), .int (σ.2.2.2.2.2.2.1), .int (σ.2.2.2.2.2.2.2), .ref (ad 12), .int (nI ((sTr σ).length)), .int (σ.2.2.2.2.1)])), (ad 1, .inl (cy 3, 9, .inr (.inr (.inr (.inr (fun i => some (sa (3 * i)))))))), (ad 2, .inl (cy 3, 9, .inr (.inr (.inr (.inr (fun i => some (sa (3 * (9 + i))))))))), (ad 5, .inl (cy 4, 8, .inr (.inr (.inr (.inr (fun i => some (ta (2 * i)))))))), (ad 6, .inl (cy 2, 40, .inr (.inr (.inr (.inr (pg)))))), (ad 12, .inl (cy 0, 16, .inl (bo)))] ++ (xs ++ (tb ++ op)))) rfl ?_
  refine gw_aload_n dX11_drop_0 rfl ?_
  refine gw_iload_n dX11_drop_1 rfl ?_
  refine gw_W.wd (w' := bW cy ad sa ta (σ.1) ((sOp σ).length) ((sTr σ).length) nx (σ.2.2.2.2.2.2.1) (σ.2.2.2.2.2.2.2) (σ.2.2.2.2.1) lo pg bo ++ (xs ++ (tb ++ op))) rfl ?_
  refine gw_callV 0 (As := [.int (t)]) (st := []) (c_btableAt l cy ad sa ta (σ.1) ((sOp σ).length) ((sTr σ).length) nx (σ.2.2.2.2.2.2.1) (σ.2.2.2.2.2.2.2) (σ.2.2.2.2.1) lo pg bo (xs ++ (tb ++ op)) (t)) ok_X11_tableAt rfl rfl rfl wd_226 rfl rfl dX11_drop_2 (by decide) (by decide) (Nat.le_of_ble_eq_true rfl) (fun r2 w2 hp2 => ?_)
  obtain ⟨rfl, rfl⟩ := hp2
  by_cases h2 : inZ (t).toInt 0 7 = true
  · rw [if_pos h2]
    refine gw_W.norm (st' := [.ref (ta (2 * tI (t)))]) (k1 := 0) (k2 := 0) rfl rfl rfl ?_
    refine gw_W.wd (w' := ([(ad 0, .inr (9, [.int (nI (σ.1)), .ref (ad 1), .ref (ad 2), .ref (sa (3 * 0)), .ref (ad 4), .ref (ad 5), .ref (ad 6), .int (nI ((sOp σ).length)), va_rf (lo), .int (nx), .int (σ.2.2.2.2.2.2.1), .int (σ.2.2.2.2.2.2.2), .ref (ad 12), .int (nI ((sTr σ).length)), .int (σ.2.2.2.2.1)])), (ad 1, .inl (cy 3, 9, .inr (.inr (.inr (.inr (fun i => some (sa (3 * i)))))))), (ad 2, .inl (cy 3, 9, .inr (.inr (.inr (.inr (fun i => some (sa (3 * (9 + i))))))))), (ad 5, .inl (cy 4, 8, .inr (.inr (.inr (.inr (fun i => some (ta (2 * i)))))))), (ad 6, .inl (cy 2, 40, .inr (.inr (.inr (.inr (pg)))))), (ad 12, .inl (cy 0, 16, .inl (bo)))] ++ (xs ++ (tb ++ op)))) rfl ?_
    refine gw_astore_n dX11_drop_5 (by decide) rfl ?_
    obtain ⟨ms, la, sz, it, R, o1, o2, o3⟩ := tbP_open htb (i := tI (t)) (tI_lt h2)
    refine gw_W.perm (w' := ([(ad 0, .inr (9, [.int (nI (σ.1)), .ref (ad 1), .ref (ad 2), .ref (sa (3 * 0)), .ref (ad 4), .ref (ad 5), .ref (ad 6), .int (nI ((sOp σ).length)), va_rf (lo), .int (nx), .int (σ.2.2.2.2.2.2.1), .int (σ.2.2.2.2.2.2.2), .ref (ad 12), .int (nI ((sTr σ).length)), .int (σ.2.2.2.2.1)])), (ad 1, .inl (cy 3, 9, .inr (.inr (.inr (.inr (fun i => some (sa (3 * i)))))))), (ad 2, .inl (cy 3, 9, .inr (.inr (.inr (.inr (fun i => some (sa (3 * (9 + i))))))))), (ad 5, .inl (cy 4, 8, .inr (.inr (.inr (.inr (fun i => some (ta (2 * i)))))))), (ad 6, .inl (cy 2, 40, .inr (.inr (.inr (.inr (pg)))))), (ad 12, .inl (cy 0, 16, .inl (bo))), (ta (2 * tI (t)), .inr (8, [.ref (ta (2 * tI (t) + 1)), .int (ms), .int (la), .int (sz)])), (ta (2 * tI (t) + 1), .inl (cy 0, 60, .inl (it)))] ++ (xs ++ (R ++ op)))) (perm_tb (B := ([(ad 0, .inr (9, [.int (nI (σ.1)), .ref (ad 1), .ref (ad 2), .ref (sa (3 * 0)), .ref (ad 4), .ref (ad 5), .ref (ad 6), .int (nI ((sOp σ).length)), va_rf (lo), .int (nx), .int (σ.2.2.2.2.2.2.1), .int (σ.2.2.2.2.2.2.2), .ref (ad 12), .int (nI ((sTr σ).length)), .int (σ.2.2.2.2.1)])), (ad 1, .inl (cy 3, 9, .inr (.inr (.inr (.inr (fun i => some (sa (3 * i)))))))), (ad 2, .inl (cy 3, 9, .inr (.inr (.inr (.inr (fun i => some (sa (3 * (9 + i))))))))), (ad 5, .inl (cy 4, 8, .inr (.inr (.inr (.inr (fun i => some (ta (2 * i)))))))), (ad 6, .inl (cy 2, 40, .inr (.inr (.inr (.inr (pg)))))), (ad 12, .inl (cy 0, 16, .inl (bo)))] : va_W)) o1) ?_
    refine gw_aload_n dX11_drop_6 rfl ?_
    refine gw_ifnonnull (tgt := 13) dX11_drop_7 (by decide) ?_
    refine gw_aload_n dX11_drop_13 rfl ?_
    refine gw_getN (C0 := RX10) (T := TX10) (N := 4) (ref := RX10) 6 rfl rfl inX10 1 (by decide) (host := "SpinBench") (by decide +kernel) (Or.inl rfl) rfl dX11_drop_14 ?_
    refine gw_if_eq (tgt := 26) dX11_drop_17 (by decide) (fun c17 => ?_) (fun c17 => ?_)
    · obtain ⟨q, hq, e2, e3, e4, e5, e6⟩ := tab_some o2 c17
      have hq : sTb σ (tI t) = some q := hq
      subst e3; subst e5
      refine gw_aload_n dX11_drop_26 rfl ?_
      refine gw_iconst (v := nI (1)) dX11_drop_27 (by decide) ?_
      refine gw_putN (C0 := RX10) (T := TX10) (N := 4) (ref := RX10) (ty := tyX10 1) 6 rfl rfl inX10 1 (by decide) tyX10 tyX10_ok nmX10 (host := "SpinBench") (by decide +kernel) (Or.inl rfl) rfl (tyX10_ok 1 (by decide)) (by decide) rfl (Nat.le_of_ble_eq_true rfl) dX11_drop_28 ?_
      refine gw_W.wd (w' := ([(ad 0, .inr (9, [.int (nI (σ.1)), .ref (ad 1), .ref (ad 2), .ref (sa (3 * 0)), .ref (ad 4), .ref (ad 5), .ref (ad 6), .int (nI ((sOp σ).length)), va_rf (lo), .int (nx), .int (σ.2.2.2.2.2.2.1), .int (σ.2.2.2.2.2.2.2), .ref (ad 12), .int (nI ((sTr σ).length)), .int (σ.2.2.2.2.1)])), (ad 1, .inl (cy 3, 9, .inr (.inr (.inr (.inr (fun i => some (sa (3 * i)))))))), (ad 2, .inl (cy 3, 9, .inr (.inr (.inr (.inr (fun i => some (sa (3 * (9 + i))))))))), (ad 5, .inl (cy 4, 8, .inr (.inr (.inr (.inr (fun i => some (ta (2 * i)))))))), (ad 6, .inl (cy 2, 40, .inr (.inr (.inr (.inr (pg)))))), (ad 12, .inl (cy 0, 16, .inl (bo))), (ta (2 * tI (t)), .inr (8, [.ref (ta (2 * tI (t) + 1)), .int (nI (1)), .int (nI (q.1)), .int (nI (q.2.length))])), (ta (2 * tI (t) + 1), .inl (cy 0, 60, .inl (it)))] ++ (xs ++ (R ++ op)))) rfl ?_
      refine gw_aload_n dX11_drop_31 rfl ?_
      refine gw_aload_n dX11_drop_32 rfl ?_
      refine gw_getN (C0 := RX10) (T := TX10) (N := 4) (ref := RX10) 6 rfl rfl inX10 3 (by decide) (host := "SpinBench") (by decide +kernel) (Or.inl rfl) rfl dX11_drop_33 ?_
      refine gw_W.wd (w' := bW cy ad sa ta (σ.1) ((sOp σ).length) ((sTr σ).length) nx (σ.2.2.2.2.2.2.1) (σ.2.2.2.2.2.2.2) (σ.2.2.2.2.1) lo pg bo ++ ([(ta (2 * tI (t)), .inr (8, [.ref (ta (2 * tI (t) + 1)), .int (nI (1)), .int (nI (q.1)), .int (nI (q.2.length))])), (ta (2 * tI (t) + 1), .inl (cy 0, 60, .inl (it)))] ++ (xs ++ (R ++ op)))) rfl ?_
      refine gw_callV 0 (As := [.int (nI (q.2.length))]) (st := []) (c_bnotFound l cy ad sa ta (σ.1) ((sOp σ).length) ((sTr σ).length) nx (σ.2.2.2.2.2.2.1) (σ.2.2.2.2.2.2.2) (σ.2.2.2.2.1) lo pg bo ([(ta (2 * tI (t)), .inr (8, [.ref (ta (2 * tI (t) + 1)), .int (nI (1)), .int (nI (q.1)), .int (nI (q.2.length))])), (ta (2 * tI (t) + 1), .inl (cy 0, 60, .inl (it)))] ++ (xs ++ (R ++ op))) (nI (q.2.length))) ok_X11_notFound rfl rfl rfl wd_246 rfl rfl dX11_drop_36 (by decide) (by decide) (Nat.le_of_ble_eq_true rfl) (fun r36 w36 hp36 => ?_)
      obtain ⟨rfl, rfl⟩ := hp36
      refine gw_W.norm (st' := [.int (nI (q.2.length))]) (k1 := 0) (k2 := 0) rfl rfl rfl ?_
      refine gw_W.wd (w' := ([(ad 0, .inr (9, [.int (nI (σ.1)), .ref (ad 1), .ref (ad 2), .ref (sa (3 * 0)), .ref (ad 4), .ref (ad 5), .ref (ad 6), .int (nI ((sOp σ).length)), va_rf (lo), .int (nx), .int (σ.2.2.2.2.2.2.1), .int (σ.2.2.2.2.2.2.2), .ref (ad 12), .int (nI ((sTr σ).length)), .int (0)])), (ad 1, .inl (cy 3, 9, .inr (.inr (.inr (.inr (fun i => some (sa (3 * i)))))))), (ad 2, .inl (cy 3, 9, .inr (.inr (.inr (.inr (fun i => some (sa (3 * (9 + i))))))))), (ad 5, .inl (cy 4, 8, .inr (.inr (.inr (.inr (fun i => some (ta (2 * i)))))))), (ad 6, .inl (cy 2, 40, .inr (.inr (.inr (.inr (pg)))))), (ad 12, .inl (cy 0, 16, .inl (bo))), (ta (2 * tI (t)), .inr (8, [.ref (ta (2 * tI (t) + 1)), .int (nI (1)), .int (nI (q.1)), .int (nI (q.2.length))])), (ta (2 * tI (t) + 1), .inl (cy 0, 60, .inl (it)))] ++ (xs ++ (R ++ op)))) rfl ?_
      refine gw_W.wd (w' := bW cy ad sa ta (σ.1) ((sOp σ).length) ((sTr σ).length) nx (σ.2.2.2.2.2.2.1) (σ.2.2.2.2.2.2.2) 0 lo pg bo ++ (tW2 cy (ta (2 * tI (t))) (ta (2 * tI (t) + 1)) (nI (1)) (nI (q.1)) (nI (q.2.length)) it ++ (xs ++ (R ++ op)))) rfl ?_
      refine gw_iret (?_) (by decide) (by decide) rfl dX11_drop_39
      subst hpost
      unfold spDrop
      rw [if_pos h2, hq]
      simp only
      exact ⟨rfl, ad, sa, ta, oa, nx, lo, pg, bo, cs, xs, (tW2 cy (ta (2 * tI (t))) (ta (2 * tI (t) + 1)) (nI 1) (nI q.1) (nI q.2.length) it ++ R), op, td, rfl, perm_tb2 _ _ _ _ _, hxs, hcs, o3 (none) (nI 1) (nI q.1) (nI q.2.length) (it) _ (rfl) (List.Perm.refl _), hop, hN, hbo⟩
    · refine gw_aload_n dX11_drop_20 rfl ?_
      refine gw_iconst (v := nI (1)) dX11_drop_21 (by decide) ?_
      refine gw_W.wd (w' := bW cy ad sa ta (σ.1) ((sOp σ).length) ((sTr σ).length) nx (σ.2.2.2.2.2.2.1) (σ.2.2.2.2.2.2.2) (σ.2.2.2.2.1) lo pg bo ++ ([(ta (2 * tI (t)), .inr (8, [.ref (ta (2 * tI (t) + 1)), .int (ms), .int (la), .int (sz)])), (ta (2 * tI (t) + 1), .inl (cy 0, 60, .inl (it)))] ++ (xs ++ (R ++ op)))) rfl ?_
      refine gw_callV 0 (As := [.int (nI (1))]) (st := []) (c_bfound l cy ad sa ta (σ.1) ((sOp σ).length) ((sTr σ).length) nx (σ.2.2.2.2.2.2.1) (σ.2.2.2.2.2.2.2) (σ.2.2.2.2.1) lo pg bo ([(ta (2 * tI (t)), .inr (8, [.ref (ta (2 * tI (t) + 1)), .int (ms), .int (la), .int (sz)])), (ta (2 * tI (t) + 1), .inl (cy 0, 60, .inl (it)))] ++ (xs ++ (R ++ op))) (nI (1))) ok_X11_found rfl rfl rfl wd_234 rfl rfl dX11_drop_22 (by decide) (by decide) (Nat.le_of_ble_eq_true rfl) (fun r22 w22 hp22 => ?_)
      obtain ⟨rfl, rfl⟩ := hp22
      refine gw_W.norm (st' := [.int ((-1000010) - (nI (1)))]) (k1 := 0) (k2 := 0) rfl rfl rfl ?_
      refine gw_W.wd (w' := ([(ad 0, .inr (9, [.int (nI (σ.1)), .ref (ad 1), .ref (ad 2), .ref (sa (3 * 0)), .ref (ad 4), .ref (ad 5), .ref (ad 6), .int (nI ((sOp σ).length)), va_rf (lo), .int (nx), .int (σ.2.2.2.2.2.2.1), .int (σ.2.2.2.2.2.2.2), .ref (ad 12), .int (nI ((sTr σ).length)), .int (nI (1))])), (ad 1, .inl (cy 3, 9, .inr (.inr (.inr (.inr (fun i => some (sa (3 * i)))))))), (ad 2, .inl (cy 3, 9, .inr (.inr (.inr (.inr (fun i => some (sa (3 * (9 + i))))))))), (ad 5, .inl (cy 4, 8, .inr (.inr (.inr (.inr (fun i => some (ta (2 * i)))))))), (ad 6, .inl (cy 2, 40, .inr (.inr (.inr (.inr (pg)))))), (ad 12, .inl (cy 0, 16, .inl (bo))), (ta (2 * tI (t)), .inr (8, [.ref (ta (2 * tI (t) + 1)), .int (ms), .int (la), .int (sz)])), (ta (2 * tI (t) + 1), .inl (cy 0, 60, .inl (it)))] ++ (xs ++ (R ++ op)))) rfl ?_
      refine gw_W.wd (w' := bW cy ad sa ta (σ.1) ((sOp σ).length) ((sTr σ).length) nx (σ.2.2.2.2.2.2.1) (σ.2.2.2.2.2.2.2) (nI (1)) lo pg bo ++ (tW2 cy (ta (2 * tI (t))) (ta (2 * tI (t) + 1)) ms la sz it ++ (xs ++ (R ++ op)))) rfl ?_
      refine gw_iret (?_) (by decide) (by decide) rfl dX11_drop_25
      subst hpost
      unfold spDrop
      rw [if_pos h2, show sTb σ (tI t) = none from tab_none o2 c17]
      simp only
      exact ⟨rfl, ad, sa, ta, oa, nx, lo, pg, bo, cs, xs, tb, op, td, rfl, (perm_tb o1).symm, hxs, hcs, htb, hop, hN, hbo⟩
  · rw [if_neg h2]
    refine gw_W.norm (st' := [.null]) (k1 := 0) (k2 := 0) rfl rfl rfl ?_
    refine gw_W.wd (w' := ([(ad 0, .inr (9, [.int (nI (σ.1)), .ref (ad 1), .ref (ad 2), .ref (sa (3 * 0)), .ref (ad 4), .ref (ad 5), .ref (ad 6), .int (nI ((sOp σ).length)), va_rf (lo), .int (nx), .int (σ.2.2.2.2.2.2.1), .int (σ.2.2.2.2.2.2.2), .ref (ad 12), .int (nI ((sTr σ).length)), .int (σ.2.2.2.2.1)])), (ad 1, .inl (cy 3, 9, .inr (.inr (.inr (.inr (fun i => some (sa (3 * i)))))))), (ad 2, .inl (cy 3, 9, .inr (.inr (.inr (.inr (fun i => some (sa (3 * (9 + i))))))))), (ad 5, .inl (cy 4, 8, .inr (.inr (.inr (.inr (fun i => some (ta (2 * i)))))))), (ad 6, .inl (cy 2, 40, .inr (.inr (.inr (.inr (pg)))))), (ad 12, .inl (cy 0, 16, .inl (bo)))] ++ (xs ++ (tb ++ op)))) rfl ?_
    refine gw_astore_nN dX11_drop_5 (by decide) rfl ?_
    refine gw_aload_nN dX11_drop_6 rfl ?_
    refine gw_ifnonnullN dX11_drop_7 ?_
    refine gw_ldc dX11_drop_10 wd_233 ?_
    refine gw_W.wd (w' := bW cy ad sa ta (σ.1) ((sOp σ).length) ((sTr σ).length) nx (σ.2.2.2.2.2.2.1) (σ.2.2.2.2.2.2.2) (σ.2.2.2.2.1) lo pg bo ++ (xs ++ (tb ++ op))) rfl ?_
    refine gw_iret (?_) (by decide) (by decide) rfl dX11_drop_12
    subst hpost
    unfold spDrop
    rw [if_neg h2]
    exact ⟨rfl, ad, sa, ta, oa, nx, lo, pg, bo, cs, xs, tb, op, td, rfl, List.Perm.refl _, hxs, hcs, htb, hop, hN, hbo⟩
abbrev kX11_set : gw_K := (yX11_set, cX11_set, 5, { frames := 2, cells := 0, slots := 0, locals := 43 }, (some .int))
theorem ok_X11_set : gw_calV kX11_set 3 := ⟨⟨wd_253, wd_57, by decide, by decide, by decide +kernel⟩, wd_251, wd_252⟩
set_option maxHeartbeats 4000000 in
set_option maxRecDepth 100000 in
theorem t_cset (l : Launch) (cy : Nat → ClassId) (b : Nat) (σ : aS) (w : va_W) (hI : cInv cy b σ w) (t i v : Int32) : gw_M l kX11_set cy [.ref (b), .int (t), .int (i), .int (v)] (w) (cPost cy b (spSet σ t i v)) := by
  obtain ⟨ad, sa, ta, oa, nx, lo, pg, bo, cs, xs, tb, op, td, rfl, hw, hxs, hcs, htb, hop, hN, hbo⟩ := hI
  have hn4 : 1 ≤ σ.1 ∧ σ.1 ≤ 4 := ⟨hN.1, hN.2.1⟩
  refine gw_M.pm hw ?_
  refine gw_M.mk (lv := [some (.ref (ad 0)), some (.int (t)), some (.int (i)), some (.int (v)), none]) (by decide) (Nat.le_of_ble_eq_true rfl) rfl ?_
  generalize hpost : (cPost cy (ad 0) (spSet σ t i v) : gw_Q) = post
  refine gw_W.wd (w' := ([(ad 0, .inr (9, [.int (nI (σ.1)), .ref (ad 1), .ref (ad 2), .ref (sa (3 * 0)), .ref (ad 4), .ref (ad 5), .ref (ad 6), .int (nI ((sOp σ).length)), va_rf (lo), .int (nx), .int (σ.2.2.2.2.2.2.1), .int (σ.2.2.2.2.2.2.2), .ref (ad 12), .int (nI ((sTr σ).length)), .int (σ.2.2.2.2.1)])), (ad 1, .inl (cy 3, 9, .inr (.inr (.inr (.inr (fun i => some (sa (3 * i)))))))), (ad 2, .inl (cy 3, 9, .inr (.inr (.inr (.inr (fun i => some (sa (3 * (9 + i))))))))), (ad 5, .inl (cy 4, 8, .inr (.inr (.inr (.inr (fun i => some (ta (2 * i)))))))), (ad 6, .inl (cy 2, 40, .inr (.inr (.inr (.inr (pg)))))), (ad 12, .inl (cy 0, 16, .inl (bo)))] ++ (xs ++ (tb ++ op)))) rfl ?_
  refine gw_aload_n dX11_set_0 rfl ?_
  refine gw_iload_n dX11_set_1 rfl ?_
  refine gw_W.wd (w' := bW cy ad sa ta (σ.1) ((sOp σ).length) ((sTr σ).length) nx (σ.2.2.2.2.2.2.1) (σ.2.2.2.2.2.2.2) (σ.2.2.2.2.1) lo pg bo ++ (xs ++ (tb ++ op))) rfl ?_
  refine gw_callV 0 (As := [.int (t)]) (st := []) (c_btableAt l cy ad sa ta (σ.1) ((sOp σ).length) ((sTr σ).length) nx (σ.2.2.2.2.2.2.1) (σ.2.2.2.2.2.2.2) (σ.2.2.2.2.1) lo pg bo (xs ++ (tb ++ op)) (t)) ok_X11_tableAt rfl rfl rfl wd_226 rfl rfl dX11_set_2 (by decide) (by decide) (Nat.le_of_ble_eq_true rfl) (fun r2 w2 hp2 => ?_)
  obtain ⟨rfl, rfl⟩ := hp2
  by_cases h2 : inZ (t).toInt 0 7 = true
  · rw [if_pos h2]
    refine gw_W.norm (st' := [.ref (ta (2 * tI (t)))]) (k1 := 0) (k2 := 0) rfl rfl rfl ?_
    refine gw_W.wd (w' := ([(ad 0, .inr (9, [.int (nI (σ.1)), .ref (ad 1), .ref (ad 2), .ref (sa (3 * 0)), .ref (ad 4), .ref (ad 5), .ref (ad 6), .int (nI ((sOp σ).length)), va_rf (lo), .int (nx), .int (σ.2.2.2.2.2.2.1), .int (σ.2.2.2.2.2.2.2), .ref (ad 12), .int (nI ((sTr σ).length)), .int (σ.2.2.2.2.1)])), (ad 1, .inl (cy 3, 9, .inr (.inr (.inr (.inr (fun i => some (sa (3 * i)))))))), (ad 2, .inl (cy 3, 9, .inr (.inr (.inr (.inr (fun i => some (sa (3 * (9 + i))))))))), (ad 5, .inl (cy 4, 8, .inr (.inr (.inr (.inr (fun i => some (ta (2 * i)))))))), (ad 6, .inl (cy 2, 40, .inr (.inr (.inr (.inr (pg)))))), (ad 12, .inl (cy 0, 16, .inl (bo)))] ++ (xs ++ (tb ++ op)))) rfl ?_
    refine gw_astore dX11_set_5 (by decide) rfl ?_
    obtain ⟨ms, la, sz, it, R, o1, o2, o3⟩ := tbP_open htb (i := tI (t)) (tI_lt h2)
    refine gw_W.perm (w' := ([(ad 0, .inr (9, [.int (nI (σ.1)), .ref (ad 1), .ref (ad 2), .ref (sa (3 * 0)), .ref (ad 4), .ref (ad 5), .ref (ad 6), .int (nI ((sOp σ).length)), va_rf (lo), .int (nx), .int (σ.2.2.2.2.2.2.1), .int (σ.2.2.2.2.2.2.2), .ref (ad 12), .int (nI ((sTr σ).length)), .int (σ.2.2.2.2.1)])), (ad 1, .inl (cy 3, 9, .inr (.inr (.inr (.inr (fun i => some (sa (3 * i)))))))), (ad 2, .inl (cy 3, 9, .inr (.inr (.inr (.inr (fun i => some (sa (3 * (9 + i))))))))), (ad 5, .inl (cy 4, 8, .inr (.inr (.inr (.inr (fun i => some (ta (2 * i)))))))), (ad 6, .inl (cy 2, 40, .inr (.inr (.inr (.inr (pg)))))), (ad 12, .inl (cy 0, 16, .inl (bo))), (ta (2 * tI (t)), .inr (8, [.ref (ta (2 * tI (t) + 1)), .int (ms), .int (la), .int (sz)])), (ta (2 * tI (t) + 1), .inl (cy 0, 60, .inl (it)))] ++ (xs ++ (R ++ op)))) (perm_tb (B := ([(ad 0, .inr (9, [.int (nI (σ.1)), .ref (ad 1), .ref (ad 2), .ref (sa (3 * 0)), .ref (ad 4), .ref (ad 5), .ref (ad 6), .int (nI ((sOp σ).length)), va_rf (lo), .int (nx), .int (σ.2.2.2.2.2.2.1), .int (σ.2.2.2.2.2.2.2), .ref (ad 12), .int (nI ((sTr σ).length)), .int (σ.2.2.2.2.1)])), (ad 1, .inl (cy 3, 9, .inr (.inr (.inr (.inr (fun i => some (sa (3 * i)))))))), (ad 2, .inl (cy 3, 9, .inr (.inr (.inr (.inr (fun i => some (sa (3 * (9 + i))))))))), (ad 5, .inl (cy 4, 8, .inr (.inr (.inr (.inr (fun i => some (ta (2 * i)))))))), (ad 6, .inl (cy 2, 40, .inr (.inr (.inr (.inr (pg)))))), (ad 12, .inl (cy 0, 16, .inl (bo)))] : va_W)) o1) ?_
    refine gw_aload dX11_set_7 rfl ?_
    refine gw_ifnonnull (tgt := 15) dX11_set_9 (by decide) ?_
    refine gw_aload dX11_set_15 rfl ?_
    refine gw_getN (C0 := RX10) (T := TX10) (N := 4) (ref := RX10) 6 rfl rfl inX10 1 (by decide) (host := "SpinBench") (by decide +kernel) (Or.inl rfl) rfl dX11_set_17 ?_
    refine gw_if_eq (tgt := 29) dX11_set_20 (by decide) (fun c20 => ?_) (fun c20 => ?_)
    · obtain ⟨q, hq, e2, e3, e4, e5, e6⟩ := tab_some o2 c20
      have hq : sTb σ (tI t) = some q := hq
      subst e3; subst e5
      refine gw_aload dX11_set_29 rfl ?_
      refine gw_iload_n dX11_set_31 rfl ?_
      refine gw_iconst (v := nI (1)) dX11_set_32 (by decide) ?_
      refine gw_callVN 6 (As := [.int (i), .int (nI (1))]) (st := []) ((c_thas l cy (ta (2 * tI (t))) (ta (2 * tI (t) + 1)) ms (nI q.1) q.2.length it [] (i) (nI (1)) e4).frame (w2 := ([(ad 0, .inr (9, [.int (nI (σ.1)), .ref (ad 1), .ref (ad 2), .ref (sa (3 * 0)), .ref (ad 4), .ref (ad 5), .ref (ad 6), .int (nI ((sOp σ).length)), va_rf (lo), .int (nx), .int (σ.2.2.2.2.2.2.1), .int (σ.2.2.2.2.2.2.2), .ref (ad 12), .int (nI ((sTr σ).length)), .int (σ.2.2.2.2.1)])), (ad 1, .inl (cy 3, 9, .inr (.inr (.inr (.inr (fun i => some (sa (3 * i)))))))), (ad 2, .inl (cy 3, 9, .inr (.inr (.inr (.inr (fun i => some (sa (3 * (9 + i))))))))), (ad 5, .inl (cy 4, 8, .inr (.inr (.inr (.inr (fun i => some (ta (2 * i)))))))), (ad 6, .inl (cy 2, 40, .inr (.inr (.inr (.inr (pg)))))), (ad 12, .inl (cy 0, 16, .inl (bo))), (ta (2 * tI (t)), .inr (8, [.ref (ta (2 * tI (t) + 1)), .int (ms), .int (nI (q.1)), .int (nI (q.2.length))])), (ta (2 * tI (t) + 1), .inl (cy 0, 60, .inl (it)))] ++ (xs ++ (R ++ op)))) (f := ((([(ad 0, .inr (9, [.int (nI (σ.1)), .ref (ad 1), .ref (ad 2), .ref (sa (3 * 0)), .ref (ad 4), .ref (ad 5), .ref (ad 6), .int (nI ((sOp σ).length)), va_rf (lo), .int (nx), .int (σ.2.2.2.2.2.2.1), .int (σ.2.2.2.2.2.2.2), .ref (ad 12), .int (nI ((sTr σ).length)), .int (σ.2.2.2.2.1)])), (ad 1, .inl (cy 3, 9, .inr (.inr (.inr (.inr (fun i => some (sa (3 * i)))))))), (ad 2, .inl (cy 3, 9, .inr (.inr (.inr (.inr (fun i => some (sa (3 * (9 + i))))))))), (ad 5, .inl (cy 4, 8, .inr (.inr (.inr (.inr (fun i => some (ta (2 * i)))))))), (ad 6, .inl (cy 2, 40, .inr (.inr (.inr (.inr (pg)))))), (ad 12, .inl (cy 0, 16, .inl (bo)))] : va_W) ++ ([] : va_W)) ++ (xs ++ (R ++ op)))) (perm_mid (A := ([(ad 0, .inr (9, [.int (nI (σ.1)), .ref (ad 1), .ref (ad 2), .ref (sa (3 * 0)), .ref (ad 4), .ref (ad 5), .ref (ad 6), .int (nI ((sOp σ).length)), va_rf (lo), .int (nx), .int (σ.2.2.2.2.2.2.1), .int (σ.2.2.2.2.2.2.2), .ref (ad 12), .int (nI ((sTr σ).length)), .int (σ.2.2.2.2.1)])), (ad 1, .inl (cy 3, 9, .inr (.inr (.inr (.inr (fun i => some (sa (3 * i)))))))), (ad 2, .inl (cy 3, 9, .inr (.inr (.inr (.inr (fun i => some (sa (3 * (9 + i))))))))), (ad 5, .inl (cy 4, 8, .inr (.inr (.inr (.inr (fun i => some (ta (2 * i)))))))), (ad 6, .inl (cy 2, 40, .inr (.inr (.inr (.inr (pg)))))), (ad 12, .inl (cy 0, 16, .inl (bo)))] : va_W)) (a := ([(ta (2 * tI (t)), .inr (8, [.ref (ta (2 * tI (t) + 1)), .int (ms), .int (nI (q.1)), .int (nI (q.2.length))])), (ta (2 * tI (t) + 1), .inl (cy 0, 60, .inl (it)))] : va_W)) (B := ([] : va_W)) (r := (xs ++ (R ++ op))))) ok_X10_hasPlaces rfl rfl rfl (host := "SpinBench") (by decide +kernel) rfl rfl dX11_set_33 (by decide) (by decide) (Nat.le_of_ble_eq_true rfl) (fun r33 w33 hp33 => ?_)
      obtain ⟨w33, ⟨rfl, rfl⟩, rfl⟩ := hp33
      refine gw_W.norm (st' := [.int (bI (decide (0 ≤ (i).toInt ∧ 0 ≤ (nI (1)).toInt ∧ (i).toInt + (nI (1)).toInt ≤ q.2.length)))]) (k1 := 0) (k2 := 0) rfl rfl rfl ?_
      refine gw_W.wd (w' := ((([(ta (2 * tI (t)), .inr (8, [.ref (ta (2 * tI (t) + 1)), .int (ms), .int (nI (q.1)), .int (nI (q.2.length))])), (ta (2 * tI (t) + 1), .inl (cy 0, 60, .inl (it)))] : va_W) ++ []) ++ ((([(ad 0, .inr (9, [.int (nI (σ.1)), .ref (ad 1), .ref (ad 2), .ref (sa (3 * 0)), .ref (ad 4), .ref (ad 5), .ref (ad 6), .int (nI ((sOp σ).length)), va_rf (lo), .int (nx), .int (σ.2.2.2.2.2.2.1), .int (σ.2.2.2.2.2.2.2), .ref (ad 12), .int (nI ((sTr σ).length)), .int (σ.2.2.2.2.1)])), (ad 1, .inl (cy 3, 9, .inr (.inr (.inr (.inr (fun i => some (sa (3 * i)))))))), (ad 2, .inl (cy 3, 9, .inr (.inr (.inr (.inr (fun i => some (sa (3 * (9 + i))))))))), (ad 5, .inl (cy 4, 8, .inr (.inr (.inr (.inr (fun i => some (ta (2 * i)))))))), (ad 6, .inl (cy 2, 40, .inr (.inr (.inr (.inr (pg)))))), (ad 12, .inl (cy 0, 16, .inl (bo)))] : va_W) ++ ([] : va_W)) ++ (xs ++ (R ++ op))))) rfl ?_
      refine gw_W.perm (perm_mid (A := ([(ad 0, .inr (9, [.int (nI (σ.1)), .ref (ad 1), .ref (ad 2), .ref (sa (3 * 0)), .ref (ad 4), .ref (ad 5), .ref (ad 6), .int (nI ((sOp σ).length)), va_rf (lo), .int (nx), .int (σ.2.2.2.2.2.2.1), .int (σ.2.2.2.2.2.2.2), .ref (ad 12), .int (nI ((sTr σ).length)), .int (σ.2.2.2.2.1)])), (ad 1, .inl (cy 3, 9, .inr (.inr (.inr (.inr (fun i => some (sa (3 * i)))))))), (ad 2, .inl (cy 3, 9, .inr (.inr (.inr (.inr (fun i => some (sa (3 * (9 + i))))))))), (ad 5, .inl (cy 4, 8, .inr (.inr (.inr (.inr (fun i => some (ta (2 * i)))))))), (ad 6, .inl (cy 2, 40, .inr (.inr (.inr (.inr (pg)))))), (ad 12, .inl (cy 0, 16, .inl (bo)))] : va_W)) (a := ([(ta (2 * tI (t)), .inr (8, [.ref (ta (2 * tI (t) + 1)), .int (ms), .int (nI (q.1)), .int (nI (q.2.length))])), (ta (2 * tI (t) + 1), .inl (cy 0, 60, .inl (it)))] : va_W)) (B := ([] : va_W)) (r := (xs ++ (R ++ op)))).symm ?_
      refine gw_W.wd (w' := ([(ad 0, .inr (9, [.int (nI (σ.1)), .ref (ad 1), .ref (ad 2), .ref (sa (3 * 0)), .ref (ad 4), .ref (ad 5), .ref (ad 6), .int (nI ((sOp σ).length)), va_rf (lo), .int (nx), .int (σ.2.2.2.2.2.2.1), .int (σ.2.2.2.2.2.2.2), .ref (ad 12), .int (nI ((sTr σ).length)), .int (σ.2.2.2.2.1)])), (ad 1, .inl (cy 3, 9, .inr (.inr (.inr (.inr (fun i => some (sa (3 * i)))))))), (ad 2, .inl (cy 3, 9, .inr (.inr (.inr (.inr (fun i => some (sa (3 * (9 + i))))))))), (ad 5, .inl (cy 4, 8, .inr (.inr (.inr (.inr (fun i => some (ta (2 * i)))))))), (ad 6, .inl (cy 2, 40, .inr (.inr (.inr (.inr (pg)))))), (ad 12, .inl (cy 0, 16, .inl (bo))), (ta (2 * tI (t)), .inr (8, [.ref (ta (2 * tI (t) + 1)), .int (ms), .int (nI (q.1)), .int (nI (q.2.length))])), (ta (2 * tI (t) + 1), .inl (cy 0, 60, .inl (it)))] ++ (xs ++ (R ++ op)))) rfl ?_
      refine gw_if_ne (tgt := 45) dX11_set_36 (by decide) (fun c36 => ?_) (fun c36 => ?_)
      · rw [bI_n0, decide_eq_true_eq, show (nI 1).toInt = 1 from by decide] at c36
        have ci : inZ i.toInt 0 ((q.2.length : Int) - 1) = true := inZ_t.mpr (by omega)
        have i9 : tI i < q.2.length := by unfold tI; omega
        refine gw_aload dX11_set_45 rfl ?_
        refine gw_getN (C0 := RX10) (T := TX10) (N := 4) (ref := RX10) 6 rfl rfl inX10 0 (by decide) (host := "SpinBench") (by decide +kernel) (Or.inl rfl) rfl dX11_set_47 ?_
        refine gw_iload_n dX11_set_50 rfl ?_
        refine gw_aload dX11_set_51 rfl ?_
        refine gw_iload_n dX11_set_53 rfl ?_
        refine gw_callVN 6 (As := [.int (v)]) (st := [.int (i), .ref (ta (2 * tI (t) + 1))]) ((c_tfit l cy (ta (2 * tI (t))) (ta (2 * tI (t) + 1)) ms q.1 (nI q.2.length) it [] (v) e2).frame (w2 := ([(ad 0, .inr (9, [.int (nI (σ.1)), .ref (ad 1), .ref (ad 2), .ref (sa (3 * 0)), .ref (ad 4), .ref (ad 5), .ref (ad 6), .int (nI ((sOp σ).length)), va_rf (lo), .int (nx), .int (σ.2.2.2.2.2.2.1), .int (σ.2.2.2.2.2.2.2), .ref (ad 12), .int (nI ((sTr σ).length)), .int (σ.2.2.2.2.1)])), (ad 1, .inl (cy 3, 9, .inr (.inr (.inr (.inr (fun i => some (sa (3 * i)))))))), (ad 2, .inl (cy 3, 9, .inr (.inr (.inr (.inr (fun i => some (sa (3 * (9 + i))))))))), (ad 5, .inl (cy 4, 8, .inr (.inr (.inr (.inr (fun i => some (ta (2 * i)))))))), (ad 6, .inl (cy 2, 40, .inr (.inr (.inr (.inr (pg)))))), (ad 12, .inl (cy 0, 16, .inl (bo))), (ta (2 * tI (t)), .inr (8, [.ref (ta (2 * tI (t) + 1)), .int (ms), .int (nI (q.1)), .int (nI (q.2.length))])), (ta (2 * tI (t) + 1), .inl (cy 0, 60, .inl (it)))] ++ (xs ++ (R ++ op)))) (f := ((([(ad 0, .inr (9, [.int (nI (σ.1)), .ref (ad 1), .ref (ad 2), .ref (sa (3 * 0)), .ref (ad 4), .ref (ad 5), .ref (ad 6), .int (nI ((sOp σ).length)), va_rf (lo), .int (nx), .int (σ.2.2.2.2.2.2.1), .int (σ.2.2.2.2.2.2.2), .ref (ad 12), .int (nI ((sTr σ).length)), .int (σ.2.2.2.2.1)])), (ad 1, .inl (cy 3, 9, .inr (.inr (.inr (.inr (fun i => some (sa (3 * i)))))))), (ad 2, .inl (cy 3, 9, .inr (.inr (.inr (.inr (fun i => some (sa (3 * (9 + i))))))))), (ad 5, .inl (cy 4, 8, .inr (.inr (.inr (.inr (fun i => some (ta (2 * i)))))))), (ad 6, .inl (cy 2, 40, .inr (.inr (.inr (.inr (pg)))))), (ad 12, .inl (cy 0, 16, .inl (bo)))] : va_W) ++ ([] : va_W)) ++ (xs ++ (R ++ op)))) (perm_mid (A := ([(ad 0, .inr (9, [.int (nI (σ.1)), .ref (ad 1), .ref (ad 2), .ref (sa (3 * 0)), .ref (ad 4), .ref (ad 5), .ref (ad 6), .int (nI ((sOp σ).length)), va_rf (lo), .int (nx), .int (σ.2.2.2.2.2.2.1), .int (σ.2.2.2.2.2.2.2), .ref (ad 12), .int (nI ((sTr σ).length)), .int (σ.2.2.2.2.1)])), (ad 1, .inl (cy 3, 9, .inr (.inr (.inr (.inr (fun i => some (sa (3 * i)))))))), (ad 2, .inl (cy 3, 9, .inr (.inr (.inr (.inr (fun i => some (sa (3 * (9 + i))))))))), (ad 5, .inl (cy 4, 8, .inr (.inr (.inr (.inr (fun i => some (ta (2 * i)))))))), (ad 6, .inl (cy 2, 40, .inr (.inr (.inr (.inr (pg)))))), (ad 12, .inl (cy 0, 16, .inl (bo)))] : va_W)) (a := ([(ta (2 * tI (t)), .inr (8, [.ref (ta (2 * tI (t) + 1)), .int (ms), .int (nI (q.1)), .int (nI (q.2.length))])), (ta (2 * tI (t) + 1), .inl (cy 0, 60, .inl (it)))] : va_W)) (B := ([] : va_W)) (r := (xs ++ (R ++ op))))) ok_X10_fitted rfl rfl rfl (host := "SpinBench") (by decide +kernel) rfl rfl dX11_set_54 (by decide) (by decide) (Nat.le_of_ble_eq_true rfl) (fun r54 w54 hp54 => ?_)
        obtain ⟨w54, ⟨rfl, rfl⟩, rfl⟩ := hp54
        refine gw_W.norm (st' := [.int (fitL q.1 (v)), .int (i), .ref (ta (2 * tI (t) + 1))]) (k1 := 0) (k2 := 0) rfl rfl rfl ?_
        refine gw_W.wd (w' := ((([(ta (2 * tI (t)), .inr (8, [.ref (ta (2 * tI (t) + 1)), .int (ms), .int (nI (q.1)), .int (nI (q.2.length))])), (ta (2 * tI (t) + 1), .inl (cy 0, 60, .inl (it)))] : va_W) ++ []) ++ ((([(ad 0, .inr (9, [.int (nI (σ.1)), .ref (ad 1), .ref (ad 2), .ref (sa (3 * 0)), .ref (ad 4), .ref (ad 5), .ref (ad 6), .int (nI ((sOp σ).length)), va_rf (lo), .int (nx), .int (σ.2.2.2.2.2.2.1), .int (σ.2.2.2.2.2.2.2), .ref (ad 12), .int (nI ((sTr σ).length)), .int (σ.2.2.2.2.1)])), (ad 1, .inl (cy 3, 9, .inr (.inr (.inr (.inr (fun i => some (sa (3 * i)))))))), (ad 2, .inl (cy 3, 9, .inr (.inr (.inr (.inr (fun i => some (sa (3 * (9 + i))))))))), (ad 5, .inl (cy 4, 8, .inr (.inr (.inr (.inr (fun i => some (ta (2 * i)))))))), (ad 6, .inl (cy 2, 40, .inr (.inr (.inr (.inr (pg)))))), (ad 12, .inl (cy 0, 16, .inl (bo)))] : va_W) ++ ([] : va_W)) ++ (xs ++ (R ++ op))))) rfl ?_
        refine gw_W.perm (perm_mid (A := ([(ad 0, .inr (9, [.int (nI (σ.1)), .ref (ad 1), .ref (ad 2), .ref (sa (3 * 0)), .ref (ad 4), .ref (ad 5), .ref (ad 6), .int (nI ((sOp σ).length)), va_rf (lo), .int (nx), .int (σ.2.2.2.2.2.2.1), .int (σ.2.2.2.2.2.2.2), .ref (ad 12), .int (nI ((sTr σ).length)), .int (σ.2.2.2.2.1)])), (ad 1, .inl (cy 3, 9, .inr (.inr (.inr (.inr (fun i => some (sa (3 * i)))))))), (ad 2, .inl (cy 3, 9, .inr (.inr (.inr (.inr (fun i => some (sa (3 * (9 + i))))))))), (ad 5, .inl (cy 4, 8, .inr (.inr (.inr (.inr (fun i => some (ta (2 * i)))))))), (ad 6, .inl (cy 2, 40, .inr (.inr (.inr (.inr (pg)))))), (ad 12, .inl (cy 0, 16, .inl (bo)))] : va_W)) (a := ([(ta (2 * tI (t)), .inr (8, [.ref (ta (2 * tI (t) + 1)), .int (ms), .int (nI (q.1)), .int (nI (q.2.length))])), (ta (2 * tI (t) + 1), .inl (cy 0, 60, .inl (it)))] : va_W)) (B := ([] : va_W)) (r := (xs ++ (R ++ op)))).symm ?_
        refine gw_W.wd (w' := ([(ad 0, .inr (9, [.int (nI (σ.1)), .ref (ad 1), .ref (ad 2), .ref (sa (3 * 0)), .ref (ad 4), .ref (ad 5), .ref (ad 6), .int (nI ((sOp σ).length)), va_rf (lo), .int (nx), .int (σ.2.2.2.2.2.2.1), .int (σ.2.2.2.2.2.2.2), .ref (ad 12), .int (nI ((sTr σ).length)), .int (σ.2.2.2.2.1)])), (ad 1, .inl (cy 3, 9, .inr (.inr (.inr (.inr (fun i => some (sa (3 * i)))))))), (ad 2, .inl (cy 3, 9, .inr (.inr (.inr (.inr (fun i => some (sa (3 * (9 + i))))))))), (ad 5, .inl (cy 4, 8, .inr (.inr (.inr (.inr (fun i => some (ta (2 * i)))))))), (ad 6, .inl (cy 2, 40, .inr (.inr (.inr (.inr (pg)))))), (ad 12, .inl (cy 0, 16, .inl (bo))), (ta (2 * tI (t)), .inr (8, [.ref (ta (2 * tI (t) + 1)), .int (ms), .int (nI (q.1)), .int (nI (q.2.length))])), (ta (2 * tI (t) + 1), .inl (cy 0, 60, .inl (it)))] ++ (xs ++ (R ++ op)))) rfl ?_
        refine gw_iast 7 rfl (tI_eq ci) (by omega) (by decide) dX11_set_57 ?_
        refine gw_W.wd (w' := ([(ad 0, .inr (9, [.int (nI (σ.1)), .ref (ad 1), .ref (ad 2), .ref (sa (3 * 0)), .ref (ad 4), .ref (ad 5), .ref (ad 6), .int (nI ((sOp σ).length)), va_rf (lo), .int (nx), .int (σ.2.2.2.2.2.2.1), .int (σ.2.2.2.2.2.2.2), .ref (ad 12), .int (nI ((sTr σ).length)), .int (σ.2.2.2.2.1)])), (ad 1, .inl (cy 3, 9, .inr (.inr (.inr (.inr (fun i => some (sa (3 * i)))))))), (ad 2, .inl (cy 3, 9, .inr (.inr (.inr (.inr (fun i => some (sa (3 * (9 + i))))))))), (ad 5, .inl (cy 4, 8, .inr (.inr (.inr (.inr (fun i => some (ta (2 * i)))))))), (ad 6, .inl (cy 2, 40, .inr (.inr (.inr (.inr (pg)))))), (ad 12, .inl (cy 0, 16, .inl (bo))), (ta (2 * tI (t)), .inr (8, [.ref (ta (2 * tI (t) + 1)), .int (ms), .int (nI (q.1)), .int (nI (q.2.length))])), (ta (2 * tI (t) + 1), .inl (cy 0, 60, .inl (upd it (tI i) (fitL q.1 (v)))))] ++ (xs ++ (R ++ op)))) rfl ?_
        refine gw_aload_n dX11_set_58 rfl ?_
        refine gw_aload dX11_set_59 rfl ?_
        refine gw_getN (C0 := RX10) (T := TX10) (N := 4) (ref := RX10) 6 rfl rfl inX10 0 (by decide) (host := "SpinBench") (by decide +kernel) (Or.inl rfl) rfl dX11_set_61 ?_
        refine gw_iload_n dX11_set_64 rfl ?_
        refine gw_iald 7 rfl (tI_eq ci) (by omega) (by decide) dX11_set_65 ?_
        refine gw_topi (y := fitL q.1 v) (pk_us) ?_
        refine gw_W.wd (w' := bW cy ad sa ta (σ.1) ((sOp σ).length) ((sTr σ).length) nx (σ.2.2.2.2.2.2.1) (σ.2.2.2.2.2.2.2) (σ.2.2.2.2.1) lo pg bo ++ ([(ta (2 * tI (t)), .inr (8, [.ref (ta (2 * tI (t) + 1)), .int (ms), .int (nI (q.1)), .int (nI (q.2.length))])), (ta (2 * tI (t) + 1), .inl (cy 0, 60, .inl (upd it (tI i) (fitL q.1 (v)))))] ++ (xs ++ (R ++ op)))) rfl ?_
        refine gw_callV 0 (As := [.int (fitL q.1 v)]) (st := []) (c_bnotFound l cy ad sa ta (σ.1) ((sOp σ).length) ((sTr σ).length) nx (σ.2.2.2.2.2.2.1) (σ.2.2.2.2.2.2.2) (σ.2.2.2.2.1) lo pg bo ([(ta (2 * tI (t)), .inr (8, [.ref (ta (2 * tI (t) + 1)), .int (ms), .int (nI (q.1)), .int (nI (q.2.length))])), (ta (2 * tI (t) + 1), .inl (cy 0, 60, .inl (upd it (tI i) (fitL q.1 (v)))))] ++ (xs ++ (R ++ op))) (fitL q.1 v)) ok_X11_notFound rfl rfl rfl wd_246 rfl rfl dX11_set_66 (by decide) (by decide) (Nat.le_of_ble_eq_true rfl) (fun r66 w66 hp66 => ?_)
        obtain ⟨rfl, rfl⟩ := hp66
        refine gw_W.norm (st' := [.int (fitL q.1 v)]) (k1 := 0) (k2 := 0) rfl rfl rfl ?_
        refine gw_W.wd (w' := ([(ad 0, .inr (9, [.int (nI (σ.1)), .ref (ad 1), .ref (ad 2), .ref (sa (3 * 0)), .ref (ad 4), .ref (ad 5), .ref (ad 6), .int (nI ((sOp σ).length)), va_rf (lo), .int (nx), .int (σ.2.2.2.2.2.2.1), .int (σ.2.2.2.2.2.2.2), .ref (ad 12), .int (nI ((sTr σ).length)), .int (0)])), (ad 1, .inl (cy 3, 9, .inr (.inr (.inr (.inr (fun i => some (sa (3 * i)))))))), (ad 2, .inl (cy 3, 9, .inr (.inr (.inr (.inr (fun i => some (sa (3 * (9 + i))))))))), (ad 5, .inl (cy 4, 8, .inr (.inr (.inr (.inr (fun i => some (ta (2 * i)))))))), (ad 6, .inl (cy 2, 40, .inr (.inr (.inr (.inr (pg)))))), (ad 12, .inl (cy 0, 16, .inl (bo))), (ta (2 * tI (t)), .inr (8, [.ref (ta (2 * tI (t) + 1)), .int (ms), .int (nI (q.1)), .int (nI (q.2.length))])), (ta (2 * tI (t) + 1), .inl (cy 0, 60, .inl (upd it (tI i) (fitL q.1 (v)))))] ++ (xs ++ (R ++ op)))) rfl ?_
        refine gw_W.wd (w' := bW cy ad sa ta (σ.1) ((sOp σ).length) ((sTr σ).length) nx (σ.2.2.2.2.2.2.1) (σ.2.2.2.2.2.2.2) 0 lo pg bo ++ (tW2 cy (ta (2 * tI (t))) (ta (2 * tI (t) + 1)) ms (nI (q.1)) (nI (q.2.length)) (upd it (tI i) (fitL q.1 (v))) ++ (xs ++ (R ++ op)))) rfl ?_
        refine gw_iret (?_) (by decide) (by decide) rfl dX11_set_69
        subst hpost
        unfold spSet
        rw [if_pos h2, hq]
        simp only
        rw [if_pos ci]
        exact ⟨rfl, ad, sa, ta, oa, nx, lo, pg, bo, cs, xs, (tW2 cy (ta (2 * tI (t))) (ta (2 * tI (t) + 1)) ms (nI q.1) (nI q.2.length) (upd it (tI i) (fitL q.1 v)) ++ R), op, td, rfl, perm_tb2 _ _ _ _ _, hxs, hcs, o3 (some (q.1, q.2.set (tI i) (fitL q.1 v))) (ms) (nI q.1) (nI q.2.length) (upd it (tI i) (fitL q.1 v)) _ (⟨c20, e2, rfl, by rw [List.length_set]; exact e4, by rw [List.length_set], fun j hj => by
          simp only [List.length_set] at hj
          by_cases e9 : j = tI i
          · subst e9; rw [pk_us]; simp [List.getD_eq_getElem?_getD, hj]
          · rw [pk_un e9, e6 j hj]; simp [List.getD_eq_getElem?_getD, List.getElem?_set_ne (Ne.symm e9)]⟩) (List.Perm.refl _), hop, hN, hbo⟩
      · rw [bI_0, decide_eq_false_iff_not, show (nI 1).toInt = 1 from by decide] at c36
        have ci : inZ i.toInt 0 ((q.2.length : Int) - 1) = false := inZ_f.mpr (by omega)
        refine gw_aload_n dX11_set_39 rfl ?_
        refine gw_iconst (v := nI (2)) dX11_set_40 (by decide) ?_
        refine gw_W.wd (w' := bW cy ad sa ta (σ.1) ((sOp σ).length) ((sTr σ).length) nx (σ.2.2.2.2.2.2.1) (σ.2.2.2.2.2.2.2) (σ.2.2.2.2.1) lo pg bo ++ ([(ta (2 * tI (t)), .inr (8, [.ref (ta (2 * tI (t) + 1)), .int (ms), .int (nI (q.1)), .int (nI (q.2.length))])), (ta (2 * tI (t) + 1), .inl (cy 0, 60, .inl (it)))] ++ (xs ++ (R ++ op)))) rfl ?_
        refine gw_callV 0 (As := [.int (nI (2))]) (st := []) (c_bfound l cy ad sa ta (σ.1) ((sOp σ).length) ((sTr σ).length) nx (σ.2.2.2.2.2.2.1) (σ.2.2.2.2.2.2.2) (σ.2.2.2.2.1) lo pg bo ([(ta (2 * tI (t)), .inr (8, [.ref (ta (2 * tI (t) + 1)), .int (ms), .int (nI (q.1)), .int (nI (q.2.length))])), (ta (2 * tI (t) + 1), .inl (cy 0, 60, .inl (it)))] ++ (xs ++ (R ++ op))) (nI (2))) ok_X11_found rfl rfl rfl wd_234 rfl rfl dX11_set_41 (by decide) (by decide) (Nat.le_of_ble_eq_true rfl) (fun r41 w41 hp41 => ?_)
        obtain ⟨rfl, rfl⟩ := hp41
        refine gw_W.norm (st' := [.int ((-1000010) - (nI (2)))]) (k1 := 0) (k2 := 0) rfl rfl rfl ?_
        refine gw_W.wd (w' := ([(ad 0, .inr (9, [.int (nI (σ.1)), .ref (ad 1), .ref (ad 2), .ref (sa (3 * 0)), .ref (ad 4), .ref (ad 5), .ref (ad 6), .int (nI ((sOp σ).length)), va_rf (lo), .int (nx), .int (σ.2.2.2.2.2.2.1), .int (σ.2.2.2.2.2.2.2), .ref (ad 12), .int (nI ((sTr σ).length)), .int (nI (2))])), (ad 1, .inl (cy 3, 9, .inr (.inr (.inr (.inr (fun i => some (sa (3 * i)))))))), (ad 2, .inl (cy 3, 9, .inr (.inr (.inr (.inr (fun i => some (sa (3 * (9 + i))))))))), (ad 5, .inl (cy 4, 8, .inr (.inr (.inr (.inr (fun i => some (ta (2 * i)))))))), (ad 6, .inl (cy 2, 40, .inr (.inr (.inr (.inr (pg)))))), (ad 12, .inl (cy 0, 16, .inl (bo))), (ta (2 * tI (t)), .inr (8, [.ref (ta (2 * tI (t) + 1)), .int (ms), .int (nI (q.1)), .int (nI (q.2.length))])), (ta (2 * tI (t) + 1), .inl (cy 0, 60, .inl (it)))] ++ (xs ++ (R ++ op)))) rfl ?_
        refine gw_W.wd (w' := bW cy ad sa ta (σ.1) ((sOp σ).length) ((sTr σ).length) nx (σ.2.2.2.2.2.2.1) (σ.2.2.2.2.2.2.2) (nI (2)) lo pg bo ++ (tW2 cy (ta (2 * tI (t))) (ta (2 * tI (t) + 1)) ms (nI (q.1)) (nI (q.2.length)) it ++ (xs ++ (R ++ op)))) rfl ?_
        refine gw_iret (?_) (by decide) (by decide) rfl dX11_set_44
        subst hpost
        unfold spSet
        rw [if_pos h2, hq]
        simp only
        rw [if_neg (by rw [ci]; decide)]
        exact ⟨rfl, ad, sa, ta, oa, nx, lo, pg, bo, cs, xs, tb, op, td, rfl, (perm_tb o1).symm, hxs, hcs, htb, hop, hN, hbo⟩
    · refine gw_aload_n dX11_set_23 rfl ?_
      refine gw_iconst (v := nI (1)) dX11_set_24 (by decide) ?_
      refine gw_W.wd (w' := bW cy ad sa ta (σ.1) ((sOp σ).length) ((sTr σ).length) nx (σ.2.2.2.2.2.2.1) (σ.2.2.2.2.2.2.2) (σ.2.2.2.2.1) lo pg bo ++ ([(ta (2 * tI (t)), .inr (8, [.ref (ta (2 * tI (t) + 1)), .int (ms), .int (la), .int (sz)])), (ta (2 * tI (t) + 1), .inl (cy 0, 60, .inl (it)))] ++ (xs ++ (R ++ op)))) rfl ?_
      refine gw_callV 0 (As := [.int (nI (1))]) (st := []) (c_bfound l cy ad sa ta (σ.1) ((sOp σ).length) ((sTr σ).length) nx (σ.2.2.2.2.2.2.1) (σ.2.2.2.2.2.2.2) (σ.2.2.2.2.1) lo pg bo ([(ta (2 * tI (t)), .inr (8, [.ref (ta (2 * tI (t) + 1)), .int (ms), .int (la), .int (sz)])), (ta (2 * tI (t) + 1), .inl (cy 0, 60, .inl (it)))] ++ (xs ++ (R ++ op))) (nI (1))) ok_X11_found rfl rfl rfl wd_234 rfl rfl dX11_set_25 (by decide) (by decide) (Nat.le_of_ble_eq_true rfl) (fun r25 w25 hp25 => ?_)
      obtain ⟨rfl, rfl⟩ := hp25
      refine gw_W.norm (st' := [.int ((-1000010) - (nI (1)))]) (k1 := 0) (k2 := 0) rfl rfl rfl ?_
      refine gw_W.wd (w' := ([(ad 0, .inr (9, [.int (nI (σ.1)), .ref (ad 1), .ref (ad 2), .ref (sa (3 * 0)), .ref (ad 4), .ref (ad 5), .ref (ad 6), .int (nI ((sOp σ).length)), va_rf (lo), .int (nx), .int (σ.2.2.2.2.2.2.1), .int (σ.2.2.2.2.2.2.2), .ref (ad 12), .int (nI ((sTr σ).length)), .int (nI (1))])), (ad 1, .inl (cy 3, 9, .inr (.inr (.inr (.inr (fun i => some (sa (3 * i)))))))), (ad 2, .inl (cy 3, 9, .inr (.inr (.inr (.inr (fun i => some (sa (3 * (9 + i))))))))), (ad 5, .inl (cy 4, 8, .inr (.inr (.inr (.inr (fun i => some (ta (2 * i)))))))), (ad 6, .inl (cy 2, 40, .inr (.inr (.inr (.inr (pg)))))), (ad 12, .inl (cy 0, 16, .inl (bo))), (ta (2 * tI (t)), .inr (8, [.ref (ta (2 * tI (t) + 1)), .int (ms), .int (la), .int (sz)])), (ta (2 * tI (t) + 1), .inl (cy 0, 60, .inl (it)))] ++ (xs ++ (R ++ op)))) rfl ?_
      refine gw_W.wd (w' := bW cy ad sa ta (σ.1) ((sOp σ).length) ((sTr σ).length) nx (σ.2.2.2.2.2.2.1) (σ.2.2.2.2.2.2.2) (nI (1)) lo pg bo ++ (tW2 cy (ta (2 * tI (t))) (ta (2 * tI (t) + 1)) ms la sz it ++ (xs ++ (R ++ op)))) rfl ?_
      refine gw_iret (?_) (by decide) (by decide) rfl dX11_set_28
      subst hpost
      unfold spSet
      rw [if_pos h2, show sTb σ (tI t) = none from tab_none o2 c20]
      simp only
      exact ⟨rfl, ad, sa, ta, oa, nx, lo, pg, bo, cs, xs, tb, op, td, rfl, (perm_tb o1).symm, hxs, hcs, htb, hop, hN, hbo⟩
  · rw [if_neg h2]
    refine gw_W.norm (st' := [.null]) (k1 := 0) (k2 := 0) rfl rfl rfl ?_
    refine gw_W.wd (w' := ([(ad 0, .inr (9, [.int (nI (σ.1)), .ref (ad 1), .ref (ad 2), .ref (sa (3 * 0)), .ref (ad 4), .ref (ad 5), .ref (ad 6), .int (nI ((sOp σ).length)), va_rf (lo), .int (nx), .int (σ.2.2.2.2.2.2.1), .int (σ.2.2.2.2.2.2.2), .ref (ad 12), .int (nI ((sTr σ).length)), .int (σ.2.2.2.2.1)])), (ad 1, .inl (cy 3, 9, .inr (.inr (.inr (.inr (fun i => some (sa (3 * i)))))))), (ad 2, .inl (cy 3, 9, .inr (.inr (.inr (.inr (fun i => some (sa (3 * (9 + i))))))))), (ad 5, .inl (cy 4, 8, .inr (.inr (.inr (.inr (fun i => some (ta (2 * i)))))))), (ad 6, .inl (cy 2, 40, .inr (.inr (.inr (.inr (pg)))))), (ad 12, .inl (cy 0, 16, .inl (bo)))] ++ (xs ++ (tb ++ op)))) rfl ?_
    refine gw_astoreN dX11_set_5 (by decide) rfl ?_
    refine gw_aloadN dX11_set_7 rfl ?_
    refine gw_ifnonnullN dX11_set_9 ?_
    refine gw_ldc dX11_set_12 wd_233 ?_
    refine gw_W.wd (w' := bW cy ad sa ta (σ.1) ((sOp σ).length) ((sTr σ).length) nx (σ.2.2.2.2.2.2.1) (σ.2.2.2.2.2.2.2) (σ.2.2.2.2.1) lo pg bo ++ (xs ++ (tb ++ op))) rfl ?_
    refine gw_iret (?_) (by decide) (by decide) rfl dX11_set_14
    subst hpost
    unfold spSet
    rw [if_neg h2]
    exact ⟨rfl, ad, sa, ta, oa, nx, lo, pg, bo, cs, xs, tb, op, td, rfl, List.Perm.refl _, hxs, hcs, htb, hop, hN, hbo⟩
abbrev kX11_table : gw_K := (yX11_table, cX11_table, 5, { frames := 2, cells := 0, slots := 0, locals := 45 }, (some .int))
theorem ok_X11_table : gw_calV kX11_table 3 := ⟨⟨wd_225, wd_57, by decide, by decide, by decide +kernel⟩, wd_223, wd_224⟩
set_option maxHeartbeats 4000000 in
set_option maxRecDepth 100000 in
theorem t_ctable (l : Launch) (cy : Nat → ClassId) (b : Nat) (σ : aS) (w : va_W) (hI : cInv cy b σ w) (t a n : Int32) : gw_M l kX11_table cy [.ref (b), .int (t), .int (a), .int (n)] (w) (cPost cy b (spTable σ t a n)) := by
  obtain ⟨ad, sa, ta, oa, nx, lo, pg, bo, cs, xs, tb, op, td, rfl, hw, hxs, hcs, htb, hop, hN, hbo⟩ := hI
  have hn4 : 1 ≤ σ.1 ∧ σ.1 ≤ 4 := ⟨hN.1, hN.2.1⟩
  refine gw_M.pm hw ?_
  refine gw_M.mk (lv := [some (.ref (ad 0)), some (.int (t)), some (.int (a)), some (.int (n)), none]) (by decide) (Nat.le_of_ble_eq_true rfl) rfl ?_
  generalize hpost : (cPost cy (ad 0) (spTable σ t a n) : gw_Q) = post
  refine gw_W.wd (w' := ([(ad 0, .inr (9, [.int (nI (σ.1)), .ref (ad 1), .ref (ad 2), .ref (sa (3 * 0)), .ref (ad 4), .ref (ad 5), .ref (ad 6), .int (nI ((sOp σ).length)), va_rf (lo), .int (nx), .int (σ.2.2.2.2.2.2.1), .int (σ.2.2.2.2.2.2.2), .ref (ad 12), .int (nI ((sTr σ).length)), .int (σ.2.2.2.2.1)])), (ad 1, .inl (cy 3, 9, .inr (.inr (.inr (.inr (fun i => some (sa (3 * i)))))))), (ad 2, .inl (cy 3, 9, .inr (.inr (.inr (.inr (fun i => some (sa (3 * (9 + i))))))))), (ad 5, .inl (cy 4, 8, .inr (.inr (.inr (.inr (fun i => some (ta (2 * i)))))))), (ad 6, .inl (cy 2, 40, .inr (.inr (.inr (.inr (pg)))))), (ad 12, .inl (cy 0, 16, .inl (bo)))] ++ (xs ++ (tb ++ op)))) rfl ?_
  have e60 : (nI 60).toInt = 60 := by decide
  refine gw_aload_n dX11_table_0 rfl ?_
  refine gw_iload_n dX11_table_1 rfl ?_
  refine gw_W.wd (w' := bW cy ad sa ta (σ.1) ((sOp σ).length) ((sTr σ).length) nx (σ.2.2.2.2.2.2.1) (σ.2.2.2.2.2.2.2) (σ.2.2.2.2.1) lo pg bo ++ (xs ++ (tb ++ op))) rfl ?_
  refine gw_callV 0 (As := [.int (t)]) (st := []) (c_btableAt l cy ad sa ta (σ.1) ((sOp σ).length) ((sTr σ).length) nx (σ.2.2.2.2.2.2.1) (σ.2.2.2.2.2.2.2) (σ.2.2.2.2.1) lo pg bo (xs ++ (tb ++ op)) (t)) ok_X11_tableAt rfl rfl rfl wd_226 rfl rfl dX11_table_2 (by decide) (by decide) (Nat.le_of_ble_eq_true rfl) (fun r2 w2 hp2 => ?_)
  obtain ⟨rfl, rfl⟩ := hp2
  by_cases h2 : inZ (t).toInt 0 7 = true
  · rw [if_pos h2]
    refine gw_W.norm (st' := [.ref (ta (2 * tI (t)))]) (k1 := 0) (k2 := 0) rfl rfl rfl ?_
    refine gw_W.wd (w' := ([(ad 0, .inr (9, [.int (nI (σ.1)), .ref (ad 1), .ref (ad 2), .ref (sa (3 * 0)), .ref (ad 4), .ref (ad 5), .ref (ad 6), .int (nI ((sOp σ).length)), va_rf (lo), .int (nx), .int (σ.2.2.2.2.2.2.1), .int (σ.2.2.2.2.2.2.2), .ref (ad 12), .int (nI ((sTr σ).length)), .int (σ.2.2.2.2.1)])), (ad 1, .inl (cy 3, 9, .inr (.inr (.inr (.inr (fun i => some (sa (3 * i)))))))), (ad 2, .inl (cy 3, 9, .inr (.inr (.inr (.inr (fun i => some (sa (3 * (9 + i))))))))), (ad 5, .inl (cy 4, 8, .inr (.inr (.inr (.inr (fun i => some (ta (2 * i)))))))), (ad 6, .inl (cy 2, 40, .inr (.inr (.inr (.inr (pg)))))), (ad 12, .inl (cy 0, 16, .inl (bo)))] ++ (xs ++ (tb ++ op)))) rfl ?_
    refine gw_astore dX11_table_5 (by decide) rfl ?_
    obtain ⟨ms, la, sz, it, R, o1, o2, o3⟩ := tbP_open htb (i := tI (t)) (tI_lt h2)
    refine gw_W.perm (w' := ([(ad 0, .inr (9, [.int (nI (σ.1)), .ref (ad 1), .ref (ad 2), .ref (sa (3 * 0)), .ref (ad 4), .ref (ad 5), .ref (ad 6), .int (nI ((sOp σ).length)), va_rf (lo), .int (nx), .int (σ.2.2.2.2.2.2.1), .int (σ.2.2.2.2.2.2.2), .ref (ad 12), .int (nI ((sTr σ).length)), .int (σ.2.2.2.2.1)])), (ad 1, .inl (cy 3, 9, .inr (.inr (.inr (.inr (fun i => some (sa (3 * i)))))))), (ad 2, .inl (cy 3, 9, .inr (.inr (.inr (.inr (fun i => some (sa (3 * (9 + i))))))))), (ad 5, .inl (cy 4, 8, .inr (.inr (.inr (.inr (fun i => some (ta (2 * i)))))))), (ad 6, .inl (cy 2, 40, .inr (.inr (.inr (.inr (pg)))))), (ad 12, .inl (cy 0, 16, .inl (bo))), (ta (2 * tI (t)), .inr (8, [.ref (ta (2 * tI (t) + 1)), .int (ms), .int (la), .int (sz)])), (ta (2 * tI (t) + 1), .inl (cy 0, 60, .inl (it)))] ++ (xs ++ (R ++ op)))) (perm_tb (B := ([(ad 0, .inr (9, [.int (nI (σ.1)), .ref (ad 1), .ref (ad 2), .ref (sa (3 * 0)), .ref (ad 4), .ref (ad 5), .ref (ad 6), .int (nI ((sOp σ).length)), va_rf (lo), .int (nx), .int (σ.2.2.2.2.2.2.1), .int (σ.2.2.2.2.2.2.2), .ref (ad 12), .int (nI ((sTr σ).length)), .int (σ.2.2.2.2.1)])), (ad 1, .inl (cy 3, 9, .inr (.inr (.inr (.inr (fun i => some (sa (3 * i)))))))), (ad 2, .inl (cy 3, 9, .inr (.inr (.inr (.inr (fun i => some (sa (3 * (9 + i))))))))), (ad 5, .inl (cy 4, 8, .inr (.inr (.inr (.inr (fun i => some (ta (2 * i)))))))), (ad 6, .inl (cy 2, 40, .inr (.inr (.inr (.inr (pg)))))), (ad 12, .inl (cy 0, 16, .inl (bo)))] : va_W)) o1) ?_
    refine gw_aload dX11_table_7 rfl ?_
    refine gw_ifnull dX11_table_9 ?_
    refine gw_iload_n dX11_table_12 rfl ?_
    refine gw_iconst (v := nI (0)) dX11_table_13 (by decide) ?_
    refine gw_iconst (v := nI (2)) dX11_table_14 (by decide) ?_
    refine gw_callS (As := [.int (a), .int (nI (0)), .int (nI (2))]) (st := []) (c_within l cy (a) (nI (0)) (nI (2)) ([(ad 0, .inr (9, [.int (nI (σ.1)), .ref (ad 1), .ref (ad 2), .ref (sa (3 * 0)), .ref (ad 4), .ref (ad 5), .ref (ad 6), .int (nI ((sOp σ).length)), va_rf (lo), .int (nx), .int (σ.2.2.2.2.2.2.1), .int (σ.2.2.2.2.2.2.2), .ref (ad 12), .int (nI ((sTr σ).length)), .int (σ.2.2.2.2.1)])), (ad 1, .inl (cy 3, 9, .inr (.inr (.inr (.inr (fun i => some (sa (3 * i)))))))), (ad 2, .inl (cy 3, 9, .inr (.inr (.inr (.inr (fun i => some (sa (3 * (9 + i))))))))), (ad 5, .inl (cy 4, 8, .inr (.inr (.inr (.inr (fun i => some (ta (2 * i)))))))), (ad 6, .inl (cy 2, 40, .inr (.inr (.inr (.inr (pg)))))), (ad 12, .inl (cy 0, 16, .inl (bo))), (ta (2 * tI (t)), .inr (8, [.ref (ta (2 * tI (t) + 1)), .int (ms), .int (la), .int (sz)])), (ta (2 * tI (t) + 1), .inl (cy 0, 60, .inl (it)))] ++ (xs ++ (R ++ op)))) ok_X11_within wd_230 rfl rfl dX11_table_15 (by decide) (by decide) (Nat.le_of_ble_eq_true rfl) (fun r15 w15 hp15 => ?_)
    obtain ⟨rfl, rfl⟩ := hp15
    refine gw_W.norm (st' := [.int (bI (inZ (a).toInt (nI (0)).toInt (nI (2)).toInt))]) (k1 := 0) (k2 := 0) rfl rfl rfl ?_
    refine gw_if_eq (tgt := 27) dX11_table_18 (by decide) (fun c18 => ?_) (fun c18 => ?_)
    · rw [bI_0] at c18
      have ca : inZ a.toInt 0 2 = false := c18
      refine gw_ldc dX11_table_27 wd_233 ?_
      refine gw_W.wd (w' := bW cy ad sa ta (σ.1) ((sOp σ).length) ((sTr σ).length) nx (σ.2.2.2.2.2.2.1) (σ.2.2.2.2.2.2.2) (σ.2.2.2.2.1) lo pg bo ++ (tW2 cy (ta (2 * tI (t))) (ta (2 * tI (t) + 1)) ms la sz it ++ (xs ++ (R ++ op)))) rfl ?_
      refine gw_iret (?_) (by decide) (by decide) rfl dX11_table_29
      subst hpost
      unfold spTable
      rw [if_neg (fun h => by first | exact h2 h.1 | exact absurd h.2.1 (by rw [ca]; decide) | exact c24 h.2.2)]
      first
        | exact ⟨rfl, ad, sa, ta, oa, nx, lo, pg, bo, cs, xs, tb, op, td, rfl, List.Perm.refl _, hxs, hcs, htb, hop, hN, hbo⟩
        | exact ⟨rfl, ad, sa, ta, oa, nx, lo, pg, bo, cs, xs, tb, op, td, rfl, (perm_tb o1).symm, hxs, hcs, htb, hop, hN, hbo⟩
    · rw [bI_n0] at c18
      have ca : inZ a.toInt 0 2 = true := c18
      refine gw_iload_n dX11_table_21 rfl ?_
      refine gw_bipush (v := nI (60)) dX11_table_22 (by decide) ?_
      refine gw_icmp_le (tgt := 30) dX11_table_24 (by decide) (fun c24 => ?_) (fun c24 => ?_)
      · rw [i32_le, e60] at c24
        refine gw_iload_n dX11_table_30 rfl ?_
        refine gw_if_ge (tgt := 40) dX11_table_31 (by decide) (fun c31 => ?_) (fun c31 => ?_)
        · rw [i32_le] at c31
          have d31 : 0 ≤ n.toInt := c31
          refine gw_aload dX11_table_40 rfl ?_
          refine gw_iload_n dX11_table_42 rfl ?_
          refine gw_iload_n dX11_table_43 rfl ?_
          refine gw_callVN 6 (As := [.int (a), .int (n)]) (st := []) ((c_tmake l cy (ta (2 * tI (t))) (ta (2 * tI (t) + 1)) ms la sz it [] (a) (n)).frame (w2 := ([(ad 0, .inr (9, [.int (nI (σ.1)), .ref (ad 1), .ref (ad 2), .ref (sa (3 * 0)), .ref (ad 4), .ref (ad 5), .ref (ad 6), .int (nI ((sOp σ).length)), va_rf (lo), .int (nx), .int (σ.2.2.2.2.2.2.1), .int (σ.2.2.2.2.2.2.2), .ref (ad 12), .int (nI ((sTr σ).length)), .int (σ.2.2.2.2.1)])), (ad 1, .inl (cy 3, 9, .inr (.inr (.inr (.inr (fun i => some (sa (3 * i)))))))), (ad 2, .inl (cy 3, 9, .inr (.inr (.inr (.inr (fun i => some (sa (3 * (9 + i))))))))), (ad 5, .inl (cy 4, 8, .inr (.inr (.inr (.inr (fun i => some (ta (2 * i)))))))), (ad 6, .inl (cy 2, 40, .inr (.inr (.inr (.inr (pg)))))), (ad 12, .inl (cy 0, 16, .inl (bo))), (ta (2 * tI (t)), .inr (8, [.ref (ta (2 * tI (t) + 1)), .int (ms), .int (la), .int (sz)])), (ta (2 * tI (t) + 1), .inl (cy 0, 60, .inl (it)))] ++ (xs ++ (R ++ op)))) (f := ((([(ad 0, .inr (9, [.int (nI (σ.1)), .ref (ad 1), .ref (ad 2), .ref (sa (3 * 0)), .ref (ad 4), .ref (ad 5), .ref (ad 6), .int (nI ((sOp σ).length)), va_rf (lo), .int (nx), .int (σ.2.2.2.2.2.2.1), .int (σ.2.2.2.2.2.2.2), .ref (ad 12), .int (nI ((sTr σ).length)), .int (σ.2.2.2.2.1)])), (ad 1, .inl (cy 3, 9, .inr (.inr (.inr (.inr (fun i => some (sa (3 * i)))))))), (ad 2, .inl (cy 3, 9, .inr (.inr (.inr (.inr (fun i => some (sa (3 * (9 + i))))))))), (ad 5, .inl (cy 4, 8, .inr (.inr (.inr (.inr (fun i => some (ta (2 * i)))))))), (ad 6, .inl (cy 2, 40, .inr (.inr (.inr (.inr (pg)))))), (ad 12, .inl (cy 0, 16, .inl (bo)))] : va_W) ++ ([] : va_W)) ++ (xs ++ (R ++ op)))) (perm_mid (A := ([(ad 0, .inr (9, [.int (nI (σ.1)), .ref (ad 1), .ref (ad 2), .ref (sa (3 * 0)), .ref (ad 4), .ref (ad 5), .ref (ad 6), .int (nI ((sOp σ).length)), va_rf (lo), .int (nx), .int (σ.2.2.2.2.2.2.1), .int (σ.2.2.2.2.2.2.2), .ref (ad 12), .int (nI ((sTr σ).length)), .int (σ.2.2.2.2.1)])), (ad 1, .inl (cy 3, 9, .inr (.inr (.inr (.inr (fun i => some (sa (3 * i)))))))), (ad 2, .inl (cy 3, 9, .inr (.inr (.inr (.inr (fun i => some (sa (3 * (9 + i))))))))), (ad 5, .inl (cy 4, 8, .inr (.inr (.inr (.inr (fun i => some (ta (2 * i)))))))), (ad 6, .inl (cy 2, 40, .inr (.inr (.inr (.inr (pg)))))), (ad 12, .inl (cy 0, 16, .inl (bo)))] : va_W)) (a := ([(ta (2 * tI (t)), .inr (8, [.ref (ta (2 * tI (t) + 1)), .int (ms), .int (la), .int (sz)])), (ta (2 * tI (t) + 1), .inl (cy 0, 60, .inl (it)))] : va_W)) (B := ([] : va_W)) (r := (xs ++ (R ++ op))))) ok_X10_make rfl rfl rfl (host := "SpinBench") (by decide +kernel) rfl rfl dX11_table_44 (by decide) (by decide) (Nat.le_of_ble_eq_true rfl) (fun r44 w44 hp44 => ?_)
          obtain ⟨w44, ⟨rfl, f2, rfl, hf2⟩, rfl⟩ := hp44
          refine gw_W.norm (st' := []) (k1 := 0) (k2 := 0) rfl rfl rfl ?_
          refine gw_W.wd (w' := ((([(ta (2 * tI (t)), .inr (8, [.ref (ta (2 * tI (t) + 1)), .int (nI (0)), .int (a), .int (n)])), (ta (2 * tI (t) + 1), .inl (cy 0, 60, .inl (f2)))] : va_W) ++ []) ++ ((([(ad 0, .inr (9, [.int (nI (σ.1)), .ref (ad 1), .ref (ad 2), .ref (sa (3 * 0)), .ref (ad 4), .ref (ad 5), .ref (ad 6), .int (nI ((sOp σ).length)), va_rf (lo), .int (nx), .int (σ.2.2.2.2.2.2.1), .int (σ.2.2.2.2.2.2.2), .ref (ad 12), .int (nI ((sTr σ).length)), .int (σ.2.2.2.2.1)])), (ad 1, .inl (cy 3, 9, .inr (.inr (.inr (.inr (fun i => some (sa (3 * i)))))))), (ad 2, .inl (cy 3, 9, .inr (.inr (.inr (.inr (fun i => some (sa (3 * (9 + i))))))))), (ad 5, .inl (cy 4, 8, .inr (.inr (.inr (.inr (fun i => some (ta (2 * i)))))))), (ad 6, .inl (cy 2, 40, .inr (.inr (.inr (.inr (pg)))))), (ad 12, .inl (cy 0, 16, .inl (bo)))] : va_W) ++ ([] : va_W)) ++ (xs ++ (R ++ op))))) rfl ?_
          refine gw_W.perm (perm_mid (A := ([(ad 0, .inr (9, [.int (nI (σ.1)), .ref (ad 1), .ref (ad 2), .ref (sa (3 * 0)), .ref (ad 4), .ref (ad 5), .ref (ad 6), .int (nI ((sOp σ).length)), va_rf (lo), .int (nx), .int (σ.2.2.2.2.2.2.1), .int (σ.2.2.2.2.2.2.2), .ref (ad 12), .int (nI ((sTr σ).length)), .int (σ.2.2.2.2.1)])), (ad 1, .inl (cy 3, 9, .inr (.inr (.inr (.inr (fun i => some (sa (3 * i)))))))), (ad 2, .inl (cy 3, 9, .inr (.inr (.inr (.inr (fun i => some (sa (3 * (9 + i))))))))), (ad 5, .inl (cy 4, 8, .inr (.inr (.inr (.inr (fun i => some (ta (2 * i)))))))), (ad 6, .inl (cy 2, 40, .inr (.inr (.inr (.inr (pg)))))), (ad 12, .inl (cy 0, 16, .inl (bo)))] : va_W)) (a := ([(ta (2 * tI (t)), .inr (8, [.ref (ta (2 * tI (t) + 1)), .int (nI (0)), .int (a), .int (n)])), (ta (2 * tI (t) + 1), .inl (cy 0, 60, .inl (f2)))] : va_W)) (B := ([] : va_W)) (r := (xs ++ (R ++ op)))).symm ?_
          refine gw_W.wd (w' := ([(ad 0, .inr (9, [.int (nI (σ.1)), .ref (ad 1), .ref (ad 2), .ref (sa (3 * 0)), .ref (ad 4), .ref (ad 5), .ref (ad 6), .int (nI ((sOp σ).length)), va_rf (lo), .int (nx), .int (σ.2.2.2.2.2.2.1), .int (σ.2.2.2.2.2.2.2), .ref (ad 12), .int (nI ((sTr σ).length)), .int (σ.2.2.2.2.1)])), (ad 1, .inl (cy 3, 9, .inr (.inr (.inr (.inr (fun i => some (sa (3 * i)))))))), (ad 2, .inl (cy 3, 9, .inr (.inr (.inr (.inr (fun i => some (sa (3 * (9 + i))))))))), (ad 5, .inl (cy 4, 8, .inr (.inr (.inr (.inr (fun i => some (ta (2 * i)))))))), (ad 6, .inl (cy 2, 40, .inr (.inr (.inr (.inr (pg)))))), (ad 12, .inl (cy 0, 16, .inl (bo))), (ta (2 * tI (t)), .inr (8, [.ref (ta (2 * tI (t) + 1)), .int (nI (0)), .int (a), .int (n)])), (ta (2 * tI (t) + 1), .inl (cy 0, 60, .inl (f2)))] ++ (xs ++ (R ++ op)))) rfl ?_
          refine gw_aload_n dX11_table_47 rfl ?_
          refine gw_iload_n dX11_table_48 rfl ?_
          refine gw_W.wd (w' := bW cy ad sa ta (σ.1) ((sOp σ).length) ((sTr σ).length) nx (σ.2.2.2.2.2.2.1) (σ.2.2.2.2.2.2.2) (σ.2.2.2.2.1) lo pg bo ++ ([(ta (2 * tI (t)), .inr (8, [.ref (ta (2 * tI (t) + 1)), .int (nI (0)), .int (a), .int (n)])), (ta (2 * tI (t) + 1), .inl (cy 0, 60, .inl (f2)))] ++ (xs ++ (R ++ op)))) rfl ?_
          refine gw_callV 0 (As := [.int (n)]) (st := []) (c_bnotFound l cy ad sa ta (σ.1) ((sOp σ).length) ((sTr σ).length) nx (σ.2.2.2.2.2.2.1) (σ.2.2.2.2.2.2.2) (σ.2.2.2.2.1) lo pg bo ([(ta (2 * tI (t)), .inr (8, [.ref (ta (2 * tI (t) + 1)), .int (nI (0)), .int (a), .int (n)])), (ta (2 * tI (t) + 1), .inl (cy 0, 60, .inl (f2)))] ++ (xs ++ (R ++ op))) (n)) ok_X11_notFound rfl rfl rfl wd_246 rfl rfl dX11_table_49 (by decide) (by decide) (Nat.le_of_ble_eq_true rfl) (fun r49 w49 hp49 => ?_)
          obtain ⟨rfl, rfl⟩ := hp49
          refine gw_W.norm (st' := [.int (n)]) (k1 := 0) (k2 := 0) rfl rfl rfl ?_
          refine gw_W.wd (w' := ([(ad 0, .inr (9, [.int (nI (σ.1)), .ref (ad 1), .ref (ad 2), .ref (sa (3 * 0)), .ref (ad 4), .ref (ad 5), .ref (ad 6), .int (nI ((sOp σ).length)), va_rf (lo), .int (nx), .int (σ.2.2.2.2.2.2.1), .int (σ.2.2.2.2.2.2.2), .ref (ad 12), .int (nI ((sTr σ).length)), .int (0)])), (ad 1, .inl (cy 3, 9, .inr (.inr (.inr (.inr (fun i => some (sa (3 * i)))))))), (ad 2, .inl (cy 3, 9, .inr (.inr (.inr (.inr (fun i => some (sa (3 * (9 + i))))))))), (ad 5, .inl (cy 4, 8, .inr (.inr (.inr (.inr (fun i => some (ta (2 * i)))))))), (ad 6, .inl (cy 2, 40, .inr (.inr (.inr (.inr (pg)))))), (ad 12, .inl (cy 0, 16, .inl (bo))), (ta (2 * tI (t)), .inr (8, [.ref (ta (2 * tI (t) + 1)), .int (nI (0)), .int (a), .int (n)])), (ta (2 * tI (t) + 1), .inl (cy 0, 60, .inl (f2)))] ++ (xs ++ (R ++ op)))) rfl ?_
          refine gw_W.wd (w' := bW cy ad sa ta (σ.1) ((sOp σ).length) ((sTr σ).length) nx (σ.2.2.2.2.2.2.1) (σ.2.2.2.2.2.2.2) 0 lo pg bo ++ (tW2 cy (ta (2 * tI (t))) (ta (2 * tI (t) + 1)) (nI (0)) a n f2 ++ (xs ++ (R ++ op)))) rfl ?_
          refine gw_iret (?_) (by decide) (by decide) rfl dX11_table_52
          subst hpost
          unfold spTable
          rw [if_pos ⟨h2, ca, c24⟩, if_neg (by omega)]
          have n6 : tI n ≤ 60 := by unfold tI; omega
          exact ⟨rfl, ad, sa, ta, oa, nx, lo, pg, bo, cs, xs, (tW2 cy (ta (2 * tI (t))) (ta (2 * tI (t) + 1)) (nI 0) a n f2 ++ R), op, td, rfl, perm_tb2 _ _ _ _ _, hxs, hcs, o3 (some (tI a, List.replicate (tI n) 0)) (nI 0) (a) (n) (f2) _ (⟨rfl, tI_lt ca, tI_eq ca, by rw [List.length_replicate]; exact n6, by rw [List.length_replicate]; exact tI_of d31, fun j hj => by
            simp only [List.length_replicate] at hj
            rw [hf2 j (by omega)]; simp [List.getD_eq_getElem?_getD, List.getElem?_replicate, hj]⟩) (List.Perm.refl _), hop, hN, hbo⟩
        · rw [i32_le] at c31
          have d31 : ¬ 0 ≤ n.toInt := c31
          refine gw_aload_n dX11_table_34 rfl ?_
          refine gw_iconst (v := nI (4)) dX11_table_35 (by decide) ?_
          refine gw_W.wd (w' := bW cy ad sa ta (σ.1) ((sOp σ).length) ((sTr σ).length) nx (σ.2.2.2.2.2.2.1) (σ.2.2.2.2.2.2.2) (σ.2.2.2.2.1) lo pg bo ++ ([(ta (2 * tI (t)), .inr (8, [.ref (ta (2 * tI (t) + 1)), .int (ms), .int (la), .int (sz)])), (ta (2 * tI (t) + 1), .inl (cy 0, 60, .inl (it)))] ++ (xs ++ (R ++ op)))) rfl ?_
          refine gw_callV 0 (As := [.int (nI (4))]) (st := []) (c_bfound l cy ad sa ta (σ.1) ((sOp σ).length) ((sTr σ).length) nx (σ.2.2.2.2.2.2.1) (σ.2.2.2.2.2.2.2) (σ.2.2.2.2.1) lo pg bo ([(ta (2 * tI (t)), .inr (8, [.ref (ta (2 * tI (t) + 1)), .int (ms), .int (la), .int (sz)])), (ta (2 * tI (t) + 1), .inl (cy 0, 60, .inl (it)))] ++ (xs ++ (R ++ op))) (nI (4))) ok_X11_found rfl rfl rfl wd_234 rfl rfl dX11_table_36 (by decide) (by decide) (Nat.le_of_ble_eq_true rfl) (fun r36 w36 hp36 => ?_)
          obtain ⟨rfl, rfl⟩ := hp36
          refine gw_W.norm (st' := [.int ((-1000010) - (nI (4)))]) (k1 := 0) (k2 := 0) rfl rfl rfl ?_
          refine gw_W.wd (w' := ([(ad 0, .inr (9, [.int (nI (σ.1)), .ref (ad 1), .ref (ad 2), .ref (sa (3 * 0)), .ref (ad 4), .ref (ad 5), .ref (ad 6), .int (nI ((sOp σ).length)), va_rf (lo), .int (nx), .int (σ.2.2.2.2.2.2.1), .int (σ.2.2.2.2.2.2.2), .ref (ad 12), .int (nI ((sTr σ).length)), .int (nI (4))])), (ad 1, .inl (cy 3, 9, .inr (.inr (.inr (.inr (fun i => some (sa (3 * i)))))))), (ad 2, .inl (cy 3, 9, .inr (.inr (.inr (.inr (fun i => some (sa (3 * (9 + i))))))))), (ad 5, .inl (cy 4, 8, .inr (.inr (.inr (.inr (fun i => some (ta (2 * i)))))))), (ad 6, .inl (cy 2, 40, .inr (.inr (.inr (.inr (pg)))))), (ad 12, .inl (cy 0, 16, .inl (bo))), (ta (2 * tI (t)), .inr (8, [.ref (ta (2 * tI (t) + 1)), .int (ms), .int (la), .int (sz)])), (ta (2 * tI (t) + 1), .inl (cy 0, 60, .inl (it)))] ++ (xs ++ (R ++ op)))) rfl ?_
          refine gw_W.wd (w' := bW cy ad sa ta (σ.1) ((sOp σ).length) ((sTr σ).length) nx (σ.2.2.2.2.2.2.1) (σ.2.2.2.2.2.2.2) (nI (4)) lo pg bo ++ (tW2 cy (ta (2 * tI (t))) (ta (2 * tI (t) + 1)) ms la sz it ++ (xs ++ (R ++ op)))) rfl ?_
          refine gw_iret (?_) (by decide) (by decide) rfl dX11_table_39
          subst hpost
          unfold spTable
          rw [if_pos ⟨h2, ca, c24⟩, if_pos (by omega)]
          exact ⟨rfl, ad, sa, ta, oa, nx, lo, pg, bo, cs, xs, tb, op, td, rfl, (perm_tb o1).symm, hxs, hcs, htb, hop, hN, hbo⟩
      · rw [i32_le, e60] at c24
        refine gw_ldc dX11_table_27 wd_233 ?_
        refine gw_W.wd (w' := bW cy ad sa ta (σ.1) ((sOp σ).length) ((sTr σ).length) nx (σ.2.2.2.2.2.2.1) (σ.2.2.2.2.2.2.2) (σ.2.2.2.2.1) lo pg bo ++ (tW2 cy (ta (2 * tI (t))) (ta (2 * tI (t) + 1)) ms la sz it ++ (xs ++ (R ++ op)))) rfl ?_
        refine gw_iret (?_) (by decide) (by decide) rfl dX11_table_29
        subst hpost
        unfold spTable
        rw [if_neg (fun h => by first | exact h2 h.1 | exact absurd h.2.1 (by rw [ca]; decide) | exact c24 h.2.2)]
        first
          | exact ⟨rfl, ad, sa, ta, oa, nx, lo, pg, bo, cs, xs, tb, op, td, rfl, List.Perm.refl _, hxs, hcs, htb, hop, hN, hbo⟩
          | exact ⟨rfl, ad, sa, ta, oa, nx, lo, pg, bo, cs, xs, tb, op, td, rfl, (perm_tb o1).symm, hxs, hcs, htb, hop, hN, hbo⟩
  · rw [if_neg h2]
    refine gw_W.norm (st' := [.null]) (k1 := 0) (k2 := 0) rfl rfl rfl ?_
    refine gw_W.wd (w' := ([(ad 0, .inr (9, [.int (nI (σ.1)), .ref (ad 1), .ref (ad 2), .ref (sa (3 * 0)), .ref (ad 4), .ref (ad 5), .ref (ad 6), .int (nI ((sOp σ).length)), va_rf (lo), .int (nx), .int (σ.2.2.2.2.2.2.1), .int (σ.2.2.2.2.2.2.2), .ref (ad 12), .int (nI ((sTr σ).length)), .int (σ.2.2.2.2.1)])), (ad 1, .inl (cy 3, 9, .inr (.inr (.inr (.inr (fun i => some (sa (3 * i)))))))), (ad 2, .inl (cy 3, 9, .inr (.inr (.inr (.inr (fun i => some (sa (3 * (9 + i))))))))), (ad 5, .inl (cy 4, 8, .inr (.inr (.inr (.inr (fun i => some (ta (2 * i)))))))), (ad 6, .inl (cy 2, 40, .inr (.inr (.inr (.inr (pg)))))), (ad 12, .inl (cy 0, 16, .inl (bo)))] ++ (xs ++ (tb ++ op)))) rfl ?_
    refine gw_astoreN dX11_table_5 (by decide) rfl ?_
    refine gw_aloadN dX11_table_7 rfl ?_
    refine gw_ifnullN (tgt := 27) dX11_table_9 (by decide) ?_
    refine gw_ldc dX11_table_27 wd_233 ?_
    refine gw_W.wd (w' := bW cy ad sa ta (σ.1) ((sOp σ).length) ((sTr σ).length) nx (σ.2.2.2.2.2.2.1) (σ.2.2.2.2.2.2.2) (σ.2.2.2.2.1) lo pg bo ++ (xs ++ (tb ++ op))) rfl ?_
    refine gw_iret (?_) (by decide) (by decide) rfl dX11_table_29
    subst hpost
    unfold spTable
    rw [if_neg (fun h => by first | exact h2 h.1 | exact absurd h.2.1 (by rw [ca]; decide) | exact c24 h.2.2)]
    first
      | exact ⟨rfl, ad, sa, ta, oa, nx, lo, pg, bo, cs, xs, tb, op, td, rfl, List.Perm.refl _, hxs, hcs, htb, hop, hN, hbo⟩
      | exact ⟨rfl, ad, sa, ta, oa, nx, lo, pg, bo, cs, xs, tb, op, td, rfl, (perm_tb o1).symm, hxs, hcs, htb, hop, hN, hbo⟩
