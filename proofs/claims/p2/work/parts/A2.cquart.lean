/-! the class: quarter, letter; trace, told, status -/
theorem csS_8 {σ : aS} {cs : Nat → List sT} {S : List sT} (h : csS σ cs) (hS : sOK σ.1 S) : csS (setSm σ 8 S) (va_up cs 0 S) := csS_set (s := -1) h (by decide) hS
theorem csS_0 {σ : aS} {cs : Nat → List sT} (h : csS σ cs) : cs 0 = sSm σ 8 ∧ sOK σ.1 (sSm σ 8) := h 8 (by decide)
theorem quart_sp {σ : aS} {p q : Int32} (hp : inZ p.toInt 0 ((4 ^ σ.1 : Nat) - 1) = true) (hq : inZ q.toInt 0 3 = true) {S : List sT} (hk : keepS (quartC σ.1 (tI p) (tI q) (sSm σ 8)) = some S) : spQuarter σ p q = (nI S.length, setSm σ 8 S) := by
  unfold spQuarter
  rw [if_pos ⟨hp, hq⟩, hk]
abbrev kX11_quarter : gw_K := (yX11_quarter, cX11_quarter, 3, { frames := 4, cells := 0, slots := 0, locals := 111 }, (some .int))
theorem ok_X11_quarter : gw_calV kX11_quarter 2 := ⟨⟨wd_360, wd_57, by decide, by decide, by decide +kernel⟩, wd_358, wd_359⟩
set_option maxHeartbeats 4000000 in
set_option maxRecDepth 100000 in
theorem t_cquarter (l : Launch) (cy : Nat → ClassId) (ob : Nat) (σ : aS) (w : va_W) (hI : cInv cy ob σ w) (p q : Int32) : gw_M l kX11_quarter cy [.ref (ob), .int (p), .int (q)] (w) (cPost cy ob (spQuarter σ p q)) := by
  obtain ⟨ad, sa, ta, oa, nx, lo, pg, bo, cs, xs, tb, op, td, rfl, hw, hxs, hcs, htb, hop, hN, hbo⟩ := hI
  have hn4 : 1 ≤ σ.1 ∧ σ.1 ≤ 4 := ⟨hN.1, hN.2.1⟩
  refine gw_M.pm hw ?_
  refine gw_M.mk (lv := [some (.ref (ad 0)), some (.int (p)), some (.int (q))]) (by decide) (Nat.le_of_ble_eq_true rfl) rfl ?_
  generalize hpost : (cPost cy (ad 0) (spQuarter σ p q) : gw_Q) = post
  refine gw_W.wd (w' := ([(ad 0, .inr (9, [.int (nI (σ.1)), .ref (ad 1), .ref (ad 2), .ref (sa (3 * 0)), .ref (ad 4), .ref (ad 5), .ref (ad 6), .int (nI ((sOp σ).length)), va_rf (lo), .int (nx), .int (σ.2.2.2.2.2.2.1), .int (σ.2.2.2.2.2.2.2), .ref (ad 12), .int (nI ((sTr σ).length)), .int (σ.2.2.2.2.1)])), (ad 1, .inl (cy 3, 9, .inr (.inr (.inr (.inr (fun i => some (sa (3 * i)))))))), (ad 2, .inl (cy 3, 9, .inr (.inr (.inr (.inr (fun i => some (sa (3 * (9 + i))))))))), (ad 5, .inl (cy 4, 8, .inr (.inr (.inr (.inr (fun i => some (ta (2 * i)))))))), (ad 6, .inl (cy 2, 40, .inr (.inr (.inr (.inr (pg)))))), (ad 12, .inl (cy 0, 16, .inl (bo)))] ++ (xs ++ (tb ++ op)))) rfl ?_
  refine gw_aload_n dX11_quarter_0 rfl ?_
  refine gw_iload_n dX11_quarter_1 rfl ?_
  refine gw_W.wd (w' := bW cy ad sa ta (σ.1) ((sOp σ).length) ((sTr σ).length) nx (σ.2.2.2.2.2.2.1) (σ.2.2.2.2.2.2.2) (σ.2.2.2.2.1) lo pg bo ++ (xs ++ (tb ++ op))) rfl ?_
  refine gw_callV 0 (As := [.int (p)]) (st := []) (c_bisProduct l cy ad sa ta (σ.1) ((sOp σ).length) ((sTr σ).length) nx (σ.2.2.2.2.2.2.1) (σ.2.2.2.2.2.2.2) (σ.2.2.2.2.1) lo pg bo (xs ++ (tb ++ op)) (p) hn4) ok_X11_isProduct rfl rfl rfl wd_285 rfl rfl dX11_quarter_2 (by decide) (by decide) (Nat.le_of_ble_eq_true rfl) (fun r2 w2 hp2 => ?_)
  obtain ⟨rfl, rfl⟩ := hp2
  refine gw_W.norm (st' := [.int (bI (inZ (p).toInt 0 ((4 ^ σ.1 : Nat) - 1)))]) (k1 := 0) (k2 := 0) rfl rfl rfl ?_
  refine gw_W.wd (w' := ([(ad 0, .inr (9, [.int (nI (σ.1)), .ref (ad 1), .ref (ad 2), .ref (sa (3 * 0)), .ref (ad 4), .ref (ad 5), .ref (ad 6), .int (nI ((sOp σ).length)), va_rf (lo), .int (nx), .int (σ.2.2.2.2.2.2.1), .int (σ.2.2.2.2.2.2.2), .ref (ad 12), .int (nI ((sTr σ).length)), .int (σ.2.2.2.2.1)])), (ad 1, .inl (cy 3, 9, .inr (.inr (.inr (.inr (fun i => some (sa (3 * i)))))))), (ad 2, .inl (cy 3, 9, .inr (.inr (.inr (.inr (fun i => some (sa (3 * (9 + i))))))))), (ad 5, .inl (cy 4, 8, .inr (.inr (.inr (.inr (fun i => some (ta (2 * i)))))))), (ad 6, .inl (cy 2, 40, .inr (.inr (.inr (.inr (pg)))))), (ad 12, .inl (cy 0, 16, .inl (bo)))] ++ (xs ++ (tb ++ op)))) rfl ?_
  refine gw_if_eq (tgt := 17) dX11_quarter_5 (by decide) (fun c5 => ?_) (fun c5 => ?_)
  · rw [bI_0] at c5
    refine gw_ldc dX11_quarter_17 wd_233 ?_
    refine gw_W.wd (w' := bW cy ad sa ta (σ.1) ((sOp σ).length) ((sTr σ).length) nx (σ.2.2.2.2.2.2.1) (σ.2.2.2.2.2.2.2) (σ.2.2.2.2.1) lo pg bo ++ (xs ++ (tb ++ op))) rfl ?_
    refine gw_iret (?_) (by decide) (by decide) rfl dX11_quarter_19
    subst hpost
    unfold spQuarter
    rw [if_neg (fun h => by first | exact absurd h.1 (by rw [c5]; decide) | exact absurd h.2 (by rw [cq]; decide))]
    exact ⟨rfl, ad, sa, ta, oa, nx, lo, pg, bo, cs, xs, tb, op, td, rfl, List.Perm.refl _, hxs, hcs, htb, hop, hN, hbo⟩
  · rw [bI_n0] at c5
    refine gw_iload_n dX11_quarter_8 rfl ?_
    refine gw_iconst (v := nI (0)) dX11_quarter_9 (by decide) ?_
    refine gw_iconst (v := nI (3)) dX11_quarter_10 (by decide) ?_
    refine gw_callS (As := [.int (q), .int (nI (0)), .int (nI (3))]) (st := []) (c_within l cy (q) (nI (0)) (nI (3)) ([(ad 0, .inr (9, [.int (nI (σ.1)), .ref (ad 1), .ref (ad 2), .ref (sa (3 * 0)), .ref (ad 4), .ref (ad 5), .ref (ad 6), .int (nI ((sOp σ).length)), va_rf (lo), .int (nx), .int (σ.2.2.2.2.2.2.1), .int (σ.2.2.2.2.2.2.2), .ref (ad 12), .int (nI ((sTr σ).length)), .int (σ.2.2.2.2.1)])), (ad 1, .inl (cy 3, 9, .inr (.inr (.inr (.inr (fun i => some (sa (3 * i)))))))), (ad 2, .inl (cy 3, 9, .inr (.inr (.inr (.inr (fun i => some (sa (3 * (9 + i))))))))), (ad 5, .inl (cy 4, 8, .inr (.inr (.inr (.inr (fun i => some (ta (2 * i)))))))), (ad 6, .inl (cy 2, 40, .inr (.inr (.inr (.inr (pg)))))), (ad 12, .inl (cy 0, 16, .inl (bo)))] ++ (xs ++ (tb ++ op)))) ok_X11_within wd_230 rfl rfl dX11_quarter_11 (by decide) (by decide) (Nat.le_of_ble_eq_true rfl) (fun r11 w11 hp11 => ?_)
    obtain ⟨rfl, rfl⟩ := hp11
    refine gw_W.norm (st' := [.int (bI (inZ (q).toInt (nI (0)).toInt (nI (3)).toInt))]) (k1 := 0) (k2 := 0) rfl rfl rfl ?_
    refine gw_if_ne (tgt := 20) dX11_quarter_14 (by decide) (fun c14 => ?_) (fun c14 => ?_)
    · rw [bI_n0] at c14
      have cq : inZ q.toInt 0 3 = true := c14
      obtain ⟨z1, z2⟩ := csS_0 hcs
      have hg : tI p < 4 ^ σ.1 := by rw [inZ_t] at c5; unfold tI; omega
      obtain ⟨S, hk⟩ := quart_keep (tI q) hn4.2 hg z2
      obtain ⟨jo, jk⟩ := quartC_ok (q := tI q) hn4.2 hg (fun x hx => (z2.2.2 x hx).2.2)
      refine gw_aload_n dX11_quarter_20 rfl ?_
      refine gw_iload_n dX11_quarter_21 rfl ?_
      refine gw_topi (y := nI (tI p)) (tI_eq c5) ?_
      refine gw_iload_n dX11_quarter_22 rfl ?_
      refine gw_topi (y := nI (tI q)) (tI_eq cq) ?_
      refine gw_W.wd (w' := bW cy ad sa ta (σ.1) ((sOp σ).length) ((sTr σ).length) nx (σ.2.2.2.2.2.2.1) (σ.2.2.2.2.2.2.2) (σ.2.2.2.2.1) lo pg bo ++ (xs ++ (tb ++ op))) rfl ?_
      refine gw_callV 0 (As := [.int (nI (tI p)), .int (nI (tI q))]) (st := []) (b_turnQ l cy ad sa ta (σ.1) ((sOp σ).length) ((sTr σ).length) nx (σ.2.2.2.2.2.2.1) (σ.2.2.2.2.2.2.2) (σ.2.2.2.2.1) lo pg bo xs (tb ++ op) cs (tI p) (tI q) hxs hn4 (by rw [z1]; exact z2) hg (tI_lt cq)) ok_X11_turnByQuarters rfl rfl rfl wd_361 rfl rfl dX11_quarter_23 (by decide) (by decide) (Nat.le_of_ble_eq_true rfl) (fun r23 w23 hp23 => ?_)
      obtain ⟨rfl, x2, hx2, rfl⟩ := hp23
      refine gw_W.norm (st' := [.int ((1 : Int32))]) (k1 := 0) (k2 := 0) rfl rfl rfl ?_
      refine gw_W.wd (w' := ([(ad 0, .inr (9, [.int (nI (σ.1)), .ref (ad 1), .ref (ad 2), .ref (sa (3 * 0)), .ref (ad 4), .ref (ad 5), .ref (ad 6), .int (nI ((sOp σ).length)), va_rf (lo), .int (nx), .int (σ.2.2.2.2.2.2.1), .int (σ.2.2.2.2.2.2.2), .ref (ad 12), .int (nI ((sTr σ).length)), .int (σ.2.2.2.2.1)])), (ad 1, .inl (cy 3, 9, .inr (.inr (.inr (.inr (fun i => some (sa (3 * i)))))))), (ad 2, .inl (cy 3, 9, .inr (.inr (.inr (.inr (fun i => some (sa (3 * (9 + i))))))))), (ad 5, .inl (cy 4, 8, .inr (.inr (.inr (.inr (fun i => some (ta (2 * i)))))))), (ad 6, .inl (cy 2, 40, .inr (.inr (.inr (.inr (pg)))))), (ad 12, .inl (cy 0, 16, .inl (bo)))] ++ (x2 ++ (tb ++ op)))) rfl ?_
      refine gw_if_eq (tgt := 39) dX11_quarter_26 (by decide) (fun c26 => ?_) (fun c26 => ?_)
      · exact absurd c26 (by decide)
      · rw [z1, show qS σ.1 (tI p) (tI q) (sSm σ 8) = S by unfold qS; rw [hk]; rfl] at hx2
        obtain ⟨ka, na, u1, u2, u3, u4, u5⟩ := xsP_mem hx2 (i := 0) (by decide)
        refine gw_aload_n dX11_quarter_29 rfl ?_
        refine gw_get (C0 := RX11) (T := TX11) (N := 15) (ref := RX11) 0 rfl rfl inX11 3 (by decide) wd_176 (Or.inl rfl) rfl dX11_quarter_30 ?_
        refine gw_getMN (C0 := RX9) (T := TX9) (N := 3) (ref := RX9) (List.mem_append_right _ (List.mem_append_left _ u1)) rfl inX9 2 (by decide) (host := "SpinBench") (by decide +kernel) (Or.inl rfl) rfl dX11_quarter_33 ?_
        refine gw_topi (y := nI (S.length)) (congrArg (fun z => nI (List.length z)) (va_up_self _ _ _)) ?_
        refine gw_goto (tgt := 41) dX11_quarter_36 (by decide) ?_
        refine gw_W.wd (w' := bW cy ad sa ta (σ.1) ((sOp σ).length) ((sTr σ).length) nx (σ.2.2.2.2.2.2.1) (σ.2.2.2.2.2.2.2) (σ.2.2.2.2.1) lo pg bo ++ (x2 ++ (tb ++ op))) rfl ?_
        refine gw_iret (?_) (by decide) (by decide) rfl dX11_quarter_41
        subst hpost
        rw [quart_sp c5 cq hk]
        exact ⟨rfl, ad, sa, ta, oa, nx, lo, pg, bo, va_up cs 0 S, x2, tb, op, td, rfl, List.Perm.refl _, hx2, csS_8 hcs (keepS_ok jo jk hk), htb, hop, hN, hbo⟩
    · rw [bI_0] at c14
      have cq : inZ q.toInt 0 3 = false := c14
      refine gw_ldc dX11_quarter_17 wd_233 ?_
      refine gw_W.wd (w' := bW cy ad sa ta (σ.1) ((sOp σ).length) ((sTr σ).length) nx (σ.2.2.2.2.2.2.1) (σ.2.2.2.2.2.2.2) (σ.2.2.2.2.1) lo pg bo ++ (xs ++ (tb ++ op))) rfl ?_
      refine gw_iret (?_) (by decide) (by decide) rfl dX11_quarter_19
      subst hpost
      unfold spQuarter
      rw [if_neg (fun h => by first | exact absurd h.1 (by rw [c5]; decide) | exact absurd h.2 (by rw [cq]; decide))]
      exact ⟨rfl, ad, sa, ta, oa, nx, lo, pg, bo, cs, xs, tb, op, td, rfl, List.Perm.refl _, hxs, hcs, htb, hop, hN, hbo⟩
abbrev kX11_letter : gw_K := (yX11_letter, cX11_letter, 4, { frames := 4, cells := 0, slots := 0, locals := 112 }, (some .int))
theorem ok_X11_letter : gw_calV kX11_letter 3 := ⟨⟨wd_377, wd_57, by decide, by decide, by decide +kernel⟩, wd_375, wd_376⟩
set_option maxHeartbeats 4000000 in
set_option maxRecDepth 100000 in
theorem t_cletter (l : Launch) (cy : Nat → ClassId) (ob : Nat) (σ : aS) (w : va_W) (hI : cInv cy ob σ w) (p x way : Int32) : gw_M l kX11_letter cy [.ref (ob), .int (p), .int (x), .int (way)] (w) (cPost cy ob (spLetter σ p x way)) := by
  obtain ⟨ad, sa, ta, oa, nx, lo, pg, bo, cs, xs, tb, op, td, rfl, hw, hxs, hcs, htb, hop, hN, hbo⟩ := hI
  have hn4 : 1 ≤ σ.1 ∧ σ.1 ≤ 4 := ⟨hN.1, hN.2.1⟩
  refine gw_M.pm hw ?_
  refine gw_M.mk (lv := [some (.ref (ad 0)), some (.int (p)), some (.int (x)), some (.int (way))]) (by decide) (Nat.le_of_ble_eq_true rfl) rfl ?_
  generalize hpost : (cPost cy (ad 0) (spLetter σ p x way) : gw_Q) = post
  refine gw_W.wd (w' := ([(ad 0, .inr (9, [.int (nI (σ.1)), .ref (ad 1), .ref (ad 2), .ref (sa (3 * 0)), .ref (ad 4), .ref (ad 5), .ref (ad 6), .int (nI ((sOp σ).length)), va_rf (lo), .int (nx), .int (σ.2.2.2.2.2.2.1), .int (σ.2.2.2.2.2.2.2), .ref (ad 12), .int (nI ((sTr σ).length)), .int (σ.2.2.2.2.1)])), (ad 1, .inl (cy 3, 9, .inr (.inr (.inr (.inr (fun i => some (sa (3 * i)))))))), (ad 2, .inl (cy 3, 9, .inr (.inr (.inr (.inr (fun i => some (sa (3 * (9 + i))))))))), (ad 5, .inl (cy 4, 8, .inr (.inr (.inr (.inr (fun i => some (ta (2 * i)))))))), (ad 6, .inl (cy 2, 40, .inr (.inr (.inr (.inr (pg)))))), (ad 12, .inl (cy 0, 16, .inl (bo)))] ++ (xs ++ (tb ++ op)))) rfl ?_
  refine gw_aload_n dX11_letter_0 rfl ?_
  refine gw_iload_n dX11_letter_1 rfl ?_
  refine gw_W.wd (w' := bW cy ad sa ta (σ.1) ((sOp σ).length) ((sTr σ).length) nx (σ.2.2.2.2.2.2.1) (σ.2.2.2.2.2.2.2) (σ.2.2.2.2.1) lo pg bo ++ (xs ++ (tb ++ op))) rfl ?_
  refine gw_callV 0 (As := [.int (p)]) (st := []) (c_bisProduct l cy ad sa ta (σ.1) ((sOp σ).length) ((sTr σ).length) nx (σ.2.2.2.2.2.2.1) (σ.2.2.2.2.2.2.2) (σ.2.2.2.2.1) lo pg bo (xs ++ (tb ++ op)) (p) hn4) ok_X11_isProduct rfl rfl rfl wd_285 rfl rfl dX11_letter_2 (by decide) (by decide) (Nat.le_of_ble_eq_true rfl) (fun r2 w2 hp2 => ?_)
  obtain ⟨rfl, rfl⟩ := hp2
  refine gw_W.norm (st' := [.int (bI (inZ (p).toInt 0 ((4 ^ σ.1 : Nat) - 1)))]) (k1 := 0) (k2 := 0) rfl rfl rfl ?_
  refine gw_W.wd (w' := ([(ad 0, .inr (9, [.int (nI (σ.1)), .ref (ad 1), .ref (ad 2), .ref (sa (3 * 0)), .ref (ad 4), .ref (ad 5), .ref (ad 6), .int (nI ((sOp σ).length)), va_rf (lo), .int (nx), .int (σ.2.2.2.2.2.2.1), .int (σ.2.2.2.2.2.2.2), .ref (ad 12), .int (nI ((sTr σ).length)), .int (σ.2.2.2.2.1)])), (ad 1, .inl (cy 3, 9, .inr (.inr (.inr (.inr (fun i => some (sa (3 * i)))))))), (ad 2, .inl (cy 3, 9, .inr (.inr (.inr (.inr (fun i => some (sa (3 * (9 + i))))))))), (ad 5, .inl (cy 4, 8, .inr (.inr (.inr (.inr (fun i => some (ta (2 * i)))))))), (ad 6, .inl (cy 2, 40, .inr (.inr (.inr (.inr (pg)))))), (ad 12, .inl (cy 0, 16, .inl (bo)))] ++ (xs ++ (tb ++ op)))) rfl ?_
  refine gw_if_eq (tgt := 24) dX11_letter_5 (by decide) (fun c5 => ?_) (fun c5 => ?_)
  · rw [bI_0] at c5
    refine gw_ldc dX11_letter_24 wd_233 ?_
    refine gw_W.wd (w' := bW cy ad sa ta (σ.1) ((sOp σ).length) ((sTr σ).length) nx (σ.2.2.2.2.2.2.1) (σ.2.2.2.2.2.2.2) (σ.2.2.2.2.1) lo pg bo ++ (xs ++ (tb ++ op))) rfl ?_
    refine gw_iret (?_) (by decide) (by decide) rfl dX11_letter_26
    subst hpost
    unfold spLetter
    rw [if_neg (fun h => by first | exact absurd h.1 (by rw [c5]; decide) | exact absurd h.2.1 (by rw [cx]; decide) | exact cw h.2.2)]
    exact ⟨rfl, ad, sa, ta, oa, nx, lo, pg, bo, cs, xs, tb, op, td, rfl, List.Perm.refl _, hxs, hcs, htb, hop, hN, hbo⟩
  · rw [bI_n0] at c5
    refine gw_iload_n dX11_letter_8 rfl ?_
    refine gw_iconst (v := nI (0)) dX11_letter_9 (by decide) ?_
    refine gw_iconst (v := nI (3)) dX11_letter_10 (by decide) ?_
    refine gw_callS (As := [.int (x), .int (nI (0)), .int (nI (3))]) (st := []) (c_within l cy (x) (nI (0)) (nI (3)) ([(ad 0, .inr (9, [.int (nI (σ.1)), .ref (ad 1), .ref (ad 2), .ref (sa (3 * 0)), .ref (ad 4), .ref (ad 5), .ref (ad 6), .int (nI ((sOp σ).length)), va_rf (lo), .int (nx), .int (σ.2.2.2.2.2.2.1), .int (σ.2.2.2.2.2.2.2), .ref (ad 12), .int (nI ((sTr σ).length)), .int (σ.2.2.2.2.1)])), (ad 1, .inl (cy 3, 9, .inr (.inr (.inr (.inr (fun i => some (sa (3 * i)))))))), (ad 2, .inl (cy 3, 9, .inr (.inr (.inr (.inr (fun i => some (sa (3 * (9 + i))))))))), (ad 5, .inl (cy 4, 8, .inr (.inr (.inr (.inr (fun i => some (ta (2 * i)))))))), (ad 6, .inl (cy 2, 40, .inr (.inr (.inr (.inr (pg)))))), (ad 12, .inl (cy 0, 16, .inl (bo)))] ++ (xs ++ (tb ++ op)))) ok_X11_within wd_230 rfl rfl dX11_letter_11 (by decide) (by decide) (Nat.le_of_ble_eq_true rfl) (fun r11 w11 hp11 => ?_)
    obtain ⟨rfl, rfl⟩ := hp11
    refine gw_W.norm (st' := [.int (bI (inZ (x).toInt (nI (0)).toInt (nI (3)).toInt))]) (k1 := 0) (k2 := 0) rfl rfl rfl ?_
    refine gw_if_eq (tgt := 24) dX11_letter_14 (by decide) (fun c14 => ?_) (fun c14 => ?_)
    · rw [bI_0] at c14
      have cx : inZ x.toInt 0 3 = false := c14
      refine gw_ldc dX11_letter_24 wd_233 ?_
      refine gw_W.wd (w' := bW cy ad sa ta (σ.1) ((sOp σ).length) ((sTr σ).length) nx (σ.2.2.2.2.2.2.1) (σ.2.2.2.2.2.2.2) (σ.2.2.2.2.1) lo pg bo ++ (xs ++ (tb ++ op))) rfl ?_
      refine gw_iret (?_) (by decide) (by decide) rfl dX11_letter_26
      subst hpost
      unfold spLetter
      rw [if_neg (fun h => by first | exact absurd h.1 (by rw [c5]; decide) | exact absurd h.2.1 (by rw [cx]; decide) | exact cw h.2.2)]
      exact ⟨rfl, ad, sa, ta, oa, nx, lo, pg, bo, cs, xs, tb, op, td, rfl, List.Perm.refl _, hxs, hcs, htb, hop, hN, hbo⟩
    · rw [bI_n0] at c14
      have cx : inZ x.toInt 0 3 = true := c14
      refine gw_iload_n dX11_letter_17 rfl ?_
      refine gw_callS (As := [.int (way)]) (st := []) (c_isWay l cy (way) ([(ad 0, .inr (9, [.int (nI (σ.1)), .ref (ad 1), .ref (ad 2), .ref (sa (3 * 0)), .ref (ad 4), .ref (ad 5), .ref (ad 6), .int (nI ((sOp σ).length)), va_rf (lo), .int (nx), .int (σ.2.2.2.2.2.2.1), .int (σ.2.2.2.2.2.2.2), .ref (ad 12), .int (nI ((sTr σ).length)), .int (σ.2.2.2.2.1)])), (ad 1, .inl (cy 3, 9, .inr (.inr (.inr (.inr (fun i => some (sa (3 * i)))))))), (ad 2, .inl (cy 3, 9, .inr (.inr (.inr (.inr (fun i => some (sa (3 * (9 + i))))))))), (ad 5, .inl (cy 4, 8, .inr (.inr (.inr (.inr (fun i => some (ta (2 * i)))))))), (ad 6, .inl (cy 2, 40, .inr (.inr (.inr (.inr (pg)))))), (ad 12, .inl (cy 0, 16, .inl (bo)))] ++ (xs ++ (tb ++ op)))) ok_X11_isWay wd_378 rfl rfl dX11_letter_18 (by decide) (by decide) (Nat.le_of_ble_eq_true rfl) (fun r18 w18 hp18 => ?_)
      obtain ⟨rfl, rfl⟩ := hp18
      refine gw_W.norm (st' := [.int (bI (decide ((way) = 1 ∨ (way) = -1)))]) (k1 := 0) (k2 := 0) rfl rfl rfl ?_
      refine gw_if_ne (tgt := 27) dX11_letter_21 (by decide) (fun c21 => ?_) (fun c21 => ?_)
      · rw [bI_n0] at c21
        have cw := of_decide_eq_true c21
        obtain ⟨z1, z2⟩ := csS_0 hcs
        have hg : tI p < 4 ^ σ.1 := by rw [inZ_t] at c5; unfold tI; omega
        have x9 := tI_eq cx
        have x4 : tI x < 4 := tI_lt cx
        obtain ⟨jo, jk⟩ := letC_ok (way := way) hn4.2 hg x4 (S := sSm σ 8) (fun q hq => ⟨(z2.2.2 q hq).2.2, (z2.2.2 q hq).2.1⟩)
        refine gw_aload_n dX11_letter_27 rfl ?_
        refine gw_iload_n dX11_letter_28 rfl ?_
        refine gw_topi (y := nI (tI p)) (tI_eq c5) ?_
        refine gw_iload_n dX11_letter_29 rfl ?_
        refine gw_topi (y := nI (tI x)) (x9) ?_
        refine gw_iload_n dX11_letter_30 rfl ?_
        refine gw_W.wd (w' := bW cy ad sa ta (σ.1) ((sOp σ).length) ((sTr σ).length) nx (σ.2.2.2.2.2.2.1) (σ.2.2.2.2.2.2.2) (σ.2.2.2.2.1) lo pg bo ++ (xs ++ (tb ++ op))) rfl ?_
        refine gw_callV 0 (As := [.int (nI (tI p)), .int (nI (tI x)), .int (way)]) (st := []) (b_turnL l cy ad sa ta (σ.1) ((sOp σ).length) ((sTr σ).length) nx (σ.2.2.2.2.2.2.1) (σ.2.2.2.2.2.2.2) (σ.2.2.2.2.1) lo pg bo xs (tb ++ op) cs (tI p) (tI x) way hxs hn4 (by rw [z1]; exact z2) hg x4 cw) ok_X11_turnByLetter rfl rfl rfl wd_381 rfl rfl dX11_letter_31 (by decide) (by decide) (Nat.le_of_ble_eq_true rfl) (fun r31 w31 hp31 => ?_)
        obtain ⟨rfl, x2, hx2, rfl⟩ := hp31
        refine gw_W.norm (st' := [.int (bI (keepS (letC σ.1 (tI p) (nI (tI x)) way (cs 0))).isSome)]) (k1 := 0) (k2 := 0) rfl rfl rfl ?_
        refine gw_W.wd (w' := ([(ad 0, .inr (9, [.int (nI (σ.1)), .ref (ad 1), .ref (ad 2), .ref (sa (3 * 0)), .ref (ad 4), .ref (ad 5), .ref (ad 6), .int (nI ((sOp σ).length)), va_rf (lo), .int (nx), .int (σ.2.2.2.2.2.2.1), .int (σ.2.2.2.2.2.2.2), .ref (ad 12), .int (nI ((sTr σ).length)), .int (σ.2.2.2.2.1)])), (ad 1, .inl (cy 3, 9, .inr (.inr (.inr (.inr (fun i => some (sa (3 * i)))))))), (ad 2, .inl (cy 3, 9, .inr (.inr (.inr (.inr (fun i => some (sa (3 * (9 + i))))))))), (ad 5, .inl (cy 4, 8, .inr (.inr (.inr (.inr (fun i => some (ta (2 * i)))))))), (ad 6, .inl (cy 2, 40, .inr (.inr (.inr (.inr (pg)))))), (ad 12, .inl (cy 0, 16, .inl (bo)))] ++ (x2 ++ (tb ++ op)))) rfl ?_
        refine gw_if_eq (tgt := 47) dX11_letter_34 (by decide) (fun c34 => ?_) (fun c34 => ?_)
        · have hF := isS_none c34
          rw [hF] at hx2
          rw [z1, ← x9] at hF
          refine gw_ldc dX11_letter_47 wd_336 ?_
          refine gw_W.wd (w' := bW cy ad sa ta (σ.1) ((sOp σ).length) ((sTr σ).length) nx (σ.2.2.2.2.2.2.1) (σ.2.2.2.2.2.2.2) (σ.2.2.2.2.1) lo pg bo ++ (x2 ++ (tb ++ op))) rfl ?_
          refine gw_iret (?_) (by decide) (by decide) rfl dX11_letter_49
          subst hpost
          unfold spLetter
          rw [if_pos ⟨c5, cx, cw⟩, hF]
          first
            | exact ⟨rfl, ad, sa, ta, oa, nx, lo, pg, bo, cs, x2, tb, op, td, rfl, List.Perm.refl _, hx2, hcs, htb, hop, hN, hbo⟩
            | exact ⟨rfl, ad, sa, ta, oa, nx, lo, pg, bo, va_up cs 0 S, x2, tb, op, td, rfl, List.Perm.refl _, hx2, csS_8 hcs (keepS_ok jo (by exact jk) (by rw [← x9]; exact hF)), htb, hop, hN, hbo⟩
        · obtain ⟨S, hF⟩ := isS_some c34
          rw [hF] at hx2
          rw [z1, ← x9] at hF
          obtain ⟨ka, na, u1, u2, u3, u4, u5⟩ := xsP_mem hx2 (i := 0) (by decide)
          refine gw_aload_n dX11_letter_37 rfl ?_
          refine gw_get (C0 := RX11) (T := TX11) (N := 15) (ref := RX11) 0 rfl rfl inX11 3 (by decide) wd_176 (Or.inl rfl) rfl dX11_letter_38 ?_
          refine gw_getMN (C0 := RX9) (T := TX9) (N := 3) (ref := RX9) (List.mem_append_right _ (List.mem_append_left _ u1)) rfl inX9 2 (by decide) (host := "SpinBench") (by decide +kernel) (Or.inl rfl) rfl dX11_letter_41 ?_
          refine gw_topi (y := nI (S.length)) (congrArg (fun z => nI (List.length z)) (va_up_self _ _ _)) ?_
          refine gw_goto (tgt := 49) dX11_letter_44 (by decide) ?_
          refine gw_W.wd (w' := bW cy ad sa ta (σ.1) ((sOp σ).length) ((sTr σ).length) nx (σ.2.2.2.2.2.2.1) (σ.2.2.2.2.2.2.2) (σ.2.2.2.2.1) lo pg bo ++ (x2 ++ (tb ++ op))) rfl ?_
          refine gw_iret (?_) (by decide) (by decide) rfl dX11_letter_49
          subst hpost
          unfold spLetter
          rw [if_pos ⟨c5, cx, cw⟩, hF]
          first
            | exact ⟨rfl, ad, sa, ta, oa, nx, lo, pg, bo, cs, x2, tb, op, td, rfl, List.Perm.refl _, hx2, hcs, htb, hop, hN, hbo⟩
            | exact ⟨rfl, ad, sa, ta, oa, nx, lo, pg, bo, va_up cs 0 S, x2, tb, op, td, rfl, List.Perm.refl _, hx2, csS_8 hcs (keepS_ok jo (by exact jk) (by rw [← x9]; exact hF)), htb, hop, hN, hbo⟩
      · rw [bI_0] at c21
        have cw := of_decide_eq_false c21
        refine gw_ldc dX11_letter_24 wd_233 ?_
        refine gw_W.wd (w' := bW cy ad sa ta (σ.1) ((sOp σ).length) ((sTr σ).length) nx (σ.2.2.2.2.2.2.1) (σ.2.2.2.2.2.2.2) (σ.2.2.2.2.1) lo pg bo ++ (xs ++ (tb ++ op))) rfl ?_
        refine gw_iret (?_) (by decide) (by decide) rfl dX11_letter_26
        subst hpost
        unfold spLetter
        rw [if_neg (fun h => by first | exact absurd h.1 (by rw [c5]; decide) | exact absurd h.2.1 (by rw [cx]; decide) | exact cw h.2.2)]
        exact ⟨rfl, ad, sa, ta, oa, nx, lo, pg, bo, cs, xs, tb, op, td, rfl, List.Perm.refl _, hxs, hcs, htb, hop, hN, hbo⟩
abbrev kX11_status : gw_K := (yX11_status, cX11_status, 1, { frames := 0, cells := 0, slots := 0, locals := 0 }, (some .int))
theorem ok_X11_status : gw_calV kX11_status 0 := ⟨⟨wd_795, wd_57, by decide, by decide, by decide +kernel⟩, wd_793, wd_794⟩
set_option maxHeartbeats 4000000 in
set_option maxRecDepth 100000 in
theorem t_cstatus (l : Launch) (cy : Nat → ClassId) (ob : Nat) (σ : aS) (w : va_W) (hI : cInv cy ob σ w)  : gw_M l kX11_status cy [.ref (ob)] (w) (cPost cy ob ((σ.2.2.2.2.1, σ))) := by
  obtain ⟨ad, sa, ta, oa, nx, lo, pg, bo, cs, xs, tb, op, td, rfl, hw, hxs, hcs, htb, hop, hN, hbo⟩ := hI
  have hn4 : 1 ≤ σ.1 ∧ σ.1 ≤ 4 := ⟨hN.1, hN.2.1⟩
  refine gw_M.pm hw ?_
  refine gw_M.mk (lv := [some (.ref (ad 0))]) (by decide) (Nat.le_of_ble_eq_true rfl) rfl ?_
  generalize hpost : (cPost cy (ad 0) ((σ.2.2.2.2.1, σ)) : gw_Q) = post
  refine gw_W.wd (w' := ([(ad 0, .inr (9, [.int (nI (σ.1)), .ref (ad 1), .ref (ad 2), .ref (sa (3 * 0)), .ref (ad 4), .ref (ad 5), .ref (ad 6), .int (nI ((sOp σ).length)), va_rf (lo), .int (nx), .int (σ.2.2.2.2.2.2.1), .int (σ.2.2.2.2.2.2.2), .ref (ad 12), .int (nI ((sTr σ).length)), .int (σ.2.2.2.2.1)])), (ad 1, .inl (cy 3, 9, .inr (.inr (.inr (.inr (fun i => some (sa (3 * i)))))))), (ad 2, .inl (cy 3, 9, .inr (.inr (.inr (.inr (fun i => some (sa (3 * (9 + i))))))))), (ad 5, .inl (cy 4, 8, .inr (.inr (.inr (.inr (fun i => some (ta (2 * i)))))))), (ad 6, .inl (cy 2, 40, .inr (.inr (.inr (.inr (pg)))))), (ad 12, .inl (cy 0, 16, .inl (bo)))] ++ (xs ++ (tb ++ op)))) rfl ?_
  refine gw_aload_n dX11_status_0 rfl ?_
  refine gw_get (C0 := RX11) (T := TX11) (N := 15) (ref := RX11) 0 rfl rfl inX11 14 (by decide) wd_190 (Or.inl rfl) rfl dX11_status_1 ?_
  refine gw_W.wd (w' := bW cy ad sa ta (σ.1) ((sOp σ).length) ((sTr σ).length) nx (σ.2.2.2.2.2.2.1) (σ.2.2.2.2.2.2.2) (σ.2.2.2.2.1) lo pg bo ++ (xs ++ (tb ++ op))) rfl ?_
  refine gw_iret (?_) (by decide) (by decide) rfl dX11_status_4
  subst hpost
  exact ⟨rfl, ad, sa, ta, oa, nx, lo, pg, bo, cs, xs, tb, op, td, rfl, List.Perm.refl _, hxs, hcs, htb, hop, hN, hbo⟩
abbrev kX11_told : gw_K := (yX11_told, cX11_told, 2, { frames := 0, cells := 0, slots := 0, locals := 0 }, (some .int))
theorem ok_X11_told : gw_calV kX11_told 1 := ⟨⟨wd_779, wd_57, by decide, by decide, by decide +kernel⟩, wd_777, wd_778⟩
set_option maxHeartbeats 4000000 in
set_option maxRecDepth 100000 in
theorem t_ctold (l : Launch) (cy : Nat → ClassId) (ob : Nat) (σ : aS) (w : va_W) (hI : cInv cy ob σ w) (x : Int32) : gw_M l kX11_told cy [.ref (ob), .int (x)] (w) (cPost cy ob (spTold σ x)) := by
  obtain ⟨ad, sa, ta, oa, nx, lo, pg, bo, cs, xs, tb, op, td, rfl, hw, hxs, hcs, htb, hop, hN, hbo⟩ := hI
  have hn4 : 1 ≤ σ.1 ∧ σ.1 ≤ 4 := ⟨hN.1, hN.2.1⟩
  refine gw_M.pm hw ?_
  refine gw_M.mk (lv := [some (.ref (ad 0)), some (.int (x))]) (by decide) (Nat.le_of_ble_eq_true rfl) rfl ?_
  generalize hpost : (cPost cy (ad 0) (spTold σ x) : gw_Q) = post
  refine gw_W.wd (w' := ([(ad 0, .inr (9, [.int (nI (σ.1)), .ref (ad 1), .ref (ad 2), .ref (sa (3 * 0)), .ref (ad 4), .ref (ad 5), .ref (ad 6), .int (nI ((sOp σ).length)), va_rf (lo), .int (nx), .int (σ.2.2.2.2.2.2.1), .int (σ.2.2.2.2.2.2.2), .ref (ad 12), .int (nI ((sTr σ).length)), .int (σ.2.2.2.2.1)])), (ad 1, .inl (cy 3, 9, .inr (.inr (.inr (.inr (fun i => some (sa (3 * i)))))))), (ad 2, .inl (cy 3, 9, .inr (.inr (.inr (.inr (fun i => some (sa (3 * (9 + i))))))))), (ad 5, .inl (cy 4, 8, .inr (.inr (.inr (.inr (fun i => some (ta (2 * i)))))))), (ad 6, .inl (cy 2, 40, .inr (.inr (.inr (.inr (pg)))))), (ad 12, .inl (cy 0, 16, .inl (bo)))] ++ (xs ++ (tb ++ op)))) rfl ?_
  refine gw_iload_n dX11_told_0 rfl ?_
  by_cases c1_0 : (x).toInt = 0
  · refine gw_lookup (off := 27) (tgt := 28) dX11_told_1 (by decide) (by rw [c1_0]; rfl) (by decide) ?_
    refine gw_aload_n dX11_told_28 rfl ?_
    refine gw_get (C0 := RX11) (T := TX11) (N := 15) (ref := RX11) 0 rfl rfl inX11 10 (by decide) wd_186 (Or.inl rfl) rfl dX11_told_29 ?_
    refine gw_W.wd (w' := bW cy ad sa ta (σ.1) ((sOp σ).length) ((sTr σ).length) nx (σ.2.2.2.2.2.2.1) (σ.2.2.2.2.2.2.2) (σ.2.2.2.2.1) lo pg bo ++ (xs ++ (tb ++ op))) rfl ?_
    refine gw_iret (?_) (by decide) (by decide) rfl dX11_told_32
    subst hpost
    unfold spTold
    rw [if_pos (i32_eq.mpr c1_0)]
    exact ⟨rfl, ad, sa, ta, oa, nx, lo, pg, bo, cs, xs, tb, op, td, rfl, List.Perm.refl _, hxs, hcs, htb, hop, hN, hbo⟩
  by_cases c1_1 : (x).toInt = 1
  · refine gw_lookup (off := 32) (tgt := 33) dX11_told_1 (by decide) (by rw [c1_1]; rfl) (by decide) ?_
    refine gw_aload_n dX11_told_33 rfl ?_
    refine gw_get (C0 := RX11) (T := TX11) (N := 15) (ref := RX11) 0 rfl rfl inX11 11 (by decide) wd_187 (Or.inl rfl) rfl dX11_told_34 ?_
    refine gw_W.wd (w' := bW cy ad sa ta (σ.1) ((sOp σ).length) ((sTr σ).length) nx (σ.2.2.2.2.2.2.1) (σ.2.2.2.2.2.2.2) (σ.2.2.2.2.1) lo pg bo ++ (xs ++ (tb ++ op))) rfl ?_
    refine gw_iret (?_) (by decide) (by decide) rfl dX11_told_37
    subst hpost
    unfold spTold
    rw [if_neg (fun e => c1_0 (by rw [e]; rfl)), if_pos (i32_eq.mpr c1_1)]
    exact ⟨rfl, ad, sa, ta, oa, nx, lo, pg, bo, cs, xs, tb, op, td, rfl, List.Perm.refl _, hxs, hcs, htb, hop, hN, hbo⟩
  refine gw_lookup (off := 37) (tgt := 38) dX11_told_1 (by decide) (by simp [Op.lookupswitch.offset, show ¬ ((0 : Int) = (x).toInt) from fun h => c1_0 h.symm, show ¬ ((1 : Int) = (x).toInt) from fun h => c1_1 h.symm]) (by decide) ?_
  refine gw_ldc dX11_told_38 wd_233 ?_
  refine gw_W.wd (w' := bW cy ad sa ta (σ.1) ((sOp σ).length) ((sTr σ).length) nx (σ.2.2.2.2.2.2.1) (σ.2.2.2.2.2.2.2) (σ.2.2.2.2.1) lo pg bo ++ (xs ++ (tb ++ op))) rfl ?_
  refine gw_iret (?_) (by decide) (by decide) rfl dX11_told_40
  subst hpost
  unfold spTold
  rw [if_neg (fun e => c1_0 (by rw [e]; rfl)), if_neg (fun e => c1_1 (by rw [e]; rfl))]
  exact ⟨rfl, ad, sa, ta, oa, nx, lo, pg, bo, cs, xs, tb, op, td, rfl, List.Perm.refl _, hxs, hcs, htb, hop, hN, hbo⟩
abbrev kX11_trace : gw_K := (yX11_trace, cX11_trace, 2, { frames := 1, cells := 0, slots := 0, locals := 22 }, (some .int))
theorem ok_X11_trace : gw_calV kX11_trace 1 := ⟨⟨wd_731, wd_57, by decide, by decide, by decide +kernel⟩, wd_729, wd_730⟩
set_option maxHeartbeats 4000000 in
set_option maxRecDepth 100000 in
theorem t_ctrace (l : Launch) (cy : Nat → ClassId) (ob : Nat) (σ : aS) (w : va_W) (hI : cInv cy ob σ w) (i : Int32) : gw_M l kX11_trace cy [.ref (ob), .int (i)] (w) (cPost cy ob (spTrace σ i)) := by
  obtain ⟨ad, sa, ta, oa, nx, lo, pg, bo, cs, xs, tb, op, td, rfl, hw, hxs, hcs, htb, hop, hN, hbo⟩ := hI
  have hn4 : 1 ≤ σ.1 ∧ σ.1 ≤ 4 := ⟨hN.1, hN.2.1⟩
  refine gw_M.pm hw ?_
  refine gw_M.mk (lv := [some (.ref (ad 0)), some (.int (i))]) (by decide) (Nat.le_of_ble_eq_true rfl) rfl ?_
  generalize hpost : (cPost cy (ad 0) (spTrace σ i) : gw_Q) = post
  refine gw_W.wd (w' := ([(ad 0, .inr (9, [.int (nI (σ.1)), .ref (ad 1), .ref (ad 2), .ref (sa (3 * 0)), .ref (ad 4), .ref (ad 5), .ref (ad 6), .int (nI ((sOp σ).length)), va_rf (lo), .int (nx), .int (σ.2.2.2.2.2.2.1), .int (σ.2.2.2.2.2.2.2), .ref (ad 12), .int (nI ((sTr σ).length)), .int (σ.2.2.2.2.1)])), (ad 1, .inl (cy 3, 9, .inr (.inr (.inr (.inr (fun i => some (sa (3 * i)))))))), (ad 2, .inl (cy 3, 9, .inr (.inr (.inr (.inr (fun i => some (sa (3 * (9 + i))))))))), (ad 5, .inl (cy 4, 8, .inr (.inr (.inr (.inr (fun i => some (ta (2 * i)))))))), (ad 6, .inl (cy 2, 40, .inr (.inr (.inr (.inr (pg)))))), (ad 12, .inl (cy 0, 16, .inl (bo)))] ++ (xs ++ (tb ++ op)))) rfl ?_
  have t1 := hN.2.2.1
  refine gw_iload_n dX11_trace_0 rfl ?_
  refine gw_iconst (v := nI (0)) dX11_trace_1 (by decide) ?_
  refine gw_aload_n dX11_trace_2 rfl ?_
  refine gw_get (C0 := RX11) (T := TX11) (N := 15) (ref := RX11) 0 rfl rfl inX11 13 (by decide) wd_189 (Or.inl rfl) rfl dX11_trace_3 ?_
  refine gw_iconst (v := nI (1)) dX11_trace_6 (by decide) ?_
  refine gw_isub dX11_trace_7 ?_
  refine gw_callS (As := [.int (i), .int (nI (0)), .int ((nI ((sTr σ).length)) - (nI (1)))]) (st := []) (c_within l cy (i) (nI (0)) ((nI ((sTr σ).length)) - (nI (1))) ([(ad 0, .inr (9, [.int (nI (σ.1)), .ref (ad 1), .ref (ad 2), .ref (sa (3 * 0)), .ref (ad 4), .ref (ad 5), .ref (ad 6), .int (nI ((sOp σ).length)), va_rf (lo), .int (nx), .int (σ.2.2.2.2.2.2.1), .int (σ.2.2.2.2.2.2.2), .ref (ad 12), .int (nI ((sTr σ).length)), .int (σ.2.2.2.2.1)])), (ad 1, .inl (cy 3, 9, .inr (.inr (.inr (.inr (fun i => some (sa (3 * i)))))))), (ad 2, .inl (cy 3, 9, .inr (.inr (.inr (.inr (fun i => some (sa (3 * (9 + i))))))))), (ad 5, .inl (cy 4, 8, .inr (.inr (.inr (.inr (fun i => some (ta (2 * i)))))))), (ad 6, .inl (cy 2, 40, .inr (.inr (.inr (.inr (pg)))))), (ad 12, .inl (cy 0, 16, .inl (bo)))] ++ (xs ++ (tb ++ op)))) ok_X11_within wd_230 rfl rfl dX11_trace_8 (by decide) (by decide) (Nat.le_of_ble_eq_true rfl) (fun r8 w8 hp8 => ?_)
  obtain ⟨rfl, rfl⟩ := hp8
  refine gw_W.norm (st' := [.int (bI (inZ (i).toInt (nI (0)).toInt ((nI ((sTr σ).length)) - (nI (1))).toInt))]) (k1 := 0) (k2 := 0) rfl rfl rfl ?_
  refine gw_if_eq (tgt := 23) dX11_trace_11 (by decide) (fun c11 => ?_) (fun c11 => ?_)
  · rw [bI_0, i32_sub1 _ (by omega)] at c11
    have ct : inZ i.toInt 0 (((sTr σ).length : Int) - 1) = false := c11
    refine gw_ldc dX11_trace_23 wd_121 ?_
    refine gw_W.wd (w' := bW cy ad sa ta (σ.1) ((sOp σ).length) ((sTr σ).length) nx (σ.2.2.2.2.2.2.1) (σ.2.2.2.2.2.2.2) (σ.2.2.2.2.1) lo pg bo ++ (xs ++ (tb ++ op))) rfl ?_
    refine gw_iret (?_) (by decide) (by decide) rfl dX11_trace_25
    subst hpost
    unfold spTrace
    first
      | (rw [if_pos ct]; exact ⟨rfl, ad, sa, ta, oa, nx, lo, pg, bo, cs, xs, tb, op, td, rfl, List.Perm.refl _, hxs, hcs, htb, hop, hN, hbo⟩)
      | (rw [if_neg (by rw [ct]; decide)]; exact ⟨rfl, ad, sa, ta, oa, nx, lo, pg, bo, cs, xs, tb, op, td, rfl, List.Perm.refl _, hxs, hcs, htb, hop, hN, hbo⟩)
  · rw [bI_n0, i32_sub1 _ (by omega)] at c11
    have ct : inZ i.toInt 0 (((sTr σ).length : Int) - 1) = true := c11
    have t3 : tI i < (sTr σ).length := by rw [inZ_t] at ct; unfold tI; omega
    refine gw_aload_n dX11_trace_14 rfl ?_
    refine gw_get (C0 := RX11) (T := TX11) (N := 15) (ref := RX11) 0 rfl rfl inX11 12 (by decide) wd_188 (Or.inl rfl) rfl dX11_trace_15 ?_
    refine gw_iload_n dX11_trace_18 rfl ?_
    refine gw_iald 5 rfl (tI_eq ct) (by omega) (by decide) dX11_trace_19 ?_
    refine gw_topi (y := (sTr σ).getD (tI i) 0) (hbo _ t3) ?_
    refine gw_goto (tgt := 25) dX11_trace_20 (by decide) ?_
    refine gw_W.wd (w' := bW cy ad sa ta (σ.1) ((sOp σ).length) ((sTr σ).length) nx (σ.2.2.2.2.2.2.1) (σ.2.2.2.2.2.2.2) (σ.2.2.2.2.1) lo pg bo ++ (xs ++ (tb ++ op))) rfl ?_
    refine gw_iret (?_) (by decide) (by decide) rfl dX11_trace_25
    subst hpost
    unfold spTrace
    first
      | (rw [if_pos ct]; exact ⟨rfl, ad, sa, ta, oa, nx, lo, pg, bo, cs, xs, tb, op, td, rfl, List.Perm.refl _, hxs, hcs, htb, hop, hN, hbo⟩)
      | (rw [if_neg (by rw [ct]; decide)]; exact ⟨rfl, ad, sa, ta, oa, nx, lo, pg, bo, cs, xs, tb, op, td, rfl, List.Perm.refl _, hxs, hcs, htb, hop, hN, hbo⟩)
