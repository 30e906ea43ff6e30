abbrev kX11_turnByLetter : gw_K := (yX11_turnByLetter, cX11_turnByLetter, 9, { frames := 3, cells := 0, slots := 0, locals := 84 }, (some .boolean))
theorem ok_X11_turnByLetter : gw_calV kX11_turnByLetter 3 := ⟨⟨wd_384, wd_57, by decide, by decide, by decide +kernel⟩, wd_383, wd_20⟩
set_option maxHeartbeats 4000000 in
set_option maxRecDepth 100000 in
theorem b_turnL (l : Launch) (cy : Nat → ClassId) (ad sa ta : Nat → Nat) (n ln bb : Nat) (nx sd lb lf : Int32) (lo : Option Nat) (pg : Nat → Option Nat) (bo : Nat → Int32) (xs T : va_W) (cs : Nat → List sT) (g x : Nat) (way : Int32) (hxs : xsP cy (ad 4) sa cs xs) (hn4 : 1 ≤ n ∧ n ≤ 4) (hS : sOK n (cs 0)) (hg : g < 4 ^ n) (hx4 : x < 4) (hw : way = 1 ∨ way = -1) : gw_M l kX11_turnByLetter cy [.ref (ad 0), .int (nI (g)), .int (nI (x)), .int (way)] (bW cy ad sa ta n ln bb nx sd lb lf lo pg bo ++ (xs ++ T)) (fun r w' => r = some (.int (bI (keepS (letC n g (nI x) way (cs 0))).isSome)) ∧ ∃ x', xsP cy (ad 4) sa (kpc cs 0 (keepS (letC n g (nI x) way (cs 0)))) x' ∧ w' = bW cy ad sa ta n ln bb nx sd lb lf lo pg bo ++ (x' ++ T)) := by
  refine gw_M.mk (lv := [some (.ref (ad 0)), some (.int (nI (g))), some (.int (nI (x))), some (.int (way)), none, none, none, none, none]) (by decide) (Nat.le_of_ble_eq_true rfl) rfl ?_
  generalize hpost : (fun r w' => r = some (.int (bI (keepS (letC n g (nI x) way (cs 0))).isSome)) ∧ ∃ x', xsP cy (ad 4) sa (kpc cs 0 (keepS (letC n g (nI x) way (cs 0)))) x' ∧ w' = bW cy ad sa ta n ln bb nx sd lb lf lo pg bo ++ (x' ++ T) : gw_Q) = post
  refine gw_W.wd (w' := ([(ad 0, .inr (9, [.int (nI (n)), .ref (ad 1), .ref (ad 2), .ref (sa (3 * 0)), .ref (ad 4), .ref (ad 5), .ref (ad 6), .int (nI (ln)), va_rf (lo), .int (nx), .int (sd), .int (lb), .ref (ad 12), .int (nI (bb)), .int (lf)])), (ad 1, .inl (cy 3, 9, .inr (.inr (.inr (.inr (fun i => some (sa (3 * i)))))))), (ad 2, .inl (cy 3, 9, .inr (.inr (.inr (.inr (fun i => some (sa (3 * (9 + i))))))))), (ad 5, .inl (cy 4, 8, .inr (.inr (.inr (.inr (fun i => some (ta (2 * i)))))))), (ad 6, .inl (cy 2, 40, .inr (.inr (.inr (.inr (pg)))))), (ad 12, .inl (cy 0, 16, .inl (bo)))] ++ (xs ++ T))) rfl ?_
  refine gw_aload_n dX11_turnByLetter_0 rfl ?_
  refine gw_get (C0 := RX11) (T := TX11) (N := 15) (ref := RX11) 0 rfl rfl inX11 4 (by decide) wd_178 (Or.inl rfl) rfl dX11_turnByLetter_1 ?_
  refine gw_callHN (As := []) (st := []) ((s_begin l cy (ad 4) sa cs xs hxs).frame (w2 := ([(ad 0, .inr (9, [.int (nI (n)), .ref (ad 1), .ref (ad 2), .ref (sa (3 * 0)), .ref (ad 4), .ref (ad 5), .ref (ad 6), .int (nI (ln)), va_rf (lo), .int (nx), .int (sd), .int (lb), .ref (ad 12), .int (nI (bb)), .int (lf)])), (ad 1, .inl (cy 3, 9, .inr (.inr (.inr (.inr (fun i => some (sa (3 * i)))))))), (ad 2, .inl (cy 3, 9, .inr (.inr (.inr (.inr (fun i => some (sa (3 * (9 + i))))))))), (ad 5, .inl (cy 4, 8, .inr (.inr (.inr (.inr (fun i => some (ta (2 * i)))))))), (ad 6, .inl (cy 2, 40, .inr (.inr (.inr (.inr (pg)))))), (ad 12, .inl (cy 0, 16, .inl (bo)))] ++ (xs ++ T))) (f := ([(ad 0, .inr (9, [.int (nI (n)), .ref (ad 1), .ref (ad 2), .ref (sa (3 * 0)), .ref (ad 4), .ref (ad 5), .ref (ad 6), .int (nI (ln)), va_rf (lo), .int (nx), .int (sd), .int (lb), .ref (ad 12), .int (nI (bb)), .int (lf)])), (ad 1, .inl (cy 3, 9, .inr (.inr (.inr (.inr (fun i => some (sa (3 * i)))))))), (ad 2, .inl (cy 3, 9, .inr (.inr (.inr (.inr (fun i => some (sa (3 * (9 + i))))))))), (ad 5, .inl (cy 4, 8, .inr (.inr (.inr (.inr (fun i => some (ta (2 * i)))))))), (ad 6, .inl (cy 2, 40, .inr (.inr (.inr (.inr (pg)))))), (ad 12, .inl (cy 0, 16, .inl (bo)))] : va_W) ++ T) perm_x) ok_X4_begin (((xsP_has hxs).left).right) rfl rfl (host := "SpinBench") (by decide +kernel) rfl rfl dX11_turnByLetter_4 (by decide) (by decide) (Nat.le_of_ble_eq_true rfl) (fun r4 w4 hp4 => ?_)
  obtain ⟨x4, ⟨rfl, h4⟩, rfl⟩ := hp4
  refine gw_W.norm (st' := []) (k1 := 0) (k2 := 0) rfl rfl rfl ?_
  refine gw_W.perm (w' := ([(ad 0, .inr (9, [.int (nI (n)), .ref (ad 1), .ref (ad 2), .ref (sa (3 * 0)), .ref (ad 4), .ref (ad 5), .ref (ad 6), .int (nI (ln)), va_rf (lo), .int (nx), .int (sd), .int (lb), .ref (ad 12), .int (nI (bb)), .int (lf)])), (ad 1, .inl (cy 3, 9, .inr (.inr (.inr (.inr (fun i => some (sa (3 * i)))))))), (ad 2, .inl (cy 3, 9, .inr (.inr (.inr (.inr (fun i => some (sa (3 * (9 + i))))))))), (ad 5, .inl (cy 4, 8, .inr (.inr (.inr (.inr (fun i => some (ta (2 * i)))))))), (ad 6, .inl (cy 2, 40, .inr (.inr (.inr (.inr (pg)))))), (ad 12, .inl (cy 0, 16, .inl (bo)))] ++ (x4 ++ T))) perm_x.symm ?_
  refine gw_iconst (v := nI (0)) dX11_turnByLetter_7 (by decide) ?_
  refine gw_istore dX11_turnByLetter_8 (by decide) rfl ?_
  have cut10 : ∀ (fu : Nat) (t : Nat) (x1 : va_W), (t ≤ (cs 0).length) → (xsQ cy (ad 4) sa cs (sPuts [] (((cs 0).take t).flatMap (tlP n g (nI x) way))) x1) → ((cs 0).length - t) < fu → gw_W l kX11_turnByLetter cy (gw_R kX11_turnByLetter post) ([(ad 0, .inr (9, [.int (nI (n)), .ref (ad 1), .ref (ad 2), .ref (sa (3 * 0)), .ref (ad 4), .ref (ad 5), .ref (ad 6), .int (nI (ln)), va_rf (lo), .int (nx), .int (sd), .int (lb), .ref (ad 12), .int (nI (bb)), .int (lf)])), (ad 1, .inl (cy 3, 9, .inr (.inr (.inr (.inr (fun i => some (sa (3 * i)))))))), (ad 2, .inl (cy 3, 9, .inr (.inr (.inr (.inr (fun i => some (sa (3 * (9 + i))))))))), (ad 5, .inl (cy 4, 8, .inr (.inr (.inr (.inr (fun i => some (ta (2 * i)))))))), (ad 6, .inl (cy 2, 40, .inr (.inr (.inr (.inr (pg)))))), (ad 12, .inl (cy 0, 16, .inl (bo)))] ++ (x1 ++ T)) 0 0 10 [some (.ref (ad 0)), some (.int (nI (g))), some (.int (nI (x))), some (.int (way)), some (.int (nI (t))), none, none, none, none] [] := by
    intro fu
    induction fu with
    | zero => intro t x1 t1 t2 hfu; exact absurd hfu (Nat.not_lt_zero _)
    | succ fu ih10 =>
      intro t x1 t1 t2 hfu
      obtain ⟨ka, na, u1, u2, u3, u4, u5⟩ := xsP_mem (xsQ_P t2) (i := 0) (by decide)
      refine gw_iload dX11_turnByLetter_10 rfl ?_
      refine gw_aload_n dX11_turnByLetter_12 rfl ?_
      refine gw_get (C0 := RX11) (T := TX11) (N := 15) (ref := RX11) 0 rfl rfl inX11 3 (by decide) wd_176 (Or.inl rfl) rfl dX11_turnByLetter_13 ?_
      refine gw_getMN (C0 := RX9) (T := TX9) (N := 3) (ref := RX9) (List.mem_append_right _ (List.mem_append_left _ u1)) rfl inX9 2 (by decide) (host := "SpinBench") (by decide +kernel) (Or.inl rfl) rfl dX11_turnByLetter_16 ?_
      refine gw_icmpN_ge (tgt := 121) dX11_turnByLetter_19 (by decide) (by omega) (by omega) (fun c19 => ?_) (fun c19 => ?_)
      · have e1 : t = (cs 0).length := by omega
        rw [e1, List.take_length] at t2
        refine gw_aload_n dX11_turnByLetter_121 rfl ?_
        refine gw_get (C0 := RX11) (T := TX11) (N := 15) (ref := RX11) 0 rfl rfl inX11 4 (by decide) wd_178 (Or.inl rfl) rfl dX11_turnByLetter_122 ?_
        refine gw_aload_n dX11_turnByLetter_125 rfl ?_
        refine gw_get (C0 := RX11) (T := TX11) (N := 15) (ref := RX11) 0 rfl rfl inX11 3 (by decide) wd_176 (Or.inl rfl) rfl dX11_turnByLetter_126 ?_
        refine gw_callHN (As := [.ref (sa (3 * 0))]) (st := []) ((s_settle l cy (ad 4) sa cs (letC n g (nI x) way (cs 0)) x1 0 t2 (by decide) (let_min hw hS)).frame (w2 := ([(ad 0, .inr (9, [.int (nI (n)), .ref (ad 1), .ref (ad 2), .ref (sa (3 * 0)), .ref (ad 4), .ref (ad 5), .ref (ad 6), .int (nI (ln)), va_rf (lo), .int (nx), .int (sd), .int (lb), .ref (ad 12), .int (nI (bb)), .int (lf)])), (ad 1, .inl (cy 3, 9, .inr (.inr (.inr (.inr (fun i => some (sa (3 * i)))))))), (ad 2, .inl (cy 3, 9, .inr (.inr (.inr (.inr (fun i => some (sa (3 * (9 + i))))))))), (ad 5, .inl (cy 4, 8, .inr (.inr (.inr (.inr (fun i => some (ta (2 * i)))))))), (ad 6, .inl (cy 2, 40, .inr (.inr (.inr (.inr (pg)))))), (ad 12, .inl (cy 0, 16, .inl (bo)))] ++ (x1 ++ T))) (f := ([(ad 0, .inr (9, [.int (nI (n)), .ref (ad 1), .ref (ad 2), .ref (sa (3 * 0)), .ref (ad 4), .ref (ad 5), .ref (ad 6), .int (nI (ln)), va_rf (lo), .int (nx), .int (sd), .int (lb), .ref (ad 12), .int (nI (bb)), .int (lf)])), (ad 1, .inl (cy 3, 9, .inr (.inr (.inr (.inr (fun i => some (sa (3 * i)))))))), (ad 2, .inl (cy 3, 9, .inr (.inr (.inr (.inr (fun i => some (sa (3 * (9 + i))))))))), (ad 5, .inl (cy 4, 8, .inr (.inr (.inr (.inr (fun i => some (ta (2 * i)))))))), (ad 6, .inl (cy 2, 40, .inr (.inr (.inr (.inr (pg)))))), (ad 12, .inl (cy 0, 16, .inl (bo)))] : va_W) ++ T) perm_x) ok_X4_settle (((xsQ_has t2).left).right) rfl rfl (host := "SpinBench") (by decide +kernel) rfl rfl dX11_turnByLetter_129 (by decide) (by decide) (Nat.le_of_ble_eq_true rfl) (fun r129 w129 hp129 => ?_)
        obtain ⟨x9, ⟨rfl, h9⟩, rfl⟩ := hp129
        refine gw_W.norm (st' := [.int (bI (keepS (letC n g (nI x) way (cs 0))).isSome)]) (k1 := 0) (k2 := 0) rfl rfl rfl ?_
        refine gw_W.perm (w' := ([(ad 0, .inr (9, [.int (nI (n)), .ref (ad 1), .ref (ad 2), .ref (sa (3 * 0)), .ref (ad 4), .ref (ad 5), .ref (ad 6), .int (nI (ln)), va_rf (lo), .int (nx), .int (sd), .int (lb), .ref (ad 12), .int (nI (bb)), .int (lf)])), (ad 1, .inl (cy 3, 9, .inr (.inr (.inr (.inr (fun i => some (sa (3 * i)))))))), (ad 2, .inl (cy 3, 9, .inr (.inr (.inr (.inr (fun i => some (sa (3 * (9 + i))))))))), (ad 5, .inl (cy 4, 8, .inr (.inr (.inr (.inr (fun i => some (ta (2 * i)))))))), (ad 6, .inl (cy 2, 40, .inr (.inr (.inr (.inr (pg)))))), (ad 12, .inl (cy 0, 16, .inl (bo)))] ++ (x9 ++ T))) perm_x.symm ?_
        refine gw_W.wd (w' := bW cy ad sa ta n ln bb nx sd lb lf lo pg bo ++ (x9 ++ T)) rfl ?_
        refine gw_zret (?_) (by decide) (by decide) rfl (bI_nar _) dX11_turnByLetter_132
        subst hpost
        exact ⟨rfl, x9, h9, rfl⟩
      · have ok := hS.2.2 (ka t, na t) (by rw [← u5]; exact takeS_mem.mpr ⟨t, by omega, by rw [Nat.zero_add]⟩)
        have kok : keyOK n (ka t) := ok.2.2
        have p9 := kn_prod_lt kok
        have h256 := pow4_le hn4.2
        have tk := take_S u5 (t := t) (by omega)
        obtain ⟨s0, s1⟩ := sig_0 (p := kn (ka (t)) / 2 ^ 20) hn4.2 hg
        have cut115 : ∀ (x2 : va_W), (xsQ cy (ad 4) sa cs (sPuts [] (((cs 0).take (t + 1)).flatMap (tlP n g (nI x) way))) x2) → gw_W l kX11_turnByLetter cy (gw_R kX11_turnByLetter post) ([(ad 0, .inr (9, [.int (nI (n)), .ref (ad 1), .ref (ad 2), .ref (sa (3 * 0)), .ref (ad 4), .ref (ad 5), .ref (ad 6), .int (nI (ln)), va_rf (lo), .int (nx), .int (sd), .int (lb), .ref (ad 12), .int (nI (bb)), .int (lf)])), (ad 1, .inl (cy 3, 9, .inr (.inr (.inr (.inr (fun i => some (sa (3 * i)))))))), (ad 2, .inl (cy 3, 9, .inr (.inr (.inr (.inr (fun i => some (sa (3 * (9 + i))))))))), (ad 5, .inl (cy 4, 8, .inr (.inr (.inr (.inr (fun i => some (ta (2 * i)))))))), (ad 6, .inl (cy 2, 40, .inr (.inr (.inr (.inr (pg)))))), (ad 12, .inl (cy 0, 16, .inl (bo)))] ++ (x2 ++ T)) 0 0 115 [some (.ref (ad 0)), some (.int (nI (g))), some (.int (nI (x))), some (.int (way)), some (.int (nI (t))), none, none, none, none] [] := by
          intro x2 r2
          refine gw_iinc (v := nI (t + 1)) dX11_turnByLetter_115 rfl (nI_add _ 1) (by decide) rfl ?_
          refine gw_goto (tgt := 10) dX11_turnByLetter_118 (by decide) ?_
          refine ih10 (t + 1) (x2) (by omega) r2 ?_
          omega
        refine gw_aload_n dX11_turnByLetter_22 rfl ?_
        refine gw_get (C0 := RX11) (T := TX11) (N := 15) (ref := RX11) 0 rfl rfl inX11 3 (by decide) wd_176 (Or.inl rfl) rfl dX11_turnByLetter_23 ?_
        refine gw_getMN (C0 := RX9) (T := TX9) (N := 3) (ref := RX9) (List.mem_append_right _ (List.mem_append_left _ u1)) rfl inX9 0 (by decide) (host := "SpinBench") (by decide +kernel) (Or.inl rfl) rfl dX11_turnByLetter_26 ?_
        refine gw_iload dX11_turnByLetter_29 rfl ?_
        refine gw_ialdM (List.mem_append_right _ (List.mem_append_left _ u2)) (rfl) (by omega) (by decide) dX11_turnByLetter_31 ?_
        refine gw_istore dX11_turnByLetter_32 (by decide) rfl ?_
        refine gw_aload_n dX11_turnByLetter_34 rfl ?_
        refine gw_get (C0 := RX11) (T := TX11) (N := 15) (ref := RX11) 0 rfl rfl inX11 3 (by decide) wd_176 (Or.inl rfl) rfl dX11_turnByLetter_35 ?_
        refine gw_getMN (C0 := RX9) (T := TX9) (N := 3) (ref := RX9) (List.mem_append_right _ (List.mem_append_left _ u1)) rfl inX9 1 (by decide) (host := "SpinBench") (by decide +kernel) (Or.inl rfl) rfl dX11_turnByLetter_38 ?_
        refine gw_iload dX11_turnByLetter_41 rfl ?_
        refine gw_laldM (List.mem_append_right _ (List.mem_append_left _ u3)) (rfl) (by omega) (by decide) dX11_turnByLetter_43 ?_
        refine gw_lstore dX11_turnByLetter_44 (by decide) rfl ?_
        refine gw_iload_n dX11_turnByLetter_46 rfl ?_
        refine gw_iload dX11_turnByLetter_47 rfl ?_
        refine gw_callS (As := [.int (ka (t))]) (st := [.int (nI (g))]) (c_productOf l cy (ka (t)) ([(ad 0, .inr (9, [.int (nI (n)), .ref (ad 1), .ref (ad 2), .ref (sa (3 * 0)), .ref (ad 4), .ref (ad 5), .ref (ad 6), .int (nI (ln)), va_rf (lo), .int (nx), .int (sd), .int (lb), .ref (ad 12), .int (nI (bb)), .int (lf)])), (ad 1, .inl (cy 3, 9, .inr (.inr (.inr (.inr (fun i => some (sa (3 * i)))))))), (ad 2, .inl (cy 3, 9, .inr (.inr (.inr (.inr (fun i => some (sa (3 * (9 + i))))))))), (ad 5, .inl (cy 4, 8, .inr (.inr (.inr (.inr (fun i => some (ta (2 * i)))))))), (ad 6, .inl (cy 2, 40, .inr (.inr (.inr (.inr (pg)))))), (ad 12, .inl (cy 0, 16, .inl (bo)))] ++ (x1 ++ T))) ok_X11_productOf wd_365 rfl rfl dX11_turnByLetter_49 (by decide) (by decide) (Nat.le_of_ble_eq_true rfl) (fun r49 w49 hp49 => ?_)
        obtain ⟨rfl, rfl⟩ := hp49
        refine gw_W.norm (st' := [.int (uProd (ka (t))), .int (nI (g))]) (k1 := 0) (k2 := 0) rfl rfl rfl ?_
        refine gw_topi (y := nI (kn (ka (t)) / 2 ^ 20)) (uProd_kn kok hn4.2) ?_
        refine gw_callS (As := [.int (nI (g)), .int (nI (kn (ka (t)) / 2 ^ 20))]) (st := []) (c_signOf l cy (g) (kn (ka (t)) / 2 ^ 20) (by omega) (by omega) ([(ad 0, .inr (9, [.int (nI (n)), .ref (ad 1), .ref (ad 2), .ref (sa (3 * 0)), .ref (ad 4), .ref (ad 5), .ref (ad 6), .int (nI (ln)), va_rf (lo), .int (nx), .int (sd), .int (lb), .ref (ad 12), .int (nI (bb)), .int (lf)])), (ad 1, .inl (cy 3, 9, .inr (.inr (.inr (.inr (fun i => some (sa (3 * i)))))))), (ad 2, .inl (cy 3, 9, .inr (.inr (.inr (.inr (fun i => some (sa (3 * (9 + i))))))))), (ad 5, .inl (cy 4, 8, .inr (.inr (.inr (.inr (fun i => some (ta (2 * i)))))))), (ad 6, .inl (cy 2, 40, .inr (.inr (.inr (.inr (pg)))))), (ad 12, .inl (cy 0, 16, .inl (bo)))] ++ (x1 ++ T))) ok_X11_signOf wd_368 rfl rfl dX11_turnByLetter_52 (by decide) (by decide) (Nat.le_of_ble_eq_true rfl) (fun r52 w52 hp52 => ?_)
        obtain ⟨rfl, rfl⟩ := hp52
        refine gw_W.norm (st' := [.int (sigN (g) (kn (ka (t)) / 2 ^ 20))]) (k1 := 0) (k2 := 0) rfl rfl rfl ?_
        refine gw_istore dX11_turnByLetter_55 (by decide) rfl ?_
        refine gw_iload dX11_turnByLetter_57 rfl ?_
        refine gw_if_ne (tgt := 76) dX11_turnByLetter_59 (by decide) (fun c59 => ?_) (fun c59 => ?_)
        · have nf : ¬ fitN n g (kn (ka (t)) / 2 ^ 20) = true := fun e => c59 (s0.mpr e)
          refine gw_aload_n dX11_turnByLetter_76 rfl ?_
          refine gw_get (C0 := RX11) (T := TX11) (N := 15) (ref := RX11) 0 rfl rfl inX11 4 (by decide) wd_178 (Or.inl rfl) rfl dX11_turnByLetter_77 ?_
          refine gw_iload dX11_turnByLetter_80 rfl ?_
          refine gw_iload_n dX11_turnByLetter_82 rfl ?_
          refine gw_callS (As := [.int (nI (x))]) (st := [.int (ka (t)), .ref (ad 4)]) (c_oneCosine l cy (x) (by omega) ([(ad 0, .inr (9, [.int (nI (n)), .ref (ad 1), .ref (ad 2), .ref (sa (3 * 0)), .ref (ad 4), .ref (ad 5), .ref (ad 6), .int (nI (ln)), va_rf (lo), .int (nx), .int (sd), .int (lb), .ref (ad 12), .int (nI (bb)), .int (lf)])), (ad 1, .inl (cy 3, 9, .inr (.inr (.inr (.inr (fun i => some (sa (3 * i)))))))), (ad 2, .inl (cy 3, 9, .inr (.inr (.inr (.inr (fun i => some (sa (3 * (9 + i))))))))), (ad 5, .inl (cy 4, 8, .inr (.inr (.inr (.inr (fun i => some (ta (2 * i)))))))), (ad 6, .inl (cy 2, 40, .inr (.inr (.inr (.inr (pg)))))), (ad 12, .inl (cy 0, 16, .inl (bo)))] ++ (x1 ++ T))) ok_X11_oneCosine wd_385 rfl rfl dX11_turnByLetter_83 (by decide) (by decide) (Nat.le_of_ble_eq_true rfl) (fun r83 w83 hp83 => ?_)
          obtain ⟨rfl, rfl⟩ := hp83
          refine gw_W.norm (st' := [.int (mOneC (nI (x))), .int (ka (t)), .ref (ad 4)]) (k1 := 0) (k2 := 0) rfl rfl rfl ?_
          refine gw_iadd dX11_turnByLetter_86 ?_
          refine gw_lload dX11_turnByLetter_87 rfl ?_
          refine gw_callHN (As := [.int ((ka (t)) + (mOneC (nI (x)))), .long (na (t))]) (st := []) ((s_put l cy (ad 4) sa cs (sPuts [] (((cs 0).take t).flatMap (tlP n g (nI x) way))) x1 ((ka (t)) + (mOneC (nI (x)))) (na (t)) t2 (by
            have q2 := sPuts_len [] (((cs 0).take t).flatMap (tlP n g (nI x) way))
            have q3 := flat_len n g (nI x) way ((cs 0).take t)
            simp only [List.length_take, List.length_nil] at q2 q3
            have q4 : min t (cs 0).length = t := by omega
            rw [q4] at q3
            omega)).frame (w2 := ([(ad 0, .inr (9, [.int (nI (n)), .ref (ad 1), .ref (ad 2), .ref (sa (3 * 0)), .ref (ad 4), .ref (ad 5), .ref (ad 6), .int (nI (ln)), va_rf (lo), .int (nx), .int (sd), .int (lb), .ref (ad 12), .int (nI (bb)), .int (lf)])), (ad 1, .inl (cy 3, 9, .inr (.inr (.inr (.inr (fun i => some (sa (3 * i)))))))), (ad 2, .inl (cy 3, 9, .inr (.inr (.inr (.inr (fun i => some (sa (3 * (9 + i))))))))), (ad 5, .inl (cy 4, 8, .inr (.inr (.inr (.inr (fun i => some (ta (2 * i)))))))), (ad 6, .inl (cy 2, 40, .inr (.inr (.inr (.inr (pg)))))), (ad 12, .inl (cy 0, 16, .inl (bo)))] ++ (x1 ++ T))) (f := ([(ad 0, .inr (9, [.int (nI (n)), .ref (ad 1), .ref (ad 2), .ref (sa (3 * 0)), .ref (ad 4), .ref (ad 5), .ref (ad 6), .int (nI (ln)), va_rf (lo), .int (nx), .int (sd), .int (lb), .ref (ad 12), .int (nI (bb)), .int (lf)])), (ad 1, .inl (cy 3, 9, .inr (.inr (.inr (.inr (fun i => some (sa (3 * i)))))))), (ad 2, .inl (cy 3, 9, .inr (.inr (.inr (.inr (fun i => some (sa (3 * (9 + i))))))))), (ad 5, .inl (cy 4, 8, .inr (.inr (.inr (.inr (fun i => some (ta (2 * i)))))))), (ad 6, .inl (cy 2, 40, .inr (.inr (.inr (.inr (pg)))))), (ad 12, .inl (cy 0, 16, .inl (bo)))] : va_W) ++ T) perm_x) ok_X4_put (((xsQ_has t2).left).right) rfl rfl (host := "SpinBench") (by decide +kernel) rfl rfl dX11_turnByLetter_89 (by decide) (by decide) (Nat.le_of_ble_eq_true rfl) (fun r89 w89 hp89 => ?_)
          obtain ⟨x89, ⟨rfl, h89⟩, rfl⟩ := hp89
          refine gw_W.norm (st' := []) (k1 := 0) (k2 := 0) rfl rfl rfl ?_
          refine gw_W.perm (w' := ([(ad 0, .inr (9, [.int (nI (n)), .ref (ad 1), .ref (ad 2), .ref (sa (3 * 0)), .ref (ad 4), .ref (ad 5), .ref (ad 6), .int (nI (ln)), va_rf (lo), .int (nx), .int (sd), .int (lb), .ref (ad 12), .int (nI (bb)), .int (lf)])), (ad 1, .inl (cy 3, 9, .inr (.inr (.inr (.inr (fun i => some (sa (3 * i)))))))), (ad 2, .inl (cy 3, 9, .inr (.inr (.inr (.inr (fun i => some (sa (3 * (9 + i))))))))), (ad 5, .inl (cy 4, 8, .inr (.inr (.inr (.inr (fun i => some (ta (2 * i)))))))), (ad 6, .inl (cy 2, 40, .inr (.inr (.inr (.inr (pg)))))), (ad 12, .inl (cy 0, 16, .inl (bo)))] ++ (x89 ++ T))) perm_x.symm ?_
          refine gw_aload_n dX11_turnByLetter_92 rfl ?_
          refine gw_get (C0 := RX11) (T := TX11) (N := 15) (ref := RX11) 0 rfl rfl inX11 4 (by decide) wd_178 (Or.inl rfl) rfl dX11_turnByLetter_93 ?_
          refine gw_iload dX11_turnByLetter_96 rfl ?_
          refine gw_iload_n dX11_turnByLetter_98 rfl ?_
          refine gw_callS (As := [.int (ka (t)), .int (nI (g))]) (st := [.ref (ad 4)]) (c_withProduct l cy (ka (t)) (nI (g)) ([(ad 0, .inr (9, [.int (nI (n)), .ref (ad 1), .ref (ad 2), .ref (sa (3 * 0)), .ref (ad 4), .ref (ad 5), .ref (ad 6), .int (nI (ln)), va_rf (lo), .int (nx), .int (sd), .int (lb), .ref (ad 12), .int (nI (bb)), .int (lf)])), (ad 1, .inl (cy 3, 9, .inr (.inr (.inr (.inr (fun i => some (sa (3 * i)))))))), (ad 2, .inl (cy 3, 9, .inr (.inr (.inr (.inr (fun i => some (sa (3 * (9 + i))))))))), (ad 5, .inl (cy 4, 8, .inr (.inr (.inr (.inr (fun i => some (ta (2 * i)))))))), (ad 6, .inl (cy 2, 40, .inr (.inr (.inr (.inr (pg)))))), (ad 12, .inl (cy 0, 16, .inl (bo)))] ++ (x89 ++ T))) ok_X11_withProduct wd_371 rfl rfl dX11_turnByLetter_99 (by decide) (by decide) (Nat.le_of_ble_eq_true rfl) (fun r99 w99 hp99 => ?_)
          obtain ⟨rfl, rfl⟩ := hp99
          refine gw_W.norm (st' := [.int ((ka (t)) ^^^ ((nI (g)) <<< (nI 20 &&& 31))), .ref (ad 4)]) (k1 := 0) (k2 := 0) rfl rfl rfl ?_
          refine gw_topi (y := tqK g (ka t)) (with_tq hn4.2 hg kok) ?_
          refine gw_iload_n dX11_turnByLetter_102 rfl ?_
          refine gw_lload dX11_turnByLetter_103 rfl ?_
          refine gw_iload dX11_turnByLetter_105 rfl ?_
          refine gw_i2l dX11_turnByLetter_107 rfl ?_
          refine gw_lmul dX11_turnByLetter_108 ?_
          refine gw_iload_n dX11_turnByLetter_109 rfl ?_
          refine gw_i2l dX11_turnByLetter_110 rfl ?_
          refine gw_lmul dX11_turnByLetter_111 ?_
          refine gw_topl (y := (way * sgN n g (kn (ka (t)) / 2 ^ 20)).toInt64 * na t) (by rw [s1 nf]; exact by_eq (sg_pm _ _ _) hw) ?_
          refine gw_callHN (As := [.int (tqK g (ka t)), .int (nI (x)), .long ((way * sgN n g (kn (ka (t)) / 2 ^ 20)).toInt64 * na t)]) (st := []) ((s_pts l cy (ad 4) sa cs (sIns (ka t + mOneC (nI x)) (na t) (sPuts [] (((cs 0).take t).flatMap (tlP n g (nI x) way)))) x89 (tqK g (ka t)) x ((way * sgN n g (kn (ka (t)) / 2 ^ 20)).toInt64 * na t) h89 hx4 (by
            have q2 := sPuts_len [] (((cs 0).take t).flatMap (tlP n g (nI x) way))
            have q3 := flat_len n g (nI x) way ((cs 0).take t)
            simp only [List.length_take, List.length_nil] at q2 q3
            have q4 : min t (cs 0).length = t := by omega
            rw [q4] at q3
            have q5 := sIns_len (ka t + mOneC (nI x)) (na t) (sPuts [] (((cs 0).take t).flatMap (tlP n g (nI x) way)))
            omega)).frame (w2 := ([(ad 0, .inr (9, [.int (nI (n)), .ref (ad 1), .ref (ad 2), .ref (sa (3 * 0)), .ref (ad 4), .ref (ad 5), .ref (ad 6), .int (nI (ln)), va_rf (lo), .int (nx), .int (sd), .int (lb), .ref (ad 12), .int (nI (bb)), .int (lf)])), (ad 1, .inl (cy 3, 9, .inr (.inr (.inr (.inr (fun i => some (sa (3 * i)))))))), (ad 2, .inl (cy 3, 9, .inr (.inr (.inr (.inr (fun i => some (sa (3 * (9 + i))))))))), (ad 5, .inl (cy 4, 8, .inr (.inr (.inr (.inr (fun i => some (ta (2 * i)))))))), (ad 6, .inl (cy 2, 40, .inr (.inr (.inr (.inr (pg)))))), (ad 12, .inl (cy 0, 16, .inl (bo)))] ++ (x89 ++ T))) (f := ([(ad 0, .inr (9, [.int (nI (n)), .ref (ad 1), .ref (ad 2), .ref (sa (3 * 0)), .ref (ad 4), .ref (ad 5), .ref (ad 6), .int (nI (ln)), va_rf (lo), .int (nx), .int (sd), .int (lb), .ref (ad 12), .int (nI (bb)), .int (lf)])), (ad 1, .inl (cy 3, 9, .inr (.inr (.inr (.inr (fun i => some (sa (3 * i)))))))), (ad 2, .inl (cy 3, 9, .inr (.inr (.inr (.inr (fun i => some (sa (3 * (9 + i))))))))), (ad 5, .inl (cy 4, 8, .inr (.inr (.inr (.inr (fun i => some (ta (2 * i)))))))), (ad 6, .inl (cy 2, 40, .inr (.inr (.inr (.inr (pg)))))), (ad 12, .inl (cy 0, 16, .inl (bo)))] : va_W) ++ T) perm_x) ok_X4_putTimesSine (((xsQ_has h89).left).right) rfl rfl (host := "SpinBench") (by decide +kernel) rfl rfl dX11_turnByLetter_112 (by decide) (by decide) (Nat.le_of_ble_eq_true rfl) (fun r112 w112 hp112 => ?_)
          obtain ⟨x112, ⟨rfl, h112⟩, rfl⟩ := hp112
          refine gw_W.norm (st' := []) (k1 := 0) (k2 := 0) rfl rfl rfl ?_
          refine gw_W.perm (w' := ([(ad 0, .inr (9, [.int (nI (n)), .ref (ad 1), .ref (ad 2), .ref (sa (3 * 0)), .ref (ad 4), .ref (ad 5), .ref (ad 6), .int (nI (ln)), va_rf (lo), .int (nx), .int (sd), .int (lb), .ref (ad 12), .int (nI (bb)), .int (lf)])), (ad 1, .inl (cy 3, 9, .inr (.inr (.inr (.inr (fun i => some (sa (3 * i)))))))), (ad 2, .inl (cy 3, 9, .inr (.inr (.inr (.inr (fun i => some (sa (3 * (9 + i))))))))), (ad 5, .inl (cy 4, 8, .inr (.inr (.inr (.inr (fun i => some (ta (2 * i)))))))), (ad 6, .inl (cy 2, 40, .inr (.inr (.inr (.inr (pg)))))), (ad 12, .inl (cy 0, 16, .inl (bo)))] ++ (x112 ++ T))) perm_x.symm ?_
          refine gw_W.forget 5 ?_
          refine gw_W.forget 6 ?_
          refine gw_W.forget 8 ?_
          refine cut115 (x112) (by rw [tk, List.flatMap_append, List.flatMap_cons, List.flatMap_nil, List.append_nil, sPuts_app, tl_b hn4.2 hg hx4 kok nf]; exact h112)
        · have ft : fitN n g (kn (ka (t)) / 2 ^ 20) = true := s0.mp c59
          refine gw_aload_n dX11_turnByLetter_62 rfl ?_
          refine gw_get (C0 := RX11) (T := TX11) (N := 15) (ref := RX11) 0 rfl rfl inX11 4 (by decide) wd_178 (Or.inl rfl) rfl dX11_turnByLetter_63 ?_
          refine gw_iload dX11_turnByLetter_66 rfl ?_
          refine gw_lload dX11_turnByLetter_68 rfl ?_
          refine gw_callHN (As := [.int (ka (t)), .long (na (t))]) (st := []) ((s_put l cy (ad 4) sa cs (sPuts [] (((cs 0).take t).flatMap (tlP n g (nI x) way))) x1 (ka (t)) (na (t)) t2 (by
            have q2 := sPuts_len [] (((cs 0).take t).flatMap (tlP n g (nI x) way))
            have q3 := flat_len n g (nI x) way ((cs 0).take t)
            simp only [List.length_take, List.length_nil] at q2 q3
            have q4 : min t (cs 0).length = t := by omega
            rw [q4] at q3
            omega)).frame (w2 := ([(ad 0, .inr (9, [.int (nI (n)), .ref (ad 1), .ref (ad 2), .ref (sa (3 * 0)), .ref (ad 4), .ref (ad 5), .ref (ad 6), .int (nI (ln)), va_rf (lo), .int (nx), .int (sd), .int (lb), .ref (ad 12), .int (nI (bb)), .int (lf)])), (ad 1, .inl (cy 3, 9, .inr (.inr (.inr (.inr (fun i => some (sa (3 * i)))))))), (ad 2, .inl (cy 3, 9, .inr (.inr (.inr (.inr (fun i => some (sa (3 * (9 + i))))))))), (ad 5, .inl (cy 4, 8, .inr (.inr (.inr (.inr (fun i => some (ta (2 * i)))))))), (ad 6, .inl (cy 2, 40, .inr (.inr (.inr (.inr (pg)))))), (ad 12, .inl (cy 0, 16, .inl (bo)))] ++ (x1 ++ T))) (f := ([(ad 0, .inr (9, [.int (nI (n)), .ref (ad 1), .ref (ad 2), .ref (sa (3 * 0)), .ref (ad 4), .ref (ad 5), .ref (ad 6), .int (nI (ln)), va_rf (lo), .int (nx), .int (sd), .int (lb), .ref (ad 12), .int (nI (bb)), .int (lf)])), (ad 1, .inl (cy 3, 9, .inr (.inr (.inr (.inr (fun i => some (sa (3 * i)))))))), (ad 2, .inl (cy 3, 9, .inr (.inr (.inr (.inr (fun i => some (sa (3 * (9 + i))))))))), (ad 5, .inl (cy 4, 8, .inr (.inr (.inr (.inr (fun i => some (ta (2 * i)))))))), (ad 6, .inl (cy 2, 40, .inr (.inr (.inr (.inr (pg)))))), (ad 12, .inl (cy 0, 16, .inl (bo)))] : va_W) ++ T) perm_x) ok_X4_put (((xsQ_has t2).left).right) rfl rfl (host := "SpinBench") (by decide +kernel) rfl rfl dX11_turnByLetter_70 (by decide) (by decide) (Nat.le_of_ble_eq_true rfl) (fun r70 w70 hp70 => ?_)
          obtain ⟨x70, ⟨rfl, h70⟩, rfl⟩ := hp70
          refine gw_W.norm (st' := []) (k1 := 0) (k2 := 0) rfl rfl rfl ?_
          refine gw_W.perm (w' := ([(ad 0, .inr (9, [.int (nI (n)), .ref (ad 1), .ref (ad 2), .ref (sa (3 * 0)), .ref (ad 4), .ref (ad 5), .ref (ad 6), .int (nI (ln)), va_rf (lo), .int (nx), .int (sd), .int (lb), .ref (ad 12), .int (nI (bb)), .int (lf)])), (ad 1, .inl (cy 3, 9, .inr (.inr (.inr (.inr (fun i => some (sa (3 * i)))))))), (ad 2, .inl (cy 3, 9, .inr (.inr (.inr (.inr (fun i => some (sa (3 * (9 + i))))))))), (ad 5, .inl (cy 4, 8, .inr (.inr (.inr (.inr (fun i => some (ta (2 * i)))))))), (ad 6, .inl (cy 2, 40, .inr (.inr (.inr (.inr (pg)))))), (ad 12, .inl (cy 0, 16, .inl (bo)))] ++ (x70 ++ T))) perm_x.symm ?_
          refine gw_goto (tgt := 115) dX11_turnByLetter_73 (by decide) ?_
          refine gw_W.forget 5 ?_
          refine gw_W.forget 6 ?_
          refine gw_W.forget 8 ?_
          refine cut115 (x70) (by rw [tk, List.flatMap_append, List.flatMap_cons, List.flatMap_nil, List.append_nil, sPuts_app, tl_a (q := (ka t, na t)) ft]; exact h70)
  refine cut10 _ (0) (x4) (Nat.zero_le _) h4 (Nat.lt_succ_self _)
