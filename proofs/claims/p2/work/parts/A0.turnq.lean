abbrev kX11_turnByQuarters : gw_K := (yX11_turnByQuarters, cX11_turnByQuarters, 8, { frames := 3, cells := 0, slots := 0, locals := 84 }, (some .boolean))
theorem ok_X11_turnByQuarters : gw_calV kX11_turnByQuarters 2 := ⟨⟨wd_364, wd_57, by decide, by decide, by decide +kernel⟩, wd_363, wd_19⟩
set_option maxHeartbeats 4000000 in
set_option maxRecDepth 100000 in
theorem b_turnQ (l : Launch) (cy : Nat → ClassId) (ad sa ta : Nat → Nat) (n ln bb : Nat) (nx sd lb lf : Int32) (lo : Option Nat) (pg : Nat → Option Nat) (bo : Nat → Int32) (xs T : va_W) (cs : Nat → List sT) (g q : Nat) (hxs : xsP cy (ad 4) sa cs xs) (hn4 : 1 ≤ n ∧ n ≤ 4) (hS : sOK n (cs 0)) (hg : g < 4 ^ n) (hq4 : q < 4) : gw_M l kX11_turnByQuarters cy [.ref (ad 0), .int (nI (g)), .int (nI (q))] (bW cy ad sa ta n ln bb nx sd lb lf lo pg bo ++ (xs ++ T)) (fun r w' => r = some (.int 1) ∧ ∃ x', xsP cy (ad 4) sa (va_up cs 0 (qS n g q (cs 0))) x' ∧ w' = bW cy ad sa ta n ln bb nx sd lb lf lo pg bo ++ (x' ++ T)) := by
  refine gw_M.mk (lv := [some (.ref (ad 0)), some (.int (nI (g))), some (.int (nI (q))), none, none, none, none, none]) (by decide) (Nat.le_of_ble_eq_true rfl) rfl ?_
  generalize hpost : (fun r w' => r = some (.int 1) ∧ ∃ x', xsP cy (ad 4) sa (va_up cs 0 (qS n g q (cs 0))) x' ∧ w' = bW cy ad sa ta n ln bb nx sd lb lf lo pg bo ++ (x' ++ T) : gw_Q) = post
  refine gw_W.wd (w' := ([(ad 0, .inr (9, [.int (nI (n)), .ref (ad 1), .ref (ad 2), .ref (sa (3 * 0)), .ref (ad 4), .ref (ad 5), .ref (ad 6), .int (nI (ln)), va_rf (lo), .int (nx), .int (sd), .int (lb), .ref (ad 12), .int (nI (bb)), .int (lf)])), (ad 1, .inl (cy 3, 9, .inr (.inr (.inr (.inr (fun i => some (sa (3 * i)))))))), (ad 2, .inl (cy 3, 9, .inr (.inr (.inr (.inr (fun i => some (sa (3 * (9 + i))))))))), (ad 5, .inl (cy 4, 8, .inr (.inr (.inr (.inr (fun i => some (ta (2 * i)))))))), (ad 6, .inl (cy 2, 40, .inr (.inr (.inr (.inr (pg)))))), (ad 12, .inl (cy 0, 16, .inl (bo)))] ++ (xs ++ T))) rfl ?_
  refine gw_iload_n dX11_turnByQuarters_0 rfl ?_
  refine gw_ifN_ne (tgt := 6) dX11_turnByQuarters_1 (by decide) (by omega) (fun c1 => ?_) (fun c1 => ?_)
  · have hq0 : ¬ q = 0 := c1
    refine gw_aload_n dX11_turnByQuarters_6 rfl ?_
    refine gw_get (C0 := RX11) (T := TX11) (N := 15) (ref := RX11) 0 rfl rfl inX11 4 (by decide) wd_178 (Or.inl rfl) rfl dX11_turnByQuarters_7 ?_
    refine gw_callHN (As := []) (st := []) ((s_begin l cy (ad 4) sa cs xs hxs).frame (w2 := ([(ad 0, .inr (9, [.int (nI (n)), .ref (ad 1), .ref (ad 2), .ref (sa (3 * 0)), .ref (ad 4), .ref (ad 5), .ref (ad 6), .int (nI (ln)), va_rf (lo), .int (nx), .int (sd), .int (lb), .ref (ad 12), .int (nI (bb)), .int (lf)])), (ad 1, .inl (cy 3, 9, .inr (.inr (.inr (.inr (fun i => some (sa (3 * i)))))))), (ad 2, .inl (cy 3, 9, .inr (.inr (.inr (.inr (fun i => some (sa (3 * (9 + i))))))))), (ad 5, .inl (cy 4, 8, .inr (.inr (.inr (.inr (fun i => some (ta (2 * i)))))))), (ad 6, .inl (cy 2, 40, .inr (.inr (.inr (.inr (pg)))))), (ad 12, .inl (cy 0, 16, .inl (bo)))] ++ (xs ++ T))) (f := ([(ad 0, .inr (9, [.int (nI (n)), .ref (ad 1), .ref (ad 2), .ref (sa (3 * 0)), .ref (ad 4), .ref (ad 5), .ref (ad 6), .int (nI (ln)), va_rf (lo), .int (nx), .int (sd), .int (lb), .ref (ad 12), .int (nI (bb)), .int (lf)])), (ad 1, .inl (cy 3, 9, .inr (.inr (.inr (.inr (fun i => some (sa (3 * i)))))))), (ad 2, .inl (cy 3, 9, .inr (.inr (.inr (.inr (fun i => some (sa (3 * (9 + i))))))))), (ad 5, .inl (cy 4, 8, .inr (.inr (.inr (.inr (fun i => some (ta (2 * i)))))))), (ad 6, .inl (cy 2, 40, .inr (.inr (.inr (.inr (pg)))))), (ad 12, .inl (cy 0, 16, .inl (bo)))] : va_W) ++ T) perm_x) ok_X4_begin (((xsP_has hxs).left).right) rfl rfl (host := "SpinBench") (by decide +kernel) rfl rfl dX11_turnByQuarters_10 (by decide) (by decide) (Nat.le_of_ble_eq_true rfl) (fun r10 w10 hp10 => ?_)
    obtain ⟨x10, ⟨rfl, h10⟩, rfl⟩ := hp10
    refine gw_W.norm (st' := []) (k1 := 0) (k2 := 0) rfl rfl rfl ?_
    refine gw_W.perm (w' := ([(ad 0, .inr (9, [.int (nI (n)), .ref (ad 1), .ref (ad 2), .ref (sa (3 * 0)), .ref (ad 4), .ref (ad 5), .ref (ad 6), .int (nI (ln)), va_rf (lo), .int (nx), .int (sd), .int (lb), .ref (ad 12), .int (nI (bb)), .int (lf)])), (ad 1, .inl (cy 3, 9, .inr (.inr (.inr (.inr (fun i => some (sa (3 * i)))))))), (ad 2, .inl (cy 3, 9, .inr (.inr (.inr (.inr (fun i => some (sa (3 * (9 + i))))))))), (ad 5, .inl (cy 4, 8, .inr (.inr (.inr (.inr (fun i => some (ta (2 * i)))))))), (ad 6, .inl (cy 2, 40, .inr (.inr (.inr (.inr (pg)))))), (ad 12, .inl (cy 0, 16, .inl (bo)))] ++ (x10 ++ T))) perm_x.symm ?_
    refine gw_iconst (v := nI (0)) dX11_turnByQuarters_13 (by decide) ?_
    refine gw_istore_n dX11_turnByQuarters_14 (by decide) rfl ?_
    have cut15 : ∀ (fu : Nat) (t : Nat) (x1 : va_W), (t ≤ (cs 0).length) → (xsQ cy (ad 4) sa cs (sPuts [] (((cs 0).take t).map (tq n g q))) x1) → ((cs 0).length - t) < fu → gw_W l kX11_turnByQuarters cy (gw_R kX11_turnByQuarters post) ([(ad 0, .inr (9, [.int (nI (n)), .ref (ad 1), .ref (ad 2), .ref (sa (3 * 0)), .ref (ad 4), .ref (ad 5), .ref (ad 6), .int (nI (ln)), va_rf (lo), .int (nx), .int (sd), .int (lb), .ref (ad 12), .int (nI (bb)), .int (lf)])), (ad 1, .inl (cy 3, 9, .inr (.inr (.inr (.inr (fun i => some (sa (3 * i)))))))), (ad 2, .inl (cy 3, 9, .inr (.inr (.inr (.inr (fun i => some (sa (3 * (9 + i))))))))), (ad 5, .inl (cy 4, 8, .inr (.inr (.inr (.inr (fun i => some (ta (2 * i)))))))), (ad 6, .inl (cy 2, 40, .inr (.inr (.inr (.inr (pg)))))), (ad 12, .inl (cy 0, 16, .inl (bo)))] ++ (x1 ++ T)) 0 0 15 [some (.ref (ad 0)), some (.int (nI (g))), some (.int (nI (q))), some (.int (nI (t))), none, none, none, none] [] := by
      intro fu
      induction fu with
      | zero => intro t x1 t1 t2 hfu; exact absurd hfu (Nat.not_lt_zero _)
      | succ fu ih15 =>
        intro t x1 t1 t2 hfu
        obtain ⟨ka, na, u1, u2, u3, u4, u5⟩ := xsP_mem (xsQ_P t2) (i := 0) (by decide)
        refine gw_iload_n dX11_turnByQuarters_15 rfl ?_
        refine gw_aload_n dX11_turnByQuarters_16 rfl ?_
        refine gw_get (C0 := RX11) (T := TX11) (N := 15) (ref := RX11) 0 rfl rfl inX11 3 (by decide) wd_176 (Or.inl rfl) rfl dX11_turnByQuarters_17 ?_
        refine gw_getMN (C0 := RX9) (T := TX9) (N := 3) (ref := RX9) (List.mem_append_right _ (List.mem_append_left _ u1)) rfl inX9 2 (by decide) (host := "SpinBench") (by decide +kernel) (Or.inl rfl) rfl dX11_turnByQuarters_20 ?_
        refine gw_icmpN_ge (tgt := 138) dX11_turnByQuarters_23 (by decide) (by omega) (by omega) (fun c23 => ?_) (fun c23 => ?_)
        · have e1 : t = (cs 0).length := by omega
          rw [e1, List.take_length] at t2
          refine gw_aload_n dX11_turnByQuarters_138 rfl ?_
          refine gw_get (C0 := RX11) (T := TX11) (N := 15) (ref := RX11) 0 rfl rfl inX11 4 (by decide) wd_178 (Or.inl rfl) rfl dX11_turnByQuarters_139 ?_
          refine gw_aload_n dX11_turnByQuarters_142 rfl ?_
          refine gw_get (C0 := RX11) (T := TX11) (N := 15) (ref := RX11) 0 rfl rfl inX11 3 (by decide) wd_176 (Or.inl rfl) rfl dX11_turnByQuarters_143 ?_
          refine gw_callHN (As := [.ref (sa (3 * 0))]) (st := []) ((s_settle l cy (ad 4) sa cs (quartC n g q (cs 0)) x1 0 t2 (by decide) (quart_min q hn4.2 hg hS)).frame (w2 := ([(ad 0, .inr (9, [.int (nI (n)), .ref (ad 1), .ref (ad 2), .ref (sa (3 * 0)), .ref (ad 4), .ref (ad 5), .ref (ad 6), .int (nI (ln)), va_rf (lo), .int (nx), .int (sd), .int (lb), .ref (ad 12), .int (nI (bb)), .int (lf)])), (ad 1, .inl (cy 3, 9, .inr (.inr (.inr (.inr (fun i => some (sa (3 * i)))))))), (ad 2, .inl (cy 3, 9, .inr (.inr (.inr (.inr (fun i => some (sa (3 * (9 + i))))))))), (ad 5, .inl (cy 4, 8, .inr (.inr (.inr (.inr (fun i => some (ta (2 * i)))))))), (ad 6, .inl (cy 2, 40, .inr (.inr (.inr (.inr (pg)))))), (ad 12, .inl (cy 0, 16, .inl (bo)))] ++ (x1 ++ T))) (f := ([(ad 0, .inr (9, [.int (nI (n)), .ref (ad 1), .ref (ad 2), .ref (sa (3 * 0)), .ref (ad 4), .ref (ad 5), .ref (ad 6), .int (nI (ln)), va_rf (lo), .int (nx), .int (sd), .int (lb), .ref (ad 12), .int (nI (bb)), .int (lf)])), (ad 1, .inl (cy 3, 9, .inr (.inr (.inr (.inr (fun i => some (sa (3 * i)))))))), (ad 2, .inl (cy 3, 9, .inr (.inr (.inr (.inr (fun i => some (sa (3 * (9 + i))))))))), (ad 5, .inl (cy 4, 8, .inr (.inr (.inr (.inr (fun i => some (ta (2 * i)))))))), (ad 6, .inl (cy 2, 40, .inr (.inr (.inr (.inr (pg)))))), (ad 12, .inl (cy 0, 16, .inl (bo)))] : va_W) ++ T) perm_x) ok_X4_settle (((xsQ_has t2).left).right) rfl rfl (host := "SpinBench") (by decide +kernel) rfl rfl dX11_turnByQuarters_146 (by decide) (by decide) (Nat.le_of_ble_eq_true rfl) (fun r146 w146 hp146 => ?_)
          obtain ⟨x9, ⟨rfl, h9⟩, rfl⟩ := hp146
          refine gw_W.norm (st' := [.int (bI (keepS (quartC n g q (cs 0))).isSome)]) (k1 := 0) (k2 := 0) rfl rfl rfl ?_
          refine gw_W.perm (w' := ([(ad 0, .inr (9, [.int (nI (n)), .ref (ad 1), .ref (ad 2), .ref (sa (3 * 0)), .ref (ad 4), .ref (ad 5), .ref (ad 6), .int (nI (ln)), va_rf (lo), .int (nx), .int (sd), .int (lb), .ref (ad 12), .int (nI (bb)), .int (lf)])), (ad 1, .inl (cy 3, 9, .inr (.inr (.inr (.inr (fun i => some (sa (3 * i)))))))), (ad 2, .inl (cy 3, 9, .inr (.inr (.inr (.inr (fun i => some (sa (3 * (9 + i))))))))), (ad 5, .inl (cy 4, 8, .inr (.inr (.inr (.inr (fun i => some (ta (2 * i)))))))), (ad 6, .inl (cy 2, 40, .inr (.inr (.inr (.inr (pg)))))), (ad 12, .inl (cy 0, 16, .inl (bo)))] ++ (x9 ++ T))) perm_x.symm ?_
          refine gw_W.wd (w' := bW cy ad sa ta n ln bb nx sd lb lf lo pg bo ++ (x9 ++ T)) rfl ?_
          refine gw_zret (?_) (by decide) (by decide) rfl (bI_nar _) dX11_turnByQuarters_149
          subst hpost
          obtain ⟨S9, hk⟩ := quart_keep q hn4.2 hg hS
          rw [hk] at h9 ⊢
          refine ⟨rfl, x9, ?_, rfl⟩
          unfold qS
          rw [hk]; exact h9
        · have ok := hS.2.2 (ka t, na t) (by rw [← u5]; exact takeS_mem.mpr ⟨t, by omega, by rw [Nat.zero_add]⟩)
          have kok : keyOK n (ka t) := ok.2.2
          have p9 := kn_prod_lt kok
          have h256 := pow4_le hn4.2
          have tk := take_S u5 (t := t) (by omega)
          obtain ⟨s0, s1⟩ := sig_0 (p := kn (ka (t)) / 2 ^ 20) hn4.2 hg
          have cut132 : ∀ (x2 : va_W), (xsQ cy (ad 4) sa cs (sPuts [] (((cs 0).take (t + 1)).map (tq n g q))) x2) → gw_W l kX11_turnByQuarters cy (gw_R kX11_turnByQuarters post) ([(ad 0, .inr (9, [.int (nI (n)), .ref (ad 1), .ref (ad 2), .ref (sa (3 * 0)), .ref (ad 4), .ref (ad 5), .ref (ad 6), .int (nI (ln)), va_rf (lo), .int (nx), .int (sd), .int (lb), .ref (ad 12), .int (nI (bb)), .int (lf)])), (ad 1, .inl (cy 3, 9, .inr (.inr (.inr (.inr (fun i => some (sa (3 * i)))))))), (ad 2, .inl (cy 3, 9, .inr (.inr (.inr (.inr (fun i => some (sa (3 * (9 + i))))))))), (ad 5, .inl (cy 4, 8, .inr (.inr (.inr (.inr (fun i => some (ta (2 * i)))))))), (ad 6, .inl (cy 2, 40, .inr (.inr (.inr (.inr (pg)))))), (ad 12, .inl (cy 0, 16, .inl (bo)))] ++ (x2 ++ T)) 0 0 132 [some (.ref (ad 0)), some (.int (nI (g))), some (.int (nI (q))), some (.int (nI (t))), none, none, none, none] [] := by
            intro x2 r2
            refine gw_iinc (v := nI (t + 1)) dX11_turnByQuarters_132 rfl (nI_add _ 1) (by decide) rfl ?_
            refine gw_goto (tgt := 15) dX11_turnByQuarters_135 (by decide) ?_
            refine ih15 (t + 1) (x2) (by omega) r2 ?_
            omega
          refine gw_aload_n dX11_turnByQuarters_26 rfl ?_
          refine gw_get (C0 := RX11) (T := TX11) (N := 15) (ref := RX11) 0 rfl rfl inX11 3 (by decide) wd_176 (Or.inl rfl) rfl dX11_turnByQuarters_27 ?_
          refine gw_getMN (C0 := RX9) (T := TX9) (N := 3) (ref := RX9) (List.mem_append_right _ (List.mem_append_left _ u1)) rfl inX9 0 (by decide) (host := "SpinBench") (by decide +kernel) (Or.inl rfl) rfl dX11_turnByQuarters_30 ?_
          refine gw_iload_n dX11_turnByQuarters_33 rfl ?_
          refine gw_ialdM (List.mem_append_right _ (List.mem_append_left _ u2)) (rfl) (by omega) (by decide) dX11_turnByQuarters_34 ?_
          refine gw_istore dX11_turnByQuarters_35 (by decide) rfl ?_
          refine gw_aload_n dX11_turnByQuarters_37 rfl ?_
          refine gw_get (C0 := RX11) (T := TX11) (N := 15) (ref := RX11) 0 rfl rfl inX11 3 (by decide) wd_176 (Or.inl rfl) rfl dX11_turnByQuarters_38 ?_
          refine gw_getMN (C0 := RX9) (T := TX9) (N := 3) (ref := RX9) (List.mem_append_right _ (List.mem_append_left _ u1)) rfl inX9 1 (by decide) (host := "SpinBench") (by decide +kernel) (Or.inl rfl) rfl dX11_turnByQuarters_41 ?_
          refine gw_iload_n dX11_turnByQuarters_44 rfl ?_
          refine gw_laldM (List.mem_append_right _ (List.mem_append_left _ u3)) (rfl) (by omega) (by decide) dX11_turnByQuarters_45 ?_
          refine gw_lstore dX11_turnByQuarters_46 (by decide) rfl ?_
          refine gw_iload_n dX11_turnByQuarters_48 rfl ?_
          refine gw_iload dX11_turnByQuarters_49 rfl ?_
          refine gw_callS (As := [.int (ka (t))]) (st := [.int (nI (g))]) (c_productOf l cy (ka (t)) ([(ad 0, .inr (9, [.int (nI (n)), .ref (ad 1), .ref (ad 2), .ref (sa (3 * 0)), .ref (ad 4), .ref (ad 5), .ref (ad 6), .int (nI (ln)), va_rf (lo), .int (nx), .int (sd), .int (lb), .ref (ad 12), .int (nI (bb)), .int (lf)])), (ad 1, .inl (cy 3, 9, .inr (.inr (.inr (.inr (fun i => some (sa (3 * i)))))))), (ad 2, .inl (cy 3, 9, .inr (.inr (.inr (.inr (fun i => some (sa (3 * (9 + i))))))))), (ad 5, .inl (cy 4, 8, .inr (.inr (.inr (.inr (fun i => some (ta (2 * i)))))))), (ad 6, .inl (cy 2, 40, .inr (.inr (.inr (.inr (pg)))))), (ad 12, .inl (cy 0, 16, .inl (bo)))] ++ (x1 ++ T))) ok_X11_productOf wd_365 rfl rfl dX11_turnByQuarters_51 (by decide) (by decide) (Nat.le_of_ble_eq_true rfl) (fun r51 w51 hp51 => ?_)
          obtain ⟨rfl, rfl⟩ := hp51
          refine gw_W.norm (st' := [.int (uProd (ka (t))), .int (nI (g))]) (k1 := 0) (k2 := 0) rfl rfl rfl ?_
          refine gw_topi (y := nI (kn (ka (t)) / 2 ^ 20)) (uProd_kn kok hn4.2) ?_
          refine gw_callS (As := [.int (nI (g)), .int (nI (kn (ka (t)) / 2 ^ 20))]) (st := []) (c_signOf l cy (g) (kn (ka (t)) / 2 ^ 20) (by omega) (by omega) ([(ad 0, .inr (9, [.int (nI (n)), .ref (ad 1), .ref (ad 2), .ref (sa (3 * 0)), .ref (ad 4), .ref (ad 5), .ref (ad 6), .int (nI (ln)), va_rf (lo), .int (nx), .int (sd), .int (lb), .ref (ad 12), .int (nI (bb)), .int (lf)])), (ad 1, .inl (cy 3, 9, .inr (.inr (.inr (.inr (fun i => some (sa (3 * i)))))))), (ad 2, .inl (cy 3, 9, .inr (.inr (.inr (.inr (fun i => some (sa (3 * (9 + i))))))))), (ad 5, .inl (cy 4, 8, .inr (.inr (.inr (.inr (fun i => some (ta (2 * i)))))))), (ad 6, .inl (cy 2, 40, .inr (.inr (.inr (.inr (pg)))))), (ad 12, .inl (cy 0, 16, .inl (bo)))] ++ (x1 ++ T))) ok_X11_signOf wd_368 rfl rfl dX11_turnByQuarters_54 (by decide) (by decide) (Nat.le_of_ble_eq_true rfl) (fun r54 w54 hp54 => ?_)
          obtain ⟨rfl, rfl⟩ := hp54
          refine gw_W.norm (st' := [.int (sigN (g) (kn (ka (t)) / 2 ^ 20))]) (k1 := 0) (k2 := 0) rfl rfl rfl ?_
          refine gw_istore dX11_turnByQuarters_57 (by decide) rfl ?_
          refine gw_iload dX11_turnByQuarters_59 rfl ?_
          refine gw_if_ne (tgt := 78) dX11_turnByQuarters_61 (by decide) (fun c61 => ?_) (fun c61 => ?_)
          · have nf : ¬ fitN n g (kn (ka (t)) / 2 ^ 20) = true := fun e => c61 (s0.mpr e)
            refine gw_iload_n dX11_turnByQuarters_78 rfl ?_
            refine gw_iconst (v := nI (2)) dX11_turnByQuarters_79 (by decide) ?_
            refine gw_icmpN_ne (tgt := 98) dX11_turnByQuarters_80 (by decide) (by omega) (by omega) (fun c80 => ?_) (fun c80 => ?_)
            · refine gw_aload_n dX11_turnByQuarters_98 rfl ?_
              refine gw_get (C0 := RX11) (T := TX11) (N := 15) (ref := RX11) 0 rfl rfl inX11 4 (by decide) wd_178 (Or.inl rfl) rfl dX11_turnByQuarters_99 ?_
              refine gw_iload dX11_turnByQuarters_102 rfl ?_
              refine gw_iload_n dX11_turnByQuarters_104 rfl ?_
              refine gw_callS (As := [.int (ka (t)), .int (nI (g))]) (st := [.ref (ad 4)]) (c_withProduct l cy (ka (t)) (nI (g)) ([(ad 0, .inr (9, [.int (nI (n)), .ref (ad 1), .ref (ad 2), .ref (sa (3 * 0)), .ref (ad 4), .ref (ad 5), .ref (ad 6), .int (nI (ln)), va_rf (lo), .int (nx), .int (sd), .int (lb), .ref (ad 12), .int (nI (bb)), .int (lf)])), (ad 1, .inl (cy 3, 9, .inr (.inr (.inr (.inr (fun i => some (sa (3 * i)))))))), (ad 2, .inl (cy 3, 9, .inr (.inr (.inr (.inr (fun i => some (sa (3 * (9 + i))))))))), (ad 5, .inl (cy 4, 8, .inr (.inr (.inr (.inr (fun i => some (ta (2 * i)))))))), (ad 6, .inl (cy 2, 40, .inr (.inr (.inr (.inr (pg)))))), (ad 12, .inl (cy 0, 16, .inl (bo)))] ++ (x1 ++ T))) ok_X11_withProduct wd_371 rfl rfl dX11_turnByQuarters_105 (by decide) (by decide) (Nat.le_of_ble_eq_true rfl) (fun r105 w105 hp105 => ?_)
              obtain ⟨rfl, rfl⟩ := hp105
              refine gw_W.norm (st' := [.int ((ka (t)) ^^^ ((nI (g)) <<< (nI 20 &&& 31))), .ref (ad 4)]) (k1 := 0) (k2 := 0) rfl rfl rfl ?_
              refine gw_topi (y := tqK g (ka t)) (with_tq hn4.2 hg kok) ?_
              refine gw_iload_n dX11_turnByQuarters_108 rfl ?_
              refine gw_iconst (v := nI (1)) dX11_turnByQuarters_109 (by decide) ?_
              refine gw_icmpN_ne (tgt := 122) dX11_turnByQuarters_110 (by decide) (by omega) (by omega) (fun c110 => ?_) (fun c110 => ?_)
              · refine gw_lload dX11_turnByQuarters_122 rfl ?_
                refine gw_lneg dX11_turnByQuarters_124 ?_
                refine gw_iload dX11_turnByQuarters_125 rfl ?_
                refine gw_i2l dX11_turnByQuarters_127 rfl ?_
                refine gw_lmul dX11_turnByQuarters_128 ?_
                refine gw_topl (y := (-sgN n g (kn (ka (t)) / 2 ^ 20)).toInt64 * na t) (by rw [s1 nf]; exact q3_eq (sg_pm _ _ _)) ?_
                refine gw_callHN (As := [.int (tqK g (ka t)), .long ((-sgN n g (kn (ka (t)) / 2 ^ 20)).toInt64 * na t)]) (st := []) ((s_put l cy (ad 4) sa cs (sPuts [] (((cs 0).take t).map (tq n g q))) x1 (tqK g (ka t)) ((-sgN n g (kn (ka (t)) / 2 ^ 20)).toInt64 * na t) t2 (by
                  have q2 := sPuts_len [] (((cs 0).take t).map (tq n g q))
                  simp only [List.length_map, List.length_take, List.length_nil] at q2
                  omega)).frame (w2 := ([(ad 0, .inr (9, [.int (nI (n)), .ref (ad 1), .ref (ad 2), .ref (sa (3 * 0)), .ref (ad 4), .ref (ad 5), .ref (ad 6), .int (nI (ln)), va_rf (lo), .int (nx), .int (sd), .int (lb), .ref (ad 12), .int (nI (bb)), .int (lf)])), (ad 1, .inl (cy 3, 9, .inr (.inr (.inr (.inr (fun i => some (sa (3 * i)))))))), (ad 2, .inl (cy 3, 9, .inr (.inr (.inr (.inr (fun i => some (sa (3 * (9 + i))))))))), (ad 5, .inl (cy 4, 8, .inr (.inr (.inr (.inr (fun i => some (ta (2 * i)))))))), (ad 6, .inl (cy 2, 40, .inr (.inr (.inr (.inr (pg)))))), (ad 12, .inl (cy 0, 16, .inl (bo)))] ++ (x1 ++ T))) (f := ([(ad 0, .inr (9, [.int (nI (n)), .ref (ad 1), .ref (ad 2), .ref (sa (3 * 0)), .ref (ad 4), .ref (ad 5), .ref (ad 6), .int (nI (ln)), va_rf (lo), .int (nx), .int (sd), .int (lb), .ref (ad 12), .int (nI (bb)), .int (lf)])), (ad 1, .inl (cy 3, 9, .inr (.inr (.inr (.inr (fun i => some (sa (3 * i)))))))), (ad 2, .inl (cy 3, 9, .inr (.inr (.inr (.inr (fun i => some (sa (3 * (9 + i))))))))), (ad 5, .inl (cy 4, 8, .inr (.inr (.inr (.inr (fun i => some (ta (2 * i)))))))), (ad 6, .inl (cy 2, 40, .inr (.inr (.inr (.inr (pg)))))), (ad 12, .inl (cy 0, 16, .inl (bo)))] : va_W) ++ T) perm_x) ok_X4_put (((xsQ_has t2).left).right) rfl rfl (host := "SpinBench") (by decide +kernel) rfl rfl dX11_turnByQuarters_129 (by decide) (by decide) (Nat.le_of_ble_eq_true rfl) (fun r129 w129 hp129 => ?_)
                obtain ⟨x129, ⟨rfl, h129⟩, rfl⟩ := hp129
                refine gw_W.norm (st' := []) (k1 := 0) (k2 := 0) rfl rfl rfl ?_
                refine gw_W.perm (w' := ([(ad 0, .inr (9, [.int (nI (n)), .ref (ad 1), .ref (ad 2), .ref (sa (3 * 0)), .ref (ad 4), .ref (ad 5), .ref (ad 6), .int (nI (ln)), va_rf (lo), .int (nx), .int (sd), .int (lb), .ref (ad 12), .int (nI (bb)), .int (lf)])), (ad 1, .inl (cy 3, 9, .inr (.inr (.inr (.inr (fun i => some (sa (3 * i)))))))), (ad 2, .inl (cy 3, 9, .inr (.inr (.inr (.inr (fun i => some (sa (3 * (9 + i))))))))), (ad 5, .inl (cy 4, 8, .inr (.inr (.inr (.inr (fun i => some (ta (2 * i)))))))), (ad 6, .inl (cy 2, 40, .inr (.inr (.inr (.inr (pg)))))), (ad 12, .inl (cy 0, 16, .inl (bo)))] ++ (x129 ++ T))) perm_x.symm ?_
                refine gw_W.forget 4 ?_
                refine gw_W.forget 5 ?_
                refine gw_W.forget 7 ?_
                refine cut132 (x129) (by
                  rw [tk, List.map_append, List.map_cons, List.map_nil, sPuts_snoc]
                  first
                  | (rw [tq_c (x := (ka t, na t)) nf hq0 c80 c110]; exact h129)
                  | (rw [tq_d (x := (ka t, na t)) nf hq0 c80 c110]; exact h129))
              · refine gw_lload dX11_turnByQuarters_113 rfl ?_
                refine gw_iload dX11_turnByQuarters_115 rfl ?_
                refine gw_i2l dX11_turnByQuarters_117 rfl ?_
                refine gw_lmul dX11_turnByQuarters_118 ?_
                refine gw_topl (y := (sgN n g (kn (ka (t)) / 2 ^ 20)).toInt64 * na t) (by rw [s1 nf]; exact Int64.mul_comm _ _) ?_
                refine gw_goto (tgt := 129) dX11_turnByQuarters_119 (by decide) ?_
                refine gw_callHN (As := [.int (tqK g (ka t)), .long ((sgN n g (kn (ka (t)) / 2 ^ 20)).toInt64 * na t)]) (st := []) ((s_put l cy (ad 4) sa cs (sPuts [] (((cs 0).take t).map (tq n g q))) x1 (tqK g (ka t)) ((sgN n g (kn (ka (t)) / 2 ^ 20)).toInt64 * na t) t2 (by
                  have q2 := sPuts_len [] (((cs 0).take t).map (tq n g q))
                  simp only [List.length_map, List.length_take, List.length_nil] at q2
                  omega)).frame (w2 := ([(ad 0, .inr (9, [.int (nI (n)), .ref (ad 1), .ref (ad 2), .ref (sa (3 * 0)), .ref (ad 4), .ref (ad 5), .ref (ad 6), .int (nI (ln)), va_rf (lo), .int (nx), .int (sd), .int (lb), .ref (ad 12), .int (nI (bb)), .int (lf)])), (ad 1, .inl (cy 3, 9, .inr (.inr (.inr (.inr (fun i => some (sa (3 * i)))))))), (ad 2, .inl (cy 3, 9, .inr (.inr (.inr (.inr (fun i => some (sa (3 * (9 + i))))))))), (ad 5, .inl (cy 4, 8, .inr (.inr (.inr (.inr (fun i => some (ta (2 * i)))))))), (ad 6, .inl (cy 2, 40, .inr (.inr (.inr (.inr (pg)))))), (ad 12, .inl (cy 0, 16, .inl (bo)))] ++ (x1 ++ T))) (f := ([(ad 0, .inr (9, [.int (nI (n)), .ref (ad 1), .ref (ad 2), .ref (sa (3 * 0)), .ref (ad 4), .ref (ad 5), .ref (ad 6), .int (nI (ln)), va_rf (lo), .int (nx), .int (sd), .int (lb), .ref (ad 12), .int (nI (bb)), .int (lf)])), (ad 1, .inl (cy 3, 9, .inr (.inr (.inr (.inr (fun i => some (sa (3 * i)))))))), (ad 2, .inl (cy 3, 9, .inr (.inr (.inr (.inr (fun i => some (sa (3 * (9 + i))))))))), (ad 5, .inl (cy 4, 8, .inr (.inr (.inr (.inr (fun i => some (ta (2 * i)))))))), (ad 6, .inl (cy 2, 40, .inr (.inr (.inr (.inr (pg)))))), (ad 12, .inl (cy 0, 16, .inl (bo)))] : va_W) ++ T) perm_x) ok_X4_put (((xsQ_has t2).left).right) rfl rfl (host := "SpinBench") (by decide +kernel) rfl rfl dX11_turnByQuarters_129 (by decide) (by decide) (Nat.le_of_ble_eq_true rfl) (fun r129 w129 hp129 => ?_)
                obtain ⟨x129, ⟨rfl, h129⟩, rfl⟩ := hp129
                refine gw_W.norm (st' := []) (k1 := 0) (k2 := 0) rfl rfl rfl ?_
                refine gw_W.perm (w' := ([(ad 0, .inr (9, [.int (nI (n)), .ref (ad 1), .ref (ad 2), .ref (sa (3 * 0)), .ref (ad 4), .ref (ad 5), .ref (ad 6), .int (nI (ln)), va_rf (lo), .int (nx), .int (sd), .int (lb), .ref (ad 12), .int (nI (bb)), .int (lf)])), (ad 1, .inl (cy 3, 9, .inr (.inr (.inr (.inr (fun i => some (sa (3 * i)))))))), (ad 2, .inl (cy 3, 9, .inr (.inr (.inr (.inr (fun i => some (sa (3 * (9 + i))))))))), (ad 5, .inl (cy 4, 8, .inr (.inr (.inr (.inr (fun i => some (ta (2 * i)))))))), (ad 6, .inl (cy 2, 40, .inr (.inr (.inr (.inr (pg)))))), (ad 12, .inl (cy 0, 16, .inl (bo)))] ++ (x129 ++ T))) perm_x.symm ?_
                refine gw_W.forget 4 ?_
                refine gw_W.forget 5 ?_
                refine gw_W.forget 7 ?_
                refine cut132 (x129) (by
                  rw [tk, List.map_append, List.map_cons, List.map_nil, sPuts_snoc]
                  first
                  | (rw [tq_c (x := (ka t, na t)) nf hq0 c80 c110]; exact h129)
                  | (rw [tq_d (x := (ka t, na t)) nf hq0 c80 c110]; exact h129))
            · refine gw_aload_n dX11_turnByQuarters_83 rfl ?_
              refine gw_get (C0 := RX11) (T := TX11) (N := 15) (ref := RX11) 0 rfl rfl inX11 4 (by decide) wd_178 (Or.inl rfl) rfl dX11_turnByQuarters_84 ?_
              refine gw_iload dX11_turnByQuarters_87 rfl ?_
              refine gw_lload dX11_turnByQuarters_89 rfl ?_
              refine gw_lneg dX11_turnByQuarters_91 ?_
              refine gw_callHN (As := [.int (ka (t)), .long (-(na (t)))]) (st := []) ((s_put l cy (ad 4) sa cs (sPuts [] (((cs 0).take t).map (tq n g q))) x1 (ka (t)) (-(na (t))) t2 (by
                have q2 := sPuts_len [] (((cs 0).take t).map (tq n g q))
                simp only [List.length_map, List.length_take, List.length_nil] at q2
                omega)).frame (w2 := ([(ad 0, .inr (9, [.int (nI (n)), .ref (ad 1), .ref (ad 2), .ref (sa (3 * 0)), .ref (ad 4), .ref (ad 5), .ref (ad 6), .int (nI (ln)), va_rf (lo), .int (nx), .int (sd), .int (lb), .ref (ad 12), .int (nI (bb)), .int (lf)])), (ad 1, .inl (cy 3, 9, .inr (.inr (.inr (.inr (fun i => some (sa (3 * i)))))))), (ad 2, .inl (cy 3, 9, .inr (.inr (.inr (.inr (fun i => some (sa (3 * (9 + i))))))))), (ad 5, .inl (cy 4, 8, .inr (.inr (.inr (.inr (fun i => some (ta (2 * i)))))))), (ad 6, .inl (cy 2, 40, .inr (.inr (.inr (.inr (pg)))))), (ad 12, .inl (cy 0, 16, .inl (bo)))] ++ (x1 ++ T))) (f := ([(ad 0, .inr (9, [.int (nI (n)), .ref (ad 1), .ref (ad 2), .ref (sa (3 * 0)), .ref (ad 4), .ref (ad 5), .ref (ad 6), .int (nI (ln)), va_rf (lo), .int (nx), .int (sd), .int (lb), .ref (ad 12), .int (nI (bb)), .int (lf)])), (ad 1, .inl (cy 3, 9, .inr (.inr (.inr (.inr (fun i => some (sa (3 * i)))))))), (ad 2, .inl (cy 3, 9, .inr (.inr (.inr (.inr (fun i => some (sa (3 * (9 + i))))))))), (ad 5, .inl (cy 4, 8, .inr (.inr (.inr (.inr (fun i => some (ta (2 * i)))))))), (ad 6, .inl (cy 2, 40, .inr (.inr (.inr (.inr (pg)))))), (ad 12, .inl (cy 0, 16, .inl (bo)))] : va_W) ++ T) perm_x) ok_X4_put (((xsQ_has t2).left).right) rfl rfl (host := "SpinBench") (by decide +kernel) rfl rfl dX11_turnByQuarters_92 (by decide) (by decide) (Nat.le_of_ble_eq_true rfl) (fun r92 w92 hp92 => ?_)
              obtain ⟨x92, ⟨rfl, h92⟩, rfl⟩ := hp92
              refine gw_W.norm (st' := []) (k1 := 0) (k2 := 0) rfl rfl rfl ?_
              refine gw_W.perm (w' := ([(ad 0, .inr (9, [.int (nI (n)), .ref (ad 1), .ref (ad 2), .ref (sa (3 * 0)), .ref (ad 4), .ref (ad 5), .ref (ad 6), .int (nI (ln)), va_rf (lo), .int (nx), .int (sd), .int (lb), .ref (ad 12), .int (nI (bb)), .int (lf)])), (ad 1, .inl (cy 3, 9, .inr (.inr (.inr (.inr (fun i => some (sa (3 * i)))))))), (ad 2, .inl (cy 3, 9, .inr (.inr (.inr (.inr (fun i => some (sa (3 * (9 + i))))))))), (ad 5, .inl (cy 4, 8, .inr (.inr (.inr (.inr (fun i => some (ta (2 * i)))))))), (ad 6, .inl (cy 2, 40, .inr (.inr (.inr (.inr (pg)))))), (ad 12, .inl (cy 0, 16, .inl (bo)))] ++ (x92 ++ T))) perm_x.symm ?_
              refine gw_goto (tgt := 132) dX11_turnByQuarters_95 (by decide) ?_
              refine gw_W.forget 4 ?_
              refine gw_W.forget 5 ?_
              refine gw_W.forget 7 ?_
              refine cut132 (x92) (by rw [tk, List.map_append, List.map_cons, List.map_nil, sPuts_snoc, tq_b (x := (ka t, na t)) nf hq0 c80]; exact h92)
          · have ft : fitN n g (kn (ka (t)) / 2 ^ 20) = true := s0.mp c61
            refine gw_aload_n dX11_turnByQuarters_64 rfl ?_
            refine gw_get (C0 := RX11) (T := TX11) (N := 15) (ref := RX11) 0 rfl rfl inX11 4 (by decide) wd_178 (Or.inl rfl) rfl dX11_turnByQuarters_65 ?_
            refine gw_iload dX11_turnByQuarters_68 rfl ?_
            refine gw_lload dX11_turnByQuarters_70 rfl ?_
            refine gw_callHN (As := [.int (ka (t)), .long (na (t))]) (st := []) ((s_put l cy (ad 4) sa cs (sPuts [] (((cs 0).take t).map (tq n g q))) x1 (ka (t)) (na (t)) t2 (by
              have q2 := sPuts_len [] (((cs 0).take t).map (tq n g q))
              simp only [List.length_map, List.length_take, List.length_nil] at q2
              omega)).frame (w2 := ([(ad 0, .inr (9, [.int (nI (n)), .ref (ad 1), .ref (ad 2), .ref (sa (3 * 0)), .ref (ad 4), .ref (ad 5), .ref (ad 6), .int (nI (ln)), va_rf (lo), .int (nx), .int (sd), .int (lb), .ref (ad 12), .int (nI (bb)), .int (lf)])), (ad 1, .inl (cy 3, 9, .inr (.inr (.inr (.inr (fun i => some (sa (3 * i)))))))), (ad 2, .inl (cy 3, 9, .inr (.inr (.inr (.inr (fun i => some (sa (3 * (9 + i))))))))), (ad 5, .inl (cy 4, 8, .inr (.inr (.inr (.inr (fun i => some (ta (2 * i)))))))), (ad 6, .inl (cy 2, 40, .inr (.inr (.inr (.inr (pg)))))), (ad 12, .inl (cy 0, 16, .inl (bo)))] ++ (x1 ++ T))) (f := ([(ad 0, .inr (9, [.int (nI (n)), .ref (ad 1), .ref (ad 2), .ref (sa (3 * 0)), .ref (ad 4), .ref (ad 5), .ref (ad 6), .int (nI (ln)), va_rf (lo), .int (nx), .int (sd), .int (lb), .ref (ad 12), .int (nI (bb)), .int (lf)])), (ad 1, .inl (cy 3, 9, .inr (.inr (.inr (.inr (fun i => some (sa (3 * i)))))))), (ad 2, .inl (cy 3, 9, .inr (.inr (.inr (.inr (fun i => some (sa (3 * (9 + i))))))))), (ad 5, .inl (cy 4, 8, .inr (.inr (.inr (.inr (fun i => some (ta (2 * i)))))))), (ad 6, .inl (cy 2, 40, .inr (.inr (.inr (.inr (pg)))))), (ad 12, .inl (cy 0, 16, .inl (bo)))] : va_W) ++ T) perm_x) ok_X4_put (((xsQ_has t2).left).right) rfl rfl (host := "SpinBench") (by decide +kernel) rfl rfl dX11_turnByQuarters_72 (by decide) (by decide) (Nat.le_of_ble_eq_true rfl) (fun r72 w72 hp72 => ?_)
            obtain ⟨x72, ⟨rfl, h72⟩, rfl⟩ := hp72
            refine gw_W.norm (st' := []) (k1 := 0) (k2 := 0) rfl rfl rfl ?_
            refine gw_W.perm (w' := ([(ad 0, .inr (9, [.int (nI (n)), .ref (ad 1), .ref (ad 2), .ref (sa (3 * 0)), .ref (ad 4), .ref (ad 5), .ref (ad 6), .int (nI (ln)), va_rf (lo), .int (nx), .int (sd), .int (lb), .ref (ad 12), .int (nI (bb)), .int (lf)])), (ad 1, .inl (cy 3, 9, .inr (.inr (.inr (.inr (fun i => some (sa (3 * i)))))))), (ad 2, .inl (cy 3, 9, .inr (.inr (.inr (.inr (fun i => some (sa (3 * (9 + i))))))))), (ad 5, .inl (cy 4, 8, .inr (.inr (.inr (.inr (fun i => some (ta (2 * i)))))))), (ad 6, .inl (cy 2, 40, .inr (.inr (.inr (.inr (pg)))))), (ad 12, .inl (cy 0, 16, .inl (bo)))] ++ (x72 ++ T))) perm_x.symm ?_
            refine gw_goto (tgt := 132) dX11_turnByQuarters_75 (by decide) ?_
            refine gw_W.forget 4 ?_
            refine gw_W.forget 5 ?_
            refine gw_W.forget 7 ?_
            refine cut132 (x72) (by rw [tk, List.map_append, List.map_cons, List.map_nil, sPuts_snoc, tq_a (x := (ka t, na t)) (Or.inl ft)]; exact h72)
    refine cut15 _ (0) (x10) (Nat.zero_le _) h10 (Nat.lt_succ_self _)
  · refine gw_iconst (v := nI (1)) dX11_turnByQuarters_4 (by decide) ?_
    refine gw_W.wd (w' := bW cy ad sa ta n ln bb nx sd lb lf lo pg bo ++ (xs ++ T)) rfl ?_
    refine gw_zret (?_) (by decide) (by decide) rfl (by decide) dX11_turnByQuarters_5
    subst hpost
    have e0 : va_up cs 0 (qS n g q (cs 0)) = cs := by rw [c1, qS_0 hS, va_up_id]
    exact ⟨rfl, xs, by rw [e0]; exact hxs, rfl⟩
