/-! the class: power, same, digest, take, join, add, product -/
theorem powv {v : Nat} (hv : v < 8) : (nI v &&& nI 1 = 0 ↔ v % 2 = 0) ∧ nI v >>> (nI 1 &&& 31) = nI (v / 2) := by
  rcases (show v = 0 ∨ v = 1 ∨ v = 2 ∨ v = 3 ∨ v = 4 ∨ v = 5 ∨ v = 6 ∨ v = 7 by omega) with rfl | rfl | rfl | rfl | rfl | rfl | rfl | rfl <;> decide
theorem powS_n {k : Int32} {v : Nat} (hv : v < 8) : powS k (nI v) = if v % 2 = 0 then mCos k (nI (v / 2)) else mSin k (nI (v / 2)) := by
  have h : (nI v).toInt = v := nI_toInt (by omega)
  unfold powS tI
  rw [h, if_neg (by omega)]; rfl
abbrev kX11_powerOf : gw_K := (yX11_powerOf, cX11_powerOf, 2, { frames := 1, cells := 0, slots := 0, locals := 21 }, (some .int))
theorem ok_X11_powerOf : gw_calS kX11_powerOf 2 := ⟨⟨wd_412, wd_57, by decide, by decide, by decide +kernel⟩, wd_411⟩
set_option maxHeartbeats 4000000 in
set_option maxRecDepth 100000 in
theorem c_powerOf (l : Launch) (cy : Nat → ClassId) (k : Int32) (v : Nat) (hv : v < 8) (w : va_W) : gw_M l kX11_powerOf cy [.int (k), .int (nI (v))] w (fun r w' => r = some (.int (powS k (nI v))) ∧ w' = w) := by
  refine gw_M.mk (lv := [some (.int (k)), some (.int (nI (v)))]) (by decide) (Nat.le_of_ble_eq_true rfl) rfl ?_
  generalize hpost : (fun r w' => r = some (.int (powS k (nI v))) ∧ w' = w : gw_Q) = post
  refine gw_iload_n dX11_powerOf_0 rfl ?_
  refine gw_iconst (v := nI (1)) dX11_powerOf_1 (by decide) ?_
  refine gw_iand dX11_powerOf_2 ?_
  refine gw_if_ne (tgt := 16) dX11_powerOf_3 (by decide) (fun c3 => ?_) (fun c3 => ?_)
  · rw [(powv hv).1] at c3
    refine gw_iload_n dX11_powerOf_16 rfl ?_
    refine gw_iload_n dX11_powerOf_17 rfl ?_
    refine gw_iconst (v := nI (1)) dX11_powerOf_18 (by decide) ?_
    refine gw_ishr dX11_powerOf_19 ?_
    refine gw_topi (y := nI (v / 2)) ((powv hv).2) ?_
    refine gw_callS (As := [.int (k), .int (nI (v / 2))]) (st := []) (c_sinesOf l cy (k) (v / 2) (by omega) w) ok_X11_sinesOf wd_414 rfl rfl dX11_powerOf_20 (by decide) (by decide) (Nat.le_of_ble_eq_true rfl) (fun r20 w20 hp20 => ?_)
    obtain ⟨rfl, hw20⟩ := hp20
    rw [hw20]
    clear hw20 w20
    refine gw_W.norm (st' := [.int (mSin (k) (nI (v / 2)))]) (k1 := 0) (k2 := 0) rfl rfl rfl ?_
    refine gw_iret (?_) (by decide) (by decide) rfl dX11_powerOf_23
    subst hpost
    rw [powS_n hv]
    first
      | (rw [if_pos c3]; exact ⟨rfl, rfl⟩)
      | (rw [if_neg c3]; exact ⟨rfl, rfl⟩)
  · rw [(powv hv).1] at c3
    refine gw_iload_n dX11_powerOf_6 rfl ?_
    refine gw_iload_n dX11_powerOf_7 rfl ?_
    refine gw_iconst (v := nI (1)) dX11_powerOf_8 (by decide) ?_
    refine gw_ishr dX11_powerOf_9 ?_
    refine gw_topi (y := nI (v / 2)) ((powv hv).2) ?_
    refine gw_callS (As := [.int (k), .int (nI (v / 2))]) (st := []) (c_cosinesOf l cy (k) (v / 2) (by omega) w) ok_X11_cosinesOf wd_413 rfl rfl dX11_powerOf_10 (by decide) (by decide) (Nat.le_of_ble_eq_true rfl) (fun r10 w10 hp10 => ?_)
    obtain ⟨rfl, hw10⟩ := hp10
    rw [hw10]
    clear hw10 w10
    refine gw_W.norm (st' := [.int (mCos (k) (nI (v / 2)))]) (k1 := 0) (k2 := 0) rfl rfl rfl ?_
    refine gw_goto (tgt := 23) dX11_powerOf_13 (by decide) ?_
    refine gw_iret (?_) (by decide) (by decide) rfl dX11_powerOf_23
    subst hpost
    rw [powS_n hv]
    first
      | (rw [if_pos c3]; exact ⟨rfl, rfl⟩)
      | (rw [if_neg c3]; exact ⟨rfl, rfl⟩)
abbrev kX11_power : gw_K := (yX11_power, cX11_power, 5, { frames := 2, cells := 0, slots := 0, locals := 43 }, (some .int))
theorem ok_X11_power : gw_calV kX11_power 3 := ⟨⟨wd_409, wd_57, by decide, by decide, by decide +kernel⟩, wd_407, wd_408⟩
set_option maxHeartbeats 4000000 in
set_option maxRecDepth 100000 in
theorem t_cpower (l : Launch) (cy : Nat → ClassId) (b : Nat) (σ : aS) (w : va_W) (hI : cInv cy b σ w) (s t v : Int32) : gw_M l kX11_power cy [.ref (b), .int (s), .int (t), .int (v)] (w) (cPost cy b (spPower σ s t v)) := by
  obtain ⟨ad, sa, ta, oa, nx, lo, pg, bo, cs, xs, tb, op, td, rfl, hw, hxs, hcs, htb, hop, hN, hbo⟩ := hI
  have hn4 : 1 ≤ σ.1 ∧ σ.1 ≤ 4 := ⟨hN.1, hN.2.1⟩
  refine gw_M.pm hw ?_
  refine gw_M.mk (lv := [some (.ref (ad 0)), some (.int (s)), some (.int (t)), some (.int (v)), none]) (by decide) (Nat.le_of_ble_eq_true rfl) rfl ?_
  generalize hpost : (cPost cy (ad 0) (spPower σ s t v) : gw_Q) = post
  refine gw_W.wd (w' := ([(ad 0, .inr (9, [.int (nI (σ.1)), .ref (ad 1), .ref (ad 2), .ref (sa (3 * 0)), .ref (ad 4), .ref (ad 5), .ref (ad 6), .int (nI ((sOp σ).length)), va_rf (lo), .int (nx), .int (σ.2.2.2.2.2.2.1), .int (σ.2.2.2.2.2.2.2), .ref (ad 12), .int (nI ((sTr σ).length)), .int (σ.2.2.2.2.1)])), (ad 1, .inl (cy 3, 9, .inr (.inr (.inr (.inr (fun i => some (sa (3 * i)))))))), (ad 2, .inl (cy 3, 9, .inr (.inr (.inr (.inr (fun i => some (sa (3 * (9 + i))))))))), (ad 5, .inl (cy 4, 8, .inr (.inr (.inr (.inr (fun i => some (ta (2 * i)))))))), (ad 6, .inl (cy 2, 40, .inr (.inr (.inr (.inr (pg)))))), (ad 12, .inl (cy 0, 16, .inl (bo)))] ++ (xs ++ (tb ++ op)))) rfl ?_
  refine gw_aload_n dX11_power_0 rfl ?_
  refine gw_iload_n dX11_power_1 rfl ?_
  refine gw_W.wd (w' := bW cy ad sa ta (σ.1) ((sOp σ).length) ((sTr σ).length) nx (σ.2.2.2.2.2.2.1) (σ.2.2.2.2.2.2.2) (σ.2.2.2.2.1) lo pg bo ++ (xs ++ (tb ++ op))) rfl ?_
  refine gw_callV 0 (As := [.int (s)]) (st := []) (c_bsumAt l cy ad sa ta (σ.1) ((sOp σ).length) ((sTr σ).length) nx (σ.2.2.2.2.2.2.1) (σ.2.2.2.2.2.2.2) (σ.2.2.2.2.1) lo pg bo (xs ++ (tb ++ op)) (s)) ok_X11_sumAt rfl rfl rfl wd_277 rfl rfl dX11_power_2 (by decide) (by decide) (Nat.le_of_ble_eq_true rfl) (fun r2 w2 hp2 => ?_)
  obtain ⟨rfl, rfl⟩ := hp2
  by_cases h2 : inZ (s).toInt (-1) 7 = true
  · rw [if_pos h2]
    refine gw_W.norm (st' := [.ref (sa (3 * cP (s)))]) (k1 := 0) (k2 := 0) rfl rfl rfl ?_
    refine gw_W.wd (w' := ([(ad 0, .inr (9, [.int (nI (σ.1)), .ref (ad 1), .ref (ad 2), .ref (sa (3 * 0)), .ref (ad 4), .ref (ad 5), .ref (ad 6), .int (nI ((sOp σ).length)), va_rf (lo), .int (nx), .int (σ.2.2.2.2.2.2.1), .int (σ.2.2.2.2.2.2.2), .ref (ad 12), .int (nI ((sTr σ).length)), .int (σ.2.2.2.2.1)])), (ad 1, .inl (cy 3, 9, .inr (.inr (.inr (.inr (fun i => some (sa (3 * i)))))))), (ad 2, .inl (cy 3, 9, .inr (.inr (.inr (.inr (fun i => some (sa (3 * (9 + i))))))))), (ad 5, .inl (cy 4, 8, .inr (.inr (.inr (.inr (fun i => some (ta (2 * i)))))))), (ad 6, .inl (cy 2, 40, .inr (.inr (.inr (.inr (pg)))))), (ad 12, .inl (cy 0, 16, .inl (bo)))] ++ (xs ++ (tb ++ op)))) rfl ?_
    refine gw_astore dX11_power_5 (by decide) rfl ?_
    obtain ⟨ka, na, u1, u2, u3, u4, u5⟩ := xsP_mem hxs (i := cP (s)) (by have := (cP_i h2).2.2; omega)
    refine gw_aload dX11_power_7 rfl ?_
    refine gw_ifnull dX11_power_9 ?_
    refine gw_iload_n dX11_power_12 rfl ?_
    refine gw_iconst (v := nI (0)) dX11_power_13 (by decide) ?_
    refine gw_aload dX11_power_14 rfl ?_
    refine gw_getMN (C0 := RX9) (T := TX9) (N := 3) (ref := RX9) (List.mem_append_right _ (List.mem_append_left _ u1)) rfl inX9 2 (by decide) (host := "SpinBench") (by decide +kernel) (Or.inl rfl) rfl dX11_power_16 ?_
    refine gw_iconst (v := nI (1)) dX11_power_19 (by decide) ?_
    refine gw_isub dX11_power_20 ?_
    refine gw_callS (As := [.int (t), .int (nI (0)), .int ((nI ((cs (cP (s))).length)) - (nI (1)))]) (st := []) (c_within l cy (t) (nI (0)) ((nI ((cs (cP (s))).length)) - (nI (1))) ([(ad 0, .inr (9, [.int (nI (σ.1)), .ref (ad 1), .ref (ad 2), .ref (sa (3 * 0)), .ref (ad 4), .ref (ad 5), .ref (ad 6), .int (nI ((sOp σ).length)), va_rf (lo), .int (nx), .int (σ.2.2.2.2.2.2.1), .int (σ.2.2.2.2.2.2.2), .ref (ad 12), .int (nI ((sTr σ).length)), .int (σ.2.2.2.2.1)])), (ad 1, .inl (cy 3, 9, .inr (.inr (.inr (.inr (fun i => some (sa (3 * i)))))))), (ad 2, .inl (cy 3, 9, .inr (.inr (.inr (.inr (fun i => some (sa (3 * (9 + i))))))))), (ad 5, .inl (cy 4, 8, .inr (.inr (.inr (.inr (fun i => some (ta (2 * i)))))))), (ad 6, .inl (cy 2, 40, .inr (.inr (.inr (.inr (pg)))))), (ad 12, .inl (cy 0, 16, .inl (bo)))] ++ (xs ++ (tb ++ op)))) ok_X11_within wd_230 rfl rfl dX11_power_21 (by decide) (by decide) (Nat.le_of_ble_eq_true rfl) (fun r21 w21 hp21 => ?_)
    obtain ⟨rfl, rfl⟩ := hp21
    refine gw_W.norm (st' := [.int (bI (inZ (t).toInt (nI (0)).toInt ((nI ((cs (cP (s))).length)) - (nI (1))).toInt))]) (k1 := 0) (k2 := 0) rfl rfl rfl ?_
    refine gw_if_eq (tgt := 37) dX11_power_24 (by decide) (fun c24 => ?_) (fun c24 => ?_)
    · obtain ⟨z1, z2, z3⟩ := csS_at hcs h2
      rw [bI_0, i32_sub1 _ (by omega)] at c24
      rw [z1] at c24 u4 u5
      have ct : inZ t.toInt 0 (((sSm σ (mPl s)).length : Int) - 1) = false := c24
      refine gw_ldc dX11_power_37 wd_233 ?_
      refine gw_W.wd (w' := bW cy ad sa ta (σ.1) ((sOp σ).length) ((sTr σ).length) nx (σ.2.2.2.2.2.2.1) (σ.2.2.2.2.2.2.2) (σ.2.2.2.2.1) lo pg bo ++ (xs ++ (tb ++ op))) rfl ?_
      refine gw_iret (?_) (by decide) (by decide) rfl dX11_power_39
      subst hpost
      unfold spPower
      rw [if_neg (fun h => by first | exact cTm_f1 h2 h.1 | exact cTm_f2 ct h.1 | exact absurd h.2 (by rw [cv]; decide))]
      exact ⟨rfl, ad, sa, ta, oa, nx, lo, pg, bo, cs, xs, tb, op, td, rfl, List.Perm.refl _, hxs, hcs, htb, hop, hN, hbo⟩
    · obtain ⟨z1, z2, z3⟩ := csS_at hcs h2
      rw [bI_n0, i32_sub1 _ (by omega)] at c24
      rw [z1] at c24 u4 u5
      have ct : inZ t.toInt 0 (((sSm σ (mPl s)).length : Int) - 1) = true := c24
      have t9 : tI t < (sSm σ (mPl s)).length := by rw [inZ_t] at ct; unfold tI; omega
      have gs := get_S u5 t9
      refine gw_iload_n dX11_power_27 rfl ?_
      refine gw_iconst (v := (-1 : Int32)) dX11_power_28 (by decide) ?_
      refine gw_bipush (v := nI (7)) dX11_power_29 (by decide) ?_
      refine gw_callS (As := [.int (v), .int ((-1 : Int32)), .int (nI (7))]) (st := []) (c_within l cy (v) ((-1 : Int32)) (nI (7)) ([(ad 0, .inr (9, [.int (nI (σ.1)), .ref (ad 1), .ref (ad 2), .ref (sa (3 * 0)), .ref (ad 4), .ref (ad 5), .ref (ad 6), .int (nI ((sOp σ).length)), va_rf (lo), .int (nx), .int (σ.2.2.2.2.2.2.1), .int (σ.2.2.2.2.2.2.2), .ref (ad 12), .int (nI ((sTr σ).length)), .int (σ.2.2.2.2.1)])), (ad 1, .inl (cy 3, 9, .inr (.inr (.inr (.inr (fun i => some (sa (3 * i)))))))), (ad 2, .inl (cy 3, 9, .inr (.inr (.inr (.inr (fun i => some (sa (3 * (9 + i))))))))), (ad 5, .inl (cy 4, 8, .inr (.inr (.inr (.inr (fun i => some (ta (2 * i)))))))), (ad 6, .inl (cy 2, 40, .inr (.inr (.inr (.inr (pg)))))), (ad 12, .inl (cy 0, 16, .inl (bo)))] ++ (xs ++ (tb ++ op)))) ok_X11_within wd_230 rfl rfl dX11_power_31 (by decide) (by decide) (Nat.le_of_ble_eq_true rfl) (fun r31 w31 hp31 => ?_)
      obtain ⟨rfl, rfl⟩ := hp31
      refine gw_W.norm (st' := [.int (bI (inZ (v).toInt ((-1 : Int32)).toInt (nI (7)).toInt))]) (k1 := 0) (k2 := 0) rfl rfl rfl ?_
      refine gw_if_ne (tgt := 40) dX11_power_34 (by decide) (fun c34 => ?_) (fun c34 => ?_)
      · rw [bI_n0] at c34
        have cv : inZ v.toInt (-1) 7 = true := c34
        refine gw_iload_n dX11_power_40 rfl ?_
        refine gw_if_ge (tgt := 57) dX11_power_41 (by decide) (fun c41 => ?_) (fun c41 => ?_)
        · rw [i32_le] at c41
          have d41 : 0 ≤ v.toInt := c41
          have v9 : v = nI (tI v) := tI_of d41
          have v8 : tI v < 8 := by rw [inZ_t] at cv; unfold tI; omega
          refine gw_aload dX11_power_57 rfl ?_
          refine gw_getMN (C0 := RX9) (T := TX9) (N := 3) (ref := RX9) (List.mem_append_right _ (List.mem_append_left _ u1)) rfl inX9 0 (by decide) (host := "SpinBench") (by decide +kernel) (Or.inl rfl) rfl dX11_power_59 ?_
          refine gw_iload_n dX11_power_62 rfl ?_
          refine gw_ialdM (List.mem_append_right _ (List.mem_append_left _ u2)) (tI_eq ct) (by omega) (by decide) dX11_power_63 ?_
          refine gw_iload_n dX11_power_64 rfl ?_
          refine gw_topi (y := nI (tI v)) (v9) ?_
          refine gw_callS (As := [.int (ka (tI t)), .int (nI (tI v))]) (st := []) (c_powerOf l cy (ka (tI t)) (tI v) (v8) ([(ad 0, .inr (9, [.int (nI (σ.1)), .ref (ad 1), .ref (ad 2), .ref (sa (3 * 0)), .ref (ad 4), .ref (ad 5), .ref (ad 6), .int (nI ((sOp σ).length)), va_rf (lo), .int (nx), .int (σ.2.2.2.2.2.2.1), .int (σ.2.2.2.2.2.2.2), .ref (ad 12), .int (nI ((sTr σ).length)), .int (σ.2.2.2.2.1)])), (ad 1, .inl (cy 3, 9, .inr (.inr (.inr (.inr (fun i => some (sa (3 * i)))))))), (ad 2, .inl (cy 3, 9, .inr (.inr (.inr (.inr (fun i => some (sa (3 * (9 + i))))))))), (ad 5, .inl (cy 4, 8, .inr (.inr (.inr (.inr (fun i => some (ta (2 * i)))))))), (ad 6, .inl (cy 2, 40, .inr (.inr (.inr (.inr (pg)))))), (ad 12, .inl (cy 0, 16, .inl (bo)))] ++ (xs ++ (tb ++ op)))) ok_X11_powerOf wd_410 rfl rfl dX11_power_65 (by decide) (by decide) (Nat.le_of_ble_eq_true rfl) (fun r65 w65 hp65 => ?_)
          obtain ⟨rfl, rfl⟩ := hp65
          refine gw_W.norm (st' := [.int (powS (ka (tI t)) (nI (tI v)))]) (k1 := 0) (k2 := 0) rfl rfl rfl ?_
          refine gw_W.wd (w' := bW cy ad sa ta (σ.1) ((sOp σ).length) ((sTr σ).length) nx (σ.2.2.2.2.2.2.1) (σ.2.2.2.2.2.2.2) (σ.2.2.2.2.1) lo pg bo ++ (xs ++ (tb ++ op))) rfl ?_
          refine gw_iret (?_) (by decide) (by decide) rfl dX11_power_68
          subst hpost
          unfold spPower
          rw [if_pos ⟨cTm_t h2 ct, cv⟩, gs]
          first
            | (rw [show powS (ka (tI t), na (tI t)).1 v = uProd (ka (tI t)) by unfold powS; rw [if_pos (by omega)]; exact (uP_m hn4.2 ok).symm]; exact ⟨rfl, ad, sa, ta, oa, nx, lo, pg, bo, cs, xs, tb, op, td, rfl, List.Perm.refl _, hxs, hcs, htb, hop, hN, hbo⟩)
            | (rw [← v9]; exact ⟨rfl, ad, sa, ta, oa, nx, lo, pg, bo, cs, xs, tb, op, td, rfl, List.Perm.refl _, hxs, hcs, htb, hop, hN, hbo⟩)
        · rw [i32_le] at c41
          have d41 : ¬ 0 ≤ v.toInt := c41
          have ok := (z2.2.2 _ (show (ka (tI t), na (tI t)) ∈ sSm σ (mPl s) by rw [← u5]; exact takeS_mem.mpr ⟨tI t, t9, by rw [Nat.zero_add]⟩)).2.2
          refine gw_aload dX11_power_44 rfl ?_
          refine gw_getMN (C0 := RX9) (T := TX9) (N := 3) (ref := RX9) (List.mem_append_right _ (List.mem_append_left _ u1)) rfl inX9 0 (by decide) (host := "SpinBench") (by decide +kernel) (Or.inl rfl) rfl dX11_power_46 ?_
          refine gw_iload_n dX11_power_49 rfl ?_
          refine gw_ialdM (List.mem_append_right _ (List.mem_append_left _ u2)) (tI_eq ct) (by omega) (by decide) dX11_power_50 ?_
          refine gw_callS (As := [.int (ka (tI t))]) (st := []) (c_productOf l cy (ka (tI t)) ([(ad 0, .inr (9, [.int (nI (σ.1)), .ref (ad 1), .ref (ad 2), .ref (sa (3 * 0)), .ref (ad 4), .ref (ad 5), .ref (ad 6), .int (nI ((sOp σ).length)), va_rf (lo), .int (nx), .int (σ.2.2.2.2.2.2.1), .int (σ.2.2.2.2.2.2.2), .ref (ad 12), .int (nI ((sTr σ).length)), .int (σ.2.2.2.2.1)])), (ad 1, .inl (cy 3, 9, .inr (.inr (.inr (.inr (fun i => some (sa (3 * i)))))))), (ad 2, .inl (cy 3, 9, .inr (.inr (.inr (.inr (fun i => some (sa (3 * (9 + i))))))))), (ad 5, .inl (cy 4, 8, .inr (.inr (.inr (.inr (fun i => some (ta (2 * i)))))))), (ad 6, .inl (cy 2, 40, .inr (.inr (.inr (.inr (pg)))))), (ad 12, .inl (cy 0, 16, .inl (bo)))] ++ (xs ++ (tb ++ op)))) ok_X11_productOf wd_365 rfl rfl dX11_power_51 (by decide) (by decide) (Nat.le_of_ble_eq_true rfl) (fun r51 w51 hp51 => ?_)
          obtain ⟨rfl, rfl⟩ := hp51
          refine gw_W.norm (st' := [.int (uProd (ka (tI t)))]) (k1 := 0) (k2 := 0) rfl rfl rfl ?_
          refine gw_goto (tgt := 68) dX11_power_54 (by decide) ?_
          refine gw_W.wd (w' := bW cy ad sa ta (σ.1) ((sOp σ).length) ((sTr σ).length) nx (σ.2.2.2.2.2.2.1) (σ.2.2.2.2.2.2.2) (σ.2.2.2.2.1) lo pg bo ++ (xs ++ (tb ++ op))) rfl ?_
          refine gw_iret (?_) (by decide) (by decide) rfl dX11_power_68
          subst hpost
          unfold spPower
          rw [if_pos ⟨cTm_t h2 ct, cv⟩, gs]
          first
            | (rw [show powS (ka (tI t), na (tI t)).1 v = uProd (ka (tI t)) by unfold powS; rw [if_pos (by omega)]; exact (uP_m hn4.2 ok).symm]; exact ⟨rfl, ad, sa, ta, oa, nx, lo, pg, bo, cs, xs, tb, op, td, rfl, List.Perm.refl _, hxs, hcs, htb, hop, hN, hbo⟩)
            | (rw [← v9]; exact ⟨rfl, ad, sa, ta, oa, nx, lo, pg, bo, cs, xs, tb, op, td, rfl, List.Perm.refl _, hxs, hcs, htb, hop, hN, hbo⟩)
      · rw [bI_0] at c34
        have cv : inZ v.toInt (-1) 7 = false := c34
        refine gw_ldc dX11_power_37 wd_233 ?_
        refine gw_W.wd (w' := bW cy ad sa ta (σ.1) ((sOp σ).length) ((sTr σ).length) nx (σ.2.2.2.2.2.2.1) (σ.2.2.2.2.2.2.2) (σ.2.2.2.2.1) lo pg bo ++ (xs ++ (tb ++ op))) rfl ?_
        refine gw_iret (?_) (by decide) (by decide) rfl dX11_power_39
        subst hpost
        unfold spPower
        rw [if_neg (fun h => by first | exact cTm_f1 h2 h.1 | exact cTm_f2 ct h.1 | exact absurd h.2 (by rw [cv]; decide))]
        exact ⟨rfl, ad, sa, ta, oa, nx, lo, pg, bo, cs, xs, tb, op, td, rfl, List.Perm.refl _, hxs, hcs, htb, hop, hN, hbo⟩
  · rw [if_neg h2]
    refine gw_W.norm (st' := [.null]) (k1 := 0) (k2 := 0) rfl rfl rfl ?_
    refine gw_W.wd (w' := ([(ad 0, .inr (9, [.int (nI (σ.1)), .ref (ad 1), .ref (ad 2), .ref (sa (3 * 0)), .ref (ad 4), .ref (ad 5), .ref (ad 6), .int (nI ((sOp σ).length)), va_rf (lo), .int (nx), .int (σ.2.2.2.2.2.2.1), .int (σ.2.2.2.2.2.2.2), .ref (ad 12), .int (nI ((sTr σ).length)), .int (σ.2.2.2.2.1)])), (ad 1, .inl (cy 3, 9, .inr (.inr (.inr (.inr (fun i => some (sa (3 * i)))))))), (ad 2, .inl (cy 3, 9, .inr (.inr (.inr (.inr (fun i => some (sa (3 * (9 + i))))))))), (ad 5, .inl (cy 4, 8, .inr (.inr (.inr (.inr (fun i => some (ta (2 * i)))))))), (ad 6, .inl (cy 2, 40, .inr (.inr (.inr (.inr (pg)))))), (ad 12, .inl (cy 0, 16, .inl (bo)))] ++ (xs ++ (tb ++ op)))) rfl ?_
    refine gw_astoreN dX11_power_5 (by decide) rfl ?_
    refine gw_aloadN dX11_power_7 rfl ?_
    refine gw_ifnullN (tgt := 37) dX11_power_9 (by decide) ?_
    refine gw_ldc dX11_power_37 wd_233 ?_
    refine gw_W.wd (w' := bW cy ad sa ta (σ.1) ((sOp σ).length) ((sTr σ).length) nx (σ.2.2.2.2.2.2.1) (σ.2.2.2.2.2.2.2) (σ.2.2.2.2.1) lo pg bo ++ (xs ++ (tb ++ op))) rfl ?_
    refine gw_iret (?_) (by decide) (by decide) rfl dX11_power_39
    subst hpost
    unfold spPower
    rw [if_neg (fun h => by first | exact cTm_f1 h2 h.1 | exact cTm_f2 ct h.1 | exact absurd h.2 (by rw [cv]; decide))]
    exact ⟨rfl, ad, sa, ta, oa, nx, lo, pg, bo, cs, xs, tb, op, td, rfl, List.Perm.refl _, hxs, hcs, htb, hop, hN, hbo⟩
theorem digP_c {h : Int64} {k : Int32} {v : Nat} : digP h k (v + 1) = 31 * digP h k v + (powS k (if v = 0 then -1 else nI (v - 1))).toInt64 := by
  rw [digP]
  by_cases e : v = 0
  · rw [if_pos e, e]; rfl
  · rw [if_neg e, pk_sub (by omega)]
abbrev kX11_digest : gw_K := (yX11_digest, cX11_digest, 7, { frames := 2, cells := 0, slots := 0, locals := 43 }, (some .long))
theorem ok_X11_digest : gw_calV kX11_digest 1 := ⟨⟨wd_454, wd_57, by decide, by decide, by decide +kernel⟩, wd_452, wd_453⟩
set_option maxHeartbeats 4000000 in
set_option maxRecDepth 100000 in
theorem t_cdigest (l : Launch) (cy : Nat → ClassId) (b : Nat) (σ : aS) (w : va_W) (hI : cInv cy b σ w) (s : Int32) : gw_M l kX11_digest cy [.ref (b), .int (s)] (w) (cPostL cy b (spDigest σ s)) := by
  obtain ⟨ad, sa, ta, oa, nx, lo, pg, bo, cs, xs, tb, op, td, rfl, hw, hxs, hcs, htb, hop, hN, hbo⟩ := hI
  have hn4 : 1 ≤ σ.1 ∧ σ.1 ≤ 4 := ⟨hN.1, hN.2.1⟩
  refine gw_M.pm hw ?_
  refine gw_M.mk (lv := [some (.ref (ad 0)), some (.int (s)), none, none, none, none, none]) (by decide) (Nat.le_of_ble_eq_true rfl) rfl ?_
  generalize hpost : (cPostL cy (ad 0) (spDigest σ s) : gw_Q) = post
  refine gw_W.wd (w' := ([(ad 0, .inr (9, [.int (nI (σ.1)), .ref (ad 1), .ref (ad 2), .ref (sa (3 * 0)), .ref (ad 4), .ref (ad 5), .ref (ad 6), .int (nI ((sOp σ).length)), va_rf (lo), .int (nx), .int (σ.2.2.2.2.2.2.1), .int (σ.2.2.2.2.2.2.2), .ref (ad 12), .int (nI ((sTr σ).length)), .int (σ.2.2.2.2.1)])), (ad 1, .inl (cy 3, 9, .inr (.inr (.inr (.inr (fun i => some (sa (3 * i)))))))), (ad 2, .inl (cy 3, 9, .inr (.inr (.inr (.inr (fun i => some (sa (3 * (9 + i))))))))), (ad 5, .inl (cy 4, 8, .inr (.inr (.inr (.inr (fun i => some (ta (2 * i)))))))), (ad 6, .inl (cy 2, 40, .inr (.inr (.inr (.inr (pg)))))), (ad 12, .inl (cy 0, 16, .inl (bo)))] ++ (xs ++ (tb ++ op)))) rfl ?_
  refine gw_aload_n dX11_digest_0 rfl ?_
  refine gw_iload_n dX11_digest_1 rfl ?_
  refine gw_W.wd (w' := bW cy ad sa ta (σ.1) ((sOp σ).length) ((sTr σ).length) nx (σ.2.2.2.2.2.2.1) (σ.2.2.2.2.2.2.2) (σ.2.2.2.2.1) lo pg bo ++ (xs ++ (tb ++ op))) rfl ?_
  refine gw_callV 0 (As := [.int (s)]) (st := []) (c_bsumAt l cy ad sa ta (σ.1) ((sOp σ).length) ((sTr σ).length) nx (σ.2.2.2.2.2.2.1) (σ.2.2.2.2.2.2.2) (σ.2.2.2.2.1) lo pg bo (xs ++ (tb ++ op)) (s)) ok_X11_sumAt rfl rfl rfl wd_277 rfl rfl dX11_digest_2 (by decide) (by decide) (Nat.le_of_ble_eq_true rfl) (fun r2 w2 hp2 => ?_)
  obtain ⟨rfl, rfl⟩ := hp2
  by_cases h2 : inZ (s).toInt (-1) 7 = true
  · rw [if_pos h2]
    refine gw_W.norm (st' := [.ref (sa (3 * cP (s)))]) (k1 := 0) (k2 := 0) rfl rfl rfl ?_
    refine gw_W.wd (w' := ([(ad 0, .inr (9, [.int (nI (σ.1)), .ref (ad 1), .ref (ad 2), .ref (sa (3 * 0)), .ref (ad 4), .ref (ad 5), .ref (ad 6), .int (nI ((sOp σ).length)), va_rf (lo), .int (nx), .int (σ.2.2.2.2.2.2.1), .int (σ.2.2.2.2.2.2.2), .ref (ad 12), .int (nI ((sTr σ).length)), .int (σ.2.2.2.2.1)])), (ad 1, .inl (cy 3, 9, .inr (.inr (.inr (.inr (fun i => some (sa (3 * i)))))))), (ad 2, .inl (cy 3, 9, .inr (.inr (.inr (.inr (fun i => some (sa (3 * (9 + i))))))))), (ad 5, .inl (cy 4, 8, .inr (.inr (.inr (.inr (fun i => some (ta (2 * i)))))))), (ad 6, .inl (cy 2, 40, .inr (.inr (.inr (.inr (pg)))))), (ad 12, .inl (cy 0, 16, .inl (bo)))] ++ (xs ++ (tb ++ op)))) rfl ?_
    refine gw_astore_n dX11_digest_5 (by decide) rfl ?_
    obtain ⟨ka, na, u1, u2, u3, u4, u5⟩ := xsP_mem hxs (i := cP (s)) (by have := (cP_i h2).2.2; omega)
    obtain ⟨z1, z2, z3⟩ := csS_at hcs h2
    rw [z1] at u1 u4 u5
    refine gw_aload_n dX11_digest_6 rfl ?_
    refine gw_ifnonnull (tgt := 14) dX11_digest_7 (by decide) ?_
    refine gw_ldc2 dX11_digest_14 wd_455 ?_
    refine gw_topl (y := digS 17 (takeS ka na 0 0)) (rfl) ?_
    refine gw_lstore_n dX11_digest_17 (by decide) rfl ?_
    refine gw_iconst (v := nI (0)) dX11_digest_18 (by decide) ?_
    refine gw_istore dX11_digest_19 (by decide) rfl ?_
    have cut21 : ∀ (fu : Nat) (t : Nat), (t ≤ (sSm σ (mPl s)).length) → ((sSm σ (mPl s)).length - t) < fu → gw_W l kX11_digest cy (gw_R kX11_digest post) ([(ad 0, .inr (9, [.int (nI (σ.1)), .ref (ad 1), .ref (ad 2), .ref (sa (3 * 0)), .ref (ad 4), .ref (ad 5), .ref (ad 6), .int (nI ((sOp σ).length)), va_rf (lo), .int (nx), .int (σ.2.2.2.2.2.2.1), .int (σ.2.2.2.2.2.2.2), .ref (ad 12), .int (nI ((sTr σ).length)), .int (σ.2.2.2.2.1)])), (ad 1, .inl (cy 3, 9, .inr (.inr (.inr (.inr (fun i => some (sa (3 * i)))))))), (ad 2, .inl (cy 3, 9, .inr (.inr (.inr (.inr (fun i => some (sa (3 * (9 + i))))))))), (ad 5, .inl (cy 4, 8, .inr (.inr (.inr (.inr (fun i => some (ta (2 * i)))))))), (ad 6, .inl (cy 2, 40, .inr (.inr (.inr (.inr (pg)))))), (ad 12, .inl (cy 0, 16, .inl (bo)))] ++ (xs ++ (tb ++ op))) 0 0 21 [some (.ref (ad 0)), some (.int (s)), some (.ref (sa (3 * cP (s)))), some (.long (digS 17 (takeS ka na 0 t))), none, some (.int (nI (t))), none] [] := by
      intro fu
      induction fu with
      | zero => intro t t1 hfu; exact absurd hfu (Nat.not_lt_zero _)
      | succ fu ih21 =>
        intro t t1 hfu
        refine gw_iload dX11_digest_21 rfl ?_
        refine gw_aload_n dX11_digest_23 rfl ?_
        refine gw_getMN (C0 := RX9) (T := TX9) (N := 3) (ref := RX9) (List.mem_append_right _ (List.mem_append_left _ u1)) rfl inX9 2 (by decide) (host := "SpinBench") (by decide +kernel) (Or.inl rfl) rfl dX11_digest_24 ?_
        refine gw_icmpN_ge (tgt := 104) dX11_digest_27 (by decide) (by omega) (by omega) (fun c27 => ?_) (fun c27 => ?_)
        · have e1 : t = (sSm σ (mPl s)).length := by omega
          subst e1
          refine gw_lload_n dX11_digest_104 rfl ?_
          refine gw_W.wd (w' := bW cy ad sa ta (σ.1) ((sOp σ).length) ((sTr σ).length) nx (σ.2.2.2.2.2.2.1) (σ.2.2.2.2.2.2.2) (σ.2.2.2.2.1) lo pg bo ++ (xs ++ (tb ++ op))) rfl ?_
          refine gw_lret (?_) (by decide) (by decide) rfl dX11_digest_105
          subst hpost
          unfold spDigest
          rw [if_pos h2, u5]
          exact ⟨rfl, ad, sa, ta, oa, nx, lo, pg, bo, cs, xs, tb, op, td, rfl, List.Perm.refl _, hxs, hcs, htb, hop, hN, hbo⟩
        · have ok := (z2.2.2 _ (show (ka t, na t) ∈ sSm σ (mPl s) by rw [← u5]; exact takeS_mem.mpr ⟨t, by omega, by rw [Nat.zero_add]⟩)).2.2
          refine gw_ldc2 dX11_digest_30 wd_456 ?_
          refine gw_lload_n dX11_digest_33 rfl ?_
          refine gw_lmul dX11_digest_34 ?_
          refine gw_aload_n dX11_digest_35 rfl ?_
          refine gw_getMN (C0 := RX9) (T := TX9) (N := 3) (ref := RX9) (List.mem_append_right _ (List.mem_append_left _ u1)) rfl inX9 0 (by decide) (host := "SpinBench") (by decide +kernel) (Or.inl rfl) rfl dX11_digest_36 ?_
          refine gw_iload dX11_digest_39 rfl ?_
          refine gw_ialdM (List.mem_append_right _ (List.mem_append_left _ u2)) (rfl) (by omega) (by decide) dX11_digest_41 ?_
          refine gw_callS (As := [.int (ka (t))]) (st := [.long (((31 : Int64)) * (digS 17 (takeS ka na 0 t)))]) (c_productOf l cy (ka (t)) ([(ad 0, .inr (9, [.int (nI (σ.1)), .ref (ad 1), .ref (ad 2), .ref (sa (3 * 0)), .ref (ad 4), .ref (ad 5), .ref (ad 6), .int (nI ((sOp σ).length)), va_rf (lo), .int (nx), .int (σ.2.2.2.2.2.2.1), .int (σ.2.2.2.2.2.2.2), .ref (ad 12), .int (nI ((sTr σ).length)), .int (σ.2.2.2.2.1)])), (ad 1, .inl (cy 3, 9, .inr (.inr (.inr (.inr (fun i => some (sa (3 * i)))))))), (ad 2, .inl (cy 3, 9, .inr (.inr (.inr (.inr (fun i => some (sa (3 * (9 + i))))))))), (ad 5, .inl (cy 4, 8, .inr (.inr (.inr (.inr (fun i => some (ta (2 * i)))))))), (ad 6, .inl (cy 2, 40, .inr (.inr (.inr (.inr (pg)))))), (ad 12, .inl (cy 0, 16, .inl (bo)))] ++ (xs ++ (tb ++ op)))) ok_X11_productOf wd_365 rfl rfl dX11_digest_42 (by decide) (by decide) (Nat.le_of_ble_eq_true rfl) (fun r42 w42 hp42 => ?_)
          obtain ⟨rfl, rfl⟩ := hp42
          refine gw_W.norm (st' := [.int (uProd (ka (t))), .long (((31 : Int64)) * (digS 17 (takeS ka na 0 t)))]) (k1 := 0) (k2 := 0) rfl rfl rfl ?_
          refine gw_i2l dX11_digest_45 rfl ?_
          refine gw_ladd dX11_digest_46 ?_
          refine gw_topl (y := digP (digS 17 (takeS ka na 0 t)) (ka t) 1) (by rw [show digP (digS 17 (takeS ka na 0 t)) (ka t) 1 = 31 * digS 17 (takeS ka na 0 t) + (powS (ka t) (-1)).toInt64 from rfl, show powS (ka t) (-1) = uProd (ka t) from (uP_m hn4.2 ok).symm]) ?_
          refine gw_lstore_n dX11_digest_47 (by decide) rfl ?_
          refine gw_iconst (v := nI (0)) dX11_digest_48 (by decide) ?_
          refine gw_istore dX11_digest_49 (by decide) rfl ?_
          have cut51 : ∀ (fu : Nat) (v : Nat), (v ≤ 8) → (8 - v) < fu → gw_W l kX11_digest cy (gw_R kX11_digest post) ([(ad 0, .inr (9, [.int (nI (σ.1)), .ref (ad 1), .ref (ad 2), .ref (sa (3 * 0)), .ref (ad 4), .ref (ad 5), .ref (ad 6), .int (nI ((sOp σ).length)), va_rf (lo), .int (nx), .int (σ.2.2.2.2.2.2.1), .int (σ.2.2.2.2.2.2.2), .ref (ad 12), .int (nI ((sTr σ).length)), .int (σ.2.2.2.2.1)])), (ad 1, .inl (cy 3, 9, .inr (.inr (.inr (.inr (fun i => some (sa (3 * i)))))))), (ad 2, .inl (cy 3, 9, .inr (.inr (.inr (.inr (fun i => some (sa (3 * (9 + i))))))))), (ad 5, .inl (cy 4, 8, .inr (.inr (.inr (.inr (fun i => some (ta (2 * i)))))))), (ad 6, .inl (cy 2, 40, .inr (.inr (.inr (.inr (pg)))))), (ad 12, .inl (cy 0, 16, .inl (bo)))] ++ (xs ++ (tb ++ op))) 0 0 51 [some (.ref (ad 0)), some (.int (s)), some (.ref (sa (3 * cP (s)))), some (.long (digP (digS 17 (takeS ka na 0 t)) (ka t) (v + 1))), none, some (.int (nI (t))), some (.int (nI (v)))] [] := by
            intro fu
            induction fu with
            | zero => intro v v1 hfu; exact absurd hfu (Nat.not_lt_zero _)
            | succ fu ih51 =>
              intro v v1 hfu
              refine gw_iload dX11_digest_51 rfl ?_
              refine gw_bipush (v := nI (8)) dX11_digest_53 (by decide) ?_
              refine gw_icmpN_ge (tgt := 84) dX11_digest_55 (by decide) (by omega) (by omega) (fun c55 => ?_) (fun c55 => ?_)
              · have e2 : v = 8 := by omega
                subst e2
                refine gw_ldc2 dX11_digest_84 wd_456 ?_
                refine gw_lload_n dX11_digest_87 rfl ?_
                refine gw_lmul dX11_digest_88 ?_
                refine gw_aload_n dX11_digest_89 rfl ?_
                refine gw_getMN (C0 := RX9) (T := TX9) (N := 3) (ref := RX9) (List.mem_append_right _ (List.mem_append_left _ u1)) rfl inX9 1 (by decide) (host := "SpinBench") (by decide +kernel) (Or.inl rfl) rfl dX11_digest_90 ?_
                refine gw_iload dX11_digest_93 rfl ?_
                refine gw_laldM (List.mem_append_right _ (List.mem_append_left _ u3)) (rfl) (by omega) (by decide) dX11_digest_95 ?_
                refine gw_ladd dX11_digest_96 ?_
                refine gw_topl (y := digS 17 (takeS ka na 0 (t + 1))) (by rw [takeS_snoc, digS_snoc, Nat.zero_add]) ?_
                refine gw_lstore_n dX11_digest_97 (by decide) rfl ?_
                refine gw_iinc (v := nI (t + 1)) dX11_digest_98 rfl (nI_add _ 1) (by decide) rfl ?_
                refine gw_goto (tgt := 21) dX11_digest_101 (by decide) ?_
                refine gw_W.forget 6 ?_
                refine ih21 (t + 1) (by omega) ?_
                omega
              · refine gw_ldc2 dX11_digest_58 wd_456 ?_
                refine gw_lload_n dX11_digest_61 rfl ?_
                refine gw_lmul dX11_digest_62 ?_
                refine gw_aload_n dX11_digest_63 rfl ?_
                refine gw_getMN (C0 := RX9) (T := TX9) (N := 3) (ref := RX9) (List.mem_append_right _ (List.mem_append_left _ u1)) rfl inX9 0 (by decide) (host := "SpinBench") (by decide +kernel) (Or.inl rfl) rfl dX11_digest_64 ?_
                refine gw_iload dX11_digest_67 rfl ?_
                refine gw_ialdM (List.mem_append_right _ (List.mem_append_left _ u2)) (rfl) (by omega) (by decide) dX11_digest_69 ?_
                refine gw_iload dX11_digest_70 rfl ?_
                refine gw_callS (As := [.int (ka (t)), .int (nI (v))]) (st := [.long (((31 : Int64)) * (digP (digS 17 (takeS ka na 0 t)) (ka t) (v + 1)))]) (c_powerOf l cy (ka (t)) (v) (by omega) ([(ad 0, .inr (9, [.int (nI (σ.1)), .ref (ad 1), .ref (ad 2), .ref (sa (3 * 0)), .ref (ad 4), .ref (ad 5), .ref (ad 6), .int (nI ((sOp σ).length)), va_rf (lo), .int (nx), .int (σ.2.2.2.2.2.2.1), .int (σ.2.2.2.2.2.2.2), .ref (ad 12), .int (nI ((sTr σ).length)), .int (σ.2.2.2.2.1)])), (ad 1, .inl (cy 3, 9, .inr (.inr (.inr (.inr (fun i => some (sa (3 * i)))))))), (ad 2, .inl (cy 3, 9, .inr (.inr (.inr (.inr (fun i => some (sa (3 * (9 + i))))))))), (ad 5, .inl (cy 4, 8, .inr (.inr (.inr (.inr (fun i => some (ta (2 * i)))))))), (ad 6, .inl (cy 2, 40, .inr (.inr (.inr (.inr (pg)))))), (ad 12, .inl (cy 0, 16, .inl (bo)))] ++ (xs ++ (tb ++ op)))) ok_X11_powerOf wd_410 rfl rfl dX11_digest_72 (by decide) (by decide) (Nat.le_of_ble_eq_true rfl) (fun r72 w72 hp72 => ?_)
                obtain ⟨rfl, rfl⟩ := hp72
                refine gw_W.norm (st' := [.int (powS (ka (t)) (nI (v))), .long (((31 : Int64)) * (digP (digS 17 (takeS ka na 0 t)) (ka t) (v + 1)))]) (k1 := 0) (k2 := 0) rfl rfl rfl ?_
                refine gw_i2l dX11_digest_75 rfl ?_
                refine gw_ladd dX11_digest_76 ?_
                refine gw_topl (y := digP (digS 17 (takeS ka na 0 t)) (ka t) (v + 1 + 1)) (by rw [digP_c (v := v + 1), if_neg (by omega), show v + 1 - 1 = v by omega]) ?_
                refine gw_lstore_n dX11_digest_77 (by decide) rfl ?_
                refine gw_iinc (v := nI (v + 1)) dX11_digest_78 rfl (nI_add _ 1) (by decide) rfl ?_
                refine gw_goto (tgt := 51) dX11_digest_81 (by decide) ?_
                refine ih51 (v + 1) (by omega) ?_
                omega
          refine cut51 _ (0) (Nat.zero_le _) (Nat.lt_succ_self _)
    refine cut21 _ (0) (Nat.zero_le _) (Nat.lt_succ_self _)
  · rw [if_neg h2]
    refine gw_W.norm (st' := [.null]) (k1 := 0) (k2 := 0) rfl rfl rfl ?_
    refine gw_W.wd (w' := ([(ad 0, .inr (9, [.int (nI (σ.1)), .ref (ad 1), .ref (ad 2), .ref (sa (3 * 0)), .ref (ad 4), .ref (ad 5), .ref (ad 6), .int (nI ((sOp σ).length)), va_rf (lo), .int (nx), .int (σ.2.2.2.2.2.2.1), .int (σ.2.2.2.2.2.2.2), .ref (ad 12), .int (nI ((sTr σ).length)), .int (σ.2.2.2.2.1)])), (ad 1, .inl (cy 3, 9, .inr (.inr (.inr (.inr (fun i => some (sa (3 * i)))))))), (ad 2, .inl (cy 3, 9, .inr (.inr (.inr (.inr (fun i => some (sa (3 * (9 + i))))))))), (ad 5, .inl (cy 4, 8, .inr (.inr (.inr (.inr (fun i => some (ta (2 * i)))))))), (ad 6, .inl (cy 2, 40, .inr (.inr (.inr (.inr (pg)))))), (ad 12, .inl (cy 0, 16, .inl (bo)))] ++ (xs ++ (tb ++ op)))) rfl ?_
    refine gw_astore_nN dX11_digest_5 (by decide) rfl ?_
    refine gw_aload_nN dX11_digest_6 rfl ?_
    refine gw_ifnonnullN dX11_digest_7 ?_
    refine gw_ldc2 dX11_digest_10 wd_405 ?_
    refine gw_W.wd (w' := bW cy ad sa ta (σ.1) ((sOp σ).length) ((sTr σ).length) nx (σ.2.2.2.2.2.2.1) (σ.2.2.2.2.2.2.2) (σ.2.2.2.2.1) lo pg bo ++ (xs ++ (tb ++ op))) rfl ?_
    refine gw_lret (?_) (by decide) (by decide) rfl dX11_digest_13
    subst hpost
    unfold spDigest
    rw [if_neg h2]
    exact ⟨rfl, ad, sa, ta, oa, nx, lo, pg, bo, cs, xs, tb, op, td, rfl, List.Perm.refl _, hxs, hcs, htb, hop, hN, hbo⟩
