/-! copy, count, run at the new object -/
theorem tb_mem {cy : Nat → ClassId} {ta : Nat → Nat} {v : Int32} {tb : va_W} (h : tbP cy ta (sTb (sNew v)) tb) {i : Nat} (hi : i < 8) : ∃ la sz : Int32, (ta (2 * i), .inr (8, [.ref (ta (2 * i + 1)), .int (nI 1), .int la, .int sz])) ∈ tb := by
  obtain ⟨ms, la, sz, it, R, o1, o2, -⟩ := tbP_open h hi
  have e : ms = nI 1 := o2
  subst e
  exact ⟨la, sz, o1.mem_iff.mpr (List.mem_append_left _ (List.mem_cons_self ..))⟩
theorem cs_nil {v : Int32} {cs : Nat → List sT} (h : csS (sNew v) cs) {i : Nat} (hi : i < 9) : cs i = [] := by
  by_cases e : i = 0
  · subst e; exact (h 8 (by decide)).1
  · have := (h (i - 1) (by omega)).1
    rw [if_neg (by omega), show i - 1 + 1 = i by omega] at this
    exact this
theorem xs_mem0 {cy : Nat → ClassId} {a0 : Nat} {sa : Nat → Nat} {v : Int32} {cs : Nat → List sT} {w : va_W} (h : xsP cy a0 sa cs w) (hc : csS (sNew v) cs) {i : Nat} (hi : i < 9) : (sa (3 * i), .inr (7, [.ref (sa (3 * i + 1)), .ref (sa (3 * i + 2)), .int (nI 0)])) ∈ w := by
  obtain ⟨sk, sn, u1, -⟩ := xsP_mem h (i := i) (by omega)
  rw [cs_nil hc hi] at u1
  exact u1
theorem rn_nil (n : Nat) (tb : Nat → aT) (f : Nat) (sm : Nat → List sT) (rs : List (Nat × Nat)) (y : Int32) : rn n tb [] f sm 0 rs y = (0, sm, f, y) := by cases f <;> simp [rn]
abbrev kX11_copy : gw_K := (yX11_copy, cX11_copy, 8, { frames := 2, cells := 0, slots := 0, locals := 43 }, (some .int))
theorem ok_X11_copy : gw_calV kX11_copy 5 := ⟨⟨wd_265, wd_57, by decide, by decide, by decide +kernel⟩, wd_263, wd_264⟩
set_option maxHeartbeats 4000000 in
set_option maxRecDepth 100000 in
theorem t_cfcopy (l : Launch) (cy : Nat → ClassId) (b : Nat) (v : Int32) (w : va_W) (hI : cInv cy b (sNew v) w) (x i y j n : Int32) : gw_M l kX11_copy cy [.ref (b), .int (x), .int (i), .int (y), .int (j), .int (n)] (w) (qA (spCopy (sNew v) x i y j n).1) := by
  obtain ⟨ad, sa, ta, oa, nx, lo, pg, bo, cs, xs, tb, op, td, rfl, hw, hxs, hcs, htb, hop, hN, hbo⟩ := hI
  obtain ⟨hop1, rfl, hop3⟩ := hop
  have hn4 : 1 ≤ clN v ∧ clN v ≤ 4 := clN_le v
  refine gw_M.pm hw ?_
  refine gw_M.mk (lv := [some (.ref (ad 0)), some (.int (x)), some (.int (i)), some (.int (y)), some (.int (j)), some (.int (n)), none, none]) (by decide) (Nat.le_of_ble_eq_true rfl) rfl ?_
  generalize hpost : (qA (spCopy (sNew v) x i y j n).1 : gw_Q) = post
  refine gw_W.wd (w' := ([(ad 0, .inr (9, [.int (nI (clN v)), .ref (ad 1), .ref (ad 2), .ref (sa (3 * 0)), .ref (ad 4), .ref (ad 5), .ref (ad 6), .int (nI (0)), .null, .int (nx), .int (0), .int (-1000000), .ref (ad 12), .int (nI (0)), .int (0)])), (ad 1, .inl (cy 3, 9, .inr (.inr (.inr (.inr (fun i => some (sa (3 * i)))))))), (ad 2, .inl (cy 3, 9, .inr (.inr (.inr (.inr (fun i => some (sa (3 * (9 + i))))))))), (ad 5, .inl (cy 4, 8, .inr (.inr (.inr (.inr (fun i => some (ta (2 * i)))))))), (ad 6, .inl (cy 2, 40, .inr (.inr (.inr (.inr (pg)))))), (ad 12, .inl (cy 0, 16, .inl (bo)))] ++ (xs ++ (tb ++ op)))) rfl ?_
  refine gw_aload_n dX11_copy_0 rfl ?_
  refine gw_iload_n dX11_copy_1 rfl ?_
  refine gw_W.wd (w' := bW cy ad sa ta (clN v) 0 0 nx 0 (-1000000) 0 none pg bo ++ (xs ++ (tb ++ op))) rfl ?_
  refine gw_callV 0 (As := [.int (x)]) (st := []) (c_btableAt l cy ad sa ta (clN v) 0 0 nx 0 (-1000000) 0 none pg bo (xs ++ (tb ++ op)) (x)) ok_X11_tableAt rfl rfl rfl wd_226 rfl rfl dX11_copy_2 (by decide) (by decide) (Nat.le_of_ble_eq_true rfl) (fun r2 w2 hp2 => ?_)
  obtain ⟨rfl, rfl⟩ := hp2
  by_cases h2 : inZ (x).toInt 0 7 = true
  · rw [if_pos h2]
    refine gw_W.norm (st' := [.ref (ta (2 * tI (x)))]) (k1 := 0) (k2 := 0) rfl rfl rfl ?_
    refine gw_W.wd (w' := ([(ad 0, .inr (9, [.int (nI (clN v)), .ref (ad 1), .ref (ad 2), .ref (sa (3 * 0)), .ref (ad 4), .ref (ad 5), .ref (ad 6), .int (nI (0)), .null, .int (nx), .int (0), .int (-1000000), .ref (ad 12), .int (nI (0)), .int (0)])), (ad 1, .inl (cy 3, 9, .inr (.inr (.inr (.inr (fun i => some (sa (3 * i)))))))), (ad 2, .inl (cy 3, 9, .inr (.inr (.inr (.inr (fun i => some (sa (3 * (9 + i))))))))), (ad 5, .inl (cy 4, 8, .inr (.inr (.inr (.inr (fun i => some (ta (2 * i)))))))), (ad 6, .inl (cy 2, 40, .inr (.inr (.inr (.inr (pg)))))), (ad 12, .inl (cy 0, 16, .inl (bo)))] ++ (xs ++ (tb ++ op)))) rfl ?_
    refine gw_astore dX11_copy_5 (by decide) rfl ?_
    refine gw_aload_n dX11_copy_7 rfl ?_
    refine gw_iload_n dX11_copy_8 rfl ?_
    refine gw_W.wd (w' := bW cy ad sa ta (clN v) 0 0 nx 0 (-1000000) 0 none pg bo ++ (xs ++ (tb ++ op))) rfl ?_
    refine gw_callV 0 (As := [.int (y)]) (st := []) (c_btableAt l cy ad sa ta (clN v) 0 0 nx 0 (-1000000) 0 none pg bo (xs ++ (tb ++ op)) (y)) ok_X11_tableAt rfl rfl rfl wd_226 rfl rfl dX11_copy_9 (by decide) (by decide) (Nat.le_of_ble_eq_true rfl) (fun r9 w9 hp9 => ?_)
    obtain ⟨rfl, rfl⟩ := hp9
    by_cases h9 : inZ (y).toInt 0 7 = true
    · rw [if_pos h9]
      refine gw_W.norm (st' := [.ref (ta (2 * tI (y)))]) (k1 := 0) (k2 := 0) rfl rfl rfl ?_
      refine gw_W.wd (w' := ([(ad 0, .inr (9, [.int (nI (clN v)), .ref (ad 1), .ref (ad 2), .ref (sa (3 * 0)), .ref (ad 4), .ref (ad 5), .ref (ad 6), .int (nI (0)), .null, .int (nx), .int (0), .int (-1000000), .ref (ad 12), .int (nI (0)), .int (0)])), (ad 1, .inl (cy 3, 9, .inr (.inr (.inr (.inr (fun i => some (sa (3 * i)))))))), (ad 2, .inl (cy 3, 9, .inr (.inr (.inr (.inr (fun i => some (sa (3 * (9 + i))))))))), (ad 5, .inl (cy 4, 8, .inr (.inr (.inr (.inr (fun i => some (ta (2 * i)))))))), (ad 6, .inl (cy 2, 40, .inr (.inr (.inr (.inr (pg)))))), (ad 12, .inl (cy 0, 16, .inl (bo)))] ++ (xs ++ (tb ++ op)))) rfl ?_
      refine gw_astore dX11_copy_12 (by decide) rfl ?_
      refine gw_aload dX11_copy_14 rfl ?_
      refine gw_ifnull dX11_copy_16 ?_
      refine gw_aload dX11_copy_19 rfl ?_
      refine gw_ifnonnull (tgt := 27) dX11_copy_21 (by decide) ?_
      obtain ⟨la, sz, hm⟩ := tb_mem htb (i := tI (x)) (tI_lt h2)
      refine gw_aload dX11_copy_27 rfl ?_
      refine gw_getMN (C0 := RX10) (T := TX10) (N := 4) (ref := RX10) (List.mem_append_right _ (List.mem_append_right _ (List.mem_append_left _ hm))) rfl inX10 1 (by decide) (host := "SpinBench") (by decide +kernel) (Or.inl rfl) rfl dX11_copy_29 ?_
      refine gw_ifN_ne (tgt := 43) dX11_copy_32 (by decide) (by omega) (fun _ => ?_) (fun h => absurd h (by decide))
      refine gw_aload_n dX11_copy_43 rfl ?_
      refine gw_iconst (v := nI (1)) dX11_copy_44 (by decide) ?_
      refine gw_W.wd (w' := bW cy ad sa ta (clN v) 0 0 nx 0 (-1000000) 0 none pg bo ++ (xs ++ (tb ++ op))) rfl ?_
      refine gw_callV 0 (As := [.int (nI (1))]) (st := []) (c_bfound l cy ad sa ta (clN v) 0 0 nx 0 (-1000000) 0 none pg bo (xs ++ (tb ++ op)) (nI (1))) ok_X11_found rfl rfl rfl wd_234 rfl rfl dX11_copy_45 (by decide) (by decide) (Nat.le_of_ble_eq_true rfl) (fun r45 w45 hp45 => ?_)
      obtain ⟨rfl, rfl⟩ := hp45
      refine gw_W.norm (st' := [.int ((-1000010) - (nI (1)))]) (k1 := 0) (k2 := 0) rfl rfl rfl ?_
      refine gw_W.wd (w' := ([(ad 0, .inr (9, [.int (nI (clN v)), .ref (ad 1), .ref (ad 2), .ref (sa (3 * 0)), .ref (ad 4), .ref (ad 5), .ref (ad 6), .int (nI (0)), .null, .int (nx), .int (0), .int (-1000000), .ref (ad 12), .int (nI (0)), .int (nI (1))])), (ad 1, .inl (cy 3, 9, .inr (.inr (.inr (.inr (fun i => some (sa (3 * i)))))))), (ad 2, .inl (cy 3, 9, .inr (.inr (.inr (.inr (fun i => some (sa (3 * (9 + i))))))))), (ad 5, .inl (cy 4, 8, .inr (.inr (.inr (.inr (fun i => some (ta (2 * i)))))))), (ad 6, .inl (cy 2, 40, .inr (.inr (.inr (.inr (pg)))))), (ad 12, .inl (cy 0, 16, .inl (bo)))] ++ (xs ++ (tb ++ op)))) rfl ?_
      refine gw_iret (?_) (by decide) (by decide) rfl dX11_copy_48
      subst hpost
      refine qA_of ?_
      unfold spCopy
      rw [if_pos ⟨h2, h9⟩]
      rfl
    · rw [if_neg h9]
      refine gw_W.norm (st' := [.null]) (k1 := 0) (k2 := 0) rfl rfl rfl ?_
      refine gw_W.wd (w' := ([(ad 0, .inr (9, [.int (nI (clN v)), .ref (ad 1), .ref (ad 2), .ref (sa (3 * 0)), .ref (ad 4), .ref (ad 5), .ref (ad 6), .int (nI (0)), .null, .int (nx), .int (0), .int (-1000000), .ref (ad 12), .int (nI (0)), .int (0)])), (ad 1, .inl (cy 3, 9, .inr (.inr (.inr (.inr (fun i => some (sa (3 * i)))))))), (ad 2, .inl (cy 3, 9, .inr (.inr (.inr (.inr (fun i => some (sa (3 * (9 + i))))))))), (ad 5, .inl (cy 4, 8, .inr (.inr (.inr (.inr (fun i => some (ta (2 * i)))))))), (ad 6, .inl (cy 2, 40, .inr (.inr (.inr (.inr (pg)))))), (ad 12, .inl (cy 0, 16, .inl (bo)))] ++ (xs ++ (tb ++ op)))) rfl ?_
      refine gw_astoreN dX11_copy_12 (by decide) rfl ?_
      refine gw_aload dX11_copy_14 rfl ?_
      refine gw_ifnull dX11_copy_16 ?_
      refine gw_aloadN dX11_copy_19 rfl ?_
      refine gw_ifnonnullN dX11_copy_21 ?_
      refine gw_ldc dX11_copy_24 wd_233 ?_
      refine gw_iret (?_) (by decide) (by decide) rfl dX11_copy_26
      subst hpost
      refine qA_of ?_
      unfold spCopy
      rw [if_neg (fun h => by
        first
          | exact h2 h.1
          | exact h9 h.2)]
  · rw [if_neg h2]
    refine gw_W.norm (st' := [.null]) (k1 := 0) (k2 := 0) rfl rfl rfl ?_
    refine gw_W.wd (w' := ([(ad 0, .inr (9, [.int (nI (clN v)), .ref (ad 1), .ref (ad 2), .ref (sa (3 * 0)), .ref (ad 4), .ref (ad 5), .ref (ad 6), .int (nI (0)), .null, .int (nx), .int (0), .int (-1000000), .ref (ad 12), .int (nI (0)), .int (0)])), (ad 1, .inl (cy 3, 9, .inr (.inr (.inr (.inr (fun i => some (sa (3 * i)))))))), (ad 2, .inl (cy 3, 9, .inr (.inr (.inr (.inr (fun i => some (sa (3 * (9 + i))))))))), (ad 5, .inl (cy 4, 8, .inr (.inr (.inr (.inr (fun i => some (ta (2 * i)))))))), (ad 6, .inl (cy 2, 40, .inr (.inr (.inr (.inr (pg)))))), (ad 12, .inl (cy 0, 16, .inl (bo)))] ++ (xs ++ (tb ++ op)))) rfl ?_
    refine gw_astoreN dX11_copy_5 (by decide) rfl ?_
    refine gw_aload_n dX11_copy_7 rfl ?_
    refine gw_iload_n dX11_copy_8 rfl ?_
    refine gw_W.wd (w' := bW cy ad sa ta (clN v) 0 0 nx 0 (-1000000) 0 none pg bo ++ (xs ++ (tb ++ op))) rfl ?_
    refine gw_callV 0 (As := [.int (y)]) (st := []) (c_btableAt l cy ad sa ta (clN v) 0 0 nx 0 (-1000000) 0 none pg bo (xs ++ (tb ++ op)) (y)) ok_X11_tableAt rfl rfl rfl wd_226 rfl rfl dX11_copy_9 (by decide) (by decide) (Nat.le_of_ble_eq_true rfl) (fun r9 w9 hp9 => ?_)
    obtain ⟨rfl, rfl⟩ := hp9
    by_cases h9 : inZ (y).toInt 0 7 = true
    · rw [if_pos h9]
      refine gw_W.norm (st' := [.ref (ta (2 * tI (y)))]) (k1 := 0) (k2 := 0) rfl rfl rfl ?_
      refine gw_W.wd (w' := ([(ad 0, .inr (9, [.int (nI (clN v)), .ref (ad 1), .ref (ad 2), .ref (sa (3 * 0)), .ref (ad 4), .ref (ad 5), .ref (ad 6), .int (nI (0)), .null, .int (nx), .int (0), .int (-1000000), .ref (ad 12), .int (nI (0)), .int (0)])), (ad 1, .inl (cy 3, 9, .inr (.inr (.inr (.inr (fun i => some (sa (3 * i)))))))), (ad 2, .inl (cy 3, 9, .inr (.inr (.inr (.inr (fun i => some (sa (3 * (9 + i))))))))), (ad 5, .inl (cy 4, 8, .inr (.inr (.inr (.inr (fun i => some (ta (2 * i)))))))), (ad 6, .inl (cy 2, 40, .inr (.inr (.inr (.inr (pg)))))), (ad 12, .inl (cy 0, 16, .inl (bo)))] ++ (xs ++ (tb ++ op)))) rfl ?_
      refine gw_astore dX11_copy_12 (by decide) rfl ?_
      refine gw_aloadN dX11_copy_14 rfl ?_
      refine gw_ifnullN (tgt := 24) dX11_copy_16 (by decide) ?_
      refine gw_ldc dX11_copy_24 wd_233 ?_
      refine gw_iret (?_) (by decide) (by decide) rfl dX11_copy_26
      subst hpost
      refine qA_of ?_
      unfold spCopy
      rw [if_neg (fun h => by
        first
          | exact h2 h.1
          | exact h9 h.2)]
    · rw [if_neg h9]
      refine gw_W.norm (st' := [.null]) (k1 := 0) (k2 := 0) rfl rfl rfl ?_
      refine gw_W.wd (w' := ([(ad 0, .inr (9, [.int (nI (clN v)), .ref (ad 1), .ref (ad 2), .ref (sa (3 * 0)), .ref (ad 4), .ref (ad 5), .ref (ad 6), .int (nI (0)), .null, .int (nx), .int (0), .int (-1000000), .ref (ad 12), .int (nI (0)), .int (0)])), (ad 1, .inl (cy 3, 9, .inr (.inr (.inr (.inr (fun i => some (sa (3 * i)))))))), (ad 2, .inl (cy 3, 9, .inr (.inr (.inr (.inr (fun i => some (sa (3 * (9 + i))))))))), (ad 5, .inl (cy 4, 8, .inr (.inr (.inr (.inr (fun i => some (ta (2 * i)))))))), (ad 6, .inl (cy 2, 40, .inr (.inr (.inr (.inr (pg)))))), (ad 12, .inl (cy 0, 16, .inl (bo)))] ++ (xs ++ (tb ++ op)))) rfl ?_
      refine gw_astoreN dX11_copy_12 (by decide) rfl ?_
      refine gw_aloadN dX11_copy_14 rfl ?_
      refine gw_ifnullN (tgt := 24) dX11_copy_16 (by decide) ?_
      refine gw_ldc dX11_copy_24 wd_233 ?_
      refine gw_iret (?_) (by decide) (by decide) rfl dX11_copy_26
      subst hpost
      refine qA_of ?_
      unfold spCopy
      rw [if_neg (fun h => by
        first
          | exact h2 h.1
          | exact h9 h.2)]
abbrev kX11_presentTables : gw_K := (yX11_presentTables, cX11_presentTables, 3, { frames := 0, cells := 0, slots := 0, locals := 0 }, (some .int))
theorem ok_X11_presentTables : gw_calV kX11_presentTables 0 := ⟨⟨wd_787, wd_57, by decide, by decide, by decide +kernel⟩, wd_786, wd_30⟩
set_option maxHeartbeats 4000000 in
set_option maxRecDepth 100000 in
theorem c_bpres0 (l : Launch) (cy : Nat → ClassId) (ad sa ta : Nat → Nat) (n ln bb : Nat) (nx sd lb lf : Int32) (lo : Option Nat) (pg : Nat → Option Nat) (bo : Nat → Int32) (xs tb op : va_W) (v : Int32) (htb : tbP cy ta (sTb (sNew v)) tb) : gw_M l kX11_presentTables cy [.ref (ad 0)] (bW cy ad sa ta n ln bb nx sd lb lf lo pg bo ++ (xs ++ (tb ++ op))) (fun r w' => r = some (.int (nI 0)) ∧ w' = bW cy ad sa ta n ln bb nx sd lb lf lo pg bo ++ (xs ++ (tb ++ op))) := by
  refine gw_M.mk (lv := [some (.ref (ad 0)), none, none]) (by decide) (Nat.le_of_ble_eq_true rfl) rfl ?_
  generalize hpost : (fun r w' => r = some (.int (nI 0)) ∧ w' = bW cy ad sa ta n ln bb nx sd lb lf lo pg bo ++ (xs ++ (tb ++ op)) : gw_Q) = post
  refine gw_W.wd (w' := ([(ad 0, .inr (9, [.int (nI (n)), .ref (ad 1), .ref (ad 2), .ref (sa (3 * 0)), .ref (ad 4), .ref (ad 5), .ref (ad 6), .int (nI (ln)), va_rf (lo), .int (nx), .int (sd), .int (lb), .ref (ad 12), .int (nI (bb)), .int (lf)])), (ad 1, .inl (cy 3, 9, .inr (.inr (.inr (.inr (fun i => some (sa (3 * i)))))))), (ad 2, .inl (cy 3, 9, .inr (.inr (.inr (.inr (fun i => some (sa (3 * (9 + i))))))))), (ad 5, .inl (cy 4, 8, .inr (.inr (.inr (.inr (fun i => some (ta (2 * i)))))))), (ad 6, .inl (cy 2, 40, .inr (.inr (.inr (.inr (pg)))))), (ad 12, .inl (cy 0, 16, .inl (bo)))] ++ (xs ++ (tb ++ op)))) rfl ?_
  refine gw_iconst (v := nI (0)) dX11_presentTables_0 (by decide) ?_
  refine gw_istore_n dX11_presentTables_1 (by decide) rfl ?_
  refine gw_iconst (v := nI (0)) dX11_presentTables_2 (by decide) ?_
  refine gw_istore_n dX11_presentTables_3 (by decide) rfl ?_
  have cut4 : ∀ (fu : Nat) (i : Nat), (i ≤ 8) → (8 - i) < fu → gw_W l kX11_presentTables cy (gw_R kX11_presentTables post) ([(ad 0, .inr (9, [.int (nI (n)), .ref (ad 1), .ref (ad 2), .ref (sa (3 * 0)), .ref (ad 4), .ref (ad 5), .ref (ad 6), .int (nI (ln)), va_rf (lo), .int (nx), .int (sd), .int (lb), .ref (ad 12), .int (nI (bb)), .int (lf)])), (ad 1, .inl (cy 3, 9, .inr (.inr (.inr (.inr (fun i => some (sa (3 * i)))))))), (ad 2, .inl (cy 3, 9, .inr (.inr (.inr (.inr (fun i => some (sa (3 * (9 + i))))))))), (ad 5, .inl (cy 4, 8, .inr (.inr (.inr (.inr (fun i => some (ta (2 * i)))))))), (ad 6, .inl (cy 2, 40, .inr (.inr (.inr (.inr (pg)))))), (ad 12, .inl (cy 0, 16, .inl (bo)))] ++ (xs ++ (tb ++ op))) 0 0 4 [some (.ref (ad 0)), some (.int (nI (0))), some (.int (nI (i)))] [] := by
    intro fu
    induction fu with
    | zero => intro i h1 hfu; exact absurd hfu (Nat.not_lt_zero _)
    | succ fu ih4 =>
      intro i h1 hfu
      refine gw_iload_n dX11_presentTables_4 rfl ?_
      refine gw_bipush (v := nI (8)) dX11_presentTables_5 (by decide) ?_
      refine gw_icmpN_ge (tgt := 31) dX11_presentTables_7 (by decide) (by omega) (by omega) (fun c7 => ?_) (fun c7 => ?_)
      · refine gw_iload_n dX11_presentTables_31 rfl ?_
        refine gw_iret (?_) (by decide) (by decide) rfl dX11_presentTables_32
        subst hpost
        exact ⟨rfl, rfl⟩
      · obtain ⟨la, sz, hm⟩ := tb_mem htb (i := i) (by omega)
        refine gw_aload_n dX11_presentTables_10 rfl ?_
        refine gw_get (C0 := RX11) (T := TX11) (N := 15) (ref := RX11) 0 rfl rfl inX11 5 (by decide) wd_180 (Or.inl rfl) rfl dX11_presentTables_11 ?_
        refine gw_iload_n dX11_presentTables_14 rfl ?_
        refine gw_aald4 3 rfl (rfl) (by omega) (by decide) dX11_presentTables_15 ?_
        refine gw_W.rst (st' := [.ref (ta (2 * i))]) (rfl) ?_
        refine gw_getMN (C0 := RX10) (T := TX10) (N := 4) (ref := RX10) (List.mem_append_right _ (List.mem_append_right _ (List.mem_append_left _ hm))) rfl inX10 1 (by decide) (host := "SpinBench") (by decide +kernel) (Or.inl rfl) rfl dX11_presentTables_16 ?_
        refine gw_ifN_ne (tgt := 25) dX11_presentTables_19 (by decide) (by omega) (fun _ => ?_) (fun h => absurd h (by decide))
        refine gw_iinc (v := nI (i + 1)) dX11_presentTables_25 rfl (nI_add _ 1) (by decide) rfl ?_
        refine gw_goto (tgt := 4) dX11_presentTables_28 (by decide) ?_
        refine ih4 (i + 1) (by omega) ?_
        omega
  refine cut4 _ (0) (Nat.zero_le _) (Nat.lt_succ_self _)
abbrev kX11_allTerms : gw_K := (yX11_allTerms, cX11_allTerms, 3, { frames := 0, cells := 0, slots := 0, locals := 0 }, (some .int))
theorem ok_X11_allTerms : gw_calV kX11_allTerms 0 := ⟨⟨wd_791, wd_57, by decide, by decide, by decide +kernel⟩, wd_790, wd_31⟩
set_option maxHeartbeats 4000000 in
set_option maxRecDepth 100000 in
theorem c_ball0 (l : Launch) (cy : Nat → ClassId) (ad sa ta : Nat → Nat) (n ln bb : Nat) (nx sd lb lf : Int32) (lo : Option Nat) (pg : Nat → Option Nat) (bo : Nat → Int32) (xs tb op : va_W) (v : Int32) (cs : Nat → List sT) (hxs : xsP cy (ad 4) sa cs xs) (hcs : csS (sNew v) cs) : gw_M l kX11_allTerms cy [.ref (ad 0)] (bW cy ad sa ta n ln bb nx sd lb lf lo pg bo ++ (xs ++ (tb ++ op))) (fun r w' => r = some (.int (nI 0)) ∧ w' = bW cy ad sa ta n ln bb nx sd lb lf lo pg bo ++ (xs ++ (tb ++ op))) := by
  refine gw_M.mk (lv := [some (.ref (ad 0)), none, none]) (by decide) (Nat.le_of_ble_eq_true rfl) rfl ?_
  generalize hpost : (fun r w' => r = some (.int (nI 0)) ∧ w' = bW cy ad sa ta n ln bb nx sd lb lf lo pg bo ++ (xs ++ (tb ++ op)) : gw_Q) = post
  refine gw_W.wd (w' := ([(ad 0, .inr (9, [.int (nI (n)), .ref (ad 1), .ref (ad 2), .ref (sa (3 * 0)), .ref (ad 4), .ref (ad 5), .ref (ad 6), .int (nI (ln)), va_rf (lo), .int (nx), .int (sd), .int (lb), .ref (ad 12), .int (nI (bb)), .int (lf)])), (ad 1, .inl (cy 3, 9, .inr (.inr (.inr (.inr (fun i => some (sa (3 * i)))))))), (ad 2, .inl (cy 3, 9, .inr (.inr (.inr (.inr (fun i => some (sa (3 * (9 + i))))))))), (ad 5, .inl (cy 4, 8, .inr (.inr (.inr (.inr (fun i => some (ta (2 * i)))))))), (ad 6, .inl (cy 2, 40, .inr (.inr (.inr (.inr (pg)))))), (ad 12, .inl (cy 0, 16, .inl (bo)))] ++ (xs ++ (tb ++ op)))) rfl ?_
  refine gw_iconst (v := nI (0)) dX11_allTerms_0 (by decide) ?_
  refine gw_istore_n dX11_allTerms_1 (by decide) rfl ?_
  refine gw_iconst (v := nI (0)) dX11_allTerms_2 (by decide) ?_
  refine gw_istore_n dX11_allTerms_3 (by decide) rfl ?_
  have cut4 : ∀ (fu : Nat) (i : Nat), (i ≤ 9) → (9 - i) < fu → gw_W l kX11_allTerms cy (gw_R kX11_allTerms post) ([(ad 0, .inr (9, [.int (nI (n)), .ref (ad 1), .ref (ad 2), .ref (sa (3 * 0)), .ref (ad 4), .ref (ad 5), .ref (ad 6), .int (nI (ln)), va_rf (lo), .int (nx), .int (sd), .int (lb), .ref (ad 12), .int (nI (bb)), .int (lf)])), (ad 1, .inl (cy 3, 9, .inr (.inr (.inr (.inr (fun i => some (sa (3 * i)))))))), (ad 2, .inl (cy 3, 9, .inr (.inr (.inr (.inr (fun i => some (sa (3 * (9 + i))))))))), (ad 5, .inl (cy 4, 8, .inr (.inr (.inr (.inr (fun i => some (ta (2 * i)))))))), (ad 6, .inl (cy 2, 40, .inr (.inr (.inr (.inr (pg)))))), (ad 12, .inl (cy 0, 16, .inl (bo)))] ++ (xs ++ (tb ++ op))) 0 0 4 [some (.ref (ad 0)), some (.int (nI (0))), some (.int (nI (i)))] [] := by
    intro fu
    induction fu with
    | zero => intro i h1 hfu; exact absurd hfu (Nat.not_lt_zero _)
    | succ fu ih4 =>
      intro i h1 hfu
      refine gw_iload_n dX11_allTerms_4 rfl ?_
      refine gw_aload_n dX11_allTerms_5 rfl ?_
      refine gw_get (C0 := RX11) (T := TX11) (N := 15) (ref := RX11) 0 rfl rfl inX11 1 (by decide) wd_174 (Or.inl rfl) rfl dX11_allTerms_6 ?_
      refine gw_alen (t0 := 3) 1 rfl rfl dX11_allTerms_9 ?_
      refine gw_icmpN_ge (tgt := 31) dX11_allTerms_10 (by decide) (by omega) (by omega) (fun c10 => ?_) (fun c10 => ?_)
      · refine gw_iload_n dX11_allTerms_31 rfl ?_
        refine gw_iret (?_) (by decide) (by decide) rfl dX11_allTerms_32
        subst hpost
        exact ⟨rfl, rfl⟩
      · have hm := xs_mem0 hxs hcs (i := i) (by omega)
        refine gw_iload_n dX11_allTerms_13 rfl ?_
        refine gw_aload_n dX11_allTerms_14 rfl ?_
        refine gw_get (C0 := RX11) (T := TX11) (N := 15) (ref := RX11) 0 rfl rfl inX11 1 (by decide) wd_174 (Or.inl rfl) rfl dX11_allTerms_15 ?_
        refine gw_iload_n dX11_allTerms_18 rfl ?_
        refine gw_aald3 1 rfl (rfl) (by omega) (by decide) dX11_allTerms_19 ?_
        refine gw_W.rst (st' := [.ref (sa (3 * i)), .int (nI (0))]) (rfl) ?_
        refine gw_getMN (C0 := RX9) (T := TX9) (N := 3) (ref := RX9) (List.mem_append_right _ (List.mem_append_left _ hm)) rfl inX9 2 (by decide) (host := "SpinBench") (by decide +kernel) (Or.inl rfl) rfl dX11_allTerms_20 ?_
        refine gw_iaddN dX11_allTerms_23 ?_
        refine gw_topi (y := nI (0)) (rfl) ?_
        refine gw_istore_n dX11_allTerms_24 (by decide) rfl ?_
        refine gw_iinc (v := nI (i + 1)) dX11_allTerms_25 rfl (nI_add _ 1) (by decide) rfl ?_
        refine gw_goto (tgt := 4) dX11_allTerms_28 (by decide) ?_
        refine ih4 (i + 1) (by omega) ?_
        omega
  refine cut4 _ (0) (Nat.zero_le _) (Nat.lt_succ_self _)
abbrev kX11_count : gw_K := (yX11_count, cX11_count, 2, { frames := 1, cells := 0, slots := 0, locals := 22 }, (some .int))
theorem ok_X11_count : gw_calV kX11_count 1 := ⟨⟨wd_783, wd_57, by decide, by decide, by decide +kernel⟩, wd_781, wd_782⟩
set_option maxHeartbeats 4000000 in
set_option maxRecDepth 100000 in
theorem t_cfcount (l : Launch) (cy : Nat → ClassId) (b : Nat) (v : Int32) (w : va_W) (hI : cInv cy b (sNew v) w) (x : Int32) : gw_M l kX11_count cy [.ref (b), .int (x)] (w) (qA (spCount (sNew v) x).1) := by
  obtain ⟨ad, sa, ta, oa, nx, lo, pg, bo, cs, xs, tb, op, td, rfl, hw, hxs, hcs, htb, hop, hN, hbo⟩ := hI
  obtain ⟨hop1, rfl, hop3⟩ := hop
  have hn4 : 1 ≤ clN v ∧ clN v ≤ 4 := clN_le v
  refine gw_M.pm hw ?_
  refine gw_M.mk (lv := [some (.ref (ad 0)), some (.int (x))]) (by decide) (Nat.le_of_ble_eq_true rfl) rfl ?_
  generalize hpost : (qA (spCount (sNew v) x).1 : gw_Q) = post
  refine gw_W.wd (w' := ([(ad 0, .inr (9, [.int (nI (clN v)), .ref (ad 1), .ref (ad 2), .ref (sa (3 * 0)), .ref (ad 4), .ref (ad 5), .ref (ad 6), .int (nI (0)), .null, .int (nx), .int (0), .int (-1000000), .ref (ad 12), .int (nI (0)), .int (0)])), (ad 1, .inl (cy 3, 9, .inr (.inr (.inr (.inr (fun i => some (sa (3 * i)))))))), (ad 2, .inl (cy 3, 9, .inr (.inr (.inr (.inr (fun i => some (sa (3 * (9 + i))))))))), (ad 5, .inl (cy 4, 8, .inr (.inr (.inr (.inr (fun i => some (ta (2 * i)))))))), (ad 6, .inl (cy 2, 40, .inr (.inr (.inr (.inr (pg)))))), (ad 12, .inl (cy 0, 16, .inl (bo)))] ++ (xs ++ (tb ++ op)))) rfl ?_
  refine gw_iload_n dX11_count_0 rfl ?_
  by_cases c1_0 : (x).toInt = 0
  · refine gw_tableIn (off := 35) (tgt := 36) dX11_count_1 (by omega) (by omega) (by rw [c1_0]; rfl) (by decide) ?_
    refine gw_aload_n dX11_count_36 rfl ?_
    refine gw_get (C0 := RX11) (T := TX11) (N := 15) (ref := RX11) 0 rfl rfl inX11 0 (by decide) wd_173 (Or.inl rfl) rfl dX11_count_37 ?_
    refine gw_iret (?_) (by decide) (by decide) rfl dX11_count_40
    subst hpost
    refine qA_of ?_
    unfold spCount
    rw [if_pos c1_0]
    rfl
  by_cases c1_1 : (x).toInt = 1
  · refine gw_tableIn (off := 40) (tgt := 41) dX11_count_1 (by omega) (by omega) (by rw [c1_1]; rfl) (by decide) ?_
    refine gw_aload_n dX11_count_41 rfl ?_
    refine gw_get (C0 := RX11) (T := TX11) (N := 15) (ref := RX11) 0 rfl rfl inX11 7 (by decide) wd_182 (Or.inl rfl) rfl dX11_count_42 ?_
    refine gw_iret (?_) (by decide) (by decide) rfl dX11_count_45
    subst hpost
    refine qA_of ?_
    unfold spCount
    rw [if_neg c1_0, if_pos c1_1]
    rfl
  by_cases c1_2 : (x).toInt = 2
  · refine gw_tableIn (off := 45) (tgt := 46) dX11_count_1 (by omega) (by omega) (by rw [c1_2]; rfl) (by decide) ?_
    refine gw_aload_n dX11_count_46 rfl ?_
    refine gw_W.wd (w' := bW cy ad sa ta (clN v) 0 0 nx 0 (-1000000) 0 none pg bo ++ (xs ++ (tb ++ op))) rfl ?_
    refine gw_callV 0 (As := []) (st := []) (c_bpres0 l cy ad sa ta (clN v) 0 0 nx 0 (-1000000) 0 none pg bo xs tb op v htb) ok_X11_presentTables rfl rfl rfl wd_784 rfl rfl dX11_count_47 (by decide) (by decide) (Nat.le_of_ble_eq_true rfl) (fun r47 w47 hp47 => ?_)
    obtain ⟨rfl, rfl⟩ := hp47
    refine gw_W.norm (st' := [.int (nI (0))]) (k1 := 0) (k2 := 0) rfl rfl rfl ?_
    refine gw_W.wd (w' := ([(ad 0, .inr (9, [.int (nI (clN v)), .ref (ad 1), .ref (ad 2), .ref (sa (3 * 0)), .ref (ad 4), .ref (ad 5), .ref (ad 6), .int (nI (0)), .null, .int (nx), .int (0), .int (-1000000), .ref (ad 12), .int (nI (0)), .int (0)])), (ad 1, .inl (cy 3, 9, .inr (.inr (.inr (.inr (fun i => some (sa (3 * i)))))))), (ad 2, .inl (cy 3, 9, .inr (.inr (.inr (.inr (fun i => some (sa (3 * (9 + i))))))))), (ad 5, .inl (cy 4, 8, .inr (.inr (.inr (.inr (fun i => some (ta (2 * i)))))))), (ad 6, .inl (cy 2, 40, .inr (.inr (.inr (.inr (pg)))))), (ad 12, .inl (cy 0, 16, .inl (bo)))] ++ (xs ++ (tb ++ op)))) rfl ?_
    refine gw_iret (?_) (by decide) (by decide) rfl dX11_count_50
    subst hpost
    refine qA_of ?_
    unfold spCount
    rw [if_neg c1_0, if_neg c1_1, if_pos c1_2]
    rfl
  by_cases c1_3 : (x).toInt = 3
  · refine gw_tableIn (off := 50) (tgt := 51) dX11_count_1 (by omega) (by omega) (by rw [c1_3]; rfl) (by decide) ?_
    refine gw_aload_n dX11_count_51 rfl ?_
    refine gw_W.wd (w' := bW cy ad sa ta (clN v) 0 0 nx 0 (-1000000) 0 none pg bo ++ (xs ++ (tb ++ op))) rfl ?_
    refine gw_callV 0 (As := []) (st := []) (c_bopen0 l cy ad sa ta (clN v) 0 0 nx 0 (-1000000) 0 pg bo (xs ++ (tb ++ op))) ok_X11_openRounds rfl rfl rfl wd_555 rfl rfl dX11_count_52 (by decide) (by decide) (Nat.le_of_ble_eq_true rfl) (fun r52 w52 hp52 => ?_)
    obtain ⟨rfl, rfl⟩ := hp52
    refine gw_W.norm (st' := [.int (nI (0))]) (k1 := 0) (k2 := 0) rfl rfl rfl ?_
    refine gw_W.wd (w' := ([(ad 0, .inr (9, [.int (nI (clN v)), .ref (ad 1), .ref (ad 2), .ref (sa (3 * 0)), .ref (ad 4), .ref (ad 5), .ref (ad 6), .int (nI (0)), .null, .int (nx), .int (0), .int (-1000000), .ref (ad 12), .int (nI (0)), .int (0)])), (ad 1, .inl (cy 3, 9, .inr (.inr (.inr (.inr (fun i => some (sa (3 * i)))))))), (ad 2, .inl (cy 3, 9, .inr (.inr (.inr (.inr (fun i => some (sa (3 * (9 + i))))))))), (ad 5, .inl (cy 4, 8, .inr (.inr (.inr (.inr (fun i => some (ta (2 * i)))))))), (ad 6, .inl (cy 2, 40, .inr (.inr (.inr (.inr (pg)))))), (ad 12, .inl (cy 0, 16, .inl (bo)))] ++ (xs ++ (tb ++ op)))) rfl ?_
    refine gw_iret (?_) (by decide) (by decide) rfl dX11_count_55
    subst hpost
    refine qA_of ?_
    unfold spCount
    rw [if_neg c1_0, if_neg c1_1, if_neg c1_2, if_pos c1_3]
    rfl
  by_cases c1_4 : (x).toInt = 4
  · refine gw_tableIn (off := 55) (tgt := 56) dX11_count_1 (by omega) (by omega) (by rw [c1_4]; rfl) (by decide) ?_
    refine gw_aload_n dX11_count_56 rfl ?_
    refine gw_W.wd (w' := bW cy ad sa ta (clN v) 0 0 nx 0 (-1000000) 0 none pg bo ++ (xs ++ (tb ++ op))) rfl ?_
    refine gw_callV 0 (As := []) (st := []) (c_ball0 l cy ad sa ta (clN v) 0 0 nx 0 (-1000000) 0 none pg bo xs tb op v cs hxs hcs) ok_X11_allTerms rfl rfl rfl wd_788 rfl rfl dX11_count_57 (by decide) (by decide) (Nat.le_of_ble_eq_true rfl) (fun r57 w57 hp57 => ?_)
    obtain ⟨rfl, rfl⟩ := hp57
    refine gw_W.norm (st' := [.int (nI (0))]) (k1 := 0) (k2 := 0) rfl rfl rfl ?_
    refine gw_W.wd (w' := ([(ad 0, .inr (9, [.int (nI (clN v)), .ref (ad 1), .ref (ad 2), .ref (sa (3 * 0)), .ref (ad 4), .ref (ad 5), .ref (ad 6), .int (nI (0)), .null, .int (nx), .int (0), .int (-1000000), .ref (ad 12), .int (nI (0)), .int (0)])), (ad 1, .inl (cy 3, 9, .inr (.inr (.inr (.inr (fun i => some (sa (3 * i)))))))), (ad 2, .inl (cy 3, 9, .inr (.inr (.inr (.inr (fun i => some (sa (3 * (9 + i))))))))), (ad 5, .inl (cy 4, 8, .inr (.inr (.inr (.inr (fun i => some (ta (2 * i)))))))), (ad 6, .inl (cy 2, 40, .inr (.inr (.inr (.inr (pg)))))), (ad 12, .inl (cy 0, 16, .inl (bo)))] ++ (xs ++ (tb ++ op)))) rfl ?_
    refine gw_iret (?_) (by decide) (by decide) rfl dX11_count_60
    subst hpost
    refine qA_of ?_
    unfold spCount
    rw [if_neg c1_0, if_neg c1_1, if_neg c1_2, if_neg c1_3, if_pos c1_4]
    rfl
  refine gw_tableOut (tgt := 61) dX11_count_1 (by omega) (by decide) ?_
  refine gw_ldc dX11_count_61 wd_233 ?_
  refine gw_iret (?_) (by decide) (by decide) rfl dX11_count_63
  subst hpost
  refine qA_of ?_
  unfold spCount
  rw [if_neg c1_0, if_neg c1_1, if_neg c1_2, if_neg c1_3, if_neg c1_4]
abbrev kX11_takeAll : gw_K := (yX11_takeAll, cX11_takeAll, 3, { frames := 2, cells := 0, slots := 0, locals := 81 }, none)
theorem ok_X11_takeAll : gw_calS kX11_takeAll 2 := ⟨⟨wd_738, wd_57, by decide, by decide, by decide +kernel⟩, wd_737⟩
set_option maxHeartbeats 4000000 in
set_option maxRecDepth 100000 in
theorem c_btakeAll (l : Launch) (cy : Nat → ClassId) (ad sa ta : Nat → Nat) (n ln bb : Nat) (nx sd lb lf : Int32) (lo : Option Nat) (pg : Nat → Option Nat) (bo : Nat → Int32) (T xs0 : va_W) (cs0 : Nat → List sT) (hx0 : xsP cy (ad 4) sa cs0 xs0) : gw_M l kX11_takeAll cy [.ref (ad 2), .ref (ad 1)] (bW cy ad sa ta n ln bb nx sd lb lf lo pg bo ++ (xs0 ++ T)) (fun r w' => r = none ∧ ∃ (cs : Nat → List sT) (xs : va_W), xsP cy (ad 4) sa cs xs ∧ w' = bW cy ad sa ta n ln bb nx sd lb lf lo pg bo ++ (xs ++ T)) := by
  refine gw_M.mk (lv := [some (.ref (ad 2)), some (.ref (ad 1)), none]) (by decide) (Nat.le_of_ble_eq_true rfl) rfl ?_
  generalize hpost : (fun r w' => r = none ∧ ∃ (cs : Nat → List sT) (xs : va_W), xsP cy (ad 4) sa cs xs ∧ w' = bW cy ad sa ta n ln bb nx sd lb lf lo pg bo ++ (xs ++ T) : gw_Q) = post
  refine gw_W.wd (w' := ([(ad 0, .inr (9, [.int (nI (n)), .ref (ad 1), .ref (ad 2), .ref (sa (3 * 0)), .ref (ad 4), .ref (ad 5), .ref (ad 6), .int (nI (ln)), va_rf (lo), .int (nx), .int (sd), .int (lb), .ref (ad 12), .int (nI (bb)), .int (lf)])), (ad 1, .inl (cy 3, 9, .inr (.inr (.inr (.inr (fun i => some (sa (3 * i)))))))), (ad 2, .inl (cy 3, 9, .inr (.inr (.inr (.inr (fun i => some (sa (3 * (9 + i))))))))), (ad 5, .inl (cy 4, 8, .inr (.inr (.inr (.inr (fun i => some (ta (2 * i)))))))), (ad 6, .inl (cy 2, 40, .inr (.inr (.inr (.inr (pg)))))), (ad 12, .inl (cy 0, 16, .inl (bo)))] ++ (xs0 ++ T))) rfl ?_
  refine gw_iconst (v := nI (0)) dX11_takeAll_0 (by decide) ?_
  refine gw_istore_n dX11_takeAll_1 (by decide) rfl ?_
  have cut2 : ∀ (fu : Nat) (i : Nat) (cs : Nat → List sT) (xs : va_W), (i ≤ 9) → (xsP cy (ad 4) sa cs xs) → (9 - i) < fu → gw_W l kX11_takeAll cy (gw_R kX11_takeAll post) ([(ad 0, .inr (9, [.int (nI (n)), .ref (ad 1), .ref (ad 2), .ref (sa (3 * 0)), .ref (ad 4), .ref (ad 5), .ref (ad 6), .int (nI (ln)), va_rf (lo), .int (nx), .int (sd), .int (lb), .ref (ad 12), .int (nI (bb)), .int (lf)])), (ad 1, .inl (cy 3, 9, .inr (.inr (.inr (.inr (fun i => some (sa (3 * i)))))))), (ad 2, .inl (cy 3, 9, .inr (.inr (.inr (.inr (fun i => some (sa (3 * (9 + i))))))))), (ad 5, .inl (cy 4, 8, .inr (.inr (.inr (.inr (fun i => some (ta (2 * i)))))))), (ad 6, .inl (cy 2, 40, .inr (.inr (.inr (.inr (pg)))))), (ad 12, .inl (cy 0, 16, .inl (bo)))] ++ (xs ++ T)) 0 0 2 [some (.ref (ad 2)), some (.ref (ad 1)), some (.int (nI (i)))] [] := by
    intro fu
    induction fu with
    | zero => intro i cs xs h1 h2 hfu; exact absurd hfu (Nat.not_lt_zero _)
    | succ fu ih2 =>
      intro i cs xs h1 h2 hfu
      refine gw_iload_n dX11_takeAll_2 rfl ?_
      refine gw_aload_n dX11_takeAll_3 rfl ?_
      refine gw_alen (t0 := 3) 2 rfl rfl dX11_takeAll_4 ?_
      refine gw_icmpN_ge (tgt := 29) dX11_takeAll_5 (by decide) (by omega) (by omega) (fun c5 => ?_) (fun c5 => ?_)
      · obtain rfl : i = 9 := by omega
        refine gw_vret (?_) (by decide) (by decide) rfl dX11_takeAll_29
        subst hpost
        exact ⟨rfl, cs, xs, h2, rfl⟩
      · refine gw_iload_n dX11_takeAll_8 rfl ?_
        refine gw_aload_n dX11_takeAll_9 rfl ?_
        refine gw_alen (t0 := 3) 1 rfl rfl dX11_takeAll_10 ?_
        refine gw_icmpN_ge (tgt := 29) dX11_takeAll_11 (by decide) (by omega) (by omega) (fun c11 => ?_) (fun c11 => ?_)
        · exact absurd c11 (by omega)
        · refine gw_aload_n dX11_takeAll_14 rfl ?_
          refine gw_iload_n dX11_takeAll_15 rfl ?_
          refine gw_aald3 2 rfl (rfl) (by omega) (by decide) dX11_takeAll_16 ?_
          refine gw_W.rst (st' := [.ref (sa (3 * (9 + i)))]) (rfl) ?_
          refine gw_aload_n dX11_takeAll_17 rfl ?_
          refine gw_iload_n dX11_takeAll_18 rfl ?_
          refine gw_aald3 1 rfl (rfl) (by omega) (by decide) dX11_takeAll_19 ?_
          refine gw_W.rst (st' := [.ref (sa (3 * i)), .ref (sa (3 * (9 + i)))]) (rfl) ?_
          refine gw_callHN (As := [.ref (sa (3 * i))]) (st := []) ((xs_become l cy (ad 4) sa cs xs (9 + i) i h2 (by omega) (by omega)).frame (w2 := ([(ad 0, .inr (9, [.int (nI (n)), .ref (ad 1), .ref (ad 2), .ref (sa (3 * 0)), .ref (ad 4), .ref (ad 5), .ref (ad 6), .int (nI (ln)), va_rf (lo), .int (nx), .int (sd), .int (lb), .ref (ad 12), .int (nI (bb)), .int (lf)])), (ad 1, .inl (cy 3, 9, .inr (.inr (.inr (.inr (fun i => some (sa (3 * i)))))))), (ad 2, .inl (cy 3, 9, .inr (.inr (.inr (.inr (fun i => some (sa (3 * (9 + i))))))))), (ad 5, .inl (cy 4, 8, .inr (.inr (.inr (.inr (fun i => some (ta (2 * i)))))))), (ad 6, .inl (cy 2, 40, .inr (.inr (.inr (.inr (pg)))))), (ad 12, .inl (cy 0, 16, .inl (bo)))] ++ (xs ++ T))) (f := ([(ad 0, .inr (9, [.int (nI (n)), .ref (ad 1), .ref (ad 2), .ref (sa (3 * 0)), .ref (ad 4), .ref (ad 5), .ref (ad 6), .int (nI (ln)), va_rf (lo), .int (nx), .int (sd), .int (lb), .ref (ad 12), .int (nI (bb)), .int (lf)])), (ad 1, .inl (cy 3, 9, .inr (.inr (.inr (.inr (fun i => some (sa (3 * i)))))))), (ad 2, .inl (cy 3, 9, .inr (.inr (.inr (.inr (fun i => some (sa (3 * (9 + i))))))))), (ad 5, .inl (cy 4, 8, .inr (.inr (.inr (.inr (fun i => some (ta (2 * i)))))))), (ad 6, .inl (cy 2, 40, .inr (.inr (.inr (.inr (pg)))))), (ad 12, .inl (cy 0, 16, .inl (bo)))] : va_W) ++ T) (perm_x (B := ([(ad 0, .inr (9, [.int (nI (n)), .ref (ad 1), .ref (ad 2), .ref (sa (3 * 0)), .ref (ad 4), .ref (ad 5), .ref (ad 6), .int (nI (ln)), va_rf (lo), .int (nx), .int (sd), .int (lb), .ref (ad 12), .int (nI (bb)), .int (lf)])), (ad 1, .inl (cy 3, 9, .inr (.inr (.inr (.inr (fun i => some (sa (3 * i)))))))), (ad 2, .inl (cy 3, 9, .inr (.inr (.inr (.inr (fun i => some (sa (3 * (9 + i))))))))), (ad 5, .inl (cy 4, 8, .inr (.inr (.inr (.inr (fun i => some (ta (2 * i)))))))), (ad 6, .inl (cy 2, 40, .inr (.inr (.inr (.inr (pg)))))), (ad 12, .inl (cy 0, 16, .inl (bo)))] : va_W)))) ok_X9_become (gw_has.right (gw_has.left (ssP_has h2 (i := 9 + i) (by omega)))) rfl rfl (host := "SpinBench") (by decide +kernel) rfl rfl dX11_takeAll_20 (by decide) (by decide) (Nat.le_of_ble_eq_true rfl) (fun r20 w20 hp20 => ?_)
          obtain ⟨x2, ⟨rfl, hx2⟩, rfl⟩ := hp20
          refine gw_W.perm (perm_x (B := ([(ad 0, .inr (9, [.int (nI (n)), .ref (ad 1), .ref (ad 2), .ref (sa (3 * 0)), .ref (ad 4), .ref (ad 5), .ref (ad 6), .int (nI (ln)), va_rf (lo), .int (nx), .int (sd), .int (lb), .ref (ad 12), .int (nI (bb)), .int (lf)])), (ad 1, .inl (cy 3, 9, .inr (.inr (.inr (.inr (fun i => some (sa (3 * i)))))))), (ad 2, .inl (cy 3, 9, .inr (.inr (.inr (.inr (fun i => some (sa (3 * (9 + i))))))))), (ad 5, .inl (cy 4, 8, .inr (.inr (.inr (.inr (fun i => some (ta (2 * i)))))))), (ad 6, .inl (cy 2, 40, .inr (.inr (.inr (.inr (pg)))))), (ad 12, .inl (cy 0, 16, .inl (bo)))] : va_W)) (xs := x2) (T := T)).symm ?_
          refine gw_W.norm (st' := []) (k1 := 0) (k2 := 0) rfl rfl rfl ?_
          refine gw_W.wd (w' := ([(ad 0, .inr (9, [.int (nI (n)), .ref (ad 1), .ref (ad 2), .ref (sa (3 * 0)), .ref (ad 4), .ref (ad 5), .ref (ad 6), .int (nI (ln)), va_rf (lo), .int (nx), .int (sd), .int (lb), .ref (ad 12), .int (nI (bb)), .int (lf)])), (ad 1, .inl (cy 3, 9, .inr (.inr (.inr (.inr (fun i => some (sa (3 * i)))))))), (ad 2, .inl (cy 3, 9, .inr (.inr (.inr (.inr (fun i => some (sa (3 * (9 + i))))))))), (ad 5, .inl (cy 4, 8, .inr (.inr (.inr (.inr (fun i => some (ta (2 * i)))))))), (ad 6, .inl (cy 2, 40, .inr (.inr (.inr (.inr (pg)))))), (ad 12, .inl (cy 0, 16, .inl (bo)))] ++ (x2 ++ T))) rfl ?_
          refine gw_iinc (v := nI (i + 1)) dX11_takeAll_23 rfl (nI_add _ 1) (by decide) rfl ?_
          refine gw_goto (tgt := 2) dX11_takeAll_26 (by decide) ?_
          refine ih2 (i + 1) (va_up cs (9 + i) (cs i)) (x2) (by omega) hx2 ?_
          omega
  refine cut2 _ (0) (cs0) (xs0) (Nat.zero_le _) hx0 (Nat.lt_succ_self _)
abbrev kX11_run : gw_K := (yX11_run, cX11_run, 4, { frames := 3, cells := 0, slots := 0, locals := 103 }, (some .int))
theorem ok_X11_run : gw_calV kX11_run 0 := ⟨⟨wd_735, wd_57, by decide, by decide, by decide +kernel⟩, wd_733, wd_734⟩
set_option maxHeartbeats 4000000 in
set_option maxRecDepth 100000 in
theorem t_cfrun (l : Launch) (cy : Nat → ClassId) (b : Nat) (v : Int32) (w : va_W) (hI : cInv cy b (sNew v) w)  : gw_M l kX11_run cy [.ref (b)] (w) (qA (spRun (sNew v)).1) := by
  obtain ⟨ad, sa, ta, oa, nx, lo, pg, bo, cs, xs, tb, op, td, rfl, hw, hxs, hcs, htb, hop, hN, hbo⟩ := hI
  obtain ⟨hop1, rfl, hop3⟩ := hop
  have hn4 : 1 ≤ clN v ∧ clN v ≤ 4 := clN_le v
  refine gw_M.pm hw ?_
  refine gw_M.mk (lv := [some (.ref (ad 0)), none, none, none]) (by decide) (Nat.le_of_ble_eq_true rfl) rfl ?_
  generalize hpost : (qA (spRun (sNew v)).1 : gw_Q) = post
  refine gw_W.wd (w' := ([(ad 0, .inr (9, [.int (nI (clN v)), .ref (ad 1), .ref (ad 2), .ref (sa (3 * 0)), .ref (ad 4), .ref (ad 5), .ref (ad 6), .int (nI (0)), .null, .int (nx), .int (0), .int (-1000000), .ref (ad 12), .int (nI (0)), .int (0)])), (ad 1, .inl (cy 3, 9, .inr (.inr (.inr (.inr (fun i => some (sa (3 * i)))))))), (ad 2, .inl (cy 3, 9, .inr (.inr (.inr (.inr (fun i => some (sa (3 * (9 + i))))))))), (ad 5, .inl (cy 4, 8, .inr (.inr (.inr (.inr (fun i => some (ta (2 * i)))))))), (ad 6, .inl (cy 2, 40, .inr (.inr (.inr (.inr (pg)))))), (ad 12, .inl (cy 0, 16, .inl (bo)))] ++ (xs ++ (tb ++ op)))) rfl ?_
  refine gw_aload_n dX11_run_0 rfl ?_
  refine gw_get (C0 := RX11) (T := TX11) (N := 15) (ref := RX11) 0 rfl rfl inX11 8 (by decide) wd_183 (Or.inl rfl) rfl dX11_run_1 ?_
  refine gw_ifnullN (tgt := 10) dX11_run_4 (by decide) ?_
  refine gw_aload_n dX11_run_10 rfl ?_
  refine gw_get (C0 := RX11) (T := TX11) (N := 15) (ref := RX11) 0 rfl rfl inX11 2 (by decide) wd_175 (Or.inl rfl) rfl dX11_run_11 ?_
  refine gw_aload_n dX11_run_14 rfl ?_
  refine gw_get (C0 := RX11) (T := TX11) (N := 15) (ref := RX11) 0 rfl rfl inX11 1 (by decide) wd_174 (Or.inl rfl) rfl dX11_run_15 ?_
  refine gw_W.wd (w' := bW cy ad sa ta (clN v) 0 0 nx 0 (-1000000) 0 none pg bo ++ (xs ++ (tb ++ op))) rfl ?_
  refine gw_callS (As := [.ref (ad 2), .ref (ad 1)]) (st := []) (c_btakeAll l cy ad sa ta (clN v) 0 0 nx 0 (-1000000) 0 none pg bo (tb ++ op) xs cs hxs) ok_X11_takeAll wd_736 rfl rfl dX11_run_18 (by decide) (by decide) (Nat.le_of_ble_eq_true rfl) (fun r18 w18 hp18 => ?_)
  obtain ⟨rfl, c2, x2, hx2, rfl⟩ := hp18
  refine gw_W.norm (st' := []) (k1 := 0) (k2 := 0) rfl rfl rfl ?_
  refine gw_W.wd (w' := ([(ad 0, .inr (9, [.int (nI (clN v)), .ref (ad 1), .ref (ad 2), .ref (sa (3 * 0)), .ref (ad 4), .ref (ad 5), .ref (ad 6), .int (nI (0)), .null, .int (nx), .int (0), .int (-1000000), .ref (ad 12), .int (nI (0)), .int (0)])), (ad 1, .inl (cy 3, 9, .inr (.inr (.inr (.inr (fun i => some (sa (3 * i)))))))), (ad 2, .inl (cy 3, 9, .inr (.inr (.inr (.inr (fun i => some (sa (3 * (9 + i))))))))), (ad 5, .inl (cy 4, 8, .inr (.inr (.inr (.inr (fun i => some (ta (2 * i)))))))), (ad 6, .inl (cy 2, 40, .inr (.inr (.inr (.inr (pg)))))), (ad 12, .inl (cy 0, 16, .inl (bo)))] ++ (x2 ++ (tb ++ op)))) rfl ?_
  refine gw_aload_n dX11_run_21 rfl ?_
  refine gw_iconst (v := nI (0)) dX11_run_22 (by decide) ?_
  refine gw_put (C0 := RX11) (T := TX11) (N := 15) (ref := RX11) (ty := tyX11 10) 0 rfl rfl inX11 10 (by decide) tyX11 tyX11_ok nmX11 wd_186 (Or.inl rfl) rfl (tyX11_ok 10 (by decide)) (rfl) rfl (Nat.le_of_ble_eq_true rfl) dX11_run_23 ?_
  refine gw_W.wd (w' := ([(ad 0, .inr (9, [.int (nI (clN v)), .ref (ad 1), .ref (ad 2), .ref (sa (3 * 0)), .ref (ad 4), .ref (ad 5), .ref (ad 6), .int (nI (0)), .null, .int (nx), .int (nI (0)), .int (-1000000), .ref (ad 12), .int (nI (0)), .int (0)])), (ad 1, .inl (cy 3, 9, .inr (.inr (.inr (.inr (fun i => some (sa (3 * i)))))))), (ad 2, .inl (cy 3, 9, .inr (.inr (.inr (.inr (fun i => some (sa (3 * (9 + i))))))))), (ad 5, .inl (cy 4, 8, .inr (.inr (.inr (.inr (fun i => some (ta (2 * i)))))))), (ad 6, .inl (cy 2, 40, .inr (.inr (.inr (.inr (pg)))))), (ad 12, .inl (cy 0, 16, .inl (bo)))] ++ (x2 ++ (tb ++ op)))) rfl ?_
  refine gw_aload_n dX11_run_26 rfl ?_
  refine gw_ldc dX11_run_27 wd_121 ?_
  refine gw_put (C0 := RX11) (T := TX11) (N := 15) (ref := RX11) (ty := tyX11 11) 0 rfl rfl inX11 11 (by decide) tyX11 tyX11_ok nmX11 wd_187 (Or.inl rfl) rfl (tyX11_ok 11 (by decide)) (rfl) rfl (Nat.le_of_ble_eq_true rfl) dX11_run_29 ?_
  refine gw_W.wd (w' := ([(ad 0, .inr (9, [.int (nI (clN v)), .ref (ad 1), .ref (ad 2), .ref (sa (3 * 0)), .ref (ad 4), .ref (ad 5), .ref (ad 6), .int (nI (0)), .null, .int (nx), .int (nI (0)), .int (((-1000000) : Int32)), .ref (ad 12), .int (nI (0)), .int (0)])), (ad 1, .inl (cy 3, 9, .inr (.inr (.inr (.inr (fun i => some (sa (3 * i)))))))), (ad 2, .inl (cy 3, 9, .inr (.inr (.inr (.inr (fun i => some (sa (3 * (9 + i))))))))), (ad 5, .inl (cy 4, 8, .inr (.inr (.inr (.inr (fun i => some (ta (2 * i)))))))), (ad 6, .inl (cy 2, 40, .inr (.inr (.inr (.inr (pg)))))), (ad 12, .inl (cy 0, 16, .inl (bo)))] ++ (x2 ++ (tb ++ op)))) rfl ?_
  refine gw_iconst (v := nI (0)) dX11_run_32 (by decide) ?_
  refine gw_istore_n dX11_run_33 (by decide) rfl ?_
  refine gw_aload_n dX11_run_34 rfl ?_
  refine gw_iconst (v := nI (0)) dX11_run_35 (by decide) ?_
  refine gw_W.wd (w' := bW cy ad sa ta (clN v) 0 0 nx (nI (0)) (((-1000000) : Int32)) 0 none pg bo ++ (x2 ++ (tb ++ op))) rfl ?_
  refine gw_callV 0 (As := [.int (nI (0))]) (st := []) (c_bopAt l cy ad sa ta (clN v) 0 0 nx (nI (0)) (((-1000000) : Int32)) 0 none pg bo (x2 ++ (tb ++ op)) (nI (0)) (by decide)) ok_X11_opAt rfl rfl rfl wd_614 rfl rfl dX11_run_36 (by decide) (by decide) (Nat.le_of_ble_eq_true rfl) (fun r36 w36 hp36 => ?_)
  obtain ⟨rfl, rfl⟩ := hp36
  rw [if_neg op0]
  refine gw_W.norm (st' := [.null]) (k1 := 0) (k2 := 0) rfl rfl rfl ?_
  refine gw_W.wd (w' := ([(ad 0, .inr (9, [.int (nI (clN v)), .ref (ad 1), .ref (ad 2), .ref (sa (3 * 0)), .ref (ad 4), .ref (ad 5), .ref (ad 6), .int (nI (0)), .null, .int (nx), .int (nI (0)), .int (((-1000000) : Int32)), .ref (ad 12), .int (nI (0)), .int (0)])), (ad 1, .inl (cy 3, 9, .inr (.inr (.inr (.inr (fun i => some (sa (3 * i)))))))), (ad 2, .inl (cy 3, 9, .inr (.inr (.inr (.inr (fun i => some (sa (3 * (9 + i))))))))), (ad 5, .inl (cy 4, 8, .inr (.inr (.inr (.inr (fun i => some (ta (2 * i)))))))), (ad 6, .inl (cy 2, 40, .inr (.inr (.inr (.inr (pg)))))), (ad 12, .inl (cy 0, 16, .inl (bo)))] ++ (x2 ++ (tb ++ op)))) rfl ?_
  refine gw_astore_nN dX11_run_39 (by decide) rfl ?_
  refine gw_iconst (v := nI (0)) dX11_run_40 (by decide) ?_
  refine gw_istore_n dX11_run_41 (by decide) rfl ?_
  refine gw_iload_n dX11_run_42 rfl ?_
  refine gw_sipush (v := nI (500)) dX11_run_43 (by decide) ?_
  refine gw_icmpN_ge (tgt := 110) dX11_run_46 (by decide) (by omega) (by omega) (fun c46 => ?_) (fun c46 => ?_)
  · exact absurd c46 (by decide)
  · refine gw_aload_nN dX11_run_49 rfl ?_
    refine gw_ifnullN (tgt := 110) dX11_run_50 (by decide) ?_
    refine gw_aload_nN dX11_run_110 rfl ?_
    refine gw_ifnonnullN dX11_run_111 ?_
    refine gw_aload_n dX11_run_114 rfl ?_
    refine gw_aload_n dX11_run_115 rfl ?_
    refine gw_get (C0 := RX11) (T := TX11) (N := 15) (ref := RX11) 0 rfl rfl inX11 10 (by decide) wd_186 (Or.inl rfl) rfl dX11_run_116 ?_
    refine gw_W.wd (w' := bW cy ad sa ta (clN v) 0 0 nx (nI (0)) (((-1000000) : Int32)) 0 none pg bo ++ (x2 ++ (tb ++ op))) rfl ?_
    refine gw_callV 0 (As := [.int (nI (0))]) (st := []) (c_bnotFound l cy ad sa ta (clN v) 0 0 nx (nI (0)) (((-1000000) : Int32)) 0 none pg bo (x2 ++ (tb ++ op)) (nI (0))) ok_X11_notFound rfl rfl rfl wd_246 rfl rfl dX11_run_119 (by decide) (by decide) (Nat.le_of_ble_eq_true rfl) (fun r119 w119 hp119 => ?_)
    obtain ⟨rfl, rfl⟩ := hp119
    refine gw_W.norm (st' := [.int (nI (0))]) (k1 := 0) (k2 := 0) rfl rfl rfl ?_
    refine gw_W.wd (w' := ([(ad 0, .inr (9, [.int (nI (clN v)), .ref (ad 1), .ref (ad 2), .ref (sa (3 * 0)), .ref (ad 4), .ref (ad 5), .ref (ad 6), .int (nI (0)), .null, .int (nx), .int (nI (0)), .int (((-1000000) : Int32)), .ref (ad 12), .int (nI (0)), .int (0)])), (ad 1, .inl (cy 3, 9, .inr (.inr (.inr (.inr (fun i => some (sa (3 * i)))))))), (ad 2, .inl (cy 3, 9, .inr (.inr (.inr (.inr (fun i => some (sa (3 * (9 + i))))))))), (ad 5, .inl (cy 4, 8, .inr (.inr (.inr (.inr (fun i => some (ta (2 * i)))))))), (ad 6, .inl (cy 2, 40, .inr (.inr (.inr (.inr (pg)))))), (ad 12, .inl (cy 0, 16, .inl (bo)))] ++ (x2 ++ (tb ++ op)))) rfl ?_
    refine gw_iret (?_) (by decide) (by decide) rfl dX11_run_122
    subst hpost
    refine qA_of ?_
    unfold spRun rnA
    rw [if_pos (show opC (sNew v) = 0 from rfl), show sOp (sNew v) = [] from rfl, rn_nil]
    rfl
