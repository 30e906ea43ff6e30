/-! the bench: its object and five rows; small methods -/
def bW (cy : Nat → ClassId) (ad sa ta : Nat → Nat) (n ln bb : Nat) (nx sd lb lf : Int32) (lo : Option Nat) (pg : Nat → Option Nat) (bo : Nat → Int32) : va_W := [(ad 0, .inr (9, [.int (nI n), .ref (ad 1), .ref (ad 2), .ref (sa (3 * 0)), .ref (ad 4), .ref (ad 5), .ref (ad 6), .int (nI ln), va_rf lo, .int nx, .int sd, .int lb, .ref (ad 12), .int (nI bb), .int lf])), (ad 1, .inl (cy 3, 9, .inr (.inr (.inr (.inr (fun i => some (sa (3 * i)))))))), (ad 2, .inl (cy 3, 9, .inr (.inr (.inr (.inr (fun i => some (sa (3 * (9 + i))))))))), (ad 5, .inl (cy 4, 8, .inr (.inr (.inr (.inr (fun i => some (ta (2 * i)))))))), (ad 6, .inl (cy 2, 40, .inr (.inr (.inr (.inr pg))))), (ad 12, .inl (cy 0, 16, .inl bo))]
theorem gw_M.pm {l : Launch} {κ : gw_K} {cy : Nat → ClassId} {av : List Value} {w w2 : va_W} {post : gw_Q} (hw : w2.Perm w) (h : gw_M l κ cy av w post) : gw_M l κ cy av w2 post :=
  h.lift (f := []) (by rw [List.append_nil]; exact hw) (fun r w1 hh => by rw [List.append_nil]; exact hh)
/-- the place of a shelf's sum in the class -/
def cP (s : Int32) : Nat := (s.toInt + 1).toNat
theorem cP_eq {s : Int32} (h : inZ s.toInt (-1) 7 = true) : s + nI 1 = nI (cP s) ∧ cP s < 9 := by
  rw [inZ_t] at h
  have e : (s + nI 1).toInt = s.toInt + 1 := by
    rw [Int32.toInt_add, show (nI 1).toInt = 1 from by decide, Int.bmod_eq_of_le]
    · have : (2 ^ 32 : Nat) / 2 = 2147483648 := by decide
      omega
    · have : ((2 ^ 32 : Nat) + 1) / 2 = 2147483648 := by decide
      omega
  refine ⟨?_, by unfold cP; omega⟩
  rw [i32_eq, e, nI_toInt (by unfold cP; omega)]; unfold cP; omega
abbrev kX11_sumAt : gw_K := (yX11_sumAt, cX11_sumAt, 2, { frames := 1, cells := 0, slots := 0, locals := 22 }, (some (.object "SpinBench$Sum")))
theorem ok_X11_sumAt : gw_calV kX11_sumAt 1 := ⟨⟨wd_280, wd_57, by decide, by decide, by decide +kernel⟩, wd_279, wd_6⟩
set_option maxHeartbeats 4000000 in
set_option maxRecDepth 100000 in
theorem c_bsumAt (l : Launch) (cy : Nat → ClassId) (ad sa ta : Nat → Nat) (n ln bb : Nat) (nx sd lb lf : Int32) (lo : Option Nat) (pg : Nat → Option Nat) (bo : Nat → Int32) (R : va_W) (s : Int32) : gw_M l kX11_sumAt cy [.ref (ad 0), .int (s)] (bW cy ad sa ta n ln bb nx sd lb lf lo pg bo ++ R) (fun r w' => r = some (va_rf (if inZ s.toInt (-1) 7 = true then some (sa (3 * cP s)) else none)) ∧ w' = bW cy ad sa ta n ln bb nx sd lb lf lo pg bo ++ R) := by
  refine gw_M.mk (lv := [some (.ref (ad 0)), some (.int (s))]) (by decide) (Nat.le_of_ble_eq_true rfl) rfl ?_
  generalize hpost : (fun r w' => r = some (va_rf (if inZ s.toInt (-1) 7 = true then some (sa (3 * cP s)) else none)) ∧ w' = bW cy ad sa ta n ln bb nx sd lb lf lo pg bo ++ R : gw_Q) = post
  refine gw_W.wd (w' := ([(ad 0, .inr (9, [.int (nI (n)), .ref (ad 1), .ref (ad 2), .ref (sa (3 * 0)), .ref (ad 4), .ref (ad 5), .ref (ad 6), .int (nI (ln)), va_rf (lo), .int (nx), .int (sd), .int (lb), .ref (ad 12), .int (nI (bb)), .int (lf)])), (ad 1, .inl (cy 3, 9, .inr (.inr (.inr (.inr (fun i => some (sa (3 * i)))))))), (ad 2, .inl (cy 3, 9, .inr (.inr (.inr (.inr (fun i => some (sa (3 * (9 + i))))))))), (ad 5, .inl (cy 4, 8, .inr (.inr (.inr (.inr (fun i => some (ta (2 * i)))))))), (ad 6, .inl (cy 2, 40, .inr (.inr (.inr (.inr (pg)))))), (ad 12, .inl (cy 0, 16, .inl (bo)))] ++ R)) rfl ?_
  refine gw_iload_n dX11_sumAt_0 rfl ?_
  refine gw_iconst (v := (-1 : Int32)) dX11_sumAt_1 (by decide) ?_
  refine gw_bipush (v := nI (7)) dX11_sumAt_2 (by decide) ?_
  refine gw_callS (As := [.int (s), .int ((-1 : Int32)), .int (nI (7))]) (st := []) (c_within l cy (s) ((-1 : Int32)) (nI (7)) ([(ad 0, .inr (9, [.int (nI (n)), .ref (ad 1), .ref (ad 2), .ref (sa (3 * 0)), .ref (ad 4), .ref (ad 5), .ref (ad 6), .int (nI (ln)), va_rf (lo), .int (nx), .int (sd), .int (lb), .ref (ad 12), .int (nI (bb)), .int (lf)])), (ad 1, .inl (cy 3, 9, .inr (.inr (.inr (.inr (fun i => some (sa (3 * i)))))))), (ad 2, .inl (cy 3, 9, .inr (.inr (.inr (.inr (fun i => some (sa (3 * (9 + i))))))))), (ad 5, .inl (cy 4, 8, .inr (.inr (.inr (.inr (fun i => some (ta (2 * i)))))))), (ad 6, .inl (cy 2, 40, .inr (.inr (.inr (.inr (pg)))))), (ad 12, .inl (cy 0, 16, .inl (bo)))] ++ R)) ok_X11_within wd_230 rfl rfl dX11_sumAt_4 (by decide) (by decide) (Nat.le_of_ble_eq_true rfl) (fun r4 w4 hp4 => ?_)
  obtain ⟨rfl, rfl⟩ := hp4
  refine gw_W.norm (st' := [.int (bI (inZ (s).toInt ((-1 : Int32)).toInt (nI (7)).toInt))]) (k1 := 0) (k2 := 0) rfl rfl rfl ?_
  refine gw_if_eq (tgt := 21) dX11_sumAt_7 (by decide) (fun c7 => ?_) (fun c7 => ?_)
  · rw [bI_0] at c7
    have d7 : inZ s.toInt (-1) 7 = false := c7
    refine gw_null dX11_sumAt_21 ?_
    refine gw_aret (o := none) (?_) (by decide) (by decide) rfl dX11_sumAt_22
    subst hpost
    first
      | (rw [if_pos d7]; exact ⟨rfl, rfl⟩)
      | (rw [if_neg (by rw [d7]; decide)]; exact ⟨rfl, rfl⟩)
  · rw [bI_n0] at c7
    have d7 : inZ s.toInt (-1) 7 = true := c7
    obtain ⟨e1, e2⟩ := cP_eq d7
    refine gw_aload_n dX11_sumAt_10 rfl ?_
    refine gw_get (C0 := RX11) (T := TX11) (N := 15) (ref := RX11) 0 rfl rfl inX11 1 (by decide) wd_174 (Or.inl rfl) rfl dX11_sumAt_11 ?_
    refine gw_iload_n dX11_sumAt_14 rfl ?_
    refine gw_iconst (v := nI (1)) dX11_sumAt_15 (by decide) ?_
    refine gw_iadd dX11_sumAt_16 ?_
    refine gw_topi (y := nI (cP s)) (e1) ?_
    refine gw_aald3 1 rfl (rfl) (e2) (by decide) dX11_sumAt_17 ?_
    refine gw_W.rst (st' := [.ref (sa (3 * cP s))]) (rfl) ?_
    refine gw_goto (tgt := 22) dX11_sumAt_18 (by decide) ?_
    refine gw_aret (o := some (sa (3 * cP s))) (?_) (by decide) (by decide) rfl dX11_sumAt_22
    subst hpost
    first
      | (rw [if_pos d7]; exact ⟨rfl, rfl⟩)
      | (rw [if_neg (by rw [d7]; decide)]; exact ⟨rfl, rfl⟩)
abbrev kX11_tableAt : gw_K := (yX11_tableAt, cX11_tableAt, 2, { frames := 1, cells := 0, slots := 0, locals := 22 }, (some (.object "SpinBench$Table")))
theorem ok_X11_tableAt : gw_calV kX11_tableAt 1 := ⟨⟨wd_229, wd_57, by decide, by decide, by decide +kernel⟩, wd_228, wd_0⟩
set_option maxHeartbeats 4000000 in
set_option maxRecDepth 100000 in
theorem c_btableAt (l : Launch) (cy : Nat → ClassId) (ad sa ta : Nat → Nat) (n ln bb : Nat) (nx sd lb lf : Int32) (lo : Option Nat) (pg : Nat → Option Nat) (bo : Nat → Int32) (R : va_W) (s : Int32) : gw_M l kX11_tableAt cy [.ref (ad 0), .int (s)] (bW cy ad sa ta n ln bb nx sd lb lf lo pg bo ++ R) (fun r w' => r = some (va_rf (if inZ s.toInt 0 7 = true then some (ta (2 * tI s)) else none)) ∧ w' = bW cy ad sa ta n ln bb nx sd lb lf lo pg bo ++ R) := by
  refine gw_M.mk (lv := [some (.ref (ad 0)), some (.int (s))]) (by decide) (Nat.le_of_ble_eq_true rfl) rfl ?_
  generalize hpost : (fun r w' => r = some (va_rf (if inZ s.toInt 0 7 = true then some (ta (2 * tI s)) else none)) ∧ w' = bW cy ad sa ta n ln bb nx sd lb lf lo pg bo ++ R : gw_Q) = post
  refine gw_W.wd (w' := ([(ad 0, .inr (9, [.int (nI (n)), .ref (ad 1), .ref (ad 2), .ref (sa (3 * 0)), .ref (ad 4), .ref (ad 5), .ref (ad 6), .int (nI (ln)), va_rf (lo), .int (nx), .int (sd), .int (lb), .ref (ad 12), .int (nI (bb)), .int (lf)])), (ad 1, .inl (cy 3, 9, .inr (.inr (.inr (.inr (fun i => some (sa (3 * i)))))))), (ad 2, .inl (cy 3, 9, .inr (.inr (.inr (.inr (fun i => some (sa (3 * (9 + i))))))))), (ad 5, .inl (cy 4, 8, .inr (.inr (.inr (.inr (fun i => some (ta (2 * i)))))))), (ad 6, .inl (cy 2, 40, .inr (.inr (.inr (.inr (pg)))))), (ad 12, .inl (cy 0, 16, .inl (bo)))] ++ R)) rfl ?_
  refine gw_iload_n dX11_tableAt_0 rfl ?_
  refine gw_iconst (v := nI (0)) dX11_tableAt_1 (by decide) ?_
  refine gw_bipush (v := nI (7)) dX11_tableAt_2 (by decide) ?_
  refine gw_callS (As := [.int (s), .int (nI (0)), .int (nI (7))]) (st := []) (c_within l cy (s) (nI (0)) (nI (7)) ([(ad 0, .inr (9, [.int (nI (n)), .ref (ad 1), .ref (ad 2), .ref (sa (3 * 0)), .ref (ad 4), .ref (ad 5), .ref (ad 6), .int (nI (ln)), va_rf (lo), .int (nx), .int (sd), .int (lb), .ref (ad 12), .int (nI (bb)), .int (lf)])), (ad 1, .inl (cy 3, 9, .inr (.inr (.inr (.inr (fun i => some (sa (3 * i)))))))), (ad 2, .inl (cy 3, 9, .inr (.inr (.inr (.inr (fun i => some (sa (3 * (9 + i))))))))), (ad 5, .inl (cy 4, 8, .inr (.inr (.inr (.inr (fun i => some (ta (2 * i)))))))), (ad 6, .inl (cy 2, 40, .inr (.inr (.inr (.inr (pg)))))), (ad 12, .inl (cy 0, 16, .inl (bo)))] ++ R)) ok_X11_within wd_230 rfl rfl dX11_tableAt_4 (by decide) (by decide) (Nat.le_of_ble_eq_true rfl) (fun r4 w4 hp4 => ?_)
  obtain ⟨rfl, rfl⟩ := hp4
  refine gw_W.norm (st' := [.int (bI (inZ (s).toInt (nI (0)).toInt (nI (7)).toInt))]) (k1 := 0) (k2 := 0) rfl rfl rfl ?_
  refine gw_if_eq (tgt := 19) dX11_tableAt_7 (by decide) (fun c7 => ?_) (fun c7 => ?_)
  · rw [bI_0] at c7
    have d7 : inZ s.toInt 0 7 = false := c7
    refine gw_null dX11_tableAt_19 ?_
    refine gw_aret (o := none) (?_) (by decide) (by decide) rfl dX11_tableAt_20
    subst hpost
    first
      | (rw [if_pos d7]; exact ⟨rfl, rfl⟩)
      | (rw [if_neg (by rw [d7]; decide)]; exact ⟨rfl, rfl⟩)
  · rw [bI_n0] at c7
    have d7 : inZ s.toInt 0 7 = true := c7
    refine gw_aload_n dX11_tableAt_10 rfl ?_
    refine gw_get (C0 := RX11) (T := TX11) (N := 15) (ref := RX11) 0 rfl rfl inX11 5 (by decide) wd_180 (Or.inl rfl) rfl dX11_tableAt_11 ?_
    refine gw_iload_n dX11_tableAt_14 rfl ?_
    refine gw_aald4 3 rfl (tI_eq d7) (tI_lt d7) (by decide) dX11_tableAt_15 ?_
    refine gw_W.rst (st' := [.ref (ta (2 * tI s))]) (rfl) ?_
    refine gw_goto (tgt := 20) dX11_tableAt_16 (by decide) ?_
    refine gw_aret (o := some (ta (2 * tI s))) (?_) (by decide) (by decide) rfl dX11_tableAt_20
    subst hpost
    first
      | (rw [if_pos d7]; exact ⟨rfl, rfl⟩)
      | (rw [if_neg (by rw [d7]; decide)]; exact ⟨rfl, rfl⟩)
abbrev kX11_opAt : gw_K := (yX11_opAt, cX11_opAt, 2, { frames := 1, cells := 0, slots := 0, locals := 22 }, (some (.object "SpinBench$Op")))
theorem ok_X11_opAt : gw_calV kX11_opAt 1 := ⟨⟨wd_617, wd_57, by decide, by decide, by decide +kernel⟩, wd_616, wd_28⟩
set_option maxHeartbeats 4000000 in
set_option maxRecDepth 100000 in
theorem c_bopAt (l : Launch) (cy : Nat → ClassId) (ad sa ta : Nat → Nat) (n ln bb : Nat) (nx sd lb lf : Int32) (lo : Option Nat) (pg : Nat → Option Nat) (bo : Nat → Int32) (R : va_W) (s : Int32) (hl : ln ≤ 40) : gw_M l kX11_opAt cy [.ref (ad 0), .int (s)] (bW cy ad sa ta n ln bb nx sd lb lf lo pg bo ++ R) (fun r w' => r = some (va_rf (if inZ s.toInt 0 ((ln : Int) - 1) = true then pg (tI s) else none)) ∧ w' = bW cy ad sa ta n ln bb nx sd lb lf lo pg bo ++ R) := by
  refine gw_M.mk (lv := [some (.ref (ad 0)), some (.int (s))]) (by decide) (Nat.le_of_ble_eq_true rfl) rfl ?_
  generalize hpost : (fun r w' => r = some (va_rf (if inZ s.toInt 0 ((ln : Int) - 1) = true then pg (tI s) else none)) ∧ w' = bW cy ad sa ta n ln bb nx sd lb lf lo pg bo ++ R : gw_Q) = post
  refine gw_W.wd (w' := ([(ad 0, .inr (9, [.int (nI (n)), .ref (ad 1), .ref (ad 2), .ref (sa (3 * 0)), .ref (ad 4), .ref (ad 5), .ref (ad 6), .int (nI (ln)), va_rf (lo), .int (nx), .int (sd), .int (lb), .ref (ad 12), .int (nI (bb)), .int (lf)])), (ad 1, .inl (cy 3, 9, .inr (.inr (.inr (.inr (fun i => some (sa (3 * i)))))))), (ad 2, .inl (cy 3, 9, .inr (.inr (.inr (.inr (fun i => some (sa (3 * (9 + i))))))))), (ad 5, .inl (cy 4, 8, .inr (.inr (.inr (.inr (fun i => some (ta (2 * i)))))))), (ad 6, .inl (cy 2, 40, .inr (.inr (.inr (.inr (pg)))))), (ad 12, .inl (cy 0, 16, .inl (bo)))] ++ R)) rfl ?_
  refine gw_iload_n dX11_opAt_0 rfl ?_
  refine gw_iconst (v := nI (0)) dX11_opAt_1 (by decide) ?_
  refine gw_aload_n dX11_opAt_2 rfl ?_
  refine gw_get (C0 := RX11) (T := TX11) (N := 15) (ref := RX11) 0 rfl rfl inX11 7 (by decide) wd_182 (Or.inl rfl) rfl dX11_opAt_3 ?_
  refine gw_iconst (v := nI (1)) dX11_opAt_6 (by decide) ?_
  refine gw_isub dX11_opAt_7 ?_
  refine gw_callS (As := [.int (s), .int (nI (0)), .int ((nI (ln)) - (nI (1)))]) (st := []) (c_within l cy (s) (nI (0)) ((nI (ln)) - (nI (1))) ([(ad 0, .inr (9, [.int (nI (n)), .ref (ad 1), .ref (ad 2), .ref (sa (3 * 0)), .ref (ad 4), .ref (ad 5), .ref (ad 6), .int (nI (ln)), va_rf (lo), .int (nx), .int (sd), .int (lb), .ref (ad 12), .int (nI (bb)), .int (lf)])), (ad 1, .inl (cy 3, 9, .inr (.inr (.inr (.inr (fun i => some (sa (3 * i)))))))), (ad 2, .inl (cy 3, 9, .inr (.inr (.inr (.inr (fun i => some (sa (3 * (9 + i))))))))), (ad 5, .inl (cy 4, 8, .inr (.inr (.inr (.inr (fun i => some (ta (2 * i)))))))), (ad 6, .inl (cy 2, 40, .inr (.inr (.inr (.inr (pg)))))), (ad 12, .inl (cy 0, 16, .inl (bo)))] ++ R)) ok_X11_within wd_230 rfl rfl dX11_opAt_8 (by decide) (by decide) (Nat.le_of_ble_eq_true rfl) (fun r8 w8 hp8 => ?_)
  obtain ⟨rfl, rfl⟩ := hp8
  refine gw_W.norm (st' := [.int (bI (inZ (s).toInt (nI (0)).toInt ((nI (ln)) - (nI (1))).toInt))]) (k1 := 0) (k2 := 0) rfl rfl rfl ?_
  refine gw_if_eq (tgt := 23) dX11_opAt_11 (by decide) (fun c11 => ?_) (fun c11 => ?_)
  · rw [bI_0, i32_sub1 _ (by omega)] at c11
    have d7 : inZ s.toInt 0 ((ln : Int) - 1) = false := c11
    refine gw_null dX11_opAt_23 ?_
    refine gw_aret (o := none) (?_) (by decide) (by decide) rfl dX11_opAt_24
    subst hpost
    first
      | (rw [if_pos d7]; exact ⟨rfl, rfl⟩)
      | (rw [if_neg (by rw [d7]; decide)]; exact ⟨rfl, rfl⟩)
  · rw [bI_n0, i32_sub1 _ (by omega)] at c11
    have d7 : inZ s.toInt 0 ((ln : Int) - 1) = true := c11
    have d8 : tI s < 40 := by rw [inZ_t] at d7; unfold tI; omega
    refine gw_aload_n dX11_opAt_14 rfl ?_
    refine gw_get (C0 := RX11) (T := TX11) (N := 15) (ref := RX11) 0 rfl rfl inX11 6 (by decide) wd_181 (Or.inl rfl) rfl dX11_opAt_15 ?_
    refine gw_iload_n dX11_opAt_18 rfl ?_
    refine gw_aald2 4 rfl (tI_eq d7) (d8) (by decide) dX11_opAt_19 ?_
    refine gw_W.rst (st' := [va_rf (pg (tI s))]) (rfl) ?_
    refine gw_goto (tgt := 24) dX11_opAt_20 (by decide) ?_
    refine gw_aret (o := pg (tI s)) (?_) (by decide) (by decide) rfl dX11_opAt_24
    subst hpost
    first
      | (rw [if_pos d7]; exact ⟨rfl, rfl⟩)
      | (rw [if_neg (by rw [d7]; decide)]; exact ⟨rfl, rfl⟩)
abbrev kX11_found : gw_K := (yX11_found, cX11_found, 2, { frames := 0, cells := 0, slots := 0, locals := 0 }, (some .int))
theorem ok_X11_found : gw_calV kX11_found 1 := ⟨⟨wd_237, wd_57, by decide, by decide, by decide +kernel⟩, wd_236, wd_1⟩
set_option maxHeartbeats 4000000 in
set_option maxRecDepth 100000 in
theorem c_bfound (l : Launch) (cy : Nat → ClassId) (ad sa ta : Nat → Nat) (n ln bb : Nat) (nx sd lb lf : Int32) (lo : Option Nat) (pg : Nat → Option Nat) (bo : Nat → Int32) (R : va_W) (f : Int32) : gw_M l kX11_found cy [.ref (ad 0), .int (f)] (bW cy ad sa ta n ln bb nx sd lb lf lo pg bo ++ R) (fun r w' => r = some (.int ((-1000010) - f)) ∧ w' = bW cy ad sa ta n ln bb nx sd lb f lo pg bo ++ R) := by
  refine gw_M.mk (lv := [some (.ref (ad 0)), some (.int (f))]) (by decide) (Nat.le_of_ble_eq_true rfl) rfl ?_
  generalize hpost : (fun r w' => r = some (.int ((-1000010) - f)) ∧ w' = bW cy ad sa ta n ln bb nx sd lb f lo pg bo ++ R : gw_Q) = post
  refine gw_W.wd (w' := ([(ad 0, .inr (9, [.int (nI (n)), .ref (ad 1), .ref (ad 2), .ref (sa (3 * 0)), .ref (ad 4), .ref (ad 5), .ref (ad 6), .int (nI (ln)), va_rf (lo), .int (nx), .int (sd), .int (lb), .ref (ad 12), .int (nI (bb)), .int (lf)])), (ad 1, .inl (cy 3, 9, .inr (.inr (.inr (.inr (fun i => some (sa (3 * i)))))))), (ad 2, .inl (cy 3, 9, .inr (.inr (.inr (.inr (fun i => some (sa (3 * (9 + i))))))))), (ad 5, .inl (cy 4, 8, .inr (.inr (.inr (.inr (fun i => some (ta (2 * i)))))))), (ad 6, .inl (cy 2, 40, .inr (.inr (.inr (.inr (pg)))))), (ad 12, .inl (cy 0, 16, .inl (bo)))] ++ R)) rfl ?_
  refine gw_aload_n dX11_found_0 rfl ?_
  refine gw_iload_n dX11_found_1 rfl ?_
  refine gw_put (C0 := RX11) (T := TX11) (N := 15) (ref := RX11) (ty := tyX11 14) 0 rfl rfl inX11 14 (by decide) tyX11 tyX11_ok nmX11 wd_190 (Or.inl rfl) rfl (tyX11_ok 14 (by decide)) (rfl) rfl (Nat.le_of_ble_eq_true rfl) dX11_found_2 ?_
  refine gw_W.wd (w' := ([(ad 0, .inr (9, [.int (nI (n)), .ref (ad 1), .ref (ad 2), .ref (sa (3 * 0)), .ref (ad 4), .ref (ad 5), .ref (ad 6), .int (nI (ln)), va_rf (lo), .int (nx), .int (sd), .int (lb), .ref (ad 12), .int (nI (bb)), .int (f)])), (ad 1, .inl (cy 3, 9, .inr (.inr (.inr (.inr (fun i => some (sa (3 * i)))))))), (ad 2, .inl (cy 3, 9, .inr (.inr (.inr (.inr (fun i => some (sa (3 * (9 + i))))))))), (ad 5, .inl (cy 4, 8, .inr (.inr (.inr (.inr (fun i => some (ta (2 * i)))))))), (ad 6, .inl (cy 2, 40, .inr (.inr (.inr (.inr (pg)))))), (ad 12, .inl (cy 0, 16, .inl (bo)))] ++ R)) rfl ?_
  refine gw_ldcw dX11_found_5 wd_238 ?_
  refine gw_iload_n dX11_found_8 rfl ?_
  refine gw_isub dX11_found_9 ?_
  refine gw_iret (?_) (by decide) (by decide) rfl dX11_found_10
  subst hpost
  exact ⟨rfl, rfl⟩
abbrev kX11_notFound : gw_K := (yX11_notFound, cX11_notFound, 2, { frames := 0, cells := 0, slots := 0, locals := 0 }, (some .int))
theorem ok_X11_notFound : gw_calV kX11_notFound 1 := ⟨⟨wd_249, wd_57, by decide, by decide, by decide +kernel⟩, wd_248, wd_3⟩
set_option maxHeartbeats 4000000 in
set_option maxRecDepth 100000 in
theorem c_bnotFound (l : Launch) (cy : Nat → ClassId) (ad sa ta : Nat → Nat) (n ln bb : Nat) (nx sd lb lf : Int32) (lo : Option Nat) (pg : Nat → Option Nat) (bo : Nat → Int32) (R : va_W) (v : Int32) : gw_M l kX11_notFound cy [.ref (ad 0), .int (v)] (bW cy ad sa ta n ln bb nx sd lb lf lo pg bo ++ R) (fun r w' => r = some (.int v) ∧ w' = bW cy ad sa ta n ln bb nx sd lb 0 lo pg bo ++ R) := by
  refine gw_M.mk (lv := [some (.ref (ad 0)), some (.int (v))]) (by decide) (Nat.le_of_ble_eq_true rfl) rfl ?_
  generalize hpost : (fun r w' => r = some (.int v) ∧ w' = bW cy ad sa ta n ln bb nx sd lb 0 lo pg bo ++ R : gw_Q) = post
  refine gw_W.wd (w' := ([(ad 0, .inr (9, [.int (nI (n)), .ref (ad 1), .ref (ad 2), .ref (sa (3 * 0)), .ref (ad 4), .ref (ad 5), .ref (ad 6), .int (nI (ln)), va_rf (lo), .int (nx), .int (sd), .int (lb), .ref (ad 12), .int (nI (bb)), .int (lf)])), (ad 1, .inl (cy 3, 9, .inr (.inr (.inr (.inr (fun i => some (sa (3 * i)))))))), (ad 2, .inl (cy 3, 9, .inr (.inr (.inr (.inr (fun i => some (sa (3 * (9 + i))))))))), (ad 5, .inl (cy 4, 8, .inr (.inr (.inr (.inr (fun i => some (ta (2 * i)))))))), (ad 6, .inl (cy 2, 40, .inr (.inr (.inr (.inr (pg)))))), (ad 12, .inl (cy 0, 16, .inl (bo)))] ++ R)) rfl ?_
  refine gw_aload_n dX11_notFound_0 rfl ?_
  refine gw_iconst (v := nI (0)) dX11_notFound_1 (by decide) ?_
  refine gw_put (C0 := RX11) (T := TX11) (N := 15) (ref := RX11) (ty := tyX11 14) 0 rfl rfl inX11 14 (by decide) tyX11 tyX11_ok nmX11 wd_190 (Or.inl rfl) rfl (tyX11_ok 14 (by decide)) (rfl) rfl (Nat.le_of_ble_eq_true rfl) dX11_notFound_2 ?_
  refine gw_W.wd (w' := ([(ad 0, .inr (9, [.int (nI (n)), .ref (ad 1), .ref (ad 2), .ref (sa (3 * 0)), .ref (ad 4), .ref (ad 5), .ref (ad 6), .int (nI (ln)), va_rf (lo), .int (nx), .int (sd), .int (lb), .ref (ad 12), .int (nI (bb)), .int (nI (0))])), (ad 1, .inl (cy 3, 9, .inr (.inr (.inr (.inr (fun i => some (sa (3 * i)))))))), (ad 2, .inl (cy 3, 9, .inr (.inr (.inr (.inr (fun i => some (sa (3 * (9 + i))))))))), (ad 5, .inl (cy 4, 8, .inr (.inr (.inr (.inr (fun i => some (ta (2 * i)))))))), (ad 6, .inl (cy 2, 40, .inr (.inr (.inr (.inr (pg)))))), (ad 12, .inl (cy 0, 16, .inl (bo)))] ++ R)) rfl ?_
  refine gw_iload_n dX11_notFound_5 rfl ?_
  refine gw_iret (?_) (by decide) (by decide) rfl dX11_notFound_6
  subst hpost
  exact ⟨rfl, rfl⟩
abbrev kX11_isProduct : gw_K := (yX11_isProduct, cX11_isProduct, 2, { frames := 1, cells := 0, slots := 0, locals := 22 }, (some .boolean))
theorem ok_X11_isProduct : gw_calV kX11_isProduct 1 := ⟨⟨wd_288, wd_57, by decide, by decide, by decide +kernel⟩, wd_287, wd_7⟩
set_option maxHeartbeats 4000000 in
set_option maxRecDepth 100000 in
theorem c_bisProduct (l : Launch) (cy : Nat → ClassId) (ad sa ta : Nat → Nat) (n ln bb : Nat) (nx sd lb lf : Int32) (lo : Option Nat) (pg : Nat → Option Nat) (bo : Nat → Int32) (R : va_W) (p : Int32) (hn4 : 1 ≤ n ∧ n ≤ 4) : gw_M l kX11_isProduct cy [.ref (ad 0), .int (p)] (bW cy ad sa ta n ln bb nx sd lb lf lo pg bo ++ R) (fun r w' => r = some (.int (bI (inZ p.toInt 0 ((4 ^ n : Nat) - 1)))) ∧ w' = bW cy ad sa ta n ln bb nx sd lb lf lo pg bo ++ R) := by
  refine gw_M.mk (lv := [some (.ref (ad 0)), some (.int (p))]) (by decide) (Nat.le_of_ble_eq_true rfl) rfl ?_
  generalize hpost : (fun r w' => r = some (.int (bI (inZ p.toInt 0 ((4 ^ n : Nat) - 1)))) ∧ w' = bW cy ad sa ta n ln bb nx sd lb lf lo pg bo ++ R : gw_Q) = post
  refine gw_W.wd (w' := ([(ad 0, .inr (9, [.int (nI (n)), .ref (ad 1), .ref (ad 2), .ref (sa (3 * 0)), .ref (ad 4), .ref (ad 5), .ref (ad 6), .int (nI (ln)), va_rf (lo), .int (nx), .int (sd), .int (lb), .ref (ad 12), .int (nI (bb)), .int (lf)])), (ad 1, .inl (cy 3, 9, .inr (.inr (.inr (.inr (fun i => some (sa (3 * i)))))))), (ad 2, .inl (cy 3, 9, .inr (.inr (.inr (.inr (fun i => some (sa (3 * (9 + i))))))))), (ad 5, .inl (cy 4, 8, .inr (.inr (.inr (.inr (fun i => some (ta (2 * i)))))))), (ad 6, .inl (cy 2, 40, .inr (.inr (.inr (.inr (pg)))))), (ad 12, .inl (cy 0, 16, .inl (bo)))] ++ R)) rfl ?_
  refine gw_iload_n dX11_isProduct_0 rfl ?_
  refine gw_iconst (v := nI (0)) dX11_isProduct_1 (by decide) ?_
  refine gw_iconst (v := nI (1)) dX11_isProduct_2 (by decide) ?_
  refine gw_iconst (v := nI (2)) dX11_isProduct_3 (by decide) ?_
  refine gw_aload_n dX11_isProduct_4 rfl ?_
  refine gw_get (C0 := RX11) (T := TX11) (N := 15) (ref := RX11) 0 rfl rfl inX11 0 (by decide) wd_173 (Or.inl rfl) rfl dX11_isProduct_5 ?_
  refine gw_imulN dX11_isProduct_8 ?_
  refine gw_ishl dX11_isProduct_9 ?_
  refine gw_topi (y := nI (4 ^ n)) (shl2 hn4) ?_
  refine gw_iconst (v := nI (1)) dX11_isProduct_10 (by decide) ?_
  refine gw_isubN dX11_isProduct_11 (Nat.one_le_pow _ _ (by decide)) ?_
  refine gw_callS (As := [.int (p), .int (nI (0)), .int (nI ((4 ^ n) - (1)))]) (st := []) (c_within l cy (p) (nI (0)) (nI ((4 ^ n) - (1))) ([(ad 0, .inr (9, [.int (nI (n)), .ref (ad 1), .ref (ad 2), .ref (sa (3 * 0)), .ref (ad 4), .ref (ad 5), .ref (ad 6), .int (nI (ln)), va_rf (lo), .int (nx), .int (sd), .int (lb), .ref (ad 12), .int (nI (bb)), .int (lf)])), (ad 1, .inl (cy 3, 9, .inr (.inr (.inr (.inr (fun i => some (sa (3 * i)))))))), (ad 2, .inl (cy 3, 9, .inr (.inr (.inr (.inr (fun i => some (sa (3 * (9 + i))))))))), (ad 5, .inl (cy 4, 8, .inr (.inr (.inr (.inr (fun i => some (ta (2 * i)))))))), (ad 6, .inl (cy 2, 40, .inr (.inr (.inr (.inr (pg)))))), (ad 12, .inl (cy 0, 16, .inl (bo)))] ++ R)) ok_X11_within wd_230 rfl rfl dX11_isProduct_12 (by decide) (by decide) (Nat.le_of_ble_eq_true rfl) (fun r12 w12 hp12 => ?_)
  obtain ⟨rfl, rfl⟩ := hp12
  refine gw_W.norm (st' := [.int (bI (inZ (p).toInt (nI (0)).toInt (nI ((4 ^ n) - (1))).toInt))]) (k1 := 0) (k2 := 0) rfl rfl rfl ?_
  refine gw_zret (?_) (by decide) (by decide) rfl (bI_nar _) dX11_isProduct_15
  subst hpost
  have h4 := pow4_le hn4.2
  have h5 : 1 ≤ 4 ^ n := Nat.one_le_pow _ _ (by decide)
  rw [nI_toInt (n := 4 ^ n - 1) (by omega), show ((4 ^ n - 1 : Nat) : Int) = (4 ^ n : Nat) - 1 by omega]
  exact ⟨rfl, rfl⟩
abbrev kX11_isPulse : gw_K := (yX11_isPulse, cX11_isPulse, 4, { frames := 1, cells := 0, slots := 0, locals := 22 }, (some .boolean))
theorem ok_X11_isPulse : gw_calV kX11_isPulse 3 := ⟨⟨wd_464, wd_57, by decide, by decide, by decide +kernel⟩, wd_463, wd_25⟩
set_option maxHeartbeats 4000000 in
set_option maxRecDepth 100000 in
theorem c_bisPulse (l : Launch) (cy : Nat → ClassId) (ad sa ta : Nat → Nat) (n ln bb : Nat) (nx sd lb lf : Int32) (lo : Option Nat) (pg : Nat → Option Nat) (bo : Nat → Int32) (R : va_W) (a f q : Int32) (hn4 : n ≤ 4) : gw_M l kX11_isPulse cy [.ref (ad 0), .int (a), .int (f), .int (q)] (bW cy ad sa ta n ln bb nx sd lb lf lo pg bo ++ R) (fun r w' => r = some (.int (bI (isPu n a f q))) ∧ w' = bW cy ad sa ta n ln bb nx sd lb lf lo pg bo ++ R) := by
  refine gw_M.mk (lv := [some (.ref (ad 0)), some (.int (a)), some (.int (f)), some (.int (q))]) (by decide) (Nat.le_of_ble_eq_true rfl) rfl ?_
  generalize hpost : (fun r w' => r = some (.int (bI (isPu n a f q))) ∧ w' = bW cy ad sa ta n ln bb nx sd lb lf lo pg bo ++ R : gw_Q) = post
  refine gw_W.wd (w' := ([(ad 0, .inr (9, [.int (nI (n)), .ref (ad 1), .ref (ad 2), .ref (sa (3 * 0)), .ref (ad 4), .ref (ad 5), .ref (ad 6), .int (nI (ln)), va_rf (lo), .int (nx), .int (sd), .int (lb), .ref (ad 12), .int (nI (bb)), .int (lf)])), (ad 1, .inl (cy 3, 9, .inr (.inr (.inr (.inr (fun i => some (sa (3 * i)))))))), (ad 2, .inl (cy 3, 9, .inr (.inr (.inr (.inr (fun i => some (sa (3 * (9 + i))))))))), (ad 5, .inl (cy 4, 8, .inr (.inr (.inr (.inr (fun i => some (ta (2 * i)))))))), (ad 6, .inl (cy 2, 40, .inr (.inr (.inr (.inr (pg)))))), (ad 12, .inl (cy 0, 16, .inl (bo)))] ++ R)) rfl ?_
  have hp2 := pow2_le hn4
  refine gw_iload_n dX11_isPulse_0 rfl ?_
  refine gw_iconst (v := nI (1)) dX11_isPulse_1 (by decide) ?_
  refine gw_iconst (v := nI (1)) dX11_isPulse_2 (by decide) ?_
  refine gw_aload_n dX11_isPulse_3 rfl ?_
  refine gw_get (C0 := RX11) (T := TX11) (N := 15) (ref := RX11) 0 rfl rfl inX11 0 (by decide) wd_173 (Or.inl rfl) rfl dX11_isPulse_4 ?_
  refine gw_ishl dX11_isPulse_7 ?_
  refine gw_topi (y := nI (2 ^ n)) (shl_n hn4) ?_
  refine gw_iconst (v := nI (1)) dX11_isPulse_8 (by decide) ?_
  refine gw_isubN dX11_isPulse_9 (by omega) ?_
  refine gw_callS (As := [.int (a), .int (nI (1)), .int (nI ((2 ^ n) - (1)))]) (st := []) (c_within l cy (a) (nI (1)) (nI ((2 ^ n) - (1))) ([(ad 0, .inr (9, [.int (nI (n)), .ref (ad 1), .ref (ad 2), .ref (sa (3 * 0)), .ref (ad 4), .ref (ad 5), .ref (ad 6), .int (nI (ln)), va_rf (lo), .int (nx), .int (sd), .int (lb), .ref (ad 12), .int (nI (bb)), .int (lf)])), (ad 1, .inl (cy 3, 9, .inr (.inr (.inr (.inr (fun i => some (sa (3 * i)))))))), (ad 2, .inl (cy 3, 9, .inr (.inr (.inr (.inr (fun i => some (sa (3 * (9 + i))))))))), (ad 5, .inl (cy 4, 8, .inr (.inr (.inr (.inr (fun i => some (ta (2 * i)))))))), (ad 6, .inl (cy 2, 40, .inr (.inr (.inr (.inr (pg)))))), (ad 12, .inl (cy 0, 16, .inl (bo)))] ++ R)) ok_X11_within wd_230 rfl rfl dX11_isPulse_10 (by decide) (by decide) (Nat.le_of_ble_eq_true rfl) (fun r10 w10 hp10 => ?_)
  obtain ⟨rfl, rfl⟩ := hp10
  refine gw_W.norm (st' := [.int (bI (inZ (a).toInt (nI (1)).toInt (nI ((2 ^ n) - (1))).toInt))]) (k1 := 0) (k2 := 0) rfl rfl rfl ?_
  refine gw_if_eq (tgt := 38) dX11_isPulse_13 (by decide) (fun c13 => ?_) (fun c13 => ?_)
  · rw [bI_0, nI_toInt (n := 2 ^ n - 1) (by omega), show ((2 ^ n - 1 : Nat) : Int) = (2 ^ n : Nat) - 1 by omega] at c13
    have d13 : inZ a.toInt 1 ((2 ^ n : Nat) - 1) = false := c13
    refine gw_iconst (v := nI (0)) dX11_isPulse_38 (by decide) ?_
    refine gw_zret (?_) (by decide) (by decide) rfl (by decide) dX11_isPulse_39
    subst hpost
    refine ⟨?_, rfl⟩
    unfold isPu
    first
      | (rw [d13, d22, d31]; rfl)
      | (rw [d13, d22]; rfl)
      | (rw [d13]; rfl)
  · rw [bI_n0, nI_toInt (n := 2 ^ n - 1) (by omega), show ((2 ^ n - 1 : Nat) : Int) = (2 ^ n : Nat) - 1 by omega] at c13
    have d13 : inZ a.toInt 1 ((2 ^ n : Nat) - 1) = true := c13
    refine gw_iload_n dX11_isPulse_16 rfl ?_
    refine gw_iconst (v := nI (0)) dX11_isPulse_17 (by decide) ?_
    refine gw_iconst (v := nI (3)) dX11_isPulse_18 (by decide) ?_
    refine gw_callS (As := [.int (f), .int (nI (0)), .int (nI (3))]) (st := []) (c_within l cy (f) (nI (0)) (nI (3)) ([(ad 0, .inr (9, [.int (nI (n)), .ref (ad 1), .ref (ad 2), .ref (sa (3 * 0)), .ref (ad 4), .ref (ad 5), .ref (ad 6), .int (nI (ln)), va_rf (lo), .int (nx), .int (sd), .int (lb), .ref (ad 12), .int (nI (bb)), .int (lf)])), (ad 1, .inl (cy 3, 9, .inr (.inr (.inr (.inr (fun i => some (sa (3 * i)))))))), (ad 2, .inl (cy 3, 9, .inr (.inr (.inr (.inr (fun i => some (sa (3 * (9 + i))))))))), (ad 5, .inl (cy 4, 8, .inr (.inr (.inr (.inr (fun i => some (ta (2 * i)))))))), (ad 6, .inl (cy 2, 40, .inr (.inr (.inr (.inr (pg)))))), (ad 12, .inl (cy 0, 16, .inl (bo)))] ++ R)) ok_X11_within wd_230 rfl rfl dX11_isPulse_19 (by decide) (by decide) (Nat.le_of_ble_eq_true rfl) (fun r19 w19 hp19 => ?_)
    obtain ⟨rfl, rfl⟩ := hp19
    refine gw_W.norm (st' := [.int (bI (inZ (f).toInt (nI (0)).toInt (nI (3)).toInt))]) (k1 := 0) (k2 := 0) rfl rfl rfl ?_
    refine gw_if_eq (tgt := 38) dX11_isPulse_22 (by decide) (fun c22 => ?_) (fun c22 => ?_)
    · rw [bI_0] at c22
      have d22 : inZ f.toInt 0 3 = false := c22
      refine gw_iconst (v := nI (0)) dX11_isPulse_38 (by decide) ?_
      refine gw_zret (?_) (by decide) (by decide) rfl (by decide) dX11_isPulse_39
      subst hpost
      refine ⟨?_, rfl⟩
      unfold isPu
      first
        | (rw [d13, d22, d31]; rfl)
        | (rw [d13, d22]; rfl)
        | (rw [d13]; rfl)
    · rw [bI_n0] at c22
      have d22 : inZ f.toInt 0 3 = true := c22
      refine gw_iload_n dX11_isPulse_25 rfl ?_
      refine gw_iconst (v := nI (0)) dX11_isPulse_26 (by decide) ?_
      refine gw_iconst (v := nI (3)) dX11_isPulse_27 (by decide) ?_
      refine gw_callS (As := [.int (q), .int (nI (0)), .int (nI (3))]) (st := []) (c_within l cy (q) (nI (0)) (nI (3)) ([(ad 0, .inr (9, [.int (nI (n)), .ref (ad 1), .ref (ad 2), .ref (sa (3 * 0)), .ref (ad 4), .ref (ad 5), .ref (ad 6), .int (nI (ln)), va_rf (lo), .int (nx), .int (sd), .int (lb), .ref (ad 12), .int (nI (bb)), .int (lf)])), (ad 1, .inl (cy 3, 9, .inr (.inr (.inr (.inr (fun i => some (sa (3 * i)))))))), (ad 2, .inl (cy 3, 9, .inr (.inr (.inr (.inr (fun i => some (sa (3 * (9 + i))))))))), (ad 5, .inl (cy 4, 8, .inr (.inr (.inr (.inr (fun i => some (ta (2 * i)))))))), (ad 6, .inl (cy 2, 40, .inr (.inr (.inr (.inr (pg)))))), (ad 12, .inl (cy 0, 16, .inl (bo)))] ++ R)) ok_X11_within wd_230 rfl rfl dX11_isPulse_28 (by decide) (by decide) (Nat.le_of_ble_eq_true rfl) (fun r28 w28 hp28 => ?_)
      obtain ⟨rfl, rfl⟩ := hp28
      refine gw_W.norm (st' := [.int (bI (inZ (q).toInt (nI (0)).toInt (nI (3)).toInt))]) (k1 := 0) (k2 := 0) rfl rfl rfl ?_
      refine gw_if_eq (tgt := 38) dX11_isPulse_31 (by decide) (fun c31 => ?_) (fun c31 => ?_)
      · rw [bI_0] at c31
        have d31 : inZ q.toInt 0 3 = false := c31
        refine gw_iconst (v := nI (0)) dX11_isPulse_38 (by decide) ?_
        refine gw_zret (?_) (by decide) (by decide) rfl (by decide) dX11_isPulse_39
        subst hpost
        refine ⟨?_, rfl⟩
        unfold isPu
        first
          | (rw [d13, d22, d31]; rfl)
          | (rw [d13, d22]; rfl)
          | (rw [d13]; rfl)
      · rw [bI_n0] at c31
        have d31 : inZ q.toInt 0 3 = true := c31
        refine gw_iconst (v := nI (1)) dX11_isPulse_34 (by decide) ?_
        refine gw_goto (tgt := 39) dX11_isPulse_35 (by decide) ?_
        refine gw_zret (?_) (by decide) (by decide) rfl (by decide) dX11_isPulse_39
        subst hpost
        refine ⟨?_, rfl⟩
        unfold isPu
        first
          | (rw [d13, d22, d31]; rfl)
          | (rw [d13, d22]; rfl)
          | (rw [d13]; rfl)
abbrev kX11_leaveBody : gw_K := (yX11_leaveBody, cX11_leaveBody, 2, { frames := 0, cells := 0, slots := 0, locals := 0 }, none)
theorem ok_X11_leaveBody : gw_calV kX11_leaveBody 1 := ⟨⟨wd_681, wd_57, by decide, by decide, by decide +kernel⟩, wd_680, wd_29⟩
set_option maxHeartbeats 4000000 in
set_option maxRecDepth 100000 in
theorem c_bleave (l : Launch) (cy : Nat → ClassId) (ad sa ta : Nat → Nat) (n ln bb : Nat) (nx sd lb lf : Int32) (lo : Option Nat) (pg : Nat → Option Nat) (bo : Nat → Int32) (R : va_W) (v : Int32) (hb : bb ≤ 16) : gw_M l kX11_leaveBody cy [.ref (ad 0), .int (v)] (bW cy ad sa ta n ln bb nx sd lb lf lo pg bo ++ R) (fun r w' => r = none ∧ w' = (if bb < 16 then bW cy ad sa ta n ln (bb + 1) nx sd lb lf lo pg (upd bo bb v) ++ R else bW cy ad sa ta n ln bb nx sd lb lf lo pg bo ++ R)) := by
  refine gw_M.mk (lv := [some (.ref (ad 0)), some (.int (v))]) (by decide) (Nat.le_of_ble_eq_true rfl) rfl ?_
  generalize hpost : (fun r w' => r = none ∧ w' = (if bb < 16 then bW cy ad sa ta n ln (bb + 1) nx sd lb lf lo pg (upd bo bb v) ++ R else bW cy ad sa ta n ln bb nx sd lb lf lo pg bo ++ R) : gw_Q) = post
  refine gw_W.wd (w' := ([(ad 0, .inr (9, [.int (nI (n)), .ref (ad 1), .ref (ad 2), .ref (sa (3 * 0)), .ref (ad 4), .ref (ad 5), .ref (ad 6), .int (nI (ln)), va_rf (lo), .int (nx), .int (sd), .int (lb), .ref (ad 12), .int (nI (bb)), .int (lf)])), (ad 1, .inl (cy 3, 9, .inr (.inr (.inr (.inr (fun i => some (sa (3 * i)))))))), (ad 2, .inl (cy 3, 9, .inr (.inr (.inr (.inr (fun i => some (sa (3 * (9 + i))))))))), (ad 5, .inl (cy 4, 8, .inr (.inr (.inr (.inr (fun i => some (ta (2 * i)))))))), (ad 6, .inl (cy 2, 40, .inr (.inr (.inr (.inr (pg)))))), (ad 12, .inl (cy 0, 16, .inl (bo)))] ++ R)) rfl ?_
  refine gw_aload_n dX11_leaveBody_0 rfl ?_
  refine gw_get (C0 := RX11) (T := TX11) (N := 15) (ref := RX11) 0 rfl rfl inX11 13 (by decide) wd_189 (Or.inl rfl) rfl dX11_leaveBody_1 ?_
  refine gw_bipush (v := nI (16)) dX11_leaveBody_4 (by decide) ?_
  refine gw_icmpN_ge (tgt := 29) dX11_leaveBody_6 (by decide) (by omega) (by omega) (fun c6 => ?_) (fun c6 => ?_)
  · refine gw_vret (?_) (by decide) (by decide) rfl dX11_leaveBody_29
    subst hpost
    refine ⟨rfl, ?_⟩
    first
      | (rw [if_pos (by omega)]; rfl)
      | (rw [if_neg (by omega)]; rfl)
  · refine gw_aload_n dX11_leaveBody_9 rfl ?_
    refine gw_get (C0 := RX11) (T := TX11) (N := 15) (ref := RX11) 0 rfl rfl inX11 12 (by decide) wd_188 (Or.inl rfl) rfl dX11_leaveBody_10 ?_
    refine gw_aload_n dX11_leaveBody_13 rfl ?_
    refine gw_get (C0 := RX11) (T := TX11) (N := 15) (ref := RX11) 0 rfl rfl inX11 13 (by decide) wd_189 (Or.inl rfl) rfl dX11_leaveBody_14 ?_
    refine gw_iload_n dX11_leaveBody_17 rfl ?_
    refine gw_iast 5 rfl (rfl) (by omega) (by decide) dX11_leaveBody_18 ?_
    refine gw_W.wd (w' := ([(ad 0, .inr (9, [.int (nI (n)), .ref (ad 1), .ref (ad 2), .ref (sa (3 * 0)), .ref (ad 4), .ref (ad 5), .ref (ad 6), .int (nI (ln)), va_rf (lo), .int (nx), .int (sd), .int (lb), .ref (ad 12), .int (nI (bb)), .int (lf)])), (ad 1, .inl (cy 3, 9, .inr (.inr (.inr (.inr (fun i => some (sa (3 * i)))))))), (ad 2, .inl (cy 3, 9, .inr (.inr (.inr (.inr (fun i => some (sa (3 * (9 + i))))))))), (ad 5, .inl (cy 4, 8, .inr (.inr (.inr (.inr (fun i => some (ta (2 * i)))))))), (ad 6, .inl (cy 2, 40, .inr (.inr (.inr (.inr (pg)))))), (ad 12, .inl (cy 0, 16, .inl (upd bo (bb) (v))))] ++ R)) rfl ?_
    refine gw_aload_n dX11_leaveBody_19 rfl ?_
    refine gw_dup dX11_leaveBody_20 rfl ?_
    refine gw_get (C0 := RX11) (T := TX11) (N := 15) (ref := RX11) 0 rfl rfl inX11 13 (by decide) wd_189 (Or.inl rfl) rfl dX11_leaveBody_21 ?_
    refine gw_iconst (v := nI (1)) dX11_leaveBody_24 (by decide) ?_
    refine gw_iaddN dX11_leaveBody_25 ?_
    refine gw_put (C0 := RX11) (T := TX11) (N := 15) (ref := RX11) (ty := tyX11 13) 0 rfl rfl inX11 13 (by decide) tyX11 tyX11_ok nmX11 wd_189 (Or.inl rfl) rfl (tyX11_ok 13 (by decide)) (rfl) rfl (Nat.le_of_ble_eq_true rfl) dX11_leaveBody_26 ?_
    refine gw_W.wd (w' := ([(ad 0, .inr (9, [.int (nI (n)), .ref (ad 1), .ref (ad 2), .ref (sa (3 * 0)), .ref (ad 4), .ref (ad 5), .ref (ad 6), .int (nI (ln)), va_rf (lo), .int (nx), .int (sd), .int (lb), .ref (ad 12), .int (nI (bb + 1)), .int (lf)])), (ad 1, .inl (cy 3, 9, .inr (.inr (.inr (.inr (fun i => some (sa (3 * i)))))))), (ad 2, .inl (cy 3, 9, .inr (.inr (.inr (.inr (fun i => some (sa (3 * (9 + i))))))))), (ad 5, .inl (cy 4, 8, .inr (.inr (.inr (.inr (fun i => some (ta (2 * i)))))))), (ad 6, .inl (cy 2, 40, .inr (.inr (.inr (.inr (pg)))))), (ad 12, .inl (cy 0, 16, .inl (upd bo (bb) (v))))] ++ R)) rfl ?_
    refine gw_vret (?_) (by decide) (by decide) rfl dX11_leaveBody_29
    subst hpost
    refine ⟨rfl, ?_⟩
    first
      | (rw [if_pos (by omega)]; rfl)
      | (rw [if_neg (by omega)]; rfl)
