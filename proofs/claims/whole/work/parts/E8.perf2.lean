/-! perform of cycled, round, end -/
theorem tb_memG2 {cy : Nat → ClassId} {ta : Nat → Nat} {tbf : Nat → aT} {tb : va_W} (h : tbP cy ta tbf tb) {i : Nat} (hi : i < 8) : ∃ (ms la sz : Int32) (it : Nat → Int32), (ta (2 * i), .inr (8, [.ref (ta (2 * i + 1)), .int ms, .int la, .int sz])) ∈ tb ∧ (ta (2 * i + 1), .inl (cy 0, 60, .inl it)) ∈ tb ∧ tabR (tbf i) ms la sz it ∧ ∀ (l : Launch) (z : Nat) (a b : Int32), sz = nI z → z ≤ 60 → gw_M l kX10_hasPlaces cy [.ref (ta (2 * i)), .int a, .int b] tb (fun r w' => r = some (.int (bI (decide (0 ≤ a.toInt ∧ 0 ≤ b.toInt ∧ a.toInt + b.toInt ≤ z)))) ∧ w'.Perm tb) := by
  obtain ⟨ms, la, sz, it, R, o1, o2, -⟩ := tbP_open h hi
  refine ⟨ms, la, sz, it, o1.mem_iff.mpr (List.mem_append_left _ (List.mem_cons_self ..)), o1.mem_iff.mpr (List.mem_append_left _ (List.mem_cons_of_mem _ (List.mem_cons_self ..))), o2, fun l z a b e hz => ?_⟩
  subst e
  refine (c_thas l cy (ta (2 * i)) (ta (2 * i + 1)) ms la z it [] a b hz).lift (f := R) (by rw [List.append_nil]; exact o1) (fun r w1 hh => ⟨hh.1, ?_⟩)
  rw [hh.2, List.append_nil]
  exact o1.symm
theorem opP_open5 {oa : Nat → Nat} {O : List aO} {lo : Option Nat} {pg : Nat → Option Nat} {td : Nat → Int32} {w : va_W} (h : opP oa O lo pg td w) {j : Nat} (hj : j < O.length) (h5 : (opJ O j).1 = 5) : ∃ R : va_W, w.Perm ([(oa j, .inr (5, [.int (nI j), va_rf (arOf O oa j), .int (opJ O j).2.1, .int (td j)]))] ++ R) ∧ (∀ k, k < O.length → ¬ k = j → (oa k, .inr (opCe (opJ O k) k (arOf O oa k) (td k))) ∈ R) ∧ ∀ (v : Int32) (w' : va_W), w'.Perm ([(oa j, .inr (5, [.int (nI j), va_rf (arOf O oa j), .int (opJ O j).2.1, .int v]))] ++ R) → opP oa O lo pg (va_up td j v) w' := by
  obtain ⟨h1, h2, h3⟩ := h
  have e5 : ∀ td' : Nat → Int32, opF O oa td' j = [(oa j, .inr (5, [.int (nI j), va_rf (arOf O oa j), .int (opJ O j).2.1, .int (td' j)]))] := fun td' => by
    unfold opF
    rw [opCe, if_neg (by omega), if_neg (by omega), if_neg (by omega), if_pos h5]
  refine ⟨famX O.length j (opF O oa td), ?_, fun k hk hne => ?_, fun v w' hw => ⟨hw.trans ?_, h2, h3⟩⟩
  · rw [← e5]; exact h1.trans (fam_out _ hj)
  · unfold famX
    exact List.mem_flatMap.mpr ⟨k, (List.mem_erase_of_ne hne).mpr (List.mem_range.mpr hk), List.mem_singleton.mpr rfl⟩
  · refine List.Perm.trans ?_ (fam_out (opF O oa (va_up td j v)) hj).symm
    rw [e5, va_up_self, famX_congr (f := opF O oa td) (g := opF O oa (va_up td j v)) (fun k hk => by unfold opF; rw [va_up_ne _ _ hk])]
theorem perm_opx {α : Type} {B xs tb op a r : List α} (h : op.Perm (a ++ r)) : (B ++ (xs ++ (tb ++ op))).Perm ((B ++ a) ++ (xs ++ (tb ++ r))) := by
  have h1 : (B ++ (xs ++ (tb ++ op))).Perm (B ++ (xs ++ (tb ++ (a ++ r)))) := List.Perm.append_left _ (List.Perm.append_left _ (List.Perm.append_left _ h))
  refine h1.trans ?_
  rw [List.append_assoc]
  refine List.Perm.append_left B ?_
  rw [← List.append_assoc xs tb, ← List.append_assoc (xs ++ tb) a r, ← List.append_assoc xs tb r, ← List.append_assoc a (xs ++ tb) r]
  exact List.perm_append_comm.append_right r
theorem opk_ne {O : List aO} {p c : Nat} (h : opn O = some c) (hp : p < O.length) (h6 : (opJ O p).1 = 6) : ∃ r tl, opk O p = r :: tl := by
  obtain ⟨k, hk⟩ := opn_pre h p
  obtain ⟨d, -, hd⟩ := opn_J h hp hk
  have hl := opk_len O p k (by omega) hk
  cases e : opk O p with
  | nil =>
    rw [e] at hl
    have hk0 : k = 0 := hl.symm
    subst hk0
    unfold opStep at hd
    simp only at hd
    rw [if_neg (by omega), if_pos h6, if_neg (by omega)] at hd
    cases hd
  | cons r tl => exact ⟨r, tl, rfl⟩
theorem doM_56 {n : Nat} {tb : Nat → aT} {sm : Nat → List sT} {t : Nat} {o : aO} (h : o.1 = 5 ∨ o.1 = 6) : doM n tb sm t o = (0, sm) := by
  unfold doM; rw [if_neg (by omega), if_neg (by omega), if_neg (by omega), if_neg (by omega)]
theorem RSI_5 {O : List aO} {td : Nat → Int32} {rs : List (Nat × Nat)} {p : Nat} (h : RSI O td rs p) (h5 : (opJ O p).1 = 5) : RSI O (va_up td p (nI 0)) (rs ++ [(p, 0)]) (p + 1) := by
  refine ⟨?_, fun e he => ?_⟩
  · rw [opk, if_pos h5, h.1, List.map_append, List.reverse_append]; rfl
  · rcases List.mem_append.mp he with he | he
    · have h1 : e.1 ∈ opk O p := by rw [h.1, List.mem_reverse]; exact List.mem_map.mpr ⟨e, he, rfl⟩
      have := opk_lt O p _ h1
      rw [va_up_ne _ _ (by omega)]
      exact h.2 e he
    · rw [List.mem_singleton] at he; subst he
      exact ⟨va_up_self _ _ _, show (0 : Nat) < 8 from by decide⟩
theorem RSI_lt {O : List aO} {L : List (Nat × Nat)} {r : Nat} {tl : List Nat} (ht : opk O r = tl) (hL : tl = (L.map (·.1)).reverse) {e : Nat × Nat} (he : e ∈ L) : e.1 < r := opk_lt O r _ (by rw [ht, hL, List.mem_reverse]; exact List.mem_map.mpr ⟨e, he, rfl⟩)
theorem RSI_6a {O : List aO} {td : Nat → Int32} {L : List (Nat × Nat)} {p r d : Nat} {tl : List Nat} (h : RSI O td (L ++ [(r, d)]) p) (e : opk O p = r :: tl) (hL : tl = (L.map (·.1)).reverse) (hd : d + 1 < 8) : RSI O (va_up td r (nI (d + 1))) (L ++ [(r, d + 1)]) (r + 1) := by
  obtain ⟨t1, t2⟩ := opk_tail O p r tl e
  refine ⟨?_, fun x hx => ?_⟩
  · rw [opk, if_pos t2, t1, List.map_append, List.reverse_append, hL]; rfl
  · rcases List.mem_append.mp hx with hx | hx
    · have := RSI_lt t1 hL hx
      rw [va_up_ne _ _ (by omega)]
      exact h.2 x (List.mem_append_left _ hx)
    · rw [List.mem_singleton] at hx; subst hx
      exact ⟨va_up_self _ _ _, hd⟩
theorem RSI_6b {O : List aO} {td : Nat → Int32} {L : List (Nat × Nat)} {p r d : Nat} {tl : List Nat} {v : Int32} (h : RSI O td (L ++ [(r, d)]) p) (e : opk O p = r :: tl) (hL : tl = (L.map (·.1)).reverse) (h6 : (opJ O p).1 = 6) : RSI O (va_up td r v) L (p + 1) := by
  obtain ⟨t1, t2⟩ := opk_tail O p r tl e
  refine ⟨?_, fun x hx => ?_⟩
  · rw [opk, if_neg (by omega), if_pos h6, e]; exact hL
  · have := RSI_lt t1 hL hx
    rw [va_up_ne _ _ (by omega)]
    exact h.2 x (List.mem_append_left _ hx)
theorem set_last {L : List (Nat × Nat)} {b c : Nat × Nat} : (L ++ [b]).set ((L ++ [b]).length - 1) c = L ++ [c] := by
  rw [List.length_append, List.length_singleton, Nat.add_sub_cancel, List.set_append_right _ _ (Nat.le_refl _), Nat.sub_self]; rfl
abbrev kX7_perform : gw_K := (yX7_perform, cX7_perform, 2, { frames := 0, cells := 0, slots := 0, locals := 0 }, (some .int))
theorem okB_X7_perform : gw_calB kX7_perform 1 := ⟨wd_769, wd_71, by decide, by decide, by decide +kernel⟩
set_option maxHeartbeats 4000000 in
set_option maxRecDepth 100000 in
theorem c_pf_5 (l : Launch) (cy : Nat → ClassId) (ad sa ta oa : Nat → Nat) (σ : aS) (ln bb : Nat) (nx sd lb lf : Int32) (lo : Option Nat) (pg : Nat → Option Nat) (bo : Nat → Int32) (xs tb op : va_W) (cs sm : Nat → List sT) (td : Nat → Int32) (p : Nat) (rs : List (Nat × Nat)) (hxs : xsP cy (ad 4) sa cs xs) (hcs : csS (wSm σ sm) cs) (htb : tbP cy ta (sTb σ) tb) (hop : opP oa (sOp σ) lo pg td op) (hn4 : 1 ≤ σ.1 ∧ σ.1 ≤ 4) (hp : p < (sOp σ).length) (hRS : RSI (sOp σ) td rs p) (ho : opOK σ.1 (opJ (sOp σ) p)) (hnx : nx = nI (p + 1)) (hoc : ∃ c, opn (sOp σ) = some c) (hk : (opJ (sOp σ) p).1 = 5) : gw_M l kX7_perform cy [.ref (oa p), .ref (ad 0)] (bW cy ad sa ta σ.1 ln bb nx sd lb lf lo pg bo ++ (xs ++ (tb ++ op))) (qPr cy ad sa ta oa σ ln bb sd lb lf lo pg bo cs sm p rs) := by
  obtain ⟨R, o1, o2, o3⟩ := opP_open5 hop hp hk
  refine gw_M.pm (perm_opx (B := bW cy ad sa ta σ.1 ln bb nx sd lb lf lo pg bo) o1) ?_
  refine gw_M.mk (lv := [some (.ref (oa p)), some (.ref (ad 0))]) (by decide) (Nat.le_of_ble_eq_true rfl) rfl ?_
  generalize hpost : (qPr cy ad sa ta oa σ ln bb sd lb lf lo pg bo cs sm p rs : gw_Q) = post
  refine gw_W.wd (w' := ([(ad 0, .inr (9, [.int (nI (σ.1)), .ref (ad 1), .ref (ad 2), .ref (sa (3 * 0)), .ref (ad 4), .ref (ad 5), .ref (ad 6), .int (nI (ln)), va_rf (lo), .int (nx), .int (sd), .int (lb), .ref (ad 12), .int (nI (bb)), .int (lf)])), (ad 1, .inl (cy 3, 9, .inr (.inr (.inr (.inr (fun i => some (sa (3 * i)))))))), (ad 2, .inl (cy 3, 9, .inr (.inr (.inr (.inr (fun i => some (sa (3 * (9 + i))))))))), (ad 5, .inl (cy 4, 8, .inr (.inr (.inr (.inr (fun i => some (ta (2 * i)))))))), (ad 6, .inl (cy 2, 40, .inr (.inr (.inr (.inr (pg)))))), (ad 12, .inl (cy 0, 16, .inl (bo))), (oa p, .inr (5, [.int (nI (p)), va_rf (arOf (sOp σ) oa p), .int ((opJ (sOp σ) p).2.1), .int (td p)]))] ++ (xs ++ (tb ++ R)))) rfl ?_
  refine gw_aload_n dX7_perform_0 rfl ?_
  refine gw_iconst (v := nI (0)) dX7_perform_1 (by decide) ?_
  refine gw_put (C0 := RX7) (T := TX7) (N := 4) (ref := RX7) (ty := tyX7 3) 6 rfl rfl inX7 3 (by decide) tyX7 tyX7_ok nmX7 wd_569 (Or.inl rfl) rfl (tyX7_ok 3 (by decide)) (rfl) (rfl) (Nat.le_of_ble_eq_true rfl) dX7_perform_2 ?_
  refine gw_W.wd (w' := ([(ad 0, .inr (9, [.int (nI (σ.1)), .ref (ad 1), .ref (ad 2), .ref (sa (3 * 0)), .ref (ad 4), .ref (ad 5), .ref (ad 6), .int (nI (ln)), va_rf (lo), .int (nx), .int (sd), .int (lb), .ref (ad 12), .int (nI (bb)), .int (lf)])), (ad 1, .inl (cy 3, 9, .inr (.inr (.inr (.inr (fun i => some (sa (3 * i)))))))), (ad 2, .inl (cy 3, 9, .inr (.inr (.inr (.inr (fun i => some (sa (3 * (9 + i))))))))), (ad 5, .inl (cy 4, 8, .inr (.inr (.inr (.inr (fun i => some (ta (2 * i)))))))), (ad 6, .inl (cy 2, 40, .inr (.inr (.inr (.inr (pg)))))), (ad 12, .inl (cy 0, 16, .inl (bo))), (oa p, .inr (5, [.int (nI (p)), va_rf (arOf (sOp σ) oa p), .int ((opJ (sOp σ) p).2.1), .int (nI (0))]))] ++ (xs ++ (tb ++ R)))) rfl ?_
  refine gw_iconst (v := nI (0)) dX7_perform_5 (by decide) ?_
  refine gw_W.wd (w' := (bW cy ad sa ta (σ.1) ln bb nx sd lb lf lo pg bo ++ [(oa p, .inr (5, [.int (nI (p)), va_rf (arOf (sOp σ) oa p), .int ((opJ (sOp σ) p).2.1), .int (nI (0))]))]) ++ (xs ++ (tb ++ R))) rfl ?_
  refine gw_W.perm (perm_opx (List.Perm.refl ([(oa p, .inr (5, [.int (nI (p)), va_rf (arOf (sOp σ) oa p), .int ((opJ (sOp σ) p).2.1), .int (nI (0))]))] ++ R))).symm ?_
  refine gw_iret (?_) (by decide) (by decide) rfl dX7_perform_6
  subst hpost
  have hD : (doM σ.1 (sTb σ) sm (rsD rs) (opJ (sOp σ) p)) = (0, sm) := doM_56 (Or.inl hk)
  refine ⟨cs, xs, tb, _, va_up td p (nI 0), nx, by rw [hD]; rfl, by rw [hD]; exact hcs, fun i hi => rfl, hxs, htb, o3 (nI 0) _ (List.Perm.refl _), rfl, fun _ => ?_⟩
  rw [show (rnN (sOp σ) p rs (opJ (sOp σ) p)) = (p + 1, rs ++ [(p, 0)]) from by unfold rnN; rw [if_pos hk]]
  exact ⟨hnx, RSI_5 hRS hk⟩
abbrev kX2_perform : gw_K := (yX2_perform, cX2_perform, 2, { frames := 0, cells := 0, slots := 0, locals := 0 }, (some .int))
theorem okB_X2_perform : gw_calB kX2_perform 1 := ⟨wd_762, wd_72, by decide, by decide, by decide +kernel⟩
set_option maxHeartbeats 4000000 in
set_option maxRecDepth 100000 in
theorem c_pf_6 (l : Launch) (cy : Nat → ClassId) (ad sa ta oa : Nat → Nat) (σ : aS) (ln bb : Nat) (nx sd lb lf : Int32) (lo : Option Nat) (pg : Nat → Option Nat) (bo : Nat → Int32) (xs tb op : va_W) (cs sm : Nat → List sT) (td : Nat → Int32) (p : Nat) (rs : List (Nat × Nat)) (hxs : xsP cy (ad 4) sa cs xs) (hcs : csS (wSm σ sm) cs) (htb : tbP cy ta (sTb σ) tb) (hop : opP oa (sOp σ) lo pg td op) (hn4 : 1 ≤ σ.1 ∧ σ.1 ≤ 4) (hp : p < (sOp σ).length) (hRS : RSI (sOp σ) td rs p) (ho : opOK σ.1 (opJ (sOp σ) p)) (hnx : nx = nI (p + 1)) (hoc : ∃ c, opn (sOp σ) = some c) (hO : ∀ r, opOK σ.1 (opJ (sOp σ) r) ∨ (sOp σ).length ≤ r) (hk : (opJ (sOp σ) p).1 = 6) : gw_M l kX2_perform cy [.ref (oa p), .ref (ad 0)] (bW cy ad sa ta σ.1 ln bb nx sd lb lf lo pg bo ++ (xs ++ (tb ++ op))) (qPr cy ad sa ta oa σ ln bb sd lb lf lo pg bo cs sm p rs) := by
  obtain ⟨oc, hoc⟩ := hoc
  obtain ⟨r, tl, e⟩ := opk_ne hoc hp hk
  obtain ⟨t1, t2⟩ := opk_tail (sOp σ) p r tl e
  have hr := opk_lt (sOp σ) p r (by rw [e]; exact List.mem_cons_self ..)
  obtain ⟨L, d, hrs, hL, etd, d8⟩ := RSI_cons hRS e
  subst hrs
  obtain ⟨R, o1, o2, o3⟩ := opP_open5 hop (j := r) (by omega) t2
  have hmE := o2 p hp (by omega)
  rw [opCe, if_neg (by omega), if_neg (by omega), if_neg (by omega), if_neg (by omega), if_pos hk] at hmE
  rw [show arOf (sOp σ) oa p = some (oa r) from by unfold arOf; rw [e]; rfl] at hmE
  rw [etd] at o1
  obtain ⟨v1, v8⟩ := opOK_5 (show opOK σ.1 (opJ (sOp σ) r) from (hO r).resolve_right (by omega)) t2
  refine gw_M.pm (perm_opx (B := bW cy ad sa ta σ.1 ln bb nx sd lb lf lo pg bo) o1) ?_
  refine gw_M.mk (lv := [some (.ref (oa p)), some (.ref (ad 0))]) (by decide) (Nat.le_of_ble_eq_true rfl) rfl ?_
  generalize hpost : (qPr cy ad sa ta oa σ ln bb sd lb lf lo pg bo cs sm p (L ++ [(r, d)]) : gw_Q) = post
  refine gw_W.wd (w' := ([(ad 0, .inr (9, [.int (nI (σ.1)), .ref (ad 1), .ref (ad 2), .ref (sa (3 * 0)), .ref (ad 4), .ref (ad 5), .ref (ad 6), .int (nI (ln)), va_rf (lo), .int (nx), .int (sd), .int (lb), .ref (ad 12), .int (nI (bb)), .int (lf)])), (ad 1, .inl (cy 3, 9, .inr (.inr (.inr (.inr (fun i => some (sa (3 * i)))))))), (ad 2, .inl (cy 3, 9, .inr (.inr (.inr (.inr (fun i => some (sa (3 * (9 + i))))))))), (ad 5, .inl (cy 4, 8, .inr (.inr (.inr (.inr (fun i => some (ta (2 * i)))))))), (ad 6, .inl (cy 2, 40, .inr (.inr (.inr (.inr (pg)))))), (ad 12, .inl (cy 0, 16, .inl (bo))), (oa r, .inr (5, [.int (nI (r)), va_rf (arOf (sOp σ) oa r), .int ((opJ (sOp σ) r).2.1), .int (nI (d))]))] ++ (xs ++ (tb ++ R)))) rfl ?_
  refine gw_aload_n dX2_perform_0 rfl ?_
  refine gw_getM (C0 := RX2) (T := TX2) (N := 2) (ref := RX2) (List.mem_append_right _ (List.mem_append_right _ (List.mem_append_right _ hmE))) rfl inX2 1 (by decide) wd_488 (Or.inr wd_489) rfl dX2_perform_1 ?_
  refine gw_ifnull dX2_perform_4 ?_
  refine gw_aload_n dX2_perform_7 rfl ?_
  refine gw_getM (C0 := RX2) (T := TX2) (N := 2) (ref := RX2) (List.mem_append_right _ (List.mem_append_right _ (List.mem_append_right _ hmE))) rfl inX2 1 (by decide) wd_488 (Or.inr wd_489) rfl dX2_perform_8 ?_
  refine gw_dup dX2_perform_11 rfl ?_
  refine gw_getN (C0 := RX7) (T := TX7) (N := 4) (ref := RX7) 6 rfl rfl inX7 3 (by decide) (host := "SpinBench") (by decide +kernel) (Or.inl rfl) rfl dX2_perform_12 ?_
  refine gw_iconst (v := nI (1)) dX2_perform_15 (by decide) ?_
  refine gw_iaddN dX2_perform_16 ?_
  refine gw_putN (C0 := RX7) (T := TX7) (N := 4) (ref := RX7) (ty := tyX7 3) 6 rfl rfl inX7 3 (by decide) tyX7 tyX7_ok nmX7 (host := "SpinBench") (by decide +kernel) (Or.inl rfl) rfl (tyX7_ok 3 (by decide)) (rfl) (rfl) (Nat.le_of_ble_eq_true rfl) dX2_perform_17 ?_
  refine gw_W.wd (w' := ([(ad 0, .inr (9, [.int (nI (σ.1)), .ref (ad 1), .ref (ad 2), .ref (sa (3 * 0)), .ref (ad 4), .ref (ad 5), .ref (ad 6), .int (nI (ln)), va_rf (lo), .int (nx), .int (sd), .int (lb), .ref (ad 12), .int (nI (bb)), .int (lf)])), (ad 1, .inl (cy 3, 9, .inr (.inr (.inr (.inr (fun i => some (sa (3 * i)))))))), (ad 2, .inl (cy 3, 9, .inr (.inr (.inr (.inr (fun i => some (sa (3 * (9 + i))))))))), (ad 5, .inl (cy 4, 8, .inr (.inr (.inr (.inr (fun i => some (ta (2 * i)))))))), (ad 6, .inl (cy 2, 40, .inr (.inr (.inr (.inr (pg)))))), (ad 12, .inl (cy 0, 16, .inl (bo))), (oa r, .inr (5, [.int (nI (r)), va_rf (arOf (sOp σ) oa r), .int ((opJ (sOp σ) r).2.1), .int (nI (d + 1))]))] ++ (xs ++ (tb ++ R)))) rfl ?_
  refine gw_aload_n dX2_perform_20 rfl ?_
  refine gw_getM (C0 := RX2) (T := TX2) (N := 2) (ref := RX2) (List.mem_append_right _ (List.mem_append_right _ (List.mem_append_right _ hmE))) rfl inX2 1 (by decide) wd_488 (Or.inr wd_489) rfl dX2_perform_21 ?_
  refine gw_getN (C0 := RX7) (T := TX7) (N := 4) (ref := RX7) 6 rfl rfl inX7 3 (by decide) (host := "SpinBench") (by decide +kernel) (Or.inl rfl) rfl dX2_perform_24 ?_
  refine gw_aload_n dX2_perform_27 rfl ?_
  refine gw_getM (C0 := RX2) (T := TX2) (N := 2) (ref := RX2) (List.mem_append_right _ (List.mem_append_right _ (List.mem_append_right _ hmE))) rfl inX2 1 (by decide) wd_488 (Or.inr wd_489) rfl dX2_perform_28 ?_
  refine gw_getN (C0 := RX7) (T := TX7) (N := 4) (ref := RX7) 6 rfl rfl inX7 2 (by decide) (host := "SpinBench") (by decide +kernel) (Or.inl rfl) rfl dX2_perform_31 ?_
  refine gw_icmp_ge (tgt := 50) dX2_perform_34 (by decide) (fun c34 => ?_) (fun c34 => ?_)
  · rw [i32_le, nI_toInt (by omega)] at c34
    refine gw_iconst (v := nI (0)) dX2_perform_50 (by decide) ?_
    refine gw_W.wd (w' := (bW cy ad sa ta (σ.1) ln bb nx sd lb lf lo pg bo ++ [(oa r, .inr (5, [.int (nI (r)), va_rf (arOf (sOp σ) oa r), .int ((opJ (sOp σ) r).2.1), .int (nI (d + 1))]))]) ++ (xs ++ (tb ++ R))) rfl ?_
    refine gw_W.perm (perm_opx (List.Perm.refl ([(oa r, .inr (5, [.int (nI (r)), va_rf (arOf (sOp σ) oa r), .int ((opJ (sOp σ) r).2.1), .int (nI (d + 1))]))] ++ R))).symm ?_
    refine gw_iret (?_) (by decide) (by decide) rfl dX2_perform_51
    subst hpost
    have hD : (doM σ.1 (sTb σ) sm (rsD (L ++ [(r, d)])) (opJ (sOp σ) p)) = (0, sm) := doM_56 (Or.inr hk)
    refine ⟨cs, xs, tb, _, va_up td r (nI (d + 1)), _, by rw [hD]; rfl, by rw [hD]; exact hcs, fun i hi => rfl, hxs, htb, o3 (nI (d + 1)) _ (List.Perm.refl _), rfl, fun _ => ?_⟩
    unfold rnN
    rw [if_neg (by omega), if_pos hk, rsT_app]
    simp only
    first
      | (rw [if_neg (by omega), List.dropLast_concat]; exact ⟨hnx, RSI_6b hRS e hL hk⟩)
      | (rw [if_pos (by omega), set_last]; exact ⟨rfl, RSI_6a hRS e hL (by omega)⟩)
  · rw [i32_le, nI_toInt (by omega)] at c34
    refine gw_aload_n dX2_perform_37 rfl ?_
    refine gw_aload_n dX2_perform_38 rfl ?_
    refine gw_getM (C0 := RX2) (T := TX2) (N := 2) (ref := RX2) (List.mem_append_right _ (List.mem_append_right _ (List.mem_append_right _ hmE))) rfl inX2 1 (by decide) wd_488 (Or.inr wd_489) rfl dX2_perform_39 ?_
    refine gw_get (C0 := RX7) (T := TX7) (N := 4) (ref := RX7) 6 rfl rfl inX7 0 (by decide) wd_484 (Or.inr wd_485) rfl dX2_perform_42 ?_
    refine gw_iconst (v := nI (1)) dX2_perform_45 (by decide) ?_
    refine gw_iaddN dX2_perform_46 ?_
    refine gw_putN (C0 := RX11) (T := TX11) (N := 15) (ref := RX11) (ty := tyX11 9) 0 rfl rfl inX11 9 (by decide) tyX11 tyX11_ok nmX11 (host := "SpinBench") (by decide +kernel) (Or.inl rfl) rfl (tyX11_ok 9 (by decide)) (rfl) (rfl) (Nat.le_of_ble_eq_true rfl) dX2_perform_47 ?_
    refine gw_W.wd (w' := ([(ad 0, .inr (9, [.int (nI (σ.1)), .ref (ad 1), .ref (ad 2), .ref (sa (3 * 0)), .ref (ad 4), .ref (ad 5), .ref (ad 6), .int (nI (ln)), va_rf (lo), .int (nI (r + 1)), .int (sd), .int (lb), .ref (ad 12), .int (nI (bb)), .int (lf)])), (ad 1, .inl (cy 3, 9, .inr (.inr (.inr (.inr (fun i => some (sa (3 * i)))))))), (ad 2, .inl (cy 3, 9, .inr (.inr (.inr (.inr (fun i => some (sa (3 * (9 + i))))))))), (ad 5, .inl (cy 4, 8, .inr (.inr (.inr (.inr (fun i => some (ta (2 * i)))))))), (ad 6, .inl (cy 2, 40, .inr (.inr (.inr (.inr (pg)))))), (ad 12, .inl (cy 0, 16, .inl (bo))), (oa r, .inr (5, [.int (nI (r)), va_rf (arOf (sOp σ) oa r), .int ((opJ (sOp σ) r).2.1), .int (nI (d + 1))]))] ++ (xs ++ (tb ++ R)))) rfl ?_
    refine gw_iconst (v := nI (0)) dX2_perform_50 (by decide) ?_
    refine gw_W.wd (w' := (bW cy ad sa ta (σ.1) ln bb (nI (r + 1)) sd lb lf lo pg bo ++ [(oa r, .inr (5, [.int (nI (r)), va_rf (arOf (sOp σ) oa r), .int ((opJ (sOp σ) r).2.1), .int (nI (d + 1))]))]) ++ (xs ++ (tb ++ R))) rfl ?_
    refine gw_W.perm (perm_opx (List.Perm.refl ([(oa r, .inr (5, [.int (nI (r)), va_rf (arOf (sOp σ) oa r), .int ((opJ (sOp σ) r).2.1), .int (nI (d + 1))]))] ++ R))).symm ?_
    refine gw_iret (?_) (by decide) (by decide) rfl dX2_perform_51
    subst hpost
    have hD : (doM σ.1 (sTb σ) sm (rsD (L ++ [(r, d)])) (opJ (sOp σ) p)) = (0, sm) := doM_56 (Or.inr hk)
    refine ⟨cs, xs, tb, _, va_up td r (nI (d + 1)), _, by rw [hD]; rfl, by rw [hD]; exact hcs, fun i hi => rfl, hxs, htb, o3 (nI (d + 1)) _ (List.Perm.refl _), rfl, fun _ => ?_⟩
    unfold rnN
    rw [if_neg (by omega), if_pos hk, rsT_app]
    simp only
    first
      | (rw [if_neg (by omega), List.dropLast_concat]; exact ⟨hnx, RSI_6b hRS e hL hk⟩)
      | (rw [if_pos (by omega), set_last]; exact ⟨rfl, RSI_6a hRS e hL (by omega)⟩)
theorem perm_t {α : Type} {B xs tb op : List α} : (B ++ (xs ++ (tb ++ op))).Perm (tb ++ (B ++ (xs ++ op))) := by
  rw [← List.append_assoc, ← List.append_assoc B xs op, ← List.append_assoc, ← List.append_assoc]
  exact List.perm_append_comm.append_right op
abbrev kX0_perform : gw_K := (yX0_perform, cX0_perform, 4, { frames := 5, cells := 0, slots := 0, locals := 136 }, (some .int))
theorem okB_X0_perform : gw_calB kX0_perform 1 := ⟨wd_744, wd_69, by decide, by decide, by decide +kernel⟩
set_option maxHeartbeats 4000000 in
set_option maxRecDepth 100000 in
theorem c_pf_3 (l : Launch) (cy : Nat → ClassId) (ad sa ta oa : Nat → Nat) (σ : aS) (ln bb : Nat) (nx sd lb lf : Int32) (lo : Option Nat) (pg : Nat → Option Nat) (bo : Nat → Int32) (xs tb op : va_W) (cs sm : Nat → List sT) (td : Nat → Int32) (p : Nat) (rs : List (Nat × Nat)) (hxs : xsP cy (ad 4) sa cs xs) (hcs : csS (wSm σ sm) cs) (htb : tbP cy ta (sTb σ) tb) (hop : opP oa (sOp σ) lo pg td op) (hn4 : 1 ≤ σ.1 ∧ σ.1 ≤ 4) (hp : p < (sOp σ).length) (hRS : RSI (sOp σ) td rs p) (ho : opOK σ.1 (opJ (sOp σ) p)) (hnx : nx = nI (p + 1)) (hoc : ∃ c, opn (sOp σ) = some c) (hk : (opJ (sOp σ) p).1 = 3) : gw_M l kX0_perform cy [.ref (oa p), .ref (ad 0)] (bW cy ad sa ta σ.1 ln bb nx sd lb lf lo pg bo ++ (xs ++ (tb ++ op))) (qPr cy ad sa ta oa σ ln bb sd lb lf lo pg bo cs sm p rs) := by
  have hm := opP_mem hop hp
  rw [opCe, if_neg (by omega), if_pos hk] at hm
  obtain ⟨z0, zS⟩ := csS_0 hcs
  have z0 : cs 0 = sm 8 := z0
  obtain ⟨a1, a2, a3, a4, a5, a6, a7, a8⟩ := opOK_23 ho (by omega)
  obtain ⟨m16, ex⟩ := pu_16 hn4.2 ho (by omega)
  have ef : (opJ (sOp σ) p).2.2.1 = nI (tI (opJ (sOp σ) p).2.2.1) := tI_of a3
  have et : (opJ (sOp σ) p).2.2.2.1 = nI (tI (opJ (sOp σ) p).2.2.2.1) := tI_of a5
  have f4 : tI (opJ (sOp σ) p).2.2.1 < 4 := by unfold tI; omega
  have t4 : tI (opJ (sOp σ) p).2.2.2.1 < 4 := by unfold tI; omega
  have hm2 : (oa p, .inr (0, [.int ((opJ (sOp σ) p).2.1), .int ((opJ (sOp σ) p).2.2.1), .int (nI (tI (opJ (sOp σ) p).2.2.2.1)), .int (nI (p)), va_rf (arOf (sOp σ) oa p), .int ((opJ (sOp σ) p).2.2.2.2)])) ∈ op := by rw [← et]; exact hm
  obtain ⟨ms, la, sz, it, hmt, hmi, hR, hHP⟩ := tb_memG2 htb (i := tI (opJ (sOp σ) p).2.2.2.2) (by unfold tI; omega)
  have hct : inZ (opJ (sOp σ) p).2.2.2.2.toInt 0 7 = true := inZ_t.mpr (by omega)
  cases e : opk (sOp σ) p with
  | nil =>
    have har : arOf (sOp σ) oa p = none := by unfold arOf; rw [e]; rfl
    have hm3 : (oa p, .inr (0, [.int ((opJ (sOp σ) p).2.1), .int ((opJ (sOp σ) p).2.2.1), .int (nI (tI (opJ (sOp σ) p).2.2.2.1)), .int (nI (p)), .null, .int ((opJ (sOp σ) p).2.2.2.2)])) ∈ op := by
      have h := hm2
      rw [har] at h
      exact h
    have hrsd := RSI_nil hRS e
    refine gw_M.mk (lv := [some (.ref (oa p)), some (.ref (ad 0)), none, none]) (by decide) (Nat.le_of_ble_eq_true rfl) rfl ?_
    generalize hpost : (qPr cy ad sa ta oa σ ln bb sd lb lf lo pg bo cs sm p rs : gw_Q) = post
    refine gw_W.wd (w' := ([(ad 0, .inr (9, [.int (nI (σ.1)), .ref (ad 1), .ref (ad 2), .ref (sa (3 * 0)), .ref (ad 4), .ref (ad 5), .ref (ad 6), .int (nI (ln)), va_rf (lo), .int (nx), .int (sd), .int (lb), .ref (ad 12), .int (nI (bb)), .int (lf)])), (ad 1, .inl (cy 3, 9, .inr (.inr (.inr (.inr (fun i => some (sa (3 * i)))))))), (ad 2, .inl (cy 3, 9, .inr (.inr (.inr (.inr (fun i => some (sa (3 * (9 + i))))))))), (ad 5, .inl (cy 4, 8, .inr (.inr (.inr (.inr (fun i => some (ta (2 * i)))))))), (ad 6, .inl (cy 2, 40, .inr (.inr (.inr (.inr (pg)))))), (ad 12, .inl (cy 0, 16, .inl (bo)))] ++ (xs ++ (tb ++ op)))) rfl ?_
    refine gw_aload_n dX0_perform_0 rfl ?_
    refine gw_aload_n dX0_perform_1 rfl ?_
    refine gw_getM (C0 := RX0) (T := TX0) (N := 6) (ref := RX0) (List.mem_append_right _ (List.mem_append_right _ (List.mem_append_right _ hm3))) rfl inX0 5 (by decide) wd_520 (Or.inl rfl) rfl dX0_perform_2 ?_
    refine gw_W.wd (w' := bW cy ad sa ta (σ.1) ln bb nx sd lb lf lo pg bo ++ (xs ++ (tb ++ op))) rfl ?_
    refine gw_callVN 0 (As := [.int ((opJ (sOp σ) p).2.2.2.2)]) (st := []) (c_btableAt l cy ad sa ta (σ.1) ln bb nx sd lb lf lo pg bo (xs ++ (tb ++ op)) ((opJ (sOp σ) p).2.2.2.2)) ok_X11_tableAt rfl rfl rfl (host := "SpinBench") (by decide +kernel) rfl rfl dX0_perform_5 (by decide) (by decide) (Nat.le_of_ble_eq_true rfl) (fun r5 w5 hp5 => ?_)
    obtain ⟨rfl, rfl⟩ := hp5
    rw [if_pos hct]
    refine gw_W.norm (st' := [.ref (ta (2 * tI (opJ (sOp σ) p).2.2.2.2))]) (k1 := 0) (k2 := 0) rfl rfl rfl ?_
    refine gw_W.wd (w' := ([(ad 0, .inr (9, [.int (nI (σ.1)), .ref (ad 1), .ref (ad 2), .ref (sa (3 * 0)), .ref (ad 4), .ref (ad 5), .ref (ad 6), .int (nI (ln)), va_rf (lo), .int (nx), .int (sd), .int (lb), .ref (ad 12), .int (nI (bb)), .int (lf)])), (ad 1, .inl (cy 3, 9, .inr (.inr (.inr (.inr (fun i => some (sa (3 * i)))))))), (ad 2, .inl (cy 3, 9, .inr (.inr (.inr (.inr (fun i => some (sa (3 * (9 + i))))))))), (ad 5, .inl (cy 4, 8, .inr (.inr (.inr (.inr (fun i => some (ta (2 * i)))))))), (ad 6, .inl (cy 2, 40, .inr (.inr (.inr (.inr (pg)))))), (ad 12, .inl (cy 0, 16, .inl (bo)))] ++ (xs ++ (tb ++ op)))) rfl ?_
    refine gw_astore_n dX0_perform_8 (by decide) rfl ?_
    refine gw_aload_n dX0_perform_9 rfl ?_
    refine gw_ifnull dX0_perform_10 ?_
    refine gw_aload_n dX0_perform_13 rfl ?_
    refine gw_getMN (C0 := RX10) (T := TX10) (N := 4) (ref := RX10) (List.mem_append_right _ (List.mem_append_right _ (List.mem_append_left _ hmt))) rfl inX10 1 (by decide) (host := "SpinBench") (by decide +kernel) (Or.inl rfl) rfl dX0_perform_14 ?_
    refine gw_if_eq (tgt := 22) dX0_perform_17 (by decide) (fun c17 => ?_) (fun c17 => ?_)
    · obtain ⟨q, hq, e2, e3, e4, e5, e6⟩ := tab_some hR c17
      subst e3; subst e5
      refine gw_aload_n dX0_perform_22 rfl ?_
      refine gw_getM (C0 := RX0) (T := TX0) (N := 6) (ref := RX0) (List.mem_append_right _ (List.mem_append_right _ (List.mem_append_right _ hm3))) rfl inX0 4 (by decide) wd_490 (Or.inr wd_491) rfl dX0_perform_23 ?_
      refine gw_ifnonnullN dX0_perform_26 ?_
      refine gw_iconst (v := nI (0)) dX0_perform_29 (by decide) ?_
      refine gw_goto (tgt := 40) dX0_perform_30 (by decide) ?_
      refine gw_istore_n dX0_perform_40 (by decide) rfl ?_
      refine gw_aload_n dX0_perform_41 rfl ?_
      refine gw_iload_n dX0_perform_42 rfl ?_
      refine gw_iconst (v := nI (1)) dX0_perform_43 (by decide) ?_
      refine gw_W.wd (w' := bW cy ad sa ta (σ.1) ln bb nx sd lb lf lo pg bo ++ (xs ++ (tb ++ op))) rfl ?_
      refine gw_callHN (As := [.int (nI (0)), .int (nI (1))]) (st := []) ((hHP l q.2.length (nI (0)) (nI (1)) rfl e4).frame (w2 := bW cy ad sa ta (σ.1) ln bb nx sd lb lf lo pg bo ++ (xs ++ (tb ++ op))) (f := bW cy ad sa ta (σ.1) ln bb nx sd lb lf lo pg bo ++ (xs ++ op)) perm_t) ok_X10_hasPlaces (gw_has.right (gw_has.right (gw_has.left ⟨_, hmt⟩))) rfl rfl (host := "SpinBench") (by decide +kernel) rfl rfl dX0_perform_44 (by decide) (by decide) (Nat.le_of_ble_eq_true rfl) (fun r44 w44 hp44 => ?_)
      obtain ⟨tb2, ⟨rfl, ht2⟩, rfl⟩ := hp44
      refine gw_W.perm (w' := bW cy ad sa ta (σ.1) ln bb nx sd lb lf lo pg bo ++ (xs ++ (tb ++ op))) ((ht2.append_right _).trans perm_t.symm) ?_
      refine gw_W.norm (st' := [.int (bI (decide (0 ≤ (nI (0)).toInt ∧ 0 ≤ (nI (1)).toInt ∧ (nI (0)).toInt + (nI (1)).toInt ≤ q.2.length)))]) (k1 := 0) (k2 := 0) rfl rfl rfl ?_
      refine gw_W.wd (w' := ([(ad 0, .inr (9, [.int (nI (σ.1)), .ref (ad 1), .ref (ad 2), .ref (sa (3 * 0)), .ref (ad 4), .ref (ad 5), .ref (ad 6), .int (nI (ln)), va_rf (lo), .int (nx), .int (sd), .int (lb), .ref (ad 12), .int (nI (bb)), .int (lf)])), (ad 1, .inl (cy 3, 9, .inr (.inr (.inr (.inr (fun i => some (sa (3 * i)))))))), (ad 2, .inl (cy 3, 9, .inr (.inr (.inr (.inr (fun i => some (sa (3 * (9 + i))))))))), (ad 5, .inl (cy 4, 8, .inr (.inr (.inr (.inr (fun i => some (ta (2 * i)))))))), (ad 6, .inl (cy 2, 40, .inr (.inr (.inr (.inr (pg)))))), (ad 12, .inl (cy 0, 16, .inl (bo)))] ++ (xs ++ (tb ++ op)))) rfl ?_
      refine gw_if_ne (tgt := 52) dX0_perform_47 (by decide) (fun c47 => ?_) (fun c47 => ?_)
      · rw [bI_n0, decide_eq_true_eq, nI_toInt (by omega), show (nI 1).toInt = 1 from by decide] at c47
        have tq : 0 < q.2.length := by omega
        refine gw_aload_n dX0_perform_52 rfl ?_
        refine gw_aload_n dX0_perform_53 rfl ?_
        refine gw_aload_n dX0_perform_54 rfl ?_
        refine gw_getM (C0 := RX0) (T := TX0) (N := 6) (ref := RX0) (List.mem_append_right _ (List.mem_append_right _ (List.mem_append_right _ hm3))) rfl inX0 1 (by decide) wd_480 (Or.inr wd_481) rfl dX0_perform_55 ?_
        refine gw_aload_n dX0_perform_58 rfl ?_
        refine gw_getMN (C0 := RX10) (T := TX10) (N := 4) (ref := RX10) (List.mem_append_right _ (List.mem_append_right _ (List.mem_append_left _ hmt))) rfl inX10 0 (by decide) (host := "SpinBench") (by decide +kernel) (Or.inl rfl) rfl dX0_perform_59 ?_
        refine gw_iload_n dX0_perform_62 rfl ?_
        refine gw_ialdM (List.mem_append_right _ (List.mem_append_right _ (List.mem_append_left _ hmi))) (rfl) (by omega) (by decide) dX0_perform_63 ?_
        refine gw_iadd dX0_perform_64 ?_
        refine gw_iconst (v := nI (3)) dX0_perform_65 (by decide) ?_
        refine gw_iand dX0_perform_66 ?_
        refine gw_topi (y := nI (cyF (opJ (sOp σ) p).2.2.1 (it (0)))) (cy_and) ?_
        refine gw_W.wd (w' := bW cy ad sa ta (σ.1) ln bb nx sd lb lf lo pg bo ++ (xs ++ (tb ++ op))) rfl ?_
        refine gw_callD (As := [.ref (ad 0), .int (nI (cyF (opJ (sOp σ) p).2.2.1 (it (0))))]) (st := []) (ci := 0) (x := ⟨"SpinBench$Cycled", "turnSpins", "(LSpinBench;I)I"⟩) (owner := "SpinBench$Pulse") (c_tsp_0 l cy ad sa ta σ.1 ln bb nx sd lb lf lo pg bo xs (tb ++ op) cs (oa p) (nI p) (arOf (sOp σ) oa p) (opJ (sOp σ) p).2.1 (opJ (sOp σ) p).2.2.1 (tI (opJ (sOp σ) p).2.2.2.1) (cyF (opJ (sOp σ) p).2.2.1 (it (0))) (tI (opJ (sOp σ) p).2.1) (opJ (sOp σ) p).2.2.2.2 (List.mem_append_right _ hm2) hxs hn4 (by rw [z0]; exact zS) ex m16 (cyF_lt _ _) t4) okB_X6_turnSpins wd_751 (gw_has.right (gw_has.right (gw_has.right ⟨_, hm2⟩))) rfl wd_750 wd_748 (gw_dec.code wd_751 wd_752) ⟨by decide, by decide⟩ rfl wd_747 rfl rfl dX0_perform_67 (by decide) (by decide) (Nat.le_of_ble_eq_true rfl) (fun r67 w67 hp67 => ?_)
        obtain ⟨rfl, x2, hx2, rfl⟩ := hp67
        refine gw_W.norm (st' := [.int (nI (0))]) (k1 := 0) (k2 := 0) rfl rfl rfl ?_
        refine gw_W.wd (w' := ([(ad 0, .inr (9, [.int (nI (σ.1)), .ref (ad 1), .ref (ad 2), .ref (sa (3 * 0)), .ref (ad 4), .ref (ad 5), .ref (ad 6), .int (nI (ln)), va_rf (lo), .int (nx), .int (sd), .int (lb), .ref (ad 12), .int (nI (bb)), .int (lf)])), (ad 1, .inl (cy 3, 9, .inr (.inr (.inr (.inr (fun i => some (sa (3 * i)))))))), (ad 2, .inl (cy 3, 9, .inr (.inr (.inr (.inr (fun i => some (sa (3 * (9 + i))))))))), (ad 5, .inl (cy 4, 8, .inr (.inr (.inr (.inr (fun i => some (ta (2 * i)))))))), (ad 6, .inl (cy 2, 40, .inr (.inr (.inr (.inr (pg)))))), (ad 12, .inl (cy 0, 16, .inl (bo)))] ++ (x2 ++ (tb ++ op)))) rfl ?_
        refine gw_W.wd (w' := bW cy ad sa ta (σ.1) ln bb nx sd lb lf lo pg bo ++ (x2 ++ (tb ++ op))) rfl ?_
        refine gw_iret (?_) (by decide) (by decide) rfl dX0_perform_70
        subst hpost
        have hD : (doM σ.1 (sTb σ) sm (rsD rs) (opJ (sOp σ) p)) = (0, va_up sm 8 (plS σ.1 (opJ (sOp σ) p).2.1 (cyF (opJ (sOp σ) p).2.2.1 (it (0))) (tI (opJ (sOp σ) p).2.2.2.1) (sm 8) σ.1)) := by unfold doM; rw [if_neg (by omega), if_pos hk]; rw [hq]; simp only; rw [hrsd, if_pos tq, ← e6 _ tq]
        have hSok : sOK σ.1 (plS σ.1 (opJ (sOp σ) p).2.1 (cyF (opJ (sOp σ) p).2.2.1 (it (0))) (tI (opJ (sOp σ) p).2.2.2.1) (cs 0) σ.1) := by
          rw [ex]
          exact plS_ok hn4.2 m16 (by rw [z0]; exact zS) _ hn4.2
        refine ⟨va_up cs 0 (plS σ.1 (opJ (sOp σ) p).2.1 (cyF (opJ (sOp σ) p).2.2.1 (it (0))) (tI (opJ (sOp σ) p).2.2.2.1) (cs 0) σ.1), x2, tb, op, td, nx, ?_, ?_, up_9 (by decide), hx2, htb, hop, rfl, fun _ => by rw [rnN_0 (by omega) (by omega)]; exact ⟨hnx, RSI_0 hRS (by omega) (by omega)⟩⟩
        · rw [hD]; rfl
        · rw [hD, ← z0]; exact csS_keep hcs hSok
      · rw [bI_0, decide_eq_false_iff_not, nI_toInt (by omega), show (nI 1).toInt = 1 from by decide] at c47
        have tq : ¬ 0 < q.2.length := by omega
        refine gw_iconst (v := nI (2)) dX0_perform_50 (by decide) ?_
        refine gw_W.wd (w' := bW cy ad sa ta (σ.1) ln bb nx sd lb lf lo pg bo ++ (xs ++ (tb ++ op))) rfl ?_
        refine gw_iret (?_) (by decide) (by decide) rfl dX0_perform_51
        subst hpost
        have hD : (doM σ.1 (sTb σ) sm (rsD rs) (opJ (sOp σ) p)) = (2, sm) := by unfold doM; rw [if_neg (by omega), if_pos hk]; rw [hq]; simp only; rw [hrsd, if_neg tq]
        exact ⟨cs, xs, tb, op, td, nx, by rw [hD]; rfl, by rw [hD]; exact hcs, fun i hi => rfl, hxs, htb, hop, rfl, fun _ => by rw [rnN_0 (by omega) (by omega)]; exact ⟨hnx, RSI_0 hRS (by omega) (by omega)⟩⟩
    · have hq := tab_none hR c17
      refine gw_iconst (v := nI (1)) dX0_perform_20 (by decide) ?_
      refine gw_W.wd (w' := bW cy ad sa ta (σ.1) ln bb nx sd lb lf lo pg bo ++ (xs ++ (tb ++ op))) rfl ?_
      refine gw_iret (?_) (by decide) (by decide) rfl dX0_perform_21
      subst hpost
      have hD : (doM σ.1 (sTb σ) sm (rsD rs) (opJ (sOp σ) p)) = (1, sm) := by unfold doM; rw [if_neg (by omega), if_pos hk]; rw [hq]
      exact ⟨cs, xs, tb, op, td, nx, by rw [hD]; rfl, by rw [hD]; exact hcs, fun i hi => rfl, hxs, htb, hop, rfl, fun _ => by rw [rnN_0 (by omega) (by omega)]; exact ⟨hnx, RSI_0 hRS (by omega) (by omega)⟩⟩
  | cons r tl =>
    have har : arOf (sOp σ) oa p = some (oa r) := by unfold arOf; rw [e]; rfl
    have hm3 : (oa p, .inr (0, [.int ((opJ (sOp σ) p).2.1), .int ((opJ (sOp σ) p).2.2.1), .int (nI (tI (opJ (sOp σ) p).2.2.2.1)), .int (nI (p)), .ref (oa r), .int ((opJ (sOp σ) p).2.2.2.2)])) ∈ op := by
      have h := hm2
      rw [har] at h
      exact h
    obtain ⟨t1, t2⟩ := opk_tail (sOp σ) p r tl e
    have hr := opk_lt (sOp σ) p r (by rw [e]; exact List.mem_cons_self ..)
    obtain ⟨L, d, hrs, hL, etd, d8⟩ := RSI_cons hRS e
    have hmr := opP_mem hop (j := r) (by omega)
    rw [opCe, if_neg (by omega), if_neg (by omega), if_neg (by omega), if_pos t2] at hmr
    have hrsd : rsD rs = d := by rw [hrs, rsD_app]
    refine gw_M.mk (lv := [some (.ref (oa p)), some (.ref (ad 0)), none, none]) (by decide) (Nat.le_of_ble_eq_true rfl) rfl ?_
    generalize hpost : (qPr cy ad sa ta oa σ ln bb sd lb lf lo pg bo cs sm p rs : gw_Q) = post
    refine gw_W.wd (w' := ([(ad 0, .inr (9, [.int (nI (σ.1)), .ref (ad 1), .ref (ad 2), .ref (sa (3 * 0)), .ref (ad 4), .ref (ad 5), .ref (ad 6), .int (nI (ln)), va_rf (lo), .int (nx), .int (sd), .int (lb), .ref (ad 12), .int (nI (bb)), .int (lf)])), (ad 1, .inl (cy 3, 9, .inr (.inr (.inr (.inr (fun i => some (sa (3 * i)))))))), (ad 2, .inl (cy 3, 9, .inr (.inr (.inr (.inr (fun i => some (sa (3 * (9 + i))))))))), (ad 5, .inl (cy 4, 8, .inr (.inr (.inr (.inr (fun i => some (ta (2 * i)))))))), (ad 6, .inl (cy 2, 40, .inr (.inr (.inr (.inr (pg)))))), (ad 12, .inl (cy 0, 16, .inl (bo)))] ++ (xs ++ (tb ++ op)))) rfl ?_
    refine gw_aload_n dX0_perform_0 rfl ?_
    refine gw_aload_n dX0_perform_1 rfl ?_
    refine gw_getM (C0 := RX0) (T := TX0) (N := 6) (ref := RX0) (List.mem_append_right _ (List.mem_append_right _ (List.mem_append_right _ hm3))) rfl inX0 5 (by decide) wd_520 (Or.inl rfl) rfl dX0_perform_2 ?_
    refine gw_W.wd (w' := bW cy ad sa ta (σ.1) ln bb nx sd lb lf lo pg bo ++ (xs ++ (tb ++ op))) rfl ?_
    refine gw_callVN 0 (As := [.int ((opJ (sOp σ) p).2.2.2.2)]) (st := []) (c_btableAt l cy ad sa ta (σ.1) ln bb nx sd lb lf lo pg bo (xs ++ (tb ++ op)) ((opJ (sOp σ) p).2.2.2.2)) ok_X11_tableAt rfl rfl rfl (host := "SpinBench") (by decide +kernel) rfl rfl dX0_perform_5 (by decide) (by decide) (Nat.le_of_ble_eq_true rfl) (fun r5 w5 hp5 => ?_)
    obtain ⟨rfl, rfl⟩ := hp5
    rw [if_pos hct]
    refine gw_W.norm (st' := [.ref (ta (2 * tI (opJ (sOp σ) p).2.2.2.2))]) (k1 := 0) (k2 := 0) rfl rfl rfl ?_
    refine gw_W.wd (w' := ([(ad 0, .inr (9, [.int (nI (σ.1)), .ref (ad 1), .ref (ad 2), .ref (sa (3 * 0)), .ref (ad 4), .ref (ad 5), .ref (ad 6), .int (nI (ln)), va_rf (lo), .int (nx), .int (sd), .int (lb), .ref (ad 12), .int (nI (bb)), .int (lf)])), (ad 1, .inl (cy 3, 9, .inr (.inr (.inr (.inr (fun i => some (sa (3 * i)))))))), (ad 2, .inl (cy 3, 9, .inr (.inr (.inr (.inr (fun i => some (sa (3 * (9 + i))))))))), (ad 5, .inl (cy 4, 8, .inr (.inr (.inr (.inr (fun i => some (ta (2 * i)))))))), (ad 6, .inl (cy 2, 40, .inr (.inr (.inr (.inr (pg)))))), (ad 12, .inl (cy 0, 16, .inl (bo)))] ++ (xs ++ (tb ++ op)))) rfl ?_
    refine gw_astore_n dX0_perform_8 (by decide) rfl ?_
    refine gw_aload_n dX0_perform_9 rfl ?_
    refine gw_ifnull dX0_perform_10 ?_
    refine gw_aload_n dX0_perform_13 rfl ?_
    refine gw_getMN (C0 := RX10) (T := TX10) (N := 4) (ref := RX10) (List.mem_append_right _ (List.mem_append_right _ (List.mem_append_left _ hmt))) rfl inX10 1 (by decide) (host := "SpinBench") (by decide +kernel) (Or.inl rfl) rfl dX0_perform_14 ?_
    refine gw_if_eq (tgt := 22) dX0_perform_17 (by decide) (fun c17 => ?_) (fun c17 => ?_)
    · obtain ⟨q, hq, e2, e3, e4, e5, e6⟩ := tab_some hR c17
      subst e3; subst e5
      refine gw_aload_n dX0_perform_22 rfl ?_
      refine gw_getM (C0 := RX0) (T := TX0) (N := 6) (ref := RX0) (List.mem_append_right _ (List.mem_append_right _ (List.mem_append_right _ hm3))) rfl inX0 4 (by decide) wd_490 (Or.inr wd_491) rfl dX0_perform_23 ?_
      refine gw_ifnonnull (tgt := 33) dX0_perform_26 (by decide) ?_
      refine gw_aload_n dX0_perform_33 rfl ?_
      refine gw_getM (C0 := RX0) (T := TX0) (N := 6) (ref := RX0) (List.mem_append_right _ (List.mem_append_right _ (List.mem_append_right _ hm3))) rfl inX0 4 (by decide) wd_490 (Or.inr wd_491) rfl dX0_perform_34 ?_
      refine gw_getMN (C0 := RX7) (T := TX7) (N := 4) (ref := RX7) (List.mem_append_right _ (List.mem_append_right _ (List.mem_append_right _ hmr))) rfl inX7 3 (by decide) (host := "SpinBench") (by decide +kernel) (Or.inl rfl) rfl dX0_perform_37 ?_
      refine gw_topi (y := nI (d)) (etd) ?_
      refine gw_istore_n dX0_perform_40 (by decide) rfl ?_
      refine gw_aload_n dX0_perform_41 rfl ?_
      refine gw_iload_n dX0_perform_42 rfl ?_
      refine gw_iconst (v := nI (1)) dX0_perform_43 (by decide) ?_
      refine gw_W.wd (w' := bW cy ad sa ta (σ.1) ln bb nx sd lb lf lo pg bo ++ (xs ++ (tb ++ op))) rfl ?_
      refine gw_callHN (As := [.int (nI (d)), .int (nI (1))]) (st := []) ((hHP l q.2.length (nI (d)) (nI (1)) rfl e4).frame (w2 := bW cy ad sa ta (σ.1) ln bb nx sd lb lf lo pg bo ++ (xs ++ (tb ++ op))) (f := bW cy ad sa ta (σ.1) ln bb nx sd lb lf lo pg bo ++ (xs ++ op)) perm_t) ok_X10_hasPlaces (gw_has.right (gw_has.right (gw_has.left ⟨_, hmt⟩))) rfl rfl (host := "SpinBench") (by decide +kernel) rfl rfl dX0_perform_44 (by decide) (by decide) (Nat.le_of_ble_eq_true rfl) (fun r44 w44 hp44 => ?_)
      obtain ⟨tb2, ⟨rfl, ht2⟩, rfl⟩ := hp44
      refine gw_W.perm (w' := bW cy ad sa ta (σ.1) ln bb nx sd lb lf lo pg bo ++ (xs ++ (tb ++ op))) ((ht2.append_right _).trans perm_t.symm) ?_
      refine gw_W.norm (st' := [.int (bI (decide (0 ≤ (nI (d)).toInt ∧ 0 ≤ (nI (1)).toInt ∧ (nI (d)).toInt + (nI (1)).toInt ≤ q.2.length)))]) (k1 := 0) (k2 := 0) rfl rfl rfl ?_
      refine gw_W.wd (w' := ([(ad 0, .inr (9, [.int (nI (σ.1)), .ref (ad 1), .ref (ad 2), .ref (sa (3 * 0)), .ref (ad 4), .ref (ad 5), .ref (ad 6), .int (nI (ln)), va_rf (lo), .int (nx), .int (sd), .int (lb), .ref (ad 12), .int (nI (bb)), .int (lf)])), (ad 1, .inl (cy 3, 9, .inr (.inr (.inr (.inr (fun i => some (sa (3 * i)))))))), (ad 2, .inl (cy 3, 9, .inr (.inr (.inr (.inr (fun i => some (sa (3 * (9 + i))))))))), (ad 5, .inl (cy 4, 8, .inr (.inr (.inr (.inr (fun i => some (ta (2 * i)))))))), (ad 6, .inl (cy 2, 40, .inr (.inr (.inr (.inr (pg)))))), (ad 12, .inl (cy 0, 16, .inl (bo)))] ++ (xs ++ (tb ++ op)))) rfl ?_
      refine gw_if_ne (tgt := 52) dX0_perform_47 (by decide) (fun c47 => ?_) (fun c47 => ?_)
      · rw [bI_n0, decide_eq_true_eq, nI_toInt (by omega), show (nI 1).toInt = 1 from by decide] at c47
        have tq : d < q.2.length := by omega
        refine gw_aload_n dX0_perform_52 rfl ?_
        refine gw_aload_n dX0_perform_53 rfl ?_
        refine gw_aload_n dX0_perform_54 rfl ?_
        refine gw_getM (C0 := RX0) (T := TX0) (N := 6) (ref := RX0) (List.mem_append_right _ (List.mem_append_right _ (List.mem_append_right _ hm3))) rfl inX0 1 (by decide) wd_480 (Or.inr wd_481) rfl dX0_perform_55 ?_
        refine gw_aload_n dX0_perform_58 rfl ?_
        refine gw_getMN (C0 := RX10) (T := TX10) (N := 4) (ref := RX10) (List.mem_append_right _ (List.mem_append_right _ (List.mem_append_left _ hmt))) rfl inX10 0 (by decide) (host := "SpinBench") (by decide +kernel) (Or.inl rfl) rfl dX0_perform_59 ?_
        refine gw_iload_n dX0_perform_62 rfl ?_
        refine gw_ialdM (List.mem_append_right _ (List.mem_append_right _ (List.mem_append_left _ hmi))) (rfl) (by omega) (by decide) dX0_perform_63 ?_
        refine gw_iadd dX0_perform_64 ?_
        refine gw_iconst (v := nI (3)) dX0_perform_65 (by decide) ?_
        refine gw_iand dX0_perform_66 ?_
        refine gw_topi (y := nI (cyF (opJ (sOp σ) p).2.2.1 (it (d)))) (cy_and) ?_
        refine gw_W.wd (w' := bW cy ad sa ta (σ.1) ln bb nx sd lb lf lo pg bo ++ (xs ++ (tb ++ op))) rfl ?_
        refine gw_callD (As := [.ref (ad 0), .int (nI (cyF (opJ (sOp σ) p).2.2.1 (it (d))))]) (st := []) (ci := 0) (x := ⟨"SpinBench$Cycled", "turnSpins", "(LSpinBench;I)I"⟩) (owner := "SpinBench$Pulse") (c_tsp_0 l cy ad sa ta σ.1 ln bb nx sd lb lf lo pg bo xs (tb ++ op) cs (oa p) (nI p) (arOf (sOp σ) oa p) (opJ (sOp σ) p).2.1 (opJ (sOp σ) p).2.2.1 (tI (opJ (sOp σ) p).2.2.2.1) (cyF (opJ (sOp σ) p).2.2.1 (it (d))) (tI (opJ (sOp σ) p).2.1) (opJ (sOp σ) p).2.2.2.2 (List.mem_append_right _ hm2) hxs hn4 (by rw [z0]; exact zS) ex m16 (cyF_lt _ _) t4) okB_X6_turnSpins wd_751 (gw_has.right (gw_has.right (gw_has.right ⟨_, hm2⟩))) rfl wd_750 wd_748 (gw_dec.code wd_751 wd_752) ⟨by decide, by decide⟩ rfl wd_747 rfl rfl dX0_perform_67 (by decide) (by decide) (Nat.le_of_ble_eq_true rfl) (fun r67 w67 hp67 => ?_)
        obtain ⟨rfl, x2, hx2, rfl⟩ := hp67
        refine gw_W.norm (st' := [.int (nI (0))]) (k1 := 0) (k2 := 0) rfl rfl rfl ?_
        refine gw_W.wd (w' := ([(ad 0, .inr (9, [.int (nI (σ.1)), .ref (ad 1), .ref (ad 2), .ref (sa (3 * 0)), .ref (ad 4), .ref (ad 5), .ref (ad 6), .int (nI (ln)), va_rf (lo), .int (nx), .int (sd), .int (lb), .ref (ad 12), .int (nI (bb)), .int (lf)])), (ad 1, .inl (cy 3, 9, .inr (.inr (.inr (.inr (fun i => some (sa (3 * i)))))))), (ad 2, .inl (cy 3, 9, .inr (.inr (.inr (.inr (fun i => some (sa (3 * (9 + i))))))))), (ad 5, .inl (cy 4, 8, .inr (.inr (.inr (.inr (fun i => some (ta (2 * i)))))))), (ad 6, .inl (cy 2, 40, .inr (.inr (.inr (.inr (pg)))))), (ad 12, .inl (cy 0, 16, .inl (bo)))] ++ (x2 ++ (tb ++ op)))) rfl ?_
        refine gw_W.wd (w' := bW cy ad sa ta (σ.1) ln bb nx sd lb lf lo pg bo ++ (x2 ++ (tb ++ op))) rfl ?_
        refine gw_iret (?_) (by decide) (by decide) rfl dX0_perform_70
        subst hpost
        have hD : (doM σ.1 (sTb σ) sm (rsD rs) (opJ (sOp σ) p)) = (0, va_up sm 8 (plS σ.1 (opJ (sOp σ) p).2.1 (cyF (opJ (sOp σ) p).2.2.1 (it (d))) (tI (opJ (sOp σ) p).2.2.2.1) (sm 8) σ.1)) := by unfold doM; rw [if_neg (by omega), if_pos hk]; rw [hq]; simp only; rw [hrsd, if_pos tq, ← e6 _ tq]
        have hSok : sOK σ.1 (plS σ.1 (opJ (sOp σ) p).2.1 (cyF (opJ (sOp σ) p).2.2.1 (it (d))) (tI (opJ (sOp σ) p).2.2.2.1) (cs 0) σ.1) := by
          rw [ex]
          exact plS_ok hn4.2 m16 (by rw [z0]; exact zS) _ hn4.2
        refine ⟨va_up cs 0 (plS σ.1 (opJ (sOp σ) p).2.1 (cyF (opJ (sOp σ) p).2.2.1 (it (d))) (tI (opJ (sOp σ) p).2.2.2.1) (cs 0) σ.1), x2, tb, op, td, nx, ?_, ?_, up_9 (by decide), hx2, htb, hop, rfl, fun _ => by rw [rnN_0 (by omega) (by omega)]; exact ⟨hnx, RSI_0 hRS (by omega) (by omega)⟩⟩
        · rw [hD]; rfl
        · rw [hD, ← z0]; exact csS_keep hcs hSok
      · rw [bI_0, decide_eq_false_iff_not, nI_toInt (by omega), show (nI 1).toInt = 1 from by decide] at c47
        have tq : ¬ d < q.2.length := by omega
        refine gw_iconst (v := nI (2)) dX0_perform_50 (by decide) ?_
        refine gw_W.wd (w' := bW cy ad sa ta (σ.1) ln bb nx sd lb lf lo pg bo ++ (xs ++ (tb ++ op))) rfl ?_
        refine gw_iret (?_) (by decide) (by decide) rfl dX0_perform_51
        subst hpost
        have hD : (doM σ.1 (sTb σ) sm (rsD rs) (opJ (sOp σ) p)) = (2, sm) := by unfold doM; rw [if_neg (by omega), if_pos hk]; rw [hq]; simp only; rw [hrsd, if_neg tq]
        exact ⟨cs, xs, tb, op, td, nx, by rw [hD]; rfl, by rw [hD]; exact hcs, fun i hi => rfl, hxs, htb, hop, rfl, fun _ => by rw [rnN_0 (by omega) (by omega)]; exact ⟨hnx, RSI_0 hRS (by omega) (by omega)⟩⟩
    · have hq := tab_none hR c17
      refine gw_iconst (v := nI (1)) dX0_perform_20 (by decide) ?_
      refine gw_W.wd (w' := bW cy ad sa ta (σ.1) ln bb nx sd lb lf lo pg bo ++ (xs ++ (tb ++ op))) rfl ?_
      refine gw_iret (?_) (by decide) (by decide) rfl dX0_perform_21
      subst hpost
      have hD : (doM σ.1 (sTb σ) sm (rsD rs) (opJ (sOp σ) p)) = (1, sm) := by unfold doM; rw [if_neg (by omega), if_pos hk]; rw [hq]
      exact ⟨cs, xs, tb, op, td, nx, by rw [hD]; rfl, by rw [hD]; exact hcs, fun i hi => rfl, hxs, htb, hop, rfl, fun _ => by rw [rnN_0 (by omega) (by omega)]; exact ⟨hnx, RSI_0 hRS (by omega) (by omega)⟩⟩
