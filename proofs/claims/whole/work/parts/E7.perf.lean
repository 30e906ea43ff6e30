/-! perform, by the op's kind -/
def RSI (O : List aO) (td : Nat → Int32) (rs : List (Nat × Nat)) (p : Nat) : Prop := opk O p = (rs.map (·.1)).reverse ∧ ∀ e ∈ rs, td e.1 = nI e.2 ∧ e.2 < 8
def qPr (cy : Nat → ClassId) (ad sa ta oa : Nat → Nat) (σ : aS) (ln bb : Nat) (sd lb lf : Int32) (lo : Option Nat) (pg : Nat → Option Nat) (bo : Nat → Int32) (cs sm : Nat → List sT) (p : Nat) (rs : List (Nat × Nat)) : gw_Q := fun r w' => ∃ (cs' : Nat → List sT) (x' tb' op' : va_W) (td' : Nat → Int32) (nx' : Int32), r = some (.int (doM σ.1 (sTb σ) sm (rsD rs) (opJ (sOp σ) p)).1) ∧ csS (wSm σ (doM σ.1 (sTb σ) sm (rsD rs) (opJ (sOp σ) p)).2) cs' ∧ (∀ i, 9 ≤ i → cs' i = cs i) ∧ xsP cy (ad 4) sa cs' x' ∧ tbP cy ta (sTb σ) tb' ∧ opP oa (sOp σ) lo pg td' op' ∧ w' = bW cy ad sa ta σ.1 ln bb nx' sd lb lf lo pg bo ++ (x' ++ (tb' ++ op')) ∧ ((doM σ.1 (sTb σ) sm (rsD rs) (opJ (sOp σ) p)).1 = 0 → nx' = nI (rnN (sOp σ) p rs (opJ (sOp σ) p)).1 ∧ RSI (sOp σ) td' (rnN (sOp σ) p rs (opJ (sOp σ) p)).2 (rnN (sOp σ) p rs (opJ (sOp σ) p)).1)
theorem rsT_app {L : List (Nat × Nat)} {b : Nat × Nat} : rsT (L ++ [b]) = b := by
  unfold rsT; simp [List.getD_eq_getElem?_getD]
theorem rsD_app {L : List (Nat × Nat)} {b : Nat × Nat} : rsD (L ++ [b]) = b.2 := by
  unfold rsD; rw [if_neg (by simp), rsT_app]
theorem RSI_0 {O : List aO} {td : Nat → Int32} {rs : List (Nat × Nat)} {p : Nat} (h : RSI O td rs p) (h5 : ¬ (opJ O p).1 = 5) (h6 : ¬ (opJ O p).1 = 6) : RSI O td rs (p + 1) := ⟨by rw [opk, if_neg h5, if_neg h6]; exact h.1, h.2⟩
theorem rnN_0 {O : List aO} {rs : List (Nat × Nat)} {p : Nat} {o : aO} (h5 : ¬ o.1 = 5) (h6 : ¬ o.1 = 6) : rnN O p rs o = (p + 1, rs) := by unfold rnN; rw [if_neg h5, if_neg h6]
theorem RSI_nil {O : List aO} {td : Nat → Int32} {rs : List (Nat × Nat)} {p : Nat} (h : RSI O td rs p) (e : opk O p = []) : rsD rs = 0 := by
  have h1 := h.1
  rw [e] at h1
  have : rs = [] := by
    cases rs with
    | nil => rfl
    | cons a l => simp at h1
  rw [this]; rfl
theorem RSI_cons {O : List aO} {td : Nat → Int32} {rs : List (Nat × Nat)} {p r : Nat} {tl : List Nat} (h : RSI O td rs p) (e : opk O p = r :: tl) : ∃ L d, rs = L ++ [(r, d)] ∧ tl = (L.map (·.1)).reverse ∧ td r = nI d ∧ d < 8 := by
  obtain ⟨h1, h2⟩ := h
  rcases List.eq_nil_or_concat rs with hn | ⟨L, b, hb⟩
  · rw [hn, e] at h1; simp at h1
  · rw [List.concat_eq_append] at hb
    subst hb
    rw [e, List.map_append, List.reverse_append] at h1
    have h1 : r :: tl = b.1 :: (L.map (·.1)).reverse := h1
    obtain ⟨e1, e2⟩ := List.cons.inj h1
    have h3 := h2 b (List.mem_append_right _ (List.mem_singleton.mpr rfl))
    refine ⟨L, b.2, ?_, e2, ?_, h3.2⟩
    · rw [e1]
    · rw [e1]; exact h3.1
theorem csS_keep {σ : aS} {sm : Nat → List sT} {cs : Nat → List sT} {S : List sT} (h : csS (wSm σ sm) cs) (hS : sOK σ.1 S) : csS (wSm σ (va_up sm 8 S)) (va_up cs 0 S) := csS_8 (σ := wSm σ sm) h hS
theorem up_9 {cs : Nat → List sT} {k : Nat} {S : List sT} (hk : k < 9) : ∀ i, 9 ≤ i → va_up cs k S i = cs i := fun i hi => va_up_ne _ _ (by omega)
abbrev kX6_perform : gw_K := (yX6_perform, cX6_perform, 2, { frames := 5, cells := 0, slots := 0, locals := 136 }, (some .int))
theorem okB_X6_perform : gw_calB kX6_perform 1 := ⟨wd_765, wd_68, by decide, by decide, by decide +kernel⟩
set_option maxHeartbeats 4000000 in
set_option maxRecDepth 100000 in
theorem c_pf_2 (l : Launch) (cy : Nat → ClassId) (ad sa ta oa : Nat → Nat) (σ : aS) (ln bb : Nat) (nx sd lb lf : Int32) (lo : Option Nat) (pg : Nat → Option Nat) (bo : Nat → Int32) (xs tb op : va_W) (cs sm : Nat → List sT) (td : Nat → Int32) (p : Nat) (rs : List (Nat × Nat)) (hxs : xsP cy (ad 4) sa cs xs) (hcs : csS (wSm σ sm) cs) (htb : tbP cy ta (sTb σ) tb) (hop : opP oa (sOp σ) lo pg td op) (hn4 : 1 ≤ σ.1 ∧ σ.1 ≤ 4) (hp : p < (sOp σ).length) (hRS : RSI (sOp σ) td rs p) (ho : opOK σ.1 (opJ (sOp σ) p)) (hnx : nx = nI (p + 1)) (hoc : ∃ c, opn (sOp σ) = some c) (hk : (opJ (sOp σ) p).1 = 2) : gw_M l kX6_perform cy [.ref (oa p), .ref (ad 0)] (bW cy ad sa ta σ.1 ln bb nx sd lb lf lo pg bo ++ (xs ++ (tb ++ op))) (qPr cy ad sa ta oa σ ln bb sd lb lf lo pg bo cs sm p rs) := by
  have hm := opP_mem hop hp
  rw [opCe, if_pos hk] at hm
  obtain ⟨z0, zS⟩ := csS_0 hcs
  have z0 : cs 0 = sm 8 := z0
  obtain ⟨a1, a2, a3, a4, a5, a6, a7, a8⟩ := opOK_23 ho (by omega)
  obtain ⟨m16, ex⟩ := pu_16 hn4.2 ho (by omega)
  have ef : (opJ (sOp σ) p).2.2.1 = nI (tI (opJ (sOp σ) p).2.2.1) := tI_of a3
  have et : (opJ (sOp σ) p).2.2.2.1 = nI (tI (opJ (sOp σ) p).2.2.2.1) := tI_of a5
  have f4 : tI (opJ (sOp σ) p).2.2.1 < 4 := by unfold tI; omega
  have t4 : tI (opJ (sOp σ) p).2.2.2.1 < 4 := by unfold tI; omega
  have hm2 : (oa p, .inr (4, [.int (nI (p)), va_rf (arOf (sOp σ) oa p), .int ((opJ (sOp σ) p).2.1), .int ((opJ (sOp σ) p).2.2.1), .int (nI (tI (opJ (sOp σ) p).2.2.2.1))])) ∈ op := by rw [← et]; exact hm
  refine gw_M.mk (lv := [some (.ref (oa p)), some (.ref (ad 0))]) (by decide) (Nat.le_of_ble_eq_true rfl) rfl ?_
  generalize hpost : (qPr cy ad sa ta oa σ ln bb sd lb lf lo pg bo cs sm p rs : gw_Q) = post
  refine gw_W.wd (w' := ([(ad 0, .inr (9, [.int (nI (σ.1)), .ref (ad 1), .ref (ad 2), .ref (sa (3 * 0)), .ref (ad 4), .ref (ad 5), .ref (ad 6), .int (nI (ln)), va_rf (lo), .int (nx), .int (sd), .int (lb), .ref (ad 12), .int (nI (bb)), .int (lf)])), (ad 1, .inl (cy 3, 9, .inr (.inr (.inr (.inr (fun i => some (sa (3 * i)))))))), (ad 2, .inl (cy 3, 9, .inr (.inr (.inr (.inr (fun i => some (sa (3 * (9 + i))))))))), (ad 5, .inl (cy 4, 8, .inr (.inr (.inr (.inr (fun i => some (ta (2 * i)))))))), (ad 6, .inl (cy 2, 40, .inr (.inr (.inr (.inr (pg)))))), (ad 12, .inl (cy 0, 16, .inl (bo)))] ++ (xs ++ (tb ++ op)))) rfl ?_
  refine gw_aload_n dX6_perform_0 rfl ?_
  refine gw_aload_n dX6_perform_1 rfl ?_
  refine gw_aload_n dX6_perform_2 rfl ?_
  refine gw_getM (C0 := RX6) (T := TX6) (N := 5) (ref := RX6) (List.mem_append_right _ (List.mem_append_right _ (List.mem_append_right _ hm2))) rfl inX6 3 (by decide) wd_479 (Or.inl rfl) rfl dX6_perform_3 ?_
  refine gw_topi (y := nI (tI (opJ (sOp σ) p).2.2.1)) (ef) ?_
  refine gw_W.wd (w' := bW cy ad sa ta (σ.1) ln bb nx sd lb lf lo pg bo ++ (xs ++ (tb ++ op))) rfl ?_
  refine gw_callD (As := [.ref (ad 0), .int (nI (tI (opJ (sOp σ) p).2.2.1))]) (st := []) (ci := 4) (x := ⟨"SpinBench$Pulse", "turnSpins", "(LSpinBench;I)I"⟩) (owner := "SpinBench$Pulse") (c_tsp_4 l cy ad sa ta σ.1 ln bb nx sd lb lf lo pg bo xs (tb ++ op) cs (oa p) (nI p) (arOf (sOp σ) oa p) (opJ (sOp σ) p).2.1 (opJ (sOp σ) p).2.2.1 (tI (opJ (sOp σ) p).2.2.2.1) (tI (opJ (sOp σ) p).2.2.1) (tI (opJ (sOp σ) p).2.1) 0 (List.mem_append_right _ hm2) hxs hn4 (by rw [z0]; exact zS) ex m16 (f4) t4) okB_X6_turnSpins wd_751 (gw_has.right (gw_has.right (gw_has.right ⟨_, hm2⟩))) rfl wd_1173 wd_1171 (gw_dec.code wd_751 wd_752) ⟨by decide, by decide⟩ rfl wd_766 rfl rfl dX6_perform_6 (by decide) (by decide) (Nat.le_of_ble_eq_true rfl) (fun r6 w6 hp6 => ?_)
  obtain ⟨rfl, x2, hx2, rfl⟩ := hp6
  refine gw_W.norm (st' := [.int (nI (0))]) (k1 := 0) (k2 := 0) rfl rfl rfl ?_
  refine gw_W.wd (w' := ([(ad 0, .inr (9, [.int (nI (σ.1)), .ref (ad 1), .ref (ad 2), .ref (sa (3 * 0)), .ref (ad 4), .ref (ad 5), .ref (ad 6), .int (nI (ln)), va_rf (lo), .int (nx), .int (sd), .int (lb), .ref (ad 12), .int (nI (bb)), .int (lf)])), (ad 1, .inl (cy 3, 9, .inr (.inr (.inr (.inr (fun i => some (sa (3 * i)))))))), (ad 2, .inl (cy 3, 9, .inr (.inr (.inr (.inr (fun i => some (sa (3 * (9 + i))))))))), (ad 5, .inl (cy 4, 8, .inr (.inr (.inr (.inr (fun i => some (ta (2 * i)))))))), (ad 6, .inl (cy 2, 40, .inr (.inr (.inr (.inr (pg)))))), (ad 12, .inl (cy 0, 16, .inl (bo)))] ++ (x2 ++ (tb ++ op)))) rfl ?_
  refine gw_W.wd (w' := bW cy ad sa ta (σ.1) ln bb nx sd lb lf lo pg bo ++ (x2 ++ (tb ++ op))) rfl ?_
  refine gw_iret (?_) (by decide) (by decide) rfl dX6_perform_9
  subst hpost
  have hD : (doM σ.1 (sTb σ) sm (rsD rs) (opJ (sOp σ) p)) = (0, va_up sm 8 (plS σ.1 (opJ (sOp σ) p).2.1 (tI (opJ (sOp σ) p).2.2.1) (tI (opJ (sOp σ) p).2.2.2.1) (sm 8) σ.1)) := by unfold doM; rw [if_pos hk]
  have hSok : sOK σ.1 (plS σ.1 (opJ (sOp σ) p).2.1 (tI (opJ (sOp σ) p).2.2.1) (tI (opJ (sOp σ) p).2.2.2.1) (cs 0) σ.1) := by
    rw [ex]
    exact plS_ok hn4.2 m16 (by rw [z0]; exact zS) _ hn4.2
  refine ⟨va_up cs 0 (plS σ.1 (opJ (sOp σ) p).2.1 (tI (opJ (sOp σ) p).2.2.1) (tI (opJ (sOp σ) p).2.2.2.1) (cs 0) σ.1), x2, tb, op, td, nx, ?_, ?_, up_9 (by decide), hx2, htb, hop, rfl, fun _ => by rw [rnN_0 (by omega) (by omega)]; exact ⟨hnx, RSI_0 hRS (by omega) (by omega)⟩⟩
  · rw [hD]; rfl
  · rw [hD, ← z0]; exact csS_keep hcs hSok
theorem keep_cases {F : Option (List sT)} : (F = none ∧ bI F.isSome = 0) ∨ ∃ S, F = some S ∧ bI F.isSome = nI 1 := by
  cases F with
  | none => exact Or.inl ⟨rfl, rfl⟩
  | some S => exact Or.inr ⟨S, rfl, rfl⟩
abbrev kX1_perform : gw_K := (yX1_perform, cX1_perform, 2, { frames := 4, cells := 0, slots := 0, locals := 112 }, (some .int))
theorem okB_X1_perform : gw_calB kX1_perform 1 := ⟨wd_757, wd_70, by decide, by decide, by decide +kernel⟩
set_option maxHeartbeats 4000000 in
set_option maxRecDepth 100000 in
theorem c_pf_4 (l : Launch) (cy : Nat → ClassId) (ad sa ta oa : Nat → Nat) (σ : aS) (ln bb : Nat) (nx sd lb lf : Int32) (lo : Option Nat) (pg : Nat → Option Nat) (bo : Nat → Int32) (xs tb op : va_W) (cs sm : Nat → List sT) (td : Nat → Int32) (p : Nat) (rs : List (Nat × Nat)) (hxs : xsP cy (ad 4) sa cs xs) (hcs : csS (wSm σ sm) cs) (htb : tbP cy ta (sTb σ) tb) (hop : opP oa (sOp σ) lo pg td op) (hn4 : 1 ≤ σ.1 ∧ σ.1 ≤ 4) (hp : p < (sOp σ).length) (hRS : RSI (sOp σ) td rs p) (ho : opOK σ.1 (opJ (sOp σ) p)) (hnx : nx = nI (p + 1)) (hoc : ∃ c, opn (sOp σ) = some c) (hk : (opJ (sOp σ) p).1 = 4) : gw_M l kX1_perform cy [.ref (oa p), .ref (ad 0)] (bW cy ad sa ta σ.1 ln bb nx sd lb lf lo pg bo ++ (xs ++ (tb ++ op))) (qPr cy ad sa ta oa σ ln bb sd lb lf lo pg bo cs sm p rs) := by
  have hm := opP_mem hop hp
  rw [opCe, if_neg (by omega), if_neg (by omega), if_pos hk] at hm
  obtain ⟨z0, zS⟩ := csS_0 hcs
  have z0 : cs 0 = sm 8 := z0
  obtain ⟨b1, b2, b3, b4, b5⟩ := opOK_4 ho hk
  have eg : (opJ (sOp σ) p).2.1 = nI (tI (opJ (sOp σ) p).2.1) := tI_of b1
  have ex : (opJ (sOp σ) p).2.2.1 = nI (tI (opJ (sOp σ) p).2.2.1) := tI_of b3
  have hg := tI_pow b1 b2
  have x4 : tI (opJ (sOp σ) p).2.2.1 < 4 := by unfold tI; omega
  obtain ⟨jo, jk⟩ := letC_ok (way := (opJ (sOp σ) p).2.2.2.1) hn4.2 hg x4 (S := cs 0) (fun q hq => by rw [z0] at hq; exact ⟨(zS.2.2 q hq).2.2, (zS.2.2 q hq).2.1⟩)
  refine gw_M.mk (lv := [some (.ref (oa p)), some (.ref (ad 0))]) (by decide) (Nat.le_of_ble_eq_true rfl) rfl ?_
  generalize hpost : (qPr cy ad sa ta oa σ ln bb sd lb lf lo pg bo cs sm p rs : gw_Q) = post
  refine gw_W.wd (w' := ([(ad 0, .inr (9, [.int (nI (σ.1)), .ref (ad 1), .ref (ad 2), .ref (sa (3 * 0)), .ref (ad 4), .ref (ad 5), .ref (ad 6), .int (nI (ln)), va_rf (lo), .int (nx), .int (sd), .int (lb), .ref (ad 12), .int (nI (bb)), .int (lf)])), (ad 1, .inl (cy 3, 9, .inr (.inr (.inr (.inr (fun i => some (sa (3 * i)))))))), (ad 2, .inl (cy 3, 9, .inr (.inr (.inr (.inr (fun i => some (sa (3 * (9 + i))))))))), (ad 5, .inl (cy 4, 8, .inr (.inr (.inr (.inr (fun i => some (ta (2 * i)))))))), (ad 6, .inl (cy 2, 40, .inr (.inr (.inr (.inr (pg)))))), (ad 12, .inl (cy 0, 16, .inl (bo)))] ++ (xs ++ (tb ++ op)))) rfl ?_
  refine gw_aload_n dX1_perform_0 rfl ?_
  refine gw_aload_n dX1_perform_1 rfl ?_
  refine gw_getM (C0 := RX1) (T := TX1) (N := 5) (ref := RX1) (List.mem_append_right _ (List.mem_append_right _ (List.mem_append_right _ hm))) rfl inX1 2 (by decide) wd_539 (Or.inl rfl) rfl dX1_perform_2 ?_
  refine gw_topi (y := nI (tI (opJ (sOp σ) p).2.1)) (eg) ?_
  refine gw_aload_n dX1_perform_5 rfl ?_
  refine gw_getM (C0 := RX1) (T := TX1) (N := 5) (ref := RX1) (List.mem_append_right _ (List.mem_append_right _ (List.mem_append_right _ hm))) rfl inX1 3 (by decide) wd_540 (Or.inl rfl) rfl dX1_perform_6 ?_
  refine gw_topi (y := nI (tI (opJ (sOp σ) p).2.2.1)) (ex) ?_
  refine gw_aload_n dX1_perform_9 rfl ?_
  refine gw_getM (C0 := RX1) (T := TX1) (N := 5) (ref := RX1) (List.mem_append_right _ (List.mem_append_right _ (List.mem_append_right _ hm))) rfl inX1 4 (by decide) wd_541 (Or.inl rfl) rfl dX1_perform_10 ?_
  refine gw_W.wd (w' := bW cy ad sa ta (σ.1) ln bb nx sd lb lf lo pg bo ++ (xs ++ (tb ++ op))) rfl ?_
  refine gw_callVN 0 (As := [.int (nI (tI (opJ (sOp σ) p).2.1)), .int (nI (tI (opJ (sOp σ) p).2.2.1)), .int ((opJ (sOp σ) p).2.2.2.1)]) (st := []) (b_turnL l cy ad sa ta σ.1 ln bb nx sd lb lf lo pg bo xs (tb ++ op) cs (tI (opJ (sOp σ) p).2.1) (tI (opJ (sOp σ) p).2.2.1) (opJ (sOp σ) p).2.2.2.1 hxs hn4 (by rw [z0]; exact zS) hg x4 b5) ok_X11_turnByLetter rfl rfl rfl (host := "SpinBench") (by decide +kernel) rfl rfl dX1_perform_13 (by decide) (by decide) (Nat.le_of_ble_eq_true rfl) (fun r13 w13 hp13 => ?_)
  obtain ⟨rfl, x2, hx2, rfl⟩ := hp13
  refine gw_W.norm (st' := [.int (bI (keepS (letC σ.1 (tI (opJ (sOp σ) p).2.1) (nI (tI (opJ (sOp σ) p).2.2.1)) (opJ (sOp σ) p).2.2.2.1 (cs 0))).isSome)]) (k1 := 0) (k2 := 0) rfl rfl rfl ?_
  refine gw_W.wd (w' := ([(ad 0, .inr (9, [.int (nI (σ.1)), .ref (ad 1), .ref (ad 2), .ref (sa (3 * 0)), .ref (ad 4), .ref (ad 5), .ref (ad 6), .int (nI (ln)), va_rf (lo), .int (nx), .int (sd), .int (lb), .ref (ad 12), .int (nI (bb)), .int (lf)])), (ad 1, .inl (cy 3, 9, .inr (.inr (.inr (.inr (fun i => some (sa (3 * i)))))))), (ad 2, .inl (cy 3, 9, .inr (.inr (.inr (.inr (fun i => some (sa (3 * (9 + i))))))))), (ad 5, .inl (cy 4, 8, .inr (.inr (.inr (.inr (fun i => some (ta (2 * i)))))))), (ad 6, .inl (cy 2, 40, .inr (.inr (.inr (.inr (pg)))))), (ad 12, .inl (cy 0, 16, .inl (bo)))] ++ (x2 ++ (tb ++ op)))) rfl ?_
  refine gw_if_eq (tgt := 23) dX1_perform_16 (by decide) (fun c16 => ?_) (fun c16 => ?_)
  · have hF := isS_none c16
    rw [hF] at hx2
    refine gw_ldc dX1_perform_23 wd_759 ?_
    refine gw_W.wd (w' := bW cy ad sa ta (σ.1) ln bb nx sd lb lf lo pg bo ++ (x2 ++ (tb ++ op))) rfl ?_
    refine gw_iret (?_) (by decide) (by decide) rfl dX1_perform_25
    subst hpost
    have hD : (doM σ.1 (sTb σ) sm (rsD rs) (opJ (sOp σ) p)) = doK sm 8 (keepS (letC σ.1 (tI (opJ (sOp σ) p).2.1) (nI (tI (opJ (sOp σ) p).2.2.1)) (opJ (sOp σ) p).2.2.2.1 (cs 0))) := by
      unfold doM; rw [if_neg (by omega), if_neg (by omega), if_pos hk, ← ex, z0]
    rw [hF] at hD
    first
      | exact ⟨cs, x2, tb, op, td, nx, by rw [hD]; rfl, by rw [hD]; exact hcs, fun i hi => rfl, hx2, htb, hop, rfl, fun _ => by rw [rnN_0 (by omega) (by omega)]; exact ⟨hnx, RSI_0 hRS (by omega) (by omega)⟩⟩
      | exact ⟨va_up cs 0 S, x2, tb, op, td, nx, by rw [hD]; rfl, by rw [hD]; exact csS_keep hcs (keepS_ok jo jk hF), up_9 (by decide), hx2, htb, hop, rfl, fun _ => by rw [rnN_0 (by omega) (by omega)]; exact ⟨hnx, RSI_0 hRS (by omega) (by omega)⟩⟩
  · obtain ⟨S, hF⟩ := isS_some c16
    rw [hF] at hx2
    refine gw_iconst (v := nI (0)) dX1_perform_19 (by decide) ?_
    refine gw_goto (tgt := 25) dX1_perform_20 (by decide) ?_
    refine gw_W.wd (w' := bW cy ad sa ta (σ.1) ln bb nx sd lb lf lo pg bo ++ (x2 ++ (tb ++ op))) rfl ?_
    refine gw_iret (?_) (by decide) (by decide) rfl dX1_perform_25
    subst hpost
    have hD : (doM σ.1 (sTb σ) sm (rsD rs) (opJ (sOp σ) p)) = doK sm 8 (keepS (letC σ.1 (tI (opJ (sOp σ) p).2.1) (nI (tI (opJ (sOp σ) p).2.2.1)) (opJ (sOp σ) p).2.2.2.1 (cs 0))) := by
      unfold doM; rw [if_neg (by omega), if_neg (by omega), if_pos hk, ← ex, z0]
    rw [hF] at hD
    first
      | exact ⟨cs, x2, tb, op, td, nx, by rw [hD]; rfl, by rw [hD]; exact hcs, fun i hi => rfl, hx2, htb, hop, rfl, fun _ => by rw [rnN_0 (by omega) (by omega)]; exact ⟨hnx, RSI_0 hRS (by omega) (by omega)⟩⟩
      | exact ⟨va_up cs 0 S, x2, tb, op, td, nx, by rw [hD]; rfl, by rw [hD]; exact csS_keep hcs (keepS_ok jo jk hF), up_9 (by decide), hx2, htb, hop, rfl, fun _ => by rw [rnN_0 (by omega) (by omega)]; exact ⟨hnx, RSI_0 hRS (by omega) (by omega)⟩⟩
abbrev kX8_perform : gw_K := (yX8_perform, cX8_perform, 3, { frames := 4, cells := 0, slots := 0, locals := 107 }, (some .int))
theorem okB_X8_perform : gw_calB kX8_perform 1 := ⟨wd_772, wd_73, by decide, by decide, by decide +kernel⟩
set_option maxHeartbeats 4000000 in
set_option maxRecDepth 100000 in
theorem c_pf_7 (l : Launch) (cy : Nat → ClassId) (ad sa ta oa : Nat → Nat) (σ : aS) (ln bb : Nat) (nx sd lb lf : Int32) (lo : Option Nat) (pg : Nat → Option Nat) (bo : Nat → Int32) (xs tb op : va_W) (cs sm : Nat → List sT) (td : Nat → Int32) (p : Nat) (rs : List (Nat × Nat)) (hxs : xsP cy (ad 4) sa cs xs) (hcs : csS (wSm σ sm) cs) (htb : tbP cy ta (sTb σ) tb) (hop : opP oa (sOp σ) lo pg td op) (hn4 : 1 ≤ σ.1 ∧ σ.1 ≤ 4) (hp : p < (sOp σ).length) (hRS : RSI (sOp σ) td rs p) (ho : opOK σ.1 (opJ (sOp σ) p)) (hnx : nx = nI (p + 1)) (hoc : ∃ c, opn (sOp σ) = some c) (hk : (opJ (sOp σ) p).1 = 7) : gw_M l kX8_perform cy [.ref (oa p), .ref (ad 0)] (bW cy ad sa ta σ.1 ln bb nx sd lb lf lo pg bo ++ (xs ++ (tb ++ op))) (qPr cy ad sa ta oa σ ln bb sd lb lf lo pg bo cs sm p rs) := by
  have hm := opP_mem hop hp
  rw [opCe, if_neg (by omega), if_neg (by omega), if_neg (by omega), if_neg (by omega), if_neg (by omega)] at hm
  obtain ⟨z0, zS⟩ := csS_0 hcs
  have z0 : cs 0 = sm 8 := z0
  obtain ⟨b1, b2, b3, b4⟩ := opOK_7 ho hk
  have hin : inZ (opJ (sOp σ) p).2.1.toInt (-1) 7 = true := inZ_t.mpr (by omega)
  obtain ⟨g1, g2, g3⟩ := csS_at hcs hin
  have em : mPl (opJ (sOp σ) p).2.1 = tI (opJ (sOp σ) p).2.1 := if_neg (by omega)
  have cI : cs (cP (opJ (sOp σ) p).2.1) = sm (tI (opJ (sOp σ) p).2.1) := by rw [← em]; exact g1
  rw [em] at g2
  have g2 : sOK σ.1 (sm (tI (opJ (sOp σ) p).2.1)) := g2
  have g9 : cP (opJ (sOp σ) p).2.1 < 9 := (cP_i hin).2.2
  have lI : (cs (cP (opJ (sOp σ) p).2.1)).length ≤ 300 := by rw [cI]; exact g2.2.1
  have nm : noMin (joinC (cs (cP (opJ (sOp σ) p).2.1)) (cs 0) (opJ (sOp σ) p).2.2.1) := by rw [cI, z0]; exact joinC_min g2 zS (inZ_t.mpr (by omega))
  obtain ⟨jo, jk⟩ := joinC_ok (n := σ.1) (X := cs (cP (opJ (sOp σ) p).2.1)) (Y := cs 0) (v := (opJ (sOp σ) p).2.2.1) (fun q hq => by rw [cI] at hq; exact (g2.2.2 q hq).2.2) (fun q hq => by rw [z0] at hq; exact (zS.2.2 q hq).2.2)
  refine gw_M.mk (lv := [some (.ref (oa p)), some (.ref (ad 0)), none]) (by decide) (Nat.le_of_ble_eq_true rfl) rfl ?_
  generalize hpost : (qPr cy ad sa ta oa σ ln bb sd lb lf lo pg bo cs sm p rs : gw_Q) = post
  refine gw_W.wd (w' := ([(ad 0, .inr (9, [.int (nI (σ.1)), .ref (ad 1), .ref (ad 2), .ref (sa (3 * 0)), .ref (ad 4), .ref (ad 5), .ref (ad 6), .int (nI (ln)), va_rf (lo), .int (nx), .int (sd), .int (lb), .ref (ad 12), .int (nI (bb)), .int (lf)])), (ad 1, .inl (cy 3, 9, .inr (.inr (.inr (.inr (fun i => some (sa (3 * i)))))))), (ad 2, .inl (cy 3, 9, .inr (.inr (.inr (.inr (fun i => some (sa (3 * (9 + i))))))))), (ad 5, .inl (cy 4, 8, .inr (.inr (.inr (.inr (fun i => some (ta (2 * i)))))))), (ad 6, .inl (cy 2, 40, .inr (.inr (.inr (.inr (pg)))))), (ad 12, .inl (cy 0, 16, .inl (bo)))] ++ (xs ++ (tb ++ op)))) rfl ?_
  refine gw_aload_n dX8_perform_0 rfl ?_
  refine gw_aload_n dX8_perform_1 rfl ?_
  refine gw_getM (C0 := RX8) (T := TX8) (N := 4) (ref := RX8) (List.mem_append_right _ (List.mem_append_right _ (List.mem_append_right _ hm))) rfl inX8 2 (by decide) wd_601 (Or.inl rfl) rfl dX8_perform_2 ?_
  refine gw_W.wd (w' := bW cy ad sa ta (σ.1) ln bb nx sd lb lf lo pg bo ++ (xs ++ (tb ++ op))) rfl ?_
  refine gw_callVN 0 (As := [.int ((opJ (sOp σ) p).2.1)]) (st := []) (c_bsumAt l cy ad sa ta (σ.1) ln bb nx sd lb lf lo pg bo (xs ++ (tb ++ op)) ((opJ (sOp σ) p).2.1)) ok_X11_sumAt rfl rfl rfl (host := "SpinBench") (by decide +kernel) rfl rfl dX8_perform_5 (by decide) (by decide) (Nat.le_of_ble_eq_true rfl) (fun r5 w5 hp5 => ?_)
  obtain ⟨rfl, rfl⟩ := hp5
  rw [if_pos hin]
  refine gw_W.norm (st' := [.ref (sa (3 * cP (opJ (sOp σ) p).2.1))]) (k1 := 0) (k2 := 0) rfl rfl rfl ?_
  refine gw_W.wd (w' := ([(ad 0, .inr (9, [.int (nI (σ.1)), .ref (ad 1), .ref (ad 2), .ref (sa (3 * 0)), .ref (ad 4), .ref (ad 5), .ref (ad 6), .int (nI (ln)), va_rf (lo), .int (nx), .int (sd), .int (lb), .ref (ad 12), .int (nI (bb)), .int (lf)])), (ad 1, .inl (cy 3, 9, .inr (.inr (.inr (.inr (fun i => some (sa (3 * i)))))))), (ad 2, .inl (cy 3, 9, .inr (.inr (.inr (.inr (fun i => some (sa (3 * (9 + i))))))))), (ad 5, .inl (cy 4, 8, .inr (.inr (.inr (.inr (fun i => some (ta (2 * i)))))))), (ad 6, .inl (cy 2, 40, .inr (.inr (.inr (.inr (pg)))))), (ad 12, .inl (cy 0, 16, .inl (bo)))] ++ (xs ++ (tb ++ op)))) rfl ?_
  refine gw_astore_n dX8_perform_8 (by decide) rfl ?_
  refine gw_aload_n dX8_perform_9 rfl ?_
  refine gw_ifnull dX8_perform_10 ?_
  refine gw_aload_n dX8_perform_13 rfl ?_
  refine gw_getN (C0 := RX11) (T := TX11) (N := 15) (ref := RX11) 0 rfl rfl inX11 4 (by decide) (host := "SpinBench") (by decide +kernel) (Or.inl rfl) rfl dX8_perform_14 ?_
  refine gw_aload_n dX8_perform_17 rfl ?_
  refine gw_aload_n dX8_perform_18 rfl ?_
  refine gw_getN (C0 := RX11) (T := TX11) (N := 15) (ref := RX11) 0 rfl rfl inX11 3 (by decide) (host := "SpinBench") (by decide +kernel) (Or.inl rfl) rfl dX8_perform_19 ?_
  refine gw_aload_n dX8_perform_22 rfl ?_
  refine gw_getM (C0 := RX8) (T := TX8) (N := 4) (ref := RX8) (List.mem_append_right _ (List.mem_append_right _ (List.mem_append_right _ hm))) rfl inX8 3 (by decide) wd_602 (Or.inl rfl) rfl dX8_perform_23 ?_
  refine gw_callHN (As := [.ref (sa (3 * cP (opJ (sOp σ) p).2.1)), .ref (sa (3 * 0)), .int ((opJ (sOp σ) p).2.2.1)]) (st := []) ((s_joinSums l cy (ad 4) sa cs xs (cP (opJ (sOp σ) p).2.1) 0 (opJ (sOp σ) p).2.2.1 hxs (by omega) (by decide) lI (by rw [z0]; exact zS.2.1) nm).frame (w2 := ([(ad 0, .inr (9, [.int (nI (σ.1)), .ref (ad 1), .ref (ad 2), .ref (sa (3 * 0)), .ref (ad 4), .ref (ad 5), .ref (ad 6), .int (nI (ln)), va_rf (lo), .int (nx), .int (sd), .int (lb), .ref (ad 12), .int (nI (bb)), .int (lf)])), (ad 1, .inl (cy 3, 9, .inr (.inr (.inr (.inr (fun i => some (sa (3 * i)))))))), (ad 2, .inl (cy 3, 9, .inr (.inr (.inr (.inr (fun i => some (sa (3 * (9 + i))))))))), (ad 5, .inl (cy 4, 8, .inr (.inr (.inr (.inr (fun i => some (ta (2 * i)))))))), (ad 6, .inl (cy 2, 40, .inr (.inr (.inr (.inr (pg)))))), (ad 12, .inl (cy 0, 16, .inl (bo)))] ++ (xs ++ (tb ++ op)))) (f := ([(ad 0, .inr (9, [.int (nI (σ.1)), .ref (ad 1), .ref (ad 2), .ref (sa (3 * 0)), .ref (ad 4), .ref (ad 5), .ref (ad 6), .int (nI (ln)), va_rf (lo), .int (nx), .int (sd), .int (lb), .ref (ad 12), .int (nI (bb)), .int (lf)])), (ad 1, .inl (cy 3, 9, .inr (.inr (.inr (.inr (fun i => some (sa (3 * i)))))))), (ad 2, .inl (cy 3, 9, .inr (.inr (.inr (.inr (fun i => some (sa (3 * (9 + i))))))))), (ad 5, .inl (cy 4, 8, .inr (.inr (.inr (.inr (fun i => some (ta (2 * i)))))))), (ad 6, .inl (cy 2, 40, .inr (.inr (.inr (.inr (pg)))))), (ad 12, .inl (cy 0, 16, .inl (bo)))] : va_W) ++ (tb ++ op)) perm_x) ok_X4_joinSums (gw_has.right (gw_has.left (xsP_has hxs))) rfl rfl (host := "SpinBench") (by decide +kernel) rfl rfl dX8_perform_26 (by decide) (by decide) (Nat.le_of_ble_eq_true rfl) (fun r26 w26 hp26 => ?_)
  obtain ⟨x2, ⟨rfl, hx2⟩, rfl⟩ := hp26
  refine gw_W.norm (st' := [.int (bI (keepS (joinC (cs (cP (opJ (sOp σ) p).2.1)) (cs 0) (opJ (sOp σ) p).2.2.1)).isSome)]) (k1 := 0) (k2 := 0) rfl rfl rfl ?_
  refine gw_W.perm (w' := ([(ad 0, .inr (9, [.int (nI (σ.1)), .ref (ad 1), .ref (ad 2), .ref (sa (3 * 0)), .ref (ad 4), .ref (ad 5), .ref (ad 6), .int (nI (ln)), va_rf (lo), .int (nx), .int (sd), .int (lb), .ref (ad 12), .int (nI (bb)), .int (lf)])), (ad 1, .inl (cy 3, 9, .inr (.inr (.inr (.inr (fun i => some (sa (3 * i)))))))), (ad 2, .inl (cy 3, 9, .inr (.inr (.inr (.inr (fun i => some (sa (3 * (9 + i))))))))), (ad 5, .inl (cy 4, 8, .inr (.inr (.inr (.inr (fun i => some (ta (2 * i)))))))), (ad 6, .inl (cy 2, 40, .inr (.inr (.inr (.inr (pg)))))), (ad 12, .inl (cy 0, 16, .inl (bo)))] ++ (x2 ++ (tb ++ op)))) perm_x.symm ?_
  refine gw_if_eq (tgt := 36) dX8_perform_29 (by decide) (fun c29 => ?_) (fun c29 => ?_)
  · have hF := isS_none c29
    rw [hF] at hx2
    refine gw_ldc dX8_perform_36 wd_775 ?_
    refine gw_W.wd (w' := bW cy ad sa ta (σ.1) ln bb nx sd lb lf lo pg bo ++ (x2 ++ (tb ++ op))) rfl ?_
    refine gw_iret (?_) (by decide) (by decide) rfl dX8_perform_38
    subst hpost
    have hD : (doM σ.1 (sTb σ) sm (rsD rs) (opJ (sOp σ) p)) = doK sm (tI (opJ (sOp σ) p).2.1) (keepS (joinC (cs (cP (opJ (sOp σ) p).2.1)) (cs 0) (opJ (sOp σ) p).2.2.1)) := by
      unfold doM; rw [if_neg (by omega), if_neg (by omega), if_neg (by omega), if_pos hk, cI, z0]
    rw [hF] at hD
    first
      | exact ⟨cs, x2, tb, op, td, nx, by rw [hD]; rfl, by rw [hD]; exact hcs, fun i hi => rfl, hx2, htb, hop, rfl, fun _ => by rw [rnN_0 (by omega) (by omega)]; exact ⟨hnx, RSI_0 hRS (by omega) (by omega)⟩⟩
      | exact ⟨va_up cs (cP (opJ (sOp σ) p).2.1) S, x2, tb, op, td, nx, by rw [hD]; rfl, by rw [hD]; have := csS_set hcs hin (keepS_ok jo jk hF); rw [em] at this; exact this, up_9 g9, hx2, htb, hop, rfl, fun _ => by rw [rnN_0 (by omega) (by omega)]; exact ⟨hnx, RSI_0 hRS (by omega) (by omega)⟩⟩
  · obtain ⟨S, hF⟩ := isS_some c29
    rw [hF] at hx2
    refine gw_iconst (v := nI (0)) dX8_perform_32 (by decide) ?_
    refine gw_goto (tgt := 38) dX8_perform_33 (by decide) ?_
    refine gw_W.wd (w' := bW cy ad sa ta (σ.1) ln bb nx sd lb lf lo pg bo ++ (x2 ++ (tb ++ op))) rfl ?_
    refine gw_iret (?_) (by decide) (by decide) rfl dX8_perform_38
    subst hpost
    have hD : (doM σ.1 (sTb σ) sm (rsD rs) (opJ (sOp σ) p)) = doK sm (tI (opJ (sOp σ) p).2.1) (keepS (joinC (cs (cP (opJ (sOp σ) p).2.1)) (cs 0) (opJ (sOp σ) p).2.2.1)) := by
      unfold doM; rw [if_neg (by omega), if_neg (by omega), if_neg (by omega), if_pos hk, cI, z0]
    rw [hF] at hD
    first
      | exact ⟨cs, x2, tb, op, td, nx, by rw [hD]; rfl, by rw [hD]; exact hcs, fun i hi => rfl, hx2, htb, hop, rfl, fun _ => by rw [rnN_0 (by omega) (by omega)]; exact ⟨hnx, RSI_0 hRS (by omega) (by omega)⟩⟩
      | exact ⟨va_up cs (cP (opJ (sOp σ) p).2.1) S, x2, tb, op, td, nx, by rw [hD]; rfl, by rw [hD]; have := csS_set hcs hin (keepS_ok jo jk hF); rw [em] at this; exact this, up_9 g9, hx2, htb, hop, rfl, fun _ => by rw [rnN_0 (by omega) (by omega)]; exact ⟨hnx, RSI_0 hRS (by omega) (by omega)⟩⟩
