/-! the class's sums, against the state -/
theorem xsP_open {cy : Nat → ClassId} {a0 : Nat} {sa : Nat → Nat} {cs : Nat → List sT} {w : va_W} (h : xsP cy a0 sa cs w) {i : Nat} (hi : i < 18) : ∃ (sk : Nat → Int32) (sn : Nat → Int64) (R : va_W), w.Perm (sW3 cy (sa (3 * i)) (sa (3 * i + 1)) (sa (3 * i + 2)) (nI (cs i).length) sk sn ++ R) ∧ (cs i).length ≤ 300 ∧ takeS sk sn 0 (cs i).length = cs i ∧ ∀ (S : List sT) (sk' : Nat → Int32) (sn' : Nat → Int64) (w' : va_W), S.length ≤ 300 → takeS sk' sn' 0 S.length = S → w'.Perm (sW3 cy (sa (3 * i)) (sa (3 * i + 1)) (sa (3 * i + 2)) (nI S.length) sk' sn' ++ R) → xsP cy a0 sa (va_up cs i S) w' := by
  obtain ⟨x, s, h1, h2, h3⟩ := h
  obtain ⟨sk, sn, R, g1, g2, g3, g4⟩ := ssP_open h3 hi
  refine ⟨sk, sn, x ++ R, ?_, g2, g3, fun S sk' sn' w' p1 p2 p3 => ?_⟩
  · have := perm_3a h1 g1; rw [List.append_assoc] at this; exact this
  · refine ⟨x, _, p3.trans ?_, h2, g4 S sk' sn' _ p1 p2 (List.Perm.refl _)⟩
    rw [← List.append_assoc, ← List.append_assoc]
    exact List.perm_append_comm.append_right R
theorem xsP_mem {cy : Nat → ClassId} {a0 : Nat} {sa : Nat → Nat} {cs : Nat → List sT} {w : va_W} (h : xsP cy a0 sa cs w) {i : Nat} (hi : i < 18) : ∃ (sk : Nat → Int32) (sn : Nat → Int64), (sa (3 * i), .inr (7, [.ref (sa (3 * i + 1)), .ref (sa (3 * i + 2)), .int (nI (cs i).length)])) ∈ w ∧ (sa (3 * i + 1), .inl (cy 0, 300, .inl sk)) ∈ w ∧ (sa (3 * i + 2), .inl (cy 1, 300, .inr (.inl sn))) ∈ w ∧ (cs i).length ≤ 300 ∧ takeS sk sn 0 (cs i).length = cs i := by
  obtain ⟨sk, sn, R, g1, g2, g3, -⟩ := xsP_open h hi
  refine ⟨sk, sn, ?_, ?_, ?_, g2, g3⟩
  · exact g1.mem_iff.mpr (List.mem_append_left _ (List.mem_cons_self ..))
  · exact g1.mem_iff.mpr (List.mem_append_left _ (List.mem_cons_of_mem _ (List.mem_cons_self ..)))
  · exact g1.mem_iff.mpr (List.mem_append_left _ (List.mem_cons_of_mem _ (List.mem_cons_of_mem _ (List.mem_cons_self ..))))
theorem cP_i {s : Int32} (h : inZ s.toInt (-1) 7 = true) : cP s = (if mPl s = 8 then 0 else mPl s + 1) ∧ mPl s < 9 ∧ cP s < 9 := by
  have h1 := mPl_lt h
  rw [inZ_t] at h
  by_cases hs : s.toInt < 0
  · have e : mPl s = 8 := if_pos hs
    rw [e, if_pos rfl]; unfold cP; omega
  · have e : mPl s = s.toInt.toNat := if_neg hs
    rw [e] at h1 ⊢
    rw [if_neg (by omega)]; unfold cP; omega
theorem csS_at {σ : aS} {cs : Nat → List sT} (h : csS σ cs) {s : Int32} (hs : inZ s.toInt (-1) 7 = true) : cs (cP s) = sSm σ (mPl s) ∧ sOK σ.1 (sSm σ (mPl s)) ∧ cP s < 18 := by
  obtain ⟨e1, e2, e3⟩ := cP_i hs
  obtain ⟨g1, g2⟩ := h (mPl s) e2
  exact ⟨by rw [e1]; exact g1, g2, by omega⟩
theorem csS_set {σ : aS} {cs : Nat → List sT} (h : csS σ cs) {s : Int32} (hs : inZ s.toInt (-1) 7 = true) {S : List sT} (hS : sOK σ.1 S) : csS (setSm σ (mPl s) S) (va_up cs (cP s) S) := by
  obtain ⟨e1, e2, e3⟩ := cP_i hs
  intro i hi
  show va_up cs (cP s) S (if i = 8 then 0 else i + 1) = va_up σ.2.2.1 (mPl s) S i ∧ sOK σ.1 (va_up σ.2.2.1 (mPl s) S i)
  by_cases e : i = mPl s
  · subst e; rw [va_up_self, ← e1, va_up_self]; exact ⟨rfl, hS⟩
  · rw [va_up_ne _ _ e, va_up_ne _ _ (by rw [e1]; split <;> split <;> omega)]; exact h i hi
theorem csS_kp {σ : aS} {cs : Nat → List sT} (h : csS σ cs) {s : Int32} (hs : inZ s.toInt (-1) 7 = true) {F : Option (List sT)} (hS : ∀ S, F = some S → sOK σ.1 S) : csS (kpS σ (mPl s) F) (kpc cs (cP s) F) := by
  cases F with
  | none => exact h
  | some S => exact csS_set h hs (hS S rfl)
theorem perm_x {α : Type} {B xs T : List α} : (B ++ (xs ++ T)).Perm (xs ++ (B ++ T)) := by
  rw [← List.append_assoc, ← List.append_assoc]
  exact List.perm_append_comm.append_right T
theorem kpS_ofKeep (σ : aS) (t : Nat) (F : Option (List sT)) : (ofKeep σ t F).2 = kpS σ t F := by cases F <;> rfl
abbrev kX11_terms : gw_K := (yX11_terms, cX11_terms, 3, { frames := 2, cells := 0, slots := 0, locals := 43 }, (some .int))
theorem ok_X11_terms : gw_calV kX11_terms 1 := ⟨⟨wd_400, wd_57, by decide, by decide, by decide +kernel⟩, wd_398, wd_399⟩
set_option maxHeartbeats 4000000 in
set_option maxRecDepth 100000 in
theorem t_cterms (l : Launch) (cy : Nat → ClassId) (b : Nat) (σ : aS) (w : va_W) (hI : cInv cy b σ w) (s : Int32) : gw_M l kX11_terms cy [.ref (b), .int (s)] (w) (cPost cy b (spTerms σ s)) := by
  obtain ⟨ad, sa, ta, oa, nx, lo, pg, bo, cs, xs, tb, op, td, rfl, hw, hxs, hcs, htb, hop, hN, hbo⟩ := hI
  have hn4 : 1 ≤ σ.1 ∧ σ.1 ≤ 4 := ⟨hN.1, hN.2.1⟩
  refine gw_M.pm hw ?_
  refine gw_M.mk (lv := [some (.ref (ad 0)), some (.int (s)), none]) (by decide) (Nat.le_of_ble_eq_true rfl) rfl ?_
  generalize hpost : (cPost cy (ad 0) (spTerms σ s) : gw_Q) = post
  refine gw_W.wd (w' := ([(ad 0, .inr (9, [.int (nI (σ.1)), .ref (ad 1), .ref (ad 2), .ref (sa (3 * 0)), .ref (ad 4), .ref (ad 5), .ref (ad 6), .int (nI ((sOp σ).length)), va_rf (lo), .int (nx), .int (σ.2.2.2.2.2.2.1), .int (σ.2.2.2.2.2.2.2), .ref (ad 12), .int (nI ((sTr σ).length)), .int (σ.2.2.2.2.1)])), (ad 1, .inl (cy 3, 9, .inr (.inr (.inr (.inr (fun i => some (sa (3 * i)))))))), (ad 2, .inl (cy 3, 9, .inr (.inr (.inr (.inr (fun i => some (sa (3 * (9 + i))))))))), (ad 5, .inl (cy 4, 8, .inr (.inr (.inr (.inr (fun i => some (ta (2 * i)))))))), (ad 6, .inl (cy 2, 40, .inr (.inr (.inr (.inr (pg)))))), (ad 12, .inl (cy 0, 16, .inl (bo)))] ++ (xs ++ (tb ++ op)))) rfl ?_
  refine gw_aload_n dX11_terms_0 rfl ?_
  refine gw_iload_n dX11_terms_1 rfl ?_
  refine gw_W.wd (w' := bW cy ad sa ta (σ.1) ((sOp σ).length) ((sTr σ).length) nx (σ.2.2.2.2.2.2.1) (σ.2.2.2.2.2.2.2) (σ.2.2.2.2.1) lo pg bo ++ (xs ++ (tb ++ op))) rfl ?_
  refine gw_callV 0 (As := [.int (s)]) (st := []) (c_bsumAt l cy ad sa ta (σ.1) ((sOp σ).length) ((sTr σ).length) nx (σ.2.2.2.2.2.2.1) (σ.2.2.2.2.2.2.2) (σ.2.2.2.2.1) lo pg bo (xs ++ (tb ++ op)) (s)) ok_X11_sumAt rfl rfl rfl wd_277 rfl rfl dX11_terms_2 (by decide) (by decide) (Nat.le_of_ble_eq_true rfl) (fun r2 w2 hp2 => ?_)
  obtain ⟨rfl, rfl⟩ := hp2
  by_cases h2 : inZ (s).toInt (-1) 7 = true
  · rw [if_pos h2]
    refine gw_W.norm (st' := [.ref (sa (3 * cP (s)))]) (k1 := 0) (k2 := 0) rfl rfl rfl ?_
    refine gw_W.wd (w' := ([(ad 0, .inr (9, [.int (nI (σ.1)), .ref (ad 1), .ref (ad 2), .ref (sa (3 * 0)), .ref (ad 4), .ref (ad 5), .ref (ad 6), .int (nI ((sOp σ).length)), va_rf (lo), .int (nx), .int (σ.2.2.2.2.2.2.1), .int (σ.2.2.2.2.2.2.2), .ref (ad 12), .int (nI ((sTr σ).length)), .int (σ.2.2.2.2.1)])), (ad 1, .inl (cy 3, 9, .inr (.inr (.inr (.inr (fun i => some (sa (3 * i)))))))), (ad 2, .inl (cy 3, 9, .inr (.inr (.inr (.inr (fun i => some (sa (3 * (9 + i))))))))), (ad 5, .inl (cy 4, 8, .inr (.inr (.inr (.inr (fun i => some (ta (2 * i)))))))), (ad 6, .inl (cy 2, 40, .inr (.inr (.inr (.inr (pg)))))), (ad 12, .inl (cy 0, 16, .inl (bo)))] ++ (xs ++ (tb ++ op)))) rfl ?_
    refine gw_astore_n dX11_terms_5 (by decide) rfl ?_
    obtain ⟨ka, na, u1, u2, u3, u4, u5⟩ := xsP_mem hxs (i := cP (s)) (by have := (cP_i h2).2.2; omega)
    refine gw_aload_n dX11_terms_6 rfl ?_
    refine gw_ifnonnull (tgt := 15) dX11_terms_7 (by decide) ?_
    refine gw_aload_n dX11_terms_15 rfl ?_
    refine gw_getMN (C0 := RX9) (T := TX9) (N := 3) (ref := RX9) (List.mem_append_right _ (List.mem_append_left _ u1)) rfl inX9 2 (by decide) (host := "SpinBench") (by decide +kernel) (Or.inl rfl) rfl dX11_terms_16 ?_
    refine gw_W.wd (w' := bW cy ad sa ta (σ.1) ((sOp σ).length) ((sTr σ).length) nx (σ.2.2.2.2.2.2.1) (σ.2.2.2.2.2.2.2) (σ.2.2.2.2.1) lo pg bo ++ (xs ++ (tb ++ op))) rfl ?_
    refine gw_iret (?_) (by decide) (by decide) rfl dX11_terms_19
    subst hpost
    unfold spTerms
    first
      | (rw [if_neg h2]; exact ⟨rfl, ad, sa, ta, oa, nx, lo, pg, bo, cs, xs, tb, op, td, rfl, List.Perm.refl _, hxs, hcs, htb, hop, hN, hbo⟩)
      | (rw [if_pos h2, ← (csS_at hcs h2).1]; exact ⟨rfl, ad, sa, ta, oa, nx, lo, pg, bo, cs, xs, tb, op, td, rfl, List.Perm.refl _, hxs, hcs, htb, hop, hN, hbo⟩)
  · rw [if_neg h2]
    refine gw_W.norm (st' := [.null]) (k1 := 0) (k2 := 0) rfl rfl rfl ?_
    refine gw_W.wd (w' := ([(ad 0, .inr (9, [.int (nI (σ.1)), .ref (ad 1), .ref (ad 2), .ref (sa (3 * 0)), .ref (ad 4), .ref (ad 5), .ref (ad 6), .int (nI ((sOp σ).length)), va_rf (lo), .int (nx), .int (σ.2.2.2.2.2.2.1), .int (σ.2.2.2.2.2.2.2), .ref (ad 12), .int (nI ((sTr σ).length)), .int (σ.2.2.2.2.1)])), (ad 1, .inl (cy 3, 9, .inr (.inr (.inr (.inr (fun i => some (sa (3 * i)))))))), (ad 2, .inl (cy 3, 9, .inr (.inr (.inr (.inr (fun i => some (sa (3 * (9 + i))))))))), (ad 5, .inl (cy 4, 8, .inr (.inr (.inr (.inr (fun i => some (ta (2 * i)))))))), (ad 6, .inl (cy 2, 40, .inr (.inr (.inr (.inr (pg)))))), (ad 12, .inl (cy 0, 16, .inl (bo)))] ++ (xs ++ (tb ++ op)))) rfl ?_
    refine gw_astore_nN dX11_terms_5 (by decide) rfl ?_
    refine gw_aload_nN dX11_terms_6 rfl ?_
    refine gw_ifnonnullN dX11_terms_7 ?_
    refine gw_ldc dX11_terms_10 wd_233 ?_
    refine gw_goto (tgt := 19) dX11_terms_12 (by decide) ?_
    refine gw_W.wd (w' := bW cy ad sa ta (σ.1) ((sOp σ).length) ((sTr σ).length) nx (σ.2.2.2.2.2.2.1) (σ.2.2.2.2.2.2.2) (σ.2.2.2.2.1) lo pg bo ++ (xs ++ (tb ++ op))) rfl ?_
    refine gw_iret (?_) (by decide) (by decide) rfl dX11_terms_19
    subst hpost
    unfold spTerms
    first
      | (rw [if_neg h2]; exact ⟨rfl, ad, sa, ta, oa, nx, lo, pg, bo, cs, xs, tb, op, td, rfl, List.Perm.refl _, hxs, hcs, htb, hop, hN, hbo⟩)
      | (rw [if_pos h2, ← (csS_at hcs h2).1]; exact ⟨rfl, ad, sa, ta, oa, nx, lo, pg, bo, cs, xs, tb, op, td, rfl, List.Perm.refl _, hxs, hcs, htb, hop, hN, hbo⟩)
abbrev kX11_clear : gw_K := (yX11_clear, cX11_clear, 4, { frames := 2, cells := 0, slots := 0, locals := 43 }, (some .int))
theorem ok_X11_clear : gw_calV kX11_clear 1 := ⟨⟨wd_276, wd_57, by decide, by decide, by decide +kernel⟩, wd_274, wd_275⟩
set_option maxHeartbeats 4000000 in
set_option maxRecDepth 100000 in
theorem t_cclear (l : Launch) (cy : Nat → ClassId) (b : Nat) (σ : aS) (w : va_W) (hI : cInv cy b σ w) (s : Int32) : gw_M l kX11_clear cy [.ref (b), .int (s)] (w) (cPost cy b (spClear σ s)) := by
  obtain ⟨ad, sa, ta, oa, nx, lo, pg, bo, cs, xs, tb, op, td, rfl, hw, hxs, hcs, htb, hop, hN, hbo⟩ := hI
  have hn4 : 1 ≤ σ.1 ∧ σ.1 ≤ 4 := ⟨hN.1, hN.2.1⟩
  refine gw_M.pm hw ?_
  refine gw_M.mk (lv := [some (.ref (ad 0)), some (.int (s)), none, none]) (by decide) (Nat.le_of_ble_eq_true rfl) rfl ?_
  generalize hpost : (cPost cy (ad 0) (spClear σ s) : gw_Q) = post
  refine gw_W.wd (w' := ([(ad 0, .inr (9, [.int (nI (σ.1)), .ref (ad 1), .ref (ad 2), .ref (sa (3 * 0)), .ref (ad 4), .ref (ad 5), .ref (ad 6), .int (nI ((sOp σ).length)), va_rf (lo), .int (nx), .int (σ.2.2.2.2.2.2.1), .int (σ.2.2.2.2.2.2.2), .ref (ad 12), .int (nI ((sTr σ).length)), .int (σ.2.2.2.2.1)])), (ad 1, .inl (cy 3, 9, .inr (.inr (.inr (.inr (fun i => some (sa (3 * i)))))))), (ad 2, .inl (cy 3, 9, .inr (.inr (.inr (.inr (fun i => some (sa (3 * (9 + i))))))))), (ad 5, .inl (cy 4, 8, .inr (.inr (.inr (.inr (fun i => some (ta (2 * i)))))))), (ad 6, .inl (cy 2, 40, .inr (.inr (.inr (.inr (pg)))))), (ad 12, .inl (cy 0, 16, .inl (bo)))] ++ (xs ++ (tb ++ op)))) rfl ?_
  refine gw_aload_n dX11_clear_0 rfl ?_
  refine gw_iload_n dX11_clear_1 rfl ?_
  refine gw_W.wd (w' := bW cy ad sa ta (σ.1) ((sOp σ).length) ((sTr σ).length) nx (σ.2.2.2.2.2.2.1) (σ.2.2.2.2.2.2.2) (σ.2.2.2.2.1) lo pg bo ++ (xs ++ (tb ++ op))) rfl ?_
  refine gw_callV 0 (As := [.int (s)]) (st := []) (c_bsumAt l cy ad sa ta (σ.1) ((sOp σ).length) ((sTr σ).length) nx (σ.2.2.2.2.2.2.1) (σ.2.2.2.2.2.2.2) (σ.2.2.2.2.1) lo pg bo (xs ++ (tb ++ op)) (s)) ok_X11_sumAt rfl rfl rfl wd_277 rfl rfl dX11_clear_2 (by decide) (by decide) (Nat.le_of_ble_eq_true rfl) (fun r2 w2 hp2 => ?_)
  obtain ⟨rfl, rfl⟩ := hp2
  by_cases h2 : inZ (s).toInt (-1) 7 = true
  · rw [if_pos h2]
    refine gw_W.norm (st' := [.ref (sa (3 * cP (s)))]) (k1 := 0) (k2 := 0) rfl rfl rfl ?_
    refine gw_W.wd (w' := ([(ad 0, .inr (9, [.int (nI (σ.1)), .ref (ad 1), .ref (ad 2), .ref (sa (3 * 0)), .ref (ad 4), .ref (ad 5), .ref (ad 6), .int (nI ((sOp σ).length)), va_rf (lo), .int (nx), .int (σ.2.2.2.2.2.2.1), .int (σ.2.2.2.2.2.2.2), .ref (ad 12), .int (nI ((sTr σ).length)), .int (σ.2.2.2.2.1)])), (ad 1, .inl (cy 3, 9, .inr (.inr (.inr (.inr (fun i => some (sa (3 * i)))))))), (ad 2, .inl (cy 3, 9, .inr (.inr (.inr (.inr (fun i => some (sa (3 * (9 + i))))))))), (ad 5, .inl (cy 4, 8, .inr (.inr (.inr (.inr (fun i => some (ta (2 * i)))))))), (ad 6, .inl (cy 2, 40, .inr (.inr (.inr (.inr (pg)))))), (ad 12, .inl (cy 0, 16, .inl (bo)))] ++ (xs ++ (tb ++ op)))) rfl ?_
    refine gw_astore_n dX11_clear_5 (by decide) rfl ?_
    obtain ⟨sk, sn, R, o1, o2, o3, o4⟩ := xsP_open hxs (i := cP (s)) (by have := (cP_i h2).2.2; omega)
    refine gw_W.perm (w' := ([(ad 0, .inr (9, [.int (nI (σ.1)), .ref (ad 1), .ref (ad 2), .ref (sa (3 * 0)), .ref (ad 4), .ref (ad 5), .ref (ad 6), .int (nI ((sOp σ).length)), va_rf (lo), .int (nx), .int (σ.2.2.2.2.2.2.1), .int (σ.2.2.2.2.2.2.2), .ref (ad 12), .int (nI ((sTr σ).length)), .int (σ.2.2.2.2.1)])), (ad 1, .inl (cy 3, 9, .inr (.inr (.inr (.inr (fun i => some (sa (3 * i)))))))), (ad 2, .inl (cy 3, 9, .inr (.inr (.inr (.inr (fun i => some (sa (3 * (9 + i))))))))), (ad 5, .inl (cy 4, 8, .inr (.inr (.inr (.inr (fun i => some (ta (2 * i)))))))), (ad 6, .inl (cy 2, 40, .inr (.inr (.inr (.inr (pg)))))), (ad 12, .inl (cy 0, 16, .inl (bo))), (sa (3 * cP (s)), .inr (7, [.ref (sa (3 * cP (s) + 1)), .ref (sa (3 * cP (s) + 2)), .int (nI ((cs (cP (s))).length))])), (sa (3 * cP (s) + 1), .inl (cy 0, 300, .inl (sk))), (sa (3 * cP (s) + 2), .inl (cy 1, 300, .inr (.inl (sn))))] ++ (R ++ (tb ++ op)))) (perm_xs (B := ([(ad 0, .inr (9, [.int (nI (σ.1)), .ref (ad 1), .ref (ad 2), .ref (sa (3 * 0)), .ref (ad 4), .ref (ad 5), .ref (ad 6), .int (nI ((sOp σ).length)), va_rf (lo), .int (nx), .int (σ.2.2.2.2.2.2.1), .int (σ.2.2.2.2.2.2.2), .ref (ad 12), .int (nI ((sTr σ).length)), .int (σ.2.2.2.2.1)])), (ad 1, .inl (cy 3, 9, .inr (.inr (.inr (.inr (fun i => some (sa (3 * i)))))))), (ad 2, .inl (cy 3, 9, .inr (.inr (.inr (.inr (fun i => some (sa (3 * (9 + i))))))))), (ad 5, .inl (cy 4, 8, .inr (.inr (.inr (.inr (fun i => some (ta (2 * i)))))))), (ad 6, .inl (cy 2, 40, .inr (.inr (.inr (.inr (pg)))))), (ad 12, .inl (cy 0, 16, .inl (bo)))] : va_W)) o1) ?_
    refine gw_aload_n dX11_clear_6 rfl ?_
    refine gw_ifnonnull (tgt := 13) dX11_clear_7 (by decide) ?_
    refine gw_aload_n dX11_clear_13 rfl ?_
    refine gw_getN (C0 := RX9) (T := TX9) (N := 3) (ref := RX9) 6 rfl rfl inX9 2 (by decide) (host := "SpinBench") (by decide +kernel) (Or.inl rfl) rfl dX11_clear_14 ?_
    refine gw_istore_n dX11_clear_17 (by decide) rfl ?_
    refine gw_aload_n dX11_clear_18 rfl ?_
    refine gw_iconst (v := nI (0)) dX11_clear_19 (by decide) ?_
    refine gw_putN (C0 := RX9) (T := TX9) (N := 3) (ref := RX9) (ty := tyX9 2) 6 rfl rfl inX9 2 (by decide) tyX9 tyX9_ok nmX9 (host := "SpinBench") (by decide +kernel) (Or.inl rfl) rfl (tyX9_ok 2 (by decide)) (rfl) rfl (Nat.le_of_ble_eq_true rfl) dX11_clear_20 ?_
    refine gw_W.wd (w' := ([(ad 0, .inr (9, [.int (nI (σ.1)), .ref (ad 1), .ref (ad 2), .ref (sa (3 * 0)), .ref (ad 4), .ref (ad 5), .ref (ad 6), .int (nI ((sOp σ).length)), va_rf (lo), .int (nx), .int (σ.2.2.2.2.2.2.1), .int (σ.2.2.2.2.2.2.2), .ref (ad 12), .int (nI ((sTr σ).length)), .int (σ.2.2.2.2.1)])), (ad 1, .inl (cy 3, 9, .inr (.inr (.inr (.inr (fun i => some (sa (3 * i)))))))), (ad 2, .inl (cy 3, 9, .inr (.inr (.inr (.inr (fun i => some (sa (3 * (9 + i))))))))), (ad 5, .inl (cy 4, 8, .inr (.inr (.inr (.inr (fun i => some (ta (2 * i)))))))), (ad 6, .inl (cy 2, 40, .inr (.inr (.inr (.inr (pg)))))), (ad 12, .inl (cy 0, 16, .inl (bo))), (sa (3 * cP (s)), .inr (7, [.ref (sa (3 * cP (s) + 1)), .ref (sa (3 * cP (s) + 2)), .int (nI (0))])), (sa (3 * cP (s) + 1), .inl (cy 0, 300, .inl (sk))), (sa (3 * cP (s) + 2), .inl (cy 1, 300, .inr (.inl (sn))))] ++ (R ++ (tb ++ op)))) rfl ?_
    refine gw_iload_n dX11_clear_23 rfl ?_
    refine gw_W.wd (w' := bW cy ad sa ta (σ.1) ((sOp σ).length) ((sTr σ).length) nx (σ.2.2.2.2.2.2.1) (σ.2.2.2.2.2.2.2) (σ.2.2.2.2.1) lo pg bo ++ (sW3 cy (sa (3 * cP (s))) (sa (3 * cP (s) + 1)) (sa (3 * cP (s) + 2)) (nI (0)) sk sn ++ (R ++ (tb ++ op)))) rfl ?_
    refine gw_iret (?_) (by decide) (by decide) rfl dX11_clear_24
    subst hpost
    unfold spClear
    rw [if_pos h2, ← (csS_at hcs h2).1]
    exact ⟨rfl, ad, sa, ta, oa, nx, lo, pg, bo, va_up cs (cP s) [], (sW3 cy (sa (3 * cP (s))) (sa (3 * cP (s) + 1)) (sa (3 * cP (s) + 2)) (nI 0) sk sn ++ R), tb, op, td, rfl, List.Perm.append_left _ (by rw [← List.append_assoc]), o4 [] sk sn _ (Nat.zero_le _) rfl (List.Perm.refl _), csS_set hcs h2 (sOK_nil _), htb, hop, hN, hbo⟩
  · rw [if_neg h2]
    refine gw_W.norm (st' := [.null]) (k1 := 0) (k2 := 0) rfl rfl rfl ?_
    refine gw_W.wd (w' := ([(ad 0, .inr (9, [.int (nI (σ.1)), .ref (ad 1), .ref (ad 2), .ref (sa (3 * 0)), .ref (ad 4), .ref (ad 5), .ref (ad 6), .int (nI ((sOp σ).length)), va_rf (lo), .int (nx), .int (σ.2.2.2.2.2.2.1), .int (σ.2.2.2.2.2.2.2), .ref (ad 12), .int (nI ((sTr σ).length)), .int (σ.2.2.2.2.1)])), (ad 1, .inl (cy 3, 9, .inr (.inr (.inr (.inr (fun i => some (sa (3 * i)))))))), (ad 2, .inl (cy 3, 9, .inr (.inr (.inr (.inr (fun i => some (sa (3 * (9 + i))))))))), (ad 5, .inl (cy 4, 8, .inr (.inr (.inr (.inr (fun i => some (ta (2 * i)))))))), (ad 6, .inl (cy 2, 40, .inr (.inr (.inr (.inr (pg)))))), (ad 12, .inl (cy 0, 16, .inl (bo)))] ++ (xs ++ (tb ++ op)))) rfl ?_
    refine gw_astore_nN dX11_clear_5 (by decide) rfl ?_
    refine gw_aload_nN dX11_clear_6 rfl ?_
    refine gw_ifnonnullN dX11_clear_7 ?_
    refine gw_ldc dX11_clear_10 wd_233 ?_
    refine gw_W.wd (w' := bW cy ad sa ta (σ.1) ((sOp σ).length) ((sTr σ).length) nx (σ.2.2.2.2.2.2.1) (σ.2.2.2.2.2.2.2) (σ.2.2.2.2.1) lo pg bo ++ (xs ++ (tb ++ op))) rfl ?_
    refine gw_iret (?_) (by decide) (by decide) rfl dX11_clear_12
    subst hpost
    unfold spClear
    rw [if_neg h2]
    exact ⟨rfl, ad, sa, ta, oa, nx, lo, pg, bo, cs, xs, tb, op, td, rfl, List.Perm.refl _, hxs, hcs, htb, hop, hN, hbo⟩
theorem cTm_t {σ : aS} {s t : Int32} (h : inZ s.toInt (-1) 7 = true) (ht : inZ t.toInt 0 (((sSm σ (mPl s)).length : Int) - 1) = true) : isTm σ s t = true := by unfold isTm; rw [h, ht]; rfl
theorem cTm_f1 {σ : aS} {s t : Int32} (h : ¬ inZ s.toInt (-1) 7 = true) : ¬ isTm σ s t = true := by unfold isTm; intro e; exact h (Bool.and_eq_true_iff.mp e).1
theorem cTm_f2 {σ : aS} {s t : Int32} (ht : inZ t.toInt 0 (((sSm σ (mPl s)).length : Int) - 1) = false) : ¬ isTm σ s t = true := by unfold isTm; intro e; exact absurd (Bool.and_eq_true_iff.mp e).2 (by rw [ht]; decide)
theorem get_S {ks : Nat → Int32} {ns : Nat → Int64} {S : List sT} (h : takeS ks ns 0 S.length = S) {j : Nat} (hj : j < S.length) : S.getD j (0, 0) = (ks j, ns j) := by
  rw [List.getD_eq_getElem?_getD]
  have := takeS_get (ks := ks) (ns := ns) (off := 0) hj
  rw [h, Nat.zero_add] at this; rw [this]; rfl
abbrev kX11_number : gw_K := (yX11_number, cX11_number, 4, { frames := 2, cells := 0, slots := 0, locals := 43 }, (some .long))
theorem ok_X11_number : gw_calV kX11_number 2 := ⟨⟨wd_404, wd_57, by decide, by decide, by decide +kernel⟩, wd_402, wd_403⟩
set_option maxHeartbeats 4000000 in
set_option maxRecDepth 100000 in
theorem t_cnumber (l : Launch) (cy : Nat → ClassId) (b : Nat) (σ : aS) (w : va_W) (hI : cInv cy b σ w) (s t : Int32) : gw_M l kX11_number cy [.ref (b), .int (s), .int (t)] (w) (cPostL cy b (spNumber σ s t)) := by
  obtain ⟨ad, sa, ta, oa, nx, lo, pg, bo, cs, xs, tb, op, td, rfl, hw, hxs, hcs, htb, hop, hN, hbo⟩ := hI
  have hn4 : 1 ≤ σ.1 ∧ σ.1 ≤ 4 := ⟨hN.1, hN.2.1⟩
  refine gw_M.pm hw ?_
  refine gw_M.mk (lv := [some (.ref (ad 0)), some (.int (s)), some (.int (t)), none]) (by decide) (Nat.le_of_ble_eq_true rfl) rfl ?_
  generalize hpost : (cPostL cy (ad 0) (spNumber σ s t) : gw_Q) = post
  refine gw_W.wd (w' := ([(ad 0, .inr (9, [.int (nI (σ.1)), .ref (ad 1), .ref (ad 2), .ref (sa (3 * 0)), .ref (ad 4), .ref (ad 5), .ref (ad 6), .int (nI ((sOp σ).length)), va_rf (lo), .int (nx), .int (σ.2.2.2.2.2.2.1), .int (σ.2.2.2.2.2.2.2), .ref (ad 12), .int (nI ((sTr σ).length)), .int (σ.2.2.2.2.1)])), (ad 1, .inl (cy 3, 9, .inr (.inr (.inr (.inr (fun i => some (sa (3 * i)))))))), (ad 2, .inl (cy 3, 9, .inr (.inr (.inr (.inr (fun i => some (sa (3 * (9 + i))))))))), (ad 5, .inl (cy 4, 8, .inr (.inr (.inr (.inr (fun i => some (ta (2 * i)))))))), (ad 6, .inl (cy 2, 40, .inr (.inr (.inr (.inr (pg)))))), (ad 12, .inl (cy 0, 16, .inl (bo)))] ++ (xs ++ (tb ++ op)))) rfl ?_
  refine gw_aload_n dX11_number_0 rfl ?_
  refine gw_iload_n dX11_number_1 rfl ?_
  refine gw_W.wd (w' := bW cy ad sa ta (σ.1) ((sOp σ).length) ((sTr σ).length) nx (σ.2.2.2.2.2.2.1) (σ.2.2.2.2.2.2.2) (σ.2.2.2.2.1) lo pg bo ++ (xs ++ (tb ++ op))) rfl ?_
  refine gw_callV 0 (As := [.int (s)]) (st := []) (c_bsumAt l cy ad sa ta (σ.1) ((sOp σ).length) ((sTr σ).length) nx (σ.2.2.2.2.2.2.1) (σ.2.2.2.2.2.2.2) (σ.2.2.2.2.1) lo pg bo (xs ++ (tb ++ op)) (s)) ok_X11_sumAt rfl rfl rfl wd_277 rfl rfl dX11_number_2 (by decide) (by decide) (Nat.le_of_ble_eq_true rfl) (fun r2 w2 hp2 => ?_)
  obtain ⟨rfl, rfl⟩ := hp2
  by_cases h2 : inZ (s).toInt (-1) 7 = true
  · rw [if_pos h2]
    refine gw_W.norm (st' := [.ref (sa (3 * cP (s)))]) (k1 := 0) (k2 := 0) rfl rfl rfl ?_
    refine gw_W.wd (w' := ([(ad 0, .inr (9, [.int (nI (σ.1)), .ref (ad 1), .ref (ad 2), .ref (sa (3 * 0)), .ref (ad 4), .ref (ad 5), .ref (ad 6), .int (nI ((sOp σ).length)), va_rf (lo), .int (nx), .int (σ.2.2.2.2.2.2.1), .int (σ.2.2.2.2.2.2.2), .ref (ad 12), .int (nI ((sTr σ).length)), .int (σ.2.2.2.2.1)])), (ad 1, .inl (cy 3, 9, .inr (.inr (.inr (.inr (fun i => some (sa (3 * i)))))))), (ad 2, .inl (cy 3, 9, .inr (.inr (.inr (.inr (fun i => some (sa (3 * (9 + i))))))))), (ad 5, .inl (cy 4, 8, .inr (.inr (.inr (.inr (fun i => some (ta (2 * i)))))))), (ad 6, .inl (cy 2, 40, .inr (.inr (.inr (.inr (pg)))))), (ad 12, .inl (cy 0, 16, .inl (bo)))] ++ (xs ++ (tb ++ op)))) rfl ?_
    refine gw_astore_n dX11_number_5 (by decide) rfl ?_
    obtain ⟨ka, na, u1, u2, u3, u4, u5⟩ := xsP_mem hxs (i := cP (s)) (by have := (cP_i h2).2.2; omega)
    refine gw_aload_n dX11_number_6 rfl ?_
    refine gw_ifnull dX11_number_7 ?_
    refine gw_iload_n dX11_number_10 rfl ?_
    refine gw_iconst (v := nI (0)) dX11_number_11 (by decide) ?_
    refine gw_aload_n dX11_number_12 rfl ?_
    refine gw_getMN (C0 := RX9) (T := TX9) (N := 3) (ref := RX9) (List.mem_append_right _ (List.mem_append_left _ u1)) rfl inX9 2 (by decide) (host := "SpinBench") (by decide +kernel) (Or.inl rfl) rfl dX11_number_13 ?_
    refine gw_iconst (v := nI (1)) dX11_number_16 (by decide) ?_
    refine gw_isub dX11_number_17 ?_
    refine gw_callS (As := [.int (t), .int (nI (0)), .int ((nI ((cs (cP (s))).length)) - (nI (1)))]) (st := []) (c_within l cy (t) (nI (0)) ((nI ((cs (cP (s))).length)) - (nI (1))) ([(ad 0, .inr (9, [.int (nI (σ.1)), .ref (ad 1), .ref (ad 2), .ref (sa (3 * 0)), .ref (ad 4), .ref (ad 5), .ref (ad 6), .int (nI ((sOp σ).length)), va_rf (lo), .int (nx), .int (σ.2.2.2.2.2.2.1), .int (σ.2.2.2.2.2.2.2), .ref (ad 12), .int (nI ((sTr σ).length)), .int (σ.2.2.2.2.1)])), (ad 1, .inl (cy 3, 9, .inr (.inr (.inr (.inr (fun i => some (sa (3 * i)))))))), (ad 2, .inl (cy 3, 9, .inr (.inr (.inr (.inr (fun i => some (sa (3 * (9 + i))))))))), (ad 5, .inl (cy 4, 8, .inr (.inr (.inr (.inr (fun i => some (ta (2 * i)))))))), (ad 6, .inl (cy 2, 40, .inr (.inr (.inr (.inr (pg)))))), (ad 12, .inl (cy 0, 16, .inl (bo)))] ++ (xs ++ (tb ++ op)))) ok_X11_within wd_230 rfl rfl dX11_number_18 (by decide) (by decide) (Nat.le_of_ble_eq_true rfl) (fun r18 w18 hp18 => ?_)
    obtain ⟨rfl, rfl⟩ := hp18
    refine gw_W.norm (st' := [.int (bI (inZ (t).toInt (nI (0)).toInt ((nI ((cs (cP (s))).length)) - (nI (1))).toInt))]) (k1 := 0) (k2 := 0) rfl rfl rfl ?_
    refine gw_if_ne (tgt := 28) dX11_number_21 (by decide) (fun c21 => ?_) (fun c21 => ?_)
    · obtain ⟨z1, z2, z3⟩ := csS_at hcs h2
      rw [bI_n0, i32_sub1 _ (by omega)] at c21
      rw [z1] at c21 u4 u5
      have ct : inZ t.toInt 0 (((sSm σ (mPl s)).length : Int) - 1) = true := c21
      have t9 : tI t < (sSm σ (mPl s)).length := by rw [inZ_t] at ct; unfold tI; omega
      refine gw_aload_n dX11_number_28 rfl ?_
      refine gw_getMN (C0 := RX9) (T := TX9) (N := 3) (ref := RX9) (List.mem_append_right _ (List.mem_append_left _ u1)) rfl inX9 1 (by decide) (host := "SpinBench") (by decide +kernel) (Or.inl rfl) rfl dX11_number_29 ?_
      refine gw_iload_n dX11_number_32 rfl ?_
      refine gw_laldM (List.mem_append_right _ (List.mem_append_left _ u3)) (tI_eq ct) (by omega) (by decide) dX11_number_33 ?_
      refine gw_W.wd (w' := bW cy ad sa ta (σ.1) ((sOp σ).length) ((sTr σ).length) nx (σ.2.2.2.2.2.2.1) (σ.2.2.2.2.2.2.2) (σ.2.2.2.2.1) lo pg bo ++ (xs ++ (tb ++ op))) rfl ?_
      refine gw_lret (?_) (by decide) (by decide) rfl dX11_number_34
      subst hpost
      unfold spNumber
      rw [if_pos (cTm_t h2 ct), get_S u5 t9]
      exact ⟨rfl, ad, sa, ta, oa, nx, lo, pg, bo, cs, xs, tb, op, td, rfl, List.Perm.refl _, hxs, hcs, htb, hop, hN, hbo⟩
    · obtain ⟨z1, z2, z3⟩ := csS_at hcs h2
      rw [bI_0, i32_sub1 _ (by omega)] at c21
      rw [z1] at c21 u4 u5
      have ct : inZ t.toInt 0 (((sSm σ (mPl s)).length : Int) - 1) = false := c21
      refine gw_ldc2 dX11_number_24 wd_405 ?_
      refine gw_W.wd (w' := bW cy ad sa ta (σ.1) ((sOp σ).length) ((sTr σ).length) nx (σ.2.2.2.2.2.2.1) (σ.2.2.2.2.2.2.2) (σ.2.2.2.2.1) lo pg bo ++ (xs ++ (tb ++ op))) rfl ?_
      refine gw_lret (?_) (by decide) (by decide) rfl dX11_number_27
      subst hpost
      unfold spNumber
      first
        | (rw [if_neg (cTm_f1 h2)]; exact ⟨rfl, ad, sa, ta, oa, nx, lo, pg, bo, cs, xs, tb, op, td, rfl, List.Perm.refl _, hxs, hcs, htb, hop, hN, hbo⟩)
        | (rw [if_neg (cTm_f2 ct)]; exact ⟨rfl, ad, sa, ta, oa, nx, lo, pg, bo, cs, xs, tb, op, td, rfl, List.Perm.refl _, hxs, hcs, htb, hop, hN, hbo⟩)
  · rw [if_neg h2]
    refine gw_W.norm (st' := [.null]) (k1 := 0) (k2 := 0) rfl rfl rfl ?_
    refine gw_W.wd (w' := ([(ad 0, .inr (9, [.int (nI (σ.1)), .ref (ad 1), .ref (ad 2), .ref (sa (3 * 0)), .ref (ad 4), .ref (ad 5), .ref (ad 6), .int (nI ((sOp σ).length)), va_rf (lo), .int (nx), .int (σ.2.2.2.2.2.2.1), .int (σ.2.2.2.2.2.2.2), .ref (ad 12), .int (nI ((sTr σ).length)), .int (σ.2.2.2.2.1)])), (ad 1, .inl (cy 3, 9, .inr (.inr (.inr (.inr (fun i => some (sa (3 * i)))))))), (ad 2, .inl (cy 3, 9, .inr (.inr (.inr (.inr (fun i => some (sa (3 * (9 + i))))))))), (ad 5, .inl (cy 4, 8, .inr (.inr (.inr (.inr (fun i => some (ta (2 * i)))))))), (ad 6, .inl (cy 2, 40, .inr (.inr (.inr (.inr (pg)))))), (ad 12, .inl (cy 0, 16, .inl (bo)))] ++ (xs ++ (tb ++ op)))) rfl ?_
    refine gw_astore_nN dX11_number_5 (by decide) rfl ?_
    refine gw_aload_nN dX11_number_6 rfl ?_
    refine gw_ifnullN (tgt := 24) dX11_number_7 (by decide) ?_
    refine gw_ldc2 dX11_number_24 wd_405 ?_
    refine gw_W.wd (w' := bW cy ad sa ta (σ.1) ((sOp σ).length) ((sTr σ).length) nx (σ.2.2.2.2.2.2.1) (σ.2.2.2.2.2.2.2) (σ.2.2.2.2.1) lo pg bo ++ (xs ++ (tb ++ op))) rfl ?_
    refine gw_lret (?_) (by decide) (by decide) rfl dX11_number_27
    subst hpost
    unfold spNumber
    first
      | (rw [if_neg (cTm_f1 h2)]; exact ⟨rfl, ad, sa, ta, oa, nx, lo, pg, bo, cs, xs, tb, op, td, rfl, List.Perm.refl _, hxs, hcs, htb, hop, hN, hbo⟩)
      | (rw [if_neg (cTm_f2 ct)]; exact ⟨rfl, ad, sa, ta, oa, nx, lo, pg, bo, cs, xs, tb, op, td, rfl, List.Perm.refl _, hxs, hcs, htb, hop, hN, hbo⟩)
