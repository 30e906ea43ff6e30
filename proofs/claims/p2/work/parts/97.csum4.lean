/-! the class: join, add, product -/
theorem addC_min {n : Nat} {S : List sT} {p v : Int32} (hS : sOK n S) : noMin (addC S p v) := by
  have h1 := sScale_bnd (v := 1) (m := 1) hS (by decide) (by decide)
  have hl : (sScale 1 S).length ≤ 300 := by unfold sScale; rw [List.length_map]; exact hS.2.1
  have h3 := sPuts_bnd h1 (B := 0) (C := []) (fun q hq => by cases hq) (by omega)
  have hv1 := Int32.toInt_lt v
  have hv2 := Int32.le_toInt v
  have h4 := sIns_bnd (k := p <<< (nI 20 &&& 31)) (v := v.toInt64) (M := 2147483648) h3 (by rw [i64_of]; omega) (by omega)
  exact bnd_min h4 (by omega)
theorem prOne_ord {F : Option (List sT)} {p q : sT} (hF : ∀ C, F = some C → sOrd C) : ∀ C, prOne F p q = some C → sOrd C := by
  intro C h
  cases F with
  | none => cases h
  | some D =>
    unfold prOne at h
    simp only at h
    split at h
    · split at h
      · cases h; exact sPuts_ord (hF D rfl)
      · cases h
    · cases h; exact hF _ rfl
theorem prRow_ord {p : sT} {B : List sT} : ∀ (F : Option (List sT)), (∀ C, F = some C → sOrd C) → ∀ C, prRow F p B = some C → sOrd C := by
  induction B with
  | nil => intro F hF C h; exact hF C h
  | cons q t ih => intro F hF C h; exact ih _ (prOne_ord hF) C h
theorem prS_ord0 {A B : List sT} : ∀ (F : Option (List sT)), (∀ C, F = some C → sOrd C) → ∀ C, A.foldl (fun F p => prRow F p B) F = some C → sOrd C := by
  induction A with
  | nil => intro F hF C h; exact hF C h
  | cons p t ih => intro F hF C h; exact ih _ (prRow_ord F hF) C h
theorem prS_ord {A B C : List sT} (h : prS A B = some C) : sOrd C := prS_ord0 (some []) (fun C h => by cases h; exact List.Pairwise.nil) C h
theorem prF_ok {n : Nat} {A B S : List sT} (hn : n ≤ 4) (hA : ∀ q ∈ A, keyOK n q.1) (hB : ∀ q ∈ B, keyOK n q.1) (h : prF A B = some S) : sOK n S := by
  unfold prF at h
  cases hC : prS A B with
  | none => rw [hC] at h; cases h
  | some C => rw [hC] at h; exact keepS_ok (prS_ord hC) (prS_key hn hA hB hC) h
theorem prF_sp {σ : aS} {t a b : Int32} (h : inZ t.toInt (-1) 7 = true ∧ inZ a.toInt (-1) 7 = true ∧ inZ b.toInt (-1) 7 = true) : spProduct σ t a b = ofKeep σ (mPl t) (prF (sSm σ (mPl a)) (sSm σ (mPl b))) := by
  unfold spProduct prF
  rw [if_pos h]
  cases prS (sSm σ (mPl a)) (sSm σ (mPl b)) <;> rfl
theorem okk {n : Nat} {S : List sT} (h : sOK n S) : ∀ q ∈ S, keyOK n q.1 := fun q hq => (h.2.2 q hq).2.2
theorem isS_none {F : Option (List sT)} (h : bI F.isSome = 0) : F = none := by
  cases F with
  | none => rfl
  | some S => exact absurd h (show ¬ (1 : Int32) = 0 by decide)
theorem isS_some {F : Option (List sT)} (h : ¬ bI F.isSome = 0) : ∃ S, F = some S := by
  cases F with
  | none => exact absurd rfl h
  | some S => exact ⟨S, rfl⟩
abbrev kX11_join : gw_K := (yX11_join, cX11_join, 6, { frames := 4, cells := 0, slots := 0, locals := 107 }, (some .int))
theorem ok_X11_join : gw_calV kX11_join 3 := ⟨⟨wd_349, wd_57, by decide, by decide, by decide +kernel⟩, wd_347, wd_348⟩
set_option maxHeartbeats 4000000 in
set_option maxRecDepth 100000 in
theorem t_cjoin (l : Launch) (cy : Nat → ClassId) (ob : Nat) (σ : aS) (w : va_W) (hI : cInv cy ob σ w) (a b v : Int32) : gw_M l kX11_join cy [.ref (ob), .int (a), .int (b), .int (v)] (w) (cPost cy ob (spJoin σ a b v)) := by
  obtain ⟨ad, sa, ta, oa, nx, lo, pg, bo, cs, xs, tb, op, td, rfl, hw, hxs, hcs, htb, hop, hN, hbo⟩ := hI
  have hn4 : 1 ≤ σ.1 ∧ σ.1 ≤ 4 := ⟨hN.1, hN.2.1⟩
  refine gw_M.pm hw ?_
  refine gw_M.mk (lv := [some (.ref (ad 0)), some (.int (a)), some (.int (b)), some (.int (v)), none, none]) (by decide) (Nat.le_of_ble_eq_true rfl) rfl ?_
  generalize hpost : (cPost cy (ad 0) (spJoin σ a b v) : gw_Q) = post
  refine gw_W.wd (w' := ([(ad 0, .inr (9, [.int (nI (σ.1)), .ref (ad 1), .ref (ad 2), .ref (sa (3 * 0)), .ref (ad 4), .ref (ad 5), .ref (ad 6), .int (nI ((sOp σ).length)), va_rf (lo), .int (nx), .int (σ.2.2.2.2.2.2.1), .int (σ.2.2.2.2.2.2.2), .ref (ad 12), .int (nI ((sTr σ).length)), .int (σ.2.2.2.2.1)])), (ad 1, .inl (cy 3, 9, .inr (.inr (.inr (.inr (fun i => some (sa (3 * i)))))))), (ad 2, .inl (cy 3, 9, .inr (.inr (.inr (.inr (fun i => some (sa (3 * (9 + i))))))))), (ad 5, .inl (cy 4, 8, .inr (.inr (.inr (.inr (fun i => some (ta (2 * i)))))))), (ad 6, .inl (cy 2, 40, .inr (.inr (.inr (.inr (pg)))))), (ad 12, .inl (cy 0, 16, .inl (bo)))] ++ (xs ++ (tb ++ op)))) rfl ?_
  refine gw_aload_n dX11_join_0 rfl ?_
  refine gw_iload_n dX11_join_1 rfl ?_
  refine gw_W.wd (w' := bW cy ad sa ta (σ.1) ((sOp σ).length) ((sTr σ).length) nx (σ.2.2.2.2.2.2.1) (σ.2.2.2.2.2.2.2) (σ.2.2.2.2.1) lo pg bo ++ (xs ++ (tb ++ op))) rfl ?_
  refine gw_callV 0 (As := [.int (a)]) (st := []) (c_bsumAt l cy ad sa ta (σ.1) ((sOp σ).length) ((sTr σ).length) nx (σ.2.2.2.2.2.2.1) (σ.2.2.2.2.2.2.2) (σ.2.2.2.2.1) lo pg bo (xs ++ (tb ++ op)) (a)) ok_X11_sumAt rfl rfl rfl wd_277 rfl rfl dX11_join_2 (by decide) (by decide) (Nat.le_of_ble_eq_true rfl) (fun r2 w2 hp2 => ?_)
  obtain ⟨rfl, rfl⟩ := hp2
  by_cases h2 : inZ (a).toInt (-1) 7 = true
  · rw [if_pos h2]
    refine gw_W.norm (st' := [.ref (sa (3 * cP (a)))]) (k1 := 0) (k2 := 0) rfl rfl rfl ?_
    refine gw_W.wd (w' := ([(ad 0, .inr (9, [.int (nI (σ.1)), .ref (ad 1), .ref (ad 2), .ref (sa (3 * 0)), .ref (ad 4), .ref (ad 5), .ref (ad 6), .int (nI ((sOp σ).length)), va_rf (lo), .int (nx), .int (σ.2.2.2.2.2.2.1), .int (σ.2.2.2.2.2.2.2), .ref (ad 12), .int (nI ((sTr σ).length)), .int (σ.2.2.2.2.1)])), (ad 1, .inl (cy 3, 9, .inr (.inr (.inr (.inr (fun i => some (sa (3 * i)))))))), (ad 2, .inl (cy 3, 9, .inr (.inr (.inr (.inr (fun i => some (sa (3 * (9 + i))))))))), (ad 5, .inl (cy 4, 8, .inr (.inr (.inr (.inr (fun i => some (ta (2 * i)))))))), (ad 6, .inl (cy 2, 40, .inr (.inr (.inr (.inr (pg)))))), (ad 12, .inl (cy 0, 16, .inl (bo)))] ++ (xs ++ (tb ++ op)))) rfl ?_
    refine gw_astore dX11_join_5 (by decide) rfl ?_
    refine gw_aload_n dX11_join_7 rfl ?_
    refine gw_iload_n dX11_join_8 rfl ?_
    refine gw_W.wd (w' := bW cy ad sa ta (σ.1) ((sOp σ).length) ((sTr σ).length) nx (σ.2.2.2.2.2.2.1) (σ.2.2.2.2.2.2.2) (σ.2.2.2.2.1) lo pg bo ++ (xs ++ (tb ++ op))) rfl ?_
    refine gw_callV 0 (As := [.int (b)]) (st := []) (c_bsumAt l cy ad sa ta (σ.1) ((sOp σ).length) ((sTr σ).length) nx (σ.2.2.2.2.2.2.1) (σ.2.2.2.2.2.2.2) (σ.2.2.2.2.1) lo pg bo (xs ++ (tb ++ op)) (b)) ok_X11_sumAt rfl rfl rfl wd_277 rfl rfl dX11_join_9 (by decide) (by decide) (Nat.le_of_ble_eq_true rfl) (fun r9 w9 hp9 => ?_)
    obtain ⟨rfl, rfl⟩ := hp9
    by_cases h9 : inZ (b).toInt (-1) 7 = true
    · rw [if_pos h9]
      refine gw_W.norm (st' := [.ref (sa (3 * cP (b)))]) (k1 := 0) (k2 := 0) rfl rfl rfl ?_
      refine gw_W.wd (w' := ([(ad 0, .inr (9, [.int (nI (σ.1)), .ref (ad 1), .ref (ad 2), .ref (sa (3 * 0)), .ref (ad 4), .ref (ad 5), .ref (ad 6), .int (nI ((sOp σ).length)), va_rf (lo), .int (nx), .int (σ.2.2.2.2.2.2.1), .int (σ.2.2.2.2.2.2.2), .ref (ad 12), .int (nI ((sTr σ).length)), .int (σ.2.2.2.2.1)])), (ad 1, .inl (cy 3, 9, .inr (.inr (.inr (.inr (fun i => some (sa (3 * i)))))))), (ad 2, .inl (cy 3, 9, .inr (.inr (.inr (.inr (fun i => some (sa (3 * (9 + i))))))))), (ad 5, .inl (cy 4, 8, .inr (.inr (.inr (.inr (fun i => some (ta (2 * i)))))))), (ad 6, .inl (cy 2, 40, .inr (.inr (.inr (.inr (pg)))))), (ad 12, .inl (cy 0, 16, .inl (bo)))] ++ (xs ++ (tb ++ op)))) rfl ?_
      refine gw_astore dX11_join_12 (by decide) rfl ?_
      refine gw_aload dX11_join_14 rfl ?_
      refine gw_ifnull dX11_join_16 ?_
      refine gw_aload dX11_join_19 rfl ?_
      refine gw_ifnull dX11_join_21 ?_
      refine gw_iload_n dX11_join_24 rfl ?_
      refine gw_bipush (v := (-3 : Int32)) dX11_join_25 (by decide) ?_
      refine gw_iconst (v := nI (3)) dX11_join_27 (by decide) ?_
      refine gw_callS (As := [.int (v), .int ((-3 : Int32)), .int (nI (3))]) (st := []) (c_within l cy (v) ((-3 : Int32)) (nI (3)) ([(ad 0, .inr (9, [.int (nI (σ.1)), .ref (ad 1), .ref (ad 2), .ref (sa (3 * 0)), .ref (ad 4), .ref (ad 5), .ref (ad 6), .int (nI ((sOp σ).length)), va_rf (lo), .int (nx), .int (σ.2.2.2.2.2.2.1), .int (σ.2.2.2.2.2.2.2), .ref (ad 12), .int (nI ((sTr σ).length)), .int (σ.2.2.2.2.1)])), (ad 1, .inl (cy 3, 9, .inr (.inr (.inr (.inr (fun i => some (sa (3 * i)))))))), (ad 2, .inl (cy 3, 9, .inr (.inr (.inr (.inr (fun i => some (sa (3 * (9 + i))))))))), (ad 5, .inl (cy 4, 8, .inr (.inr (.inr (.inr (fun i => some (ta (2 * i)))))))), (ad 6, .inl (cy 2, 40, .inr (.inr (.inr (.inr (pg)))))), (ad 12, .inl (cy 0, 16, .inl (bo)))] ++ (xs ++ (tb ++ op)))) ok_X11_within wd_230 rfl rfl dX11_join_28 (by decide) (by decide) (Nat.le_of_ble_eq_true rfl) (fun r28 w28 hp28 => ?_)
      obtain ⟨rfl, rfl⟩ := hp28
      refine gw_W.norm (st' := [.int (bI (inZ (v).toInt ((-3 : Int32)).toInt (nI (3)).toInt))]) (k1 := 0) (k2 := 0) rfl rfl rfl ?_
      refine gw_if_ne (tgt := 37) dX11_join_31 (by decide) (fun c31 => ?_) (fun c31 => ?_)
      · rw [bI_n0] at c31
        have cv : inZ v.toInt (-3) 3 = true := c31
        obtain ⟨z1, z2, z3⟩ := csS_at hcs h2
        obtain ⟨y1, y2, y3⟩ := csS_at hcs h9
        obtain ⟨jo, jk⟩ := joinC_ok (v := v) (okk z2) (okk y2)
        refine gw_aload_n dX11_join_37 rfl ?_
        refine gw_get (C0 := RX11) (T := TX11) (N := 15) (ref := RX11) 0 rfl rfl inX11 4 (by decide) wd_178 (Or.inl rfl) rfl dX11_join_38 ?_
        refine gw_aload dX11_join_41 rfl ?_
        refine gw_aload dX11_join_43 rfl ?_
        refine gw_iload_n dX11_join_45 rfl ?_
        refine gw_callHN (As := [.ref (sa (3 * cP (a))), .ref (sa (3 * cP (b))), .int (v)]) (st := []) ((s_joinSums l cy (ad 4) sa cs xs (cP a) (cP b) v hxs z3 y3 (by rw [z1]; exact z2.2.1) (by rw [y1]; exact y2.2.1) (by rw [z1, y1]; exact joinC_min z2 y2 cv)).frame (w2 := ([(ad 0, .inr (9, [.int (nI (σ.1)), .ref (ad 1), .ref (ad 2), .ref (sa (3 * 0)), .ref (ad 4), .ref (ad 5), .ref (ad 6), .int (nI ((sOp σ).length)), va_rf (lo), .int (nx), .int (σ.2.2.2.2.2.2.1), .int (σ.2.2.2.2.2.2.2), .ref (ad 12), .int (nI ((sTr σ).length)), .int (σ.2.2.2.2.1)])), (ad 1, .inl (cy 3, 9, .inr (.inr (.inr (.inr (fun i => some (sa (3 * i)))))))), (ad 2, .inl (cy 3, 9, .inr (.inr (.inr (.inr (fun i => some (sa (3 * (9 + i))))))))), (ad 5, .inl (cy 4, 8, .inr (.inr (.inr (.inr (fun i => some (ta (2 * i)))))))), (ad 6, .inl (cy 2, 40, .inr (.inr (.inr (.inr (pg)))))), (ad 12, .inl (cy 0, 16, .inl (bo)))] ++ (xs ++ (tb ++ op)))) (f := ([(ad 0, .inr (9, [.int (nI (σ.1)), .ref (ad 1), .ref (ad 2), .ref (sa (3 * 0)), .ref (ad 4), .ref (ad 5), .ref (ad 6), .int (nI ((sOp σ).length)), va_rf (lo), .int (nx), .int (σ.2.2.2.2.2.2.1), .int (σ.2.2.2.2.2.2.2), .ref (ad 12), .int (nI ((sTr σ).length)), .int (σ.2.2.2.2.1)])), (ad 1, .inl (cy 3, 9, .inr (.inr (.inr (.inr (fun i => some (sa (3 * i)))))))), (ad 2, .inl (cy 3, 9, .inr (.inr (.inr (.inr (fun i => some (sa (3 * (9 + i))))))))), (ad 5, .inl (cy 4, 8, .inr (.inr (.inr (.inr (fun i => some (ta (2 * i)))))))), (ad 6, .inl (cy 2, 40, .inr (.inr (.inr (.inr (pg)))))), (ad 12, .inl (cy 0, 16, .inl (bo)))] : va_W) ++ (tb ++ op)) perm_x) ok_X4_joinSums (((xsP_has hxs).left).right) rfl rfl (host := "SpinBench") (by decide +kernel) rfl rfl dX11_join_46 (by decide) (by decide) (Nat.le_of_ble_eq_true rfl) (fun r46 w46 hp46 => ?_)
        obtain ⟨x2, ⟨rfl, hx2⟩, rfl⟩ := hp46
        refine gw_W.norm (st' := [.int (bI (keepS (joinC (cs (cP a)) (cs (cP b)) v)).isSome)]) (k1 := 0) (k2 := 0) rfl rfl rfl ?_
        refine gw_W.perm (w' := ([(ad 0, .inr (9, [.int (nI (σ.1)), .ref (ad 1), .ref (ad 2), .ref (sa (3 * 0)), .ref (ad 4), .ref (ad 5), .ref (ad 6), .int (nI ((sOp σ).length)), va_rf (lo), .int (nx), .int (σ.2.2.2.2.2.2.1), .int (σ.2.2.2.2.2.2.2), .ref (ad 12), .int (nI ((sTr σ).length)), .int (σ.2.2.2.2.1)])), (ad 1, .inl (cy 3, 9, .inr (.inr (.inr (.inr (fun i => some (sa (3 * i)))))))), (ad 2, .inl (cy 3, 9, .inr (.inr (.inr (.inr (fun i => some (sa (3 * (9 + i))))))))), (ad 5, .inl (cy 4, 8, .inr (.inr (.inr (.inr (fun i => some (ta (2 * i)))))))), (ad 6, .inl (cy 2, 40, .inr (.inr (.inr (.inr (pg)))))), (ad 12, .inl (cy 0, 16, .inl (bo)))] ++ (x2 ++ (tb ++ op)))) perm_x.symm ?_
        refine gw_if_eq (tgt := 60) dX11_join_49 (by decide) (fun c49 => ?_) (fun c49 => ?_)
        · have hF := isS_none c49
          rw [hF] at hx2
          rw [z1, y1] at hF
          refine gw_ldc dX11_join_60 wd_336 ?_
          refine gw_W.wd (w' := bW cy ad sa ta (σ.1) ((sOp σ).length) ((sTr σ).length) nx (σ.2.2.2.2.2.2.1) (σ.2.2.2.2.2.2.2) (σ.2.2.2.2.1) lo pg bo ++ (x2 ++ (tb ++ op))) rfl ?_
          refine gw_iret (?_) (by decide) (by decide) rfl dX11_join_62
          subst hpost
          unfold spJoin
          rw [if_pos ⟨h2, h9, cv⟩]
          rw [hF]
          first
            | exact ⟨rfl, ad, sa, ta, oa, nx, lo, pg, bo, cs, x2, tb, op, td, rfl, List.Perm.refl _, hx2, hcs, htb, hop, hN, hbo⟩
            | exact ⟨rfl, ad, sa, ta, oa, nx, lo, pg, bo, va_up cs (cP a) S, x2, tb, op, td, rfl, List.Perm.refl _, hx2, csS_set hcs h2 (keepS_ok jo jk hF), htb, hop, hN, hbo⟩
        · obtain ⟨S, hF⟩ := isS_some c49
          rw [hF] at hx2
          rw [z1, y1] at hF
          obtain ⟨ka, na, u1, u2, u3, u4, u5⟩ := xsP_mem hx2 (i := cP (a)) z3
          refine gw_aload dX11_join_52 rfl ?_
          refine gw_getMN (C0 := RX9) (T := TX9) (N := 3) (ref := RX9) (List.mem_append_right _ (List.mem_append_left _ u1)) rfl inX9 2 (by decide) (host := "SpinBench") (by decide +kernel) (Or.inl rfl) rfl dX11_join_54 ?_
          refine gw_topi (y := nI (S.length)) (congrArg (fun z => nI (List.length z)) (va_up_self _ _ _)) ?_
          refine gw_goto (tgt := 62) dX11_join_57 (by decide) ?_
          refine gw_W.wd (w' := bW cy ad sa ta (σ.1) ((sOp σ).length) ((sTr σ).length) nx (σ.2.2.2.2.2.2.1) (σ.2.2.2.2.2.2.2) (σ.2.2.2.2.1) lo pg bo ++ (x2 ++ (tb ++ op))) rfl ?_
          refine gw_iret (?_) (by decide) (by decide) rfl dX11_join_62
          subst hpost
          unfold spJoin
          rw [if_pos ⟨h2, h9, cv⟩]
          rw [hF]
          first
            | exact ⟨rfl, ad, sa, ta, oa, nx, lo, pg, bo, cs, x2, tb, op, td, rfl, List.Perm.refl _, hx2, hcs, htb, hop, hN, hbo⟩
            | exact ⟨rfl, ad, sa, ta, oa, nx, lo, pg, bo, va_up cs (cP a) S, x2, tb, op, td, rfl, List.Perm.refl _, hx2, csS_set hcs h2 (keepS_ok jo jk hF), htb, hop, hN, hbo⟩
      · rw [bI_0] at c31
        have cv : inZ v.toInt (-3) 3 = false := c31
        refine gw_ldc dX11_join_34 wd_233 ?_
        refine gw_W.wd (w' := bW cy ad sa ta (σ.1) ((sOp σ).length) ((sTr σ).length) nx (σ.2.2.2.2.2.2.1) (σ.2.2.2.2.2.2.2) (σ.2.2.2.2.1) lo pg bo ++ (xs ++ (tb ++ op))) rfl ?_
        refine gw_iret (?_) (by decide) (by decide) rfl dX11_join_36
        subst hpost
        unfold spJoin
        rw [if_neg (fun h => by first | exact h2 h.1 | exact h9 h.2.1 | exact absurd h.2.2 (by rw [cv]; decide))]
        exact ⟨rfl, ad, sa, ta, oa, nx, lo, pg, bo, cs, xs, tb, op, td, rfl, List.Perm.refl _, hxs, hcs, htb, hop, hN, hbo⟩
    · rw [if_neg h9]
      refine gw_W.norm (st' := [.null]) (k1 := 0) (k2 := 0) rfl rfl rfl ?_
      refine gw_W.wd (w' := ([(ad 0, .inr (9, [.int (nI (σ.1)), .ref (ad 1), .ref (ad 2), .ref (sa (3 * 0)), .ref (ad 4), .ref (ad 5), .ref (ad 6), .int (nI ((sOp σ).length)), va_rf (lo), .int (nx), .int (σ.2.2.2.2.2.2.1), .int (σ.2.2.2.2.2.2.2), .ref (ad 12), .int (nI ((sTr σ).length)), .int (σ.2.2.2.2.1)])), (ad 1, .inl (cy 3, 9, .inr (.inr (.inr (.inr (fun i => some (sa (3 * i)))))))), (ad 2, .inl (cy 3, 9, .inr (.inr (.inr (.inr (fun i => some (sa (3 * (9 + i))))))))), (ad 5, .inl (cy 4, 8, .inr (.inr (.inr (.inr (fun i => some (ta (2 * i)))))))), (ad 6, .inl (cy 2, 40, .inr (.inr (.inr (.inr (pg)))))), (ad 12, .inl (cy 0, 16, .inl (bo)))] ++ (xs ++ (tb ++ op)))) rfl ?_
      refine gw_astoreN dX11_join_12 (by decide) rfl ?_
      refine gw_aload dX11_join_14 rfl ?_
      refine gw_ifnull dX11_join_16 ?_
      refine gw_aloadN dX11_join_19 rfl ?_
      refine gw_ifnullN (tgt := 34) dX11_join_21 (by decide) ?_
      refine gw_ldc dX11_join_34 wd_233 ?_
      refine gw_W.wd (w' := bW cy ad sa ta (σ.1) ((sOp σ).length) ((sTr σ).length) nx (σ.2.2.2.2.2.2.1) (σ.2.2.2.2.2.2.2) (σ.2.2.2.2.1) lo pg bo ++ (xs ++ (tb ++ op))) rfl ?_
      refine gw_iret (?_) (by decide) (by decide) rfl dX11_join_36
      subst hpost
      unfold spJoin
      rw [if_neg (fun h => by first | exact h2 h.1 | exact h9 h.2.1 | exact absurd h.2.2 (by rw [cv]; decide))]
      exact ⟨rfl, ad, sa, ta, oa, nx, lo, pg, bo, cs, xs, tb, op, td, rfl, List.Perm.refl _, hxs, hcs, htb, hop, hN, hbo⟩
  · rw [if_neg h2]
    refine gw_W.norm (st' := [.null]) (k1 := 0) (k2 := 0) rfl rfl rfl ?_
    refine gw_W.wd (w' := ([(ad 0, .inr (9, [.int (nI (σ.1)), .ref (ad 1), .ref (ad 2), .ref (sa (3 * 0)), .ref (ad 4), .ref (ad 5), .ref (ad 6), .int (nI ((sOp σ).length)), va_rf (lo), .int (nx), .int (σ.2.2.2.2.2.2.1), .int (σ.2.2.2.2.2.2.2), .ref (ad 12), .int (nI ((sTr σ).length)), .int (σ.2.2.2.2.1)])), (ad 1, .inl (cy 3, 9, .inr (.inr (.inr (.inr (fun i => some (sa (3 * i)))))))), (ad 2, .inl (cy 3, 9, .inr (.inr (.inr (.inr (fun i => some (sa (3 * (9 + i))))))))), (ad 5, .inl (cy 4, 8, .inr (.inr (.inr (.inr (fun i => some (ta (2 * i)))))))), (ad 6, .inl (cy 2, 40, .inr (.inr (.inr (.inr (pg)))))), (ad 12, .inl (cy 0, 16, .inl (bo)))] ++ (xs ++ (tb ++ op)))) rfl ?_
    refine gw_astoreN dX11_join_5 (by decide) rfl ?_
    refine gw_aload_n dX11_join_7 rfl ?_
    refine gw_iload_n dX11_join_8 rfl ?_
    refine gw_W.wd (w' := bW cy ad sa ta (σ.1) ((sOp σ).length) ((sTr σ).length) nx (σ.2.2.2.2.2.2.1) (σ.2.2.2.2.2.2.2) (σ.2.2.2.2.1) lo pg bo ++ (xs ++ (tb ++ op))) rfl ?_
    refine gw_callV 0 (As := [.int (b)]) (st := []) (c_bsumAt l cy ad sa ta (σ.1) ((sOp σ).length) ((sTr σ).length) nx (σ.2.2.2.2.2.2.1) (σ.2.2.2.2.2.2.2) (σ.2.2.2.2.1) lo pg bo (xs ++ (tb ++ op)) (b)) ok_X11_sumAt rfl rfl rfl wd_277 rfl rfl dX11_join_9 (by decide) (by decide) (Nat.le_of_ble_eq_true rfl) (fun r9 w9 hp9 => ?_)
    obtain ⟨rfl, rfl⟩ := hp9
    by_cases h9 : inZ (b).toInt (-1) 7 = true
    · rw [if_pos h9]
      refine gw_W.norm (st' := [.ref (sa (3 * cP (b)))]) (k1 := 0) (k2 := 0) rfl rfl rfl ?_
      refine gw_W.wd (w' := ([(ad 0, .inr (9, [.int (nI (σ.1)), .ref (ad 1), .ref (ad 2), .ref (sa (3 * 0)), .ref (ad 4), .ref (ad 5), .ref (ad 6), .int (nI ((sOp σ).length)), va_rf (lo), .int (nx), .int (σ.2.2.2.2.2.2.1), .int (σ.2.2.2.2.2.2.2), .ref (ad 12), .int (nI ((sTr σ).length)), .int (σ.2.2.2.2.1)])), (ad 1, .inl (cy 3, 9, .inr (.inr (.inr (.inr (fun i => some (sa (3 * i)))))))), (ad 2, .inl (cy 3, 9, .inr (.inr (.inr (.inr (fun i => some (sa (3 * (9 + i))))))))), (ad 5, .inl (cy 4, 8, .inr (.inr (.inr (.inr (fun i => some (ta (2 * i)))))))), (ad 6, .inl (cy 2, 40, .inr (.inr (.inr (.inr (pg)))))), (ad 12, .inl (cy 0, 16, .inl (bo)))] ++ (xs ++ (tb ++ op)))) rfl ?_
      refine gw_astore dX11_join_12 (by decide) rfl ?_
      refine gw_aloadN dX11_join_14 rfl ?_
      refine gw_ifnullN (tgt := 34) dX11_join_16 (by decide) ?_
      refine gw_ldc dX11_join_34 wd_233 ?_
      refine gw_W.wd (w' := bW cy ad sa ta (σ.1) ((sOp σ).length) ((sTr σ).length) nx (σ.2.2.2.2.2.2.1) (σ.2.2.2.2.2.2.2) (σ.2.2.2.2.1) lo pg bo ++ (xs ++ (tb ++ op))) rfl ?_
      refine gw_iret (?_) (by decide) (by decide) rfl dX11_join_36
      subst hpost
      unfold spJoin
      rw [if_neg (fun h => by first | exact h2 h.1 | exact h9 h.2.1 | exact absurd h.2.2 (by rw [cv]; decide))]
      exact ⟨rfl, ad, sa, ta, oa, nx, lo, pg, bo, cs, xs, tb, op, td, rfl, List.Perm.refl _, hxs, hcs, htb, hop, hN, hbo⟩
    · rw [if_neg h9]
      refine gw_W.norm (st' := [.null]) (k1 := 0) (k2 := 0) rfl rfl rfl ?_
      refine gw_W.wd (w' := ([(ad 0, .inr (9, [.int (nI (σ.1)), .ref (ad 1), .ref (ad 2), .ref (sa (3 * 0)), .ref (ad 4), .ref (ad 5), .ref (ad 6), .int (nI ((sOp σ).length)), va_rf (lo), .int (nx), .int (σ.2.2.2.2.2.2.1), .int (σ.2.2.2.2.2.2.2), .ref (ad 12), .int (nI ((sTr σ).length)), .int (σ.2.2.2.2.1)])), (ad 1, .inl (cy 3, 9, .inr (.inr (.inr (.inr (fun i => some (sa (3 * i)))))))), (ad 2, .inl (cy 3, 9, .inr (.inr (.inr (.inr (fun i => some (sa (3 * (9 + i))))))))), (ad 5, .inl (cy 4, 8, .inr (.inr (.inr (.inr (fun i => some (ta (2 * i)))))))), (ad 6, .inl (cy 2, 40, .inr (.inr (.inr (.inr (pg)))))), (ad 12, .inl (cy 0, 16, .inl (bo)))] ++ (xs ++ (tb ++ op)))) rfl ?_
      refine gw_astoreN dX11_join_12 (by decide) rfl ?_
      refine gw_aloadN dX11_join_14 rfl ?_
      refine gw_ifnullN (tgt := 34) dX11_join_16 (by decide) ?_
      refine gw_ldc dX11_join_34 wd_233 ?_
      refine gw_W.wd (w' := bW cy ad sa ta (σ.1) ((sOp σ).length) ((sTr σ).length) nx (σ.2.2.2.2.2.2.1) (σ.2.2.2.2.2.2.2) (σ.2.2.2.2.1) lo pg bo ++ (xs ++ (tb ++ op))) rfl ?_
      refine gw_iret (?_) (by decide) (by decide) rfl dX11_join_36
      subst hpost
      unfold spJoin
      rw [if_neg (fun h => by first | exact h2 h.1 | exact h9 h.2.1 | exact absurd h.2.2 (by rw [cv]; decide))]
      exact ⟨rfl, ad, sa, ta, oa, nx, lo, pg, bo, cs, xs, tb, op, td, rfl, List.Perm.refl _, hxs, hcs, htb, hop, hN, hbo⟩
abbrev kX11_add : gw_K := (yX11_add, cX11_add, 5, { frames := 3, cells := 0, slots := 0, locals := 84 }, (some .int))
theorem ok_X11_add : gw_calV kX11_add 3 := ⟨⟨wd_284, wd_57, by decide, by decide, by decide +kernel⟩, wd_282, wd_283⟩
set_option maxHeartbeats 4000000 in
set_option maxRecDepth 100000 in
theorem t_cadd (l : Launch) (cy : Nat → ClassId) (ob : Nat) (σ : aS) (w : va_W) (hI : cInv cy ob σ w) (s p v : Int32) : gw_M l kX11_add cy [.ref (ob), .int (s), .int (p), .int (v)] (w) (cPost cy ob (spAdd σ s p v)) := by
  obtain ⟨ad, sa, ta, oa, nx, lo, pg, bo, cs, xs, tb, op, td, rfl, hw, hxs, hcs, htb, hop, hN, hbo⟩ := hI
  have hn4 : 1 ≤ σ.1 ∧ σ.1 ≤ 4 := ⟨hN.1, hN.2.1⟩
  refine gw_M.pm hw ?_
  refine gw_M.mk (lv := [some (.ref (ad 0)), some (.int (s)), some (.int (p)), some (.int (v)), none]) (by decide) (Nat.le_of_ble_eq_true rfl) rfl ?_
  generalize hpost : (cPost cy (ad 0) (spAdd σ s p v) : gw_Q) = post
  refine gw_W.wd (w' := ([(ad 0, .inr (9, [.int (nI (σ.1)), .ref (ad 1), .ref (ad 2), .ref (sa (3 * 0)), .ref (ad 4), .ref (ad 5), .ref (ad 6), .int (nI ((sOp σ).length)), va_rf (lo), .int (nx), .int (σ.2.2.2.2.2.2.1), .int (σ.2.2.2.2.2.2.2), .ref (ad 12), .int (nI ((sTr σ).length)), .int (σ.2.2.2.2.1)])), (ad 1, .inl (cy 3, 9, .inr (.inr (.inr (.inr (fun i => some (sa (3 * i)))))))), (ad 2, .inl (cy 3, 9, .inr (.inr (.inr (.inr (fun i => some (sa (3 * (9 + i))))))))), (ad 5, .inl (cy 4, 8, .inr (.inr (.inr (.inr (fun i => some (ta (2 * i)))))))), (ad 6, .inl (cy 2, 40, .inr (.inr (.inr (.inr (pg)))))), (ad 12, .inl (cy 0, 16, .inl (bo)))] ++ (xs ++ (tb ++ op)))) rfl ?_
  refine gw_aload_n dX11_add_0 rfl ?_
  refine gw_iload_n dX11_add_1 rfl ?_
  refine gw_W.wd (w' := bW cy ad sa ta (σ.1) ((sOp σ).length) ((sTr σ).length) nx (σ.2.2.2.2.2.2.1) (σ.2.2.2.2.2.2.2) (σ.2.2.2.2.1) lo pg bo ++ (xs ++ (tb ++ op))) rfl ?_
  refine gw_callV 0 (As := [.int (s)]) (st := []) (c_bsumAt l cy ad sa ta (σ.1) ((sOp σ).length) ((sTr σ).length) nx (σ.2.2.2.2.2.2.1) (σ.2.2.2.2.2.2.2) (σ.2.2.2.2.1) lo pg bo (xs ++ (tb ++ op)) (s)) ok_X11_sumAt rfl rfl rfl wd_277 rfl rfl dX11_add_2 (by decide) (by decide) (Nat.le_of_ble_eq_true rfl) (fun r2 w2 hp2 => ?_)
  obtain ⟨rfl, rfl⟩ := hp2
  by_cases h2 : inZ (s).toInt (-1) 7 = true
  · rw [if_pos h2]
    refine gw_W.norm (st' := [.ref (sa (3 * cP (s)))]) (k1 := 0) (k2 := 0) rfl rfl rfl ?_
    refine gw_W.wd (w' := ([(ad 0, .inr (9, [.int (nI (σ.1)), .ref (ad 1), .ref (ad 2), .ref (sa (3 * 0)), .ref (ad 4), .ref (ad 5), .ref (ad 6), .int (nI ((sOp σ).length)), va_rf (lo), .int (nx), .int (σ.2.2.2.2.2.2.1), .int (σ.2.2.2.2.2.2.2), .ref (ad 12), .int (nI ((sTr σ).length)), .int (σ.2.2.2.2.1)])), (ad 1, .inl (cy 3, 9, .inr (.inr (.inr (.inr (fun i => some (sa (3 * i)))))))), (ad 2, .inl (cy 3, 9, .inr (.inr (.inr (.inr (fun i => some (sa (3 * (9 + i))))))))), (ad 5, .inl (cy 4, 8, .inr (.inr (.inr (.inr (fun i => some (ta (2 * i)))))))), (ad 6, .inl (cy 2, 40, .inr (.inr (.inr (.inr (pg)))))), (ad 12, .inl (cy 0, 16, .inl (bo)))] ++ (xs ++ (tb ++ op)))) rfl ?_
    refine gw_astore dX11_add_5 (by decide) rfl ?_
    refine gw_aload dX11_add_7 rfl ?_
    refine gw_ifnull dX11_add_9 ?_
    refine gw_aload_n dX11_add_12 rfl ?_
    refine gw_iload_n dX11_add_13 rfl ?_
    refine gw_W.wd (w' := bW cy ad sa ta (σ.1) ((sOp σ).length) ((sTr σ).length) nx (σ.2.2.2.2.2.2.1) (σ.2.2.2.2.2.2.2) (σ.2.2.2.2.1) lo pg bo ++ (xs ++ (tb ++ op))) rfl ?_
    refine gw_callV 0 (As := [.int (p)]) (st := []) (c_bisProduct l cy ad sa ta (σ.1) ((sOp σ).length) ((sTr σ).length) nx (σ.2.2.2.2.2.2.1) (σ.2.2.2.2.2.2.2) (σ.2.2.2.2.1) lo pg bo (xs ++ (tb ++ op)) (p) hn4) ok_X11_isProduct rfl rfl rfl wd_285 rfl rfl dX11_add_14 (by decide) (by decide) (Nat.le_of_ble_eq_true rfl) (fun r14 w14 hp14 => ?_)
    obtain ⟨rfl, rfl⟩ := hp14
    refine gw_W.norm (st' := [.int (bI (inZ (p).toInt 0 ((4 ^ σ.1 : Nat) - 1)))]) (k1 := 0) (k2 := 0) rfl rfl rfl ?_
    refine gw_W.wd (w' := ([(ad 0, .inr (9, [.int (nI (σ.1)), .ref (ad 1), .ref (ad 2), .ref (sa (3 * 0)), .ref (ad 4), .ref (ad 5), .ref (ad 6), .int (nI ((sOp σ).length)), va_rf (lo), .int (nx), .int (σ.2.2.2.2.2.2.1), .int (σ.2.2.2.2.2.2.2), .ref (ad 12), .int (nI ((sTr σ).length)), .int (σ.2.2.2.2.1)])), (ad 1, .inl (cy 3, 9, .inr (.inr (.inr (.inr (fun i => some (sa (3 * i)))))))), (ad 2, .inl (cy 3, 9, .inr (.inr (.inr (.inr (fun i => some (sa (3 * (9 + i))))))))), (ad 5, .inl (cy 4, 8, .inr (.inr (.inr (.inr (fun i => some (ta (2 * i)))))))), (ad 6, .inl (cy 2, 40, .inr (.inr (.inr (.inr (pg)))))), (ad 12, .inl (cy 0, 16, .inl (bo)))] ++ (xs ++ (tb ++ op)))) rfl ?_
    refine gw_if_ne (tgt := 23) dX11_add_17 (by decide) (fun c17 => ?_) (fun c17 => ?_)
    · rw [bI_n0] at c17
      obtain ⟨z1, z2, z3⟩ := csS_at hcs h2
      obtain ⟨jo, jk⟩ := addC_ok (v := v) hn4.2 c17 (okk z2)
      have li : (cs (cP s)).length ≤ 300 := by rw [z1]; exact z2.2.1
      refine gw_aload_n dX11_add_23 rfl ?_
      refine gw_get (C0 := RX11) (T := TX11) (N := 15) (ref := RX11) 0 rfl rfl inX11 4 (by decide) wd_178 (Or.inl rfl) rfl dX11_add_24 ?_
      refine gw_callHN (As := []) (st := []) ((s_begin l cy (ad 4) sa cs xs hxs).frame (w2 := ([(ad 0, .inr (9, [.int (nI (σ.1)), .ref (ad 1), .ref (ad 2), .ref (sa (3 * 0)), .ref (ad 4), .ref (ad 5), .ref (ad 6), .int (nI ((sOp σ).length)), va_rf (lo), .int (nx), .int (σ.2.2.2.2.2.2.1), .int (σ.2.2.2.2.2.2.2), .ref (ad 12), .int (nI ((sTr σ).length)), .int (σ.2.2.2.2.1)])), (ad 1, .inl (cy 3, 9, .inr (.inr (.inr (.inr (fun i => some (sa (3 * i)))))))), (ad 2, .inl (cy 3, 9, .inr (.inr (.inr (.inr (fun i => some (sa (3 * (9 + i))))))))), (ad 5, .inl (cy 4, 8, .inr (.inr (.inr (.inr (fun i => some (ta (2 * i)))))))), (ad 6, .inl (cy 2, 40, .inr (.inr (.inr (.inr (pg)))))), (ad 12, .inl (cy 0, 16, .inl (bo)))] ++ (xs ++ (tb ++ op)))) (f := ([(ad 0, .inr (9, [.int (nI (σ.1)), .ref (ad 1), .ref (ad 2), .ref (sa (3 * 0)), .ref (ad 4), .ref (ad 5), .ref (ad 6), .int (nI ((sOp σ).length)), va_rf (lo), .int (nx), .int (σ.2.2.2.2.2.2.1), .int (σ.2.2.2.2.2.2.2), .ref (ad 12), .int (nI ((sTr σ).length)), .int (σ.2.2.2.2.1)])), (ad 1, .inl (cy 3, 9, .inr (.inr (.inr (.inr (fun i => some (sa (3 * i)))))))), (ad 2, .inl (cy 3, 9, .inr (.inr (.inr (.inr (fun i => some (sa (3 * (9 + i))))))))), (ad 5, .inl (cy 4, 8, .inr (.inr (.inr (.inr (fun i => some (ta (2 * i)))))))), (ad 6, .inl (cy 2, 40, .inr (.inr (.inr (.inr (pg)))))), (ad 12, .inl (cy 0, 16, .inl (bo)))] : va_W) ++ (tb ++ op)) perm_x) ok_X4_begin (((xsP_has hxs).left).right) rfl rfl (host := "SpinBench") (by decide +kernel) rfl rfl dX11_add_27 (by decide) (by decide) (Nat.le_of_ble_eq_true rfl) (fun r27 w27 hp27 => ?_)
      obtain ⟨x27, ⟨rfl, h27⟩, rfl⟩ := hp27
      refine gw_W.norm (st' := []) (k1 := 0) (k2 := 0) rfl rfl rfl ?_
      refine gw_W.perm (w' := ([(ad 0, .inr (9, [.int (nI (σ.1)), .ref (ad 1), .ref (ad 2), .ref (sa (3 * 0)), .ref (ad 4), .ref (ad 5), .ref (ad 6), .int (nI ((sOp σ).length)), va_rf (lo), .int (nx), .int (σ.2.2.2.2.2.2.1), .int (σ.2.2.2.2.2.2.2), .ref (ad 12), .int (nI ((sTr σ).length)), .int (σ.2.2.2.2.1)])), (ad 1, .inl (cy 3, 9, .inr (.inr (.inr (.inr (fun i => some (sa (3 * i)))))))), (ad 2, .inl (cy 3, 9, .inr (.inr (.inr (.inr (fun i => some (sa (3 * (9 + i))))))))), (ad 5, .inl (cy 4, 8, .inr (.inr (.inr (.inr (fun i => some (ta (2 * i)))))))), (ad 6, .inl (cy 2, 40, .inr (.inr (.inr (.inr (pg)))))), (ad 12, .inl (cy 0, 16, .inl (bo)))] ++ (x27 ++ (tb ++ op)))) perm_x.symm ?_
      refine gw_aload_n dX11_add_30 rfl ?_
      refine gw_get (C0 := RX11) (T := TX11) (N := 15) (ref := RX11) 0 rfl rfl inX11 4 (by decide) wd_178 (Or.inl rfl) rfl dX11_add_31 ?_
      refine gw_aload dX11_add_34 rfl ?_
      refine gw_iconst (v := nI (1)) dX11_add_36 (by decide) ?_
      refine gw_callHN (As := [.ref (sa (3 * cP (s))), .int (nI (1))]) (st := []) ((s_putSum l cy (ad 4) sa cs [] x27 (cP s) (nI 1) h27 z3 (by simp only [List.length_nil]; omega)).frame (w2 := ([(ad 0, .inr (9, [.int (nI (σ.1)), .ref (ad 1), .ref (ad 2), .ref (sa (3 * 0)), .ref (ad 4), .ref (ad 5), .ref (ad 6), .int (nI ((sOp σ).length)), va_rf (lo), .int (nx), .int (σ.2.2.2.2.2.2.1), .int (σ.2.2.2.2.2.2.2), .ref (ad 12), .int (nI ((sTr σ).length)), .int (σ.2.2.2.2.1)])), (ad 1, .inl (cy 3, 9, .inr (.inr (.inr (.inr (fun i => some (sa (3 * i)))))))), (ad 2, .inl (cy 3, 9, .inr (.inr (.inr (.inr (fun i => some (sa (3 * (9 + i))))))))), (ad 5, .inl (cy 4, 8, .inr (.inr (.inr (.inr (fun i => some (ta (2 * i)))))))), (ad 6, .inl (cy 2, 40, .inr (.inr (.inr (.inr (pg)))))), (ad 12, .inl (cy 0, 16, .inl (bo)))] ++ (x27 ++ (tb ++ op)))) (f := ([(ad 0, .inr (9, [.int (nI (σ.1)), .ref (ad 1), .ref (ad 2), .ref (sa (3 * 0)), .ref (ad 4), .ref (ad 5), .ref (ad 6), .int (nI ((sOp σ).length)), va_rf (lo), .int (nx), .int (σ.2.2.2.2.2.2.1), .int (σ.2.2.2.2.2.2.2), .ref (ad 12), .int (nI ((sTr σ).length)), .int (σ.2.2.2.2.1)])), (ad 1, .inl (cy 3, 9, .inr (.inr (.inr (.inr (fun i => some (sa (3 * i)))))))), (ad 2, .inl (cy 3, 9, .inr (.inr (.inr (.inr (fun i => some (sa (3 * (9 + i))))))))), (ad 5, .inl (cy 4, 8, .inr (.inr (.inr (.inr (fun i => some (ta (2 * i)))))))), (ad 6, .inl (cy 2, 40, .inr (.inr (.inr (.inr (pg)))))), (ad 12, .inl (cy 0, 16, .inl (bo)))] : va_W) ++ (tb ++ op)) perm_x) ok_X4_putSum (((xsQ_has h27).left).right) rfl rfl (host := "SpinBench") (by decide +kernel) rfl rfl dX11_add_37 (by decide) (by decide) (Nat.le_of_ble_eq_true rfl) (fun r37 w37 hp37 => ?_)
      obtain ⟨x37, ⟨rfl, h37⟩, rfl⟩ := hp37
      refine gw_W.norm (st' := []) (k1 := 0) (k2 := 0) rfl rfl rfl ?_
      refine gw_W.perm (w' := ([(ad 0, .inr (9, [.int (nI (σ.1)), .ref (ad 1), .ref (ad 2), .ref (sa (3 * 0)), .ref (ad 4), .ref (ad 5), .ref (ad 6), .int (nI ((sOp σ).length)), va_rf (lo), .int (nx), .int (σ.2.2.2.2.2.2.1), .int (σ.2.2.2.2.2.2.2), .ref (ad 12), .int (nI ((sTr σ).length)), .int (σ.2.2.2.2.1)])), (ad 1, .inl (cy 3, 9, .inr (.inr (.inr (.inr (fun i => some (sa (3 * i)))))))), (ad 2, .inl (cy 3, 9, .inr (.inr (.inr (.inr (fun i => some (sa (3 * (9 + i))))))))), (ad 5, .inl (cy 4, 8, .inr (.inr (.inr (.inr (fun i => some (ta (2 * i)))))))), (ad 6, .inl (cy 2, 40, .inr (.inr (.inr (.inr (pg)))))), (ad 12, .inl (cy 0, 16, .inl (bo)))] ++ (x37 ++ (tb ++ op)))) perm_x.symm ?_
      refine gw_aload_n dX11_add_40 rfl ?_
      refine gw_get (C0 := RX11) (T := TX11) (N := 15) (ref := RX11) 0 rfl rfl inX11 4 (by decide) wd_178 (Or.inl rfl) rfl dX11_add_41 ?_
      refine gw_iload_n dX11_add_44 rfl ?_
      refine gw_bipush (v := nI (20)) dX11_add_45 (by decide) ?_
      refine gw_ishl dX11_add_47 ?_
      refine gw_iload_n dX11_add_48 rfl ?_
      refine gw_i2l dX11_add_49 rfl ?_
      refine gw_callHN (As := [.int ((p) <<< ((nI (20)) &&& 31)), .long ((v).toInt64)]) (st := []) ((s_put l cy (ad 4) sa cs (sPuts [] (sScale (nI 1).toInt64 (cs (cP s)))) x37 ((p) <<< ((nI (20)) &&& 31)) ((v).toInt64) h37 (by have q2 := sPuts_len [] (sScale (nI 1).toInt64 (cs (cP s))); have q3 : (sScale (nI 1).toInt64 (cs (cP s))).length = (cs (cP s)).length := List.length_map _; simp only [List.length_nil] at q2; omega)).frame (w2 := ([(ad 0, .inr (9, [.int (nI (σ.1)), .ref (ad 1), .ref (ad 2), .ref (sa (3 * 0)), .ref (ad 4), .ref (ad 5), .ref (ad 6), .int (nI ((sOp σ).length)), va_rf (lo), .int (nx), .int (σ.2.2.2.2.2.2.1), .int (σ.2.2.2.2.2.2.2), .ref (ad 12), .int (nI ((sTr σ).length)), .int (σ.2.2.2.2.1)])), (ad 1, .inl (cy 3, 9, .inr (.inr (.inr (.inr (fun i => some (sa (3 * i)))))))), (ad 2, .inl (cy 3, 9, .inr (.inr (.inr (.inr (fun i => some (sa (3 * (9 + i))))))))), (ad 5, .inl (cy 4, 8, .inr (.inr (.inr (.inr (fun i => some (ta (2 * i)))))))), (ad 6, .inl (cy 2, 40, .inr (.inr (.inr (.inr (pg)))))), (ad 12, .inl (cy 0, 16, .inl (bo)))] ++ (x37 ++ (tb ++ op)))) (f := ([(ad 0, .inr (9, [.int (nI (σ.1)), .ref (ad 1), .ref (ad 2), .ref (sa (3 * 0)), .ref (ad 4), .ref (ad 5), .ref (ad 6), .int (nI ((sOp σ).length)), va_rf (lo), .int (nx), .int (σ.2.2.2.2.2.2.1), .int (σ.2.2.2.2.2.2.2), .ref (ad 12), .int (nI ((sTr σ).length)), .int (σ.2.2.2.2.1)])), (ad 1, .inl (cy 3, 9, .inr (.inr (.inr (.inr (fun i => some (sa (3 * i)))))))), (ad 2, .inl (cy 3, 9, .inr (.inr (.inr (.inr (fun i => some (sa (3 * (9 + i))))))))), (ad 5, .inl (cy 4, 8, .inr (.inr (.inr (.inr (fun i => some (ta (2 * i)))))))), (ad 6, .inl (cy 2, 40, .inr (.inr (.inr (.inr (pg)))))), (ad 12, .inl (cy 0, 16, .inl (bo)))] : va_W) ++ (tb ++ op)) perm_x) ok_X4_put (((xsQ_has h37).left).right) rfl rfl (host := "SpinBench") (by decide +kernel) rfl rfl dX11_add_50 (by decide) (by decide) (Nat.le_of_ble_eq_true rfl) (fun r50 w50 hp50 => ?_)
      obtain ⟨x50, ⟨rfl, h50⟩, rfl⟩ := hp50
      refine gw_W.norm (st' := []) (k1 := 0) (k2 := 0) rfl rfl rfl ?_
      refine gw_W.perm (w' := ([(ad 0, .inr (9, [.int (nI (σ.1)), .ref (ad 1), .ref (ad 2), .ref (sa (3 * 0)), .ref (ad 4), .ref (ad 5), .ref (ad 6), .int (nI ((sOp σ).length)), va_rf (lo), .int (nx), .int (σ.2.2.2.2.2.2.1), .int (σ.2.2.2.2.2.2.2), .ref (ad 12), .int (nI ((sTr σ).length)), .int (σ.2.2.2.2.1)])), (ad 1, .inl (cy 3, 9, .inr (.inr (.inr (.inr (fun i => some (sa (3 * i)))))))), (ad 2, .inl (cy 3, 9, .inr (.inr (.inr (.inr (fun i => some (sa (3 * (9 + i))))))))), (ad 5, .inl (cy 4, 8, .inr (.inr (.inr (.inr (fun i => some (ta (2 * i)))))))), (ad 6, .inl (cy 2, 40, .inr (.inr (.inr (.inr (pg)))))), (ad 12, .inl (cy 0, 16, .inl (bo)))] ++ (x50 ++ (tb ++ op)))) perm_x.symm ?_
      refine gw_aload_n dX11_add_53 rfl ?_
      refine gw_get (C0 := RX11) (T := TX11) (N := 15) (ref := RX11) 0 rfl rfl inX11 4 (by decide) wd_178 (Or.inl rfl) rfl dX11_add_54 ?_
      refine gw_aload dX11_add_57 rfl ?_
      refine gw_callHN (As := [.ref (sa (3 * cP (s)))]) (st := []) ((s_settle l cy (ad 4) sa cs (addC (cs (cP s)) p v) x50 (cP s) h50 z3 (by rw [z1]; exact addC_min z2)).frame (w2 := ([(ad 0, .inr (9, [.int (nI (σ.1)), .ref (ad 1), .ref (ad 2), .ref (sa (3 * 0)), .ref (ad 4), .ref (ad 5), .ref (ad 6), .int (nI ((sOp σ).length)), va_rf (lo), .int (nx), .int (σ.2.2.2.2.2.2.1), .int (σ.2.2.2.2.2.2.2), .ref (ad 12), .int (nI ((sTr σ).length)), .int (σ.2.2.2.2.1)])), (ad 1, .inl (cy 3, 9, .inr (.inr (.inr (.inr (fun i => some (sa (3 * i)))))))), (ad 2, .inl (cy 3, 9, .inr (.inr (.inr (.inr (fun i => some (sa (3 * (9 + i))))))))), (ad 5, .inl (cy 4, 8, .inr (.inr (.inr (.inr (fun i => some (ta (2 * i)))))))), (ad 6, .inl (cy 2, 40, .inr (.inr (.inr (.inr (pg)))))), (ad 12, .inl (cy 0, 16, .inl (bo)))] ++ (x50 ++ (tb ++ op)))) (f := ([(ad 0, .inr (9, [.int (nI (σ.1)), .ref (ad 1), .ref (ad 2), .ref (sa (3 * 0)), .ref (ad 4), .ref (ad 5), .ref (ad 6), .int (nI ((sOp σ).length)), va_rf (lo), .int (nx), .int (σ.2.2.2.2.2.2.1), .int (σ.2.2.2.2.2.2.2), .ref (ad 12), .int (nI ((sTr σ).length)), .int (σ.2.2.2.2.1)])), (ad 1, .inl (cy 3, 9, .inr (.inr (.inr (.inr (fun i => some (sa (3 * i)))))))), (ad 2, .inl (cy 3, 9, .inr (.inr (.inr (.inr (fun i => some (sa (3 * (9 + i))))))))), (ad 5, .inl (cy 4, 8, .inr (.inr (.inr (.inr (fun i => some (ta (2 * i)))))))), (ad 6, .inl (cy 2, 40, .inr (.inr (.inr (.inr (pg)))))), (ad 12, .inl (cy 0, 16, .inl (bo)))] : va_W) ++ (tb ++ op)) perm_x) ok_X4_settle (((xsQ_has h50).left).right) rfl rfl (host := "SpinBench") (by decide +kernel) rfl rfl dX11_add_59 (by decide) (by decide) (Nat.le_of_ble_eq_true rfl) (fun r59 w59 hp59 => ?_)
      obtain ⟨x2, ⟨rfl, hx2⟩, rfl⟩ := hp59
      refine gw_W.norm (st' := [.int (bI (keepS (addC (cs (cP s)) p v)).isSome)]) (k1 := 0) (k2 := 0) rfl rfl rfl ?_
      refine gw_W.perm (w' := ([(ad 0, .inr (9, [.int (nI (σ.1)), .ref (ad 1), .ref (ad 2), .ref (sa (3 * 0)), .ref (ad 4), .ref (ad 5), .ref (ad 6), .int (nI ((sOp σ).length)), va_rf (lo), .int (nx), .int (σ.2.2.2.2.2.2.1), .int (σ.2.2.2.2.2.2.2), .ref (ad 12), .int (nI ((sTr σ).length)), .int (σ.2.2.2.2.1)])), (ad 1, .inl (cy 3, 9, .inr (.inr (.inr (.inr (fun i => some (sa (3 * i)))))))), (ad 2, .inl (cy 3, 9, .inr (.inr (.inr (.inr (fun i => some (sa (3 * (9 + i))))))))), (ad 5, .inl (cy 4, 8, .inr (.inr (.inr (.inr (fun i => some (ta (2 * i)))))))), (ad 6, .inl (cy 2, 40, .inr (.inr (.inr (.inr (pg)))))), (ad 12, .inl (cy 0, 16, .inl (bo)))] ++ (x2 ++ (tb ++ op)))) perm_x.symm ?_
      refine gw_if_eq (tgt := 73) dX11_add_62 (by decide) (fun c62 => ?_) (fun c62 => ?_)
      · have hF := isS_none c62
        have hx2 : xsP cy (ad 4) sa (kpc cs (cP s) (keepS (addC (cs (cP s)) p v))) x2 := hx2
        rw [hF] at hx2
        rw [z1] at hF
        refine gw_ldc dX11_add_73 wd_336 ?_
        refine gw_W.wd (w' := bW cy ad sa ta (σ.1) ((sOp σ).length) ((sTr σ).length) nx (σ.2.2.2.2.2.2.1) (σ.2.2.2.2.2.2.2) (σ.2.2.2.2.1) lo pg bo ++ (x2 ++ (tb ++ op))) rfl ?_
        refine gw_iret (?_) (by decide) (by decide) rfl dX11_add_75
        subst hpost
        unfold spAdd
        rw [if_pos ⟨h2, c17⟩]
        rw [hF]
        first
          | exact ⟨rfl, ad, sa, ta, oa, nx, lo, pg, bo, cs, x2, tb, op, td, rfl, List.Perm.refl _, hx2, hcs, htb, hop, hN, hbo⟩
          | exact ⟨rfl, ad, sa, ta, oa, nx, lo, pg, bo, va_up cs (cP s) S, x2, tb, op, td, rfl, List.Perm.refl _, hx2, csS_set hcs h2 (keepS_ok jo jk hF), htb, hop, hN, hbo⟩
      · obtain ⟨S, hF⟩ := isS_some c62
        have hx2 : xsP cy (ad 4) sa (kpc cs (cP s) (keepS (addC (cs (cP s)) p v))) x2 := hx2
        rw [hF] at hx2
        rw [z1] at hF
        obtain ⟨ka, na, u1, u2, u3, u4, u5⟩ := xsP_mem hx2 (i := cP (s)) z3
        refine gw_aload dX11_add_65 rfl ?_
        refine gw_getMN (C0 := RX9) (T := TX9) (N := 3) (ref := RX9) (List.mem_append_right _ (List.mem_append_left _ u1)) rfl inX9 2 (by decide) (host := "SpinBench") (by decide +kernel) (Or.inl rfl) rfl dX11_add_67 ?_
        refine gw_topi (y := nI (S.length)) (congrArg (fun z => nI (List.length z)) (va_up_self _ _ _)) ?_
        refine gw_goto (tgt := 75) dX11_add_70 (by decide) ?_
        refine gw_W.wd (w' := bW cy ad sa ta (σ.1) ((sOp σ).length) ((sTr σ).length) nx (σ.2.2.2.2.2.2.1) (σ.2.2.2.2.2.2.2) (σ.2.2.2.2.1) lo pg bo ++ (x2 ++ (tb ++ op))) rfl ?_
        refine gw_iret (?_) (by decide) (by decide) rfl dX11_add_75
        subst hpost
        unfold spAdd
        rw [if_pos ⟨h2, c17⟩]
        rw [hF]
        first
          | exact ⟨rfl, ad, sa, ta, oa, nx, lo, pg, bo, cs, x2, tb, op, td, rfl, List.Perm.refl _, hx2, hcs, htb, hop, hN, hbo⟩
          | exact ⟨rfl, ad, sa, ta, oa, nx, lo, pg, bo, va_up cs (cP s) S, x2, tb, op, td, rfl, List.Perm.refl _, hx2, csS_set hcs h2 (keepS_ok jo jk hF), htb, hop, hN, hbo⟩
    · rw [bI_0] at c17
      refine gw_ldc dX11_add_20 wd_233 ?_
      refine gw_W.wd (w' := bW cy ad sa ta (σ.1) ((sOp σ).length) ((sTr σ).length) nx (σ.2.2.2.2.2.2.1) (σ.2.2.2.2.2.2.2) (σ.2.2.2.2.1) lo pg bo ++ (xs ++ (tb ++ op))) rfl ?_
      refine gw_iret (?_) (by decide) (by decide) rfl dX11_add_22
      subst hpost
      unfold spAdd
      rw [if_neg (fun h => by first | exact h2 h.1 | exact absurd h.2 (by rw [c17]; decide))]
      exact ⟨rfl, ad, sa, ta, oa, nx, lo, pg, bo, cs, xs, tb, op, td, rfl, List.Perm.refl _, hxs, hcs, htb, hop, hN, hbo⟩
  · rw [if_neg h2]
    refine gw_W.norm (st' := [.null]) (k1 := 0) (k2 := 0) rfl rfl rfl ?_
    refine gw_W.wd (w' := ([(ad 0, .inr (9, [.int (nI (σ.1)), .ref (ad 1), .ref (ad 2), .ref (sa (3 * 0)), .ref (ad 4), .ref (ad 5), .ref (ad 6), .int (nI ((sOp σ).length)), va_rf (lo), .int (nx), .int (σ.2.2.2.2.2.2.1), .int (σ.2.2.2.2.2.2.2), .ref (ad 12), .int (nI ((sTr σ).length)), .int (σ.2.2.2.2.1)])), (ad 1, .inl (cy 3, 9, .inr (.inr (.inr (.inr (fun i => some (sa (3 * i)))))))), (ad 2, .inl (cy 3, 9, .inr (.inr (.inr (.inr (fun i => some (sa (3 * (9 + i))))))))), (ad 5, .inl (cy 4, 8, .inr (.inr (.inr (.inr (fun i => some (ta (2 * i)))))))), (ad 6, .inl (cy 2, 40, .inr (.inr (.inr (.inr (pg)))))), (ad 12, .inl (cy 0, 16, .inl (bo)))] ++ (xs ++ (tb ++ op)))) rfl ?_
    refine gw_astoreN dX11_add_5 (by decide) rfl ?_
    refine gw_aloadN dX11_add_7 rfl ?_
    refine gw_ifnullN (tgt := 20) dX11_add_9 (by decide) ?_
    refine gw_ldc dX11_add_20 wd_233 ?_
    refine gw_W.wd (w' := bW cy ad sa ta (σ.1) ((sOp σ).length) ((sTr σ).length) nx (σ.2.2.2.2.2.2.1) (σ.2.2.2.2.2.2.2) (σ.2.2.2.2.1) lo pg bo ++ (xs ++ (tb ++ op))) rfl ?_
    refine gw_iret (?_) (by decide) (by decide) rfl dX11_add_22
    subst hpost
    unfold spAdd
    rw [if_neg (fun h => by first | exact h2 h.1 | exact absurd h.2 (by rw [c17]; decide))]
    exact ⟨rfl, ad, sa, ta, oa, nx, lo, pg, bo, cs, xs, tb, op, td, rfl, List.Perm.refl _, hxs, hcs, htb, hop, hN, hbo⟩
abbrev kX11_product : gw_K := (yX11_product, cX11_product, 7, { frames := 5, cells := 0, slots := 0, locals := 116 }, (some .int))
theorem ok_X11_product : gw_calV kX11_product 3 := ⟨⟨wd_428, wd_57, by decide, by decide, by decide +kernel⟩, wd_426, wd_427⟩
set_option maxHeartbeats 4000000 in
set_option maxRecDepth 100000 in
theorem t_cproduct (l : Launch) (cy : Nat → ClassId) (ob : Nat) (σ : aS) (w : va_W) (hI : cInv cy ob σ w) (t a b : Int32) : gw_M l kX11_product cy [.ref (ob), .int (t), .int (a), .int (b)] (w) (cPost cy ob (spProduct σ t a b)) := by
  obtain ⟨ad, sa, ta, oa, nx, lo, pg, bo, cs, xs, tb, op, td, rfl, hw, hxs, hcs, htb, hop, hN, hbo⟩ := hI
  have hn4 : 1 ≤ σ.1 ∧ σ.1 ≤ 4 := ⟨hN.1, hN.2.1⟩
  refine gw_M.pm hw ?_
  refine gw_M.mk (lv := [some (.ref (ad 0)), some (.int (t)), some (.int (a)), some (.int (b)), none, none, none]) (by decide) (Nat.le_of_ble_eq_true rfl) rfl ?_
  generalize hpost : (cPost cy (ad 0) (spProduct σ t a b) : gw_Q) = post
  refine gw_W.wd (w' := ([(ad 0, .inr (9, [.int (nI (σ.1)), .ref (ad 1), .ref (ad 2), .ref (sa (3 * 0)), .ref (ad 4), .ref (ad 5), .ref (ad 6), .int (nI ((sOp σ).length)), va_rf (lo), .int (nx), .int (σ.2.2.2.2.2.2.1), .int (σ.2.2.2.2.2.2.2), .ref (ad 12), .int (nI ((sTr σ).length)), .int (σ.2.2.2.2.1)])), (ad 1, .inl (cy 3, 9, .inr (.inr (.inr (.inr (fun i => some (sa (3 * i)))))))), (ad 2, .inl (cy 3, 9, .inr (.inr (.inr (.inr (fun i => some (sa (3 * (9 + i))))))))), (ad 5, .inl (cy 4, 8, .inr (.inr (.inr (.inr (fun i => some (ta (2 * i)))))))), (ad 6, .inl (cy 2, 40, .inr (.inr (.inr (.inr (pg)))))), (ad 12, .inl (cy 0, 16, .inl (bo)))] ++ (xs ++ (tb ++ op)))) rfl ?_
  refine gw_aload_n dX11_product_0 rfl ?_
  refine gw_iload_n dX11_product_1 rfl ?_
  refine gw_W.wd (w' := bW cy ad sa ta (σ.1) ((sOp σ).length) ((sTr σ).length) nx (σ.2.2.2.2.2.2.1) (σ.2.2.2.2.2.2.2) (σ.2.2.2.2.1) lo pg bo ++ (xs ++ (tb ++ op))) rfl ?_
  refine gw_callV 0 (As := [.int (t)]) (st := []) (c_bsumAt l cy ad sa ta (σ.1) ((sOp σ).length) ((sTr σ).length) nx (σ.2.2.2.2.2.2.1) (σ.2.2.2.2.2.2.2) (σ.2.2.2.2.1) lo pg bo (xs ++ (tb ++ op)) (t)) ok_X11_sumAt rfl rfl rfl wd_277 rfl rfl dX11_product_2 (by decide) (by decide) (Nat.le_of_ble_eq_true rfl) (fun r2 w2 hp2 => ?_)
  obtain ⟨rfl, rfl⟩ := hp2
  by_cases h2 : inZ (t).toInt (-1) 7 = true
  · rw [if_pos h2]
    refine gw_W.norm (st' := [.ref (sa (3 * cP (t)))]) (k1 := 0) (k2 := 0) rfl rfl rfl ?_
    refine gw_W.wd (w' := ([(ad 0, .inr (9, [.int (nI (σ.1)), .ref (ad 1), .ref (ad 2), .ref (sa (3 * 0)), .ref (ad 4), .ref (ad 5), .ref (ad 6), .int (nI ((sOp σ).length)), va_rf (lo), .int (nx), .int (σ.2.2.2.2.2.2.1), .int (σ.2.2.2.2.2.2.2), .ref (ad 12), .int (nI ((sTr σ).length)), .int (σ.2.2.2.2.1)])), (ad 1, .inl (cy 3, 9, .inr (.inr (.inr (.inr (fun i => some (sa (3 * i)))))))), (ad 2, .inl (cy 3, 9, .inr (.inr (.inr (.inr (fun i => some (sa (3 * (9 + i))))))))), (ad 5, .inl (cy 4, 8, .inr (.inr (.inr (.inr (fun i => some (ta (2 * i)))))))), (ad 6, .inl (cy 2, 40, .inr (.inr (.inr (.inr (pg)))))), (ad 12, .inl (cy 0, 16, .inl (bo)))] ++ (xs ++ (tb ++ op)))) rfl ?_
    refine gw_astore dX11_product_5 (by decide) rfl ?_
    refine gw_aload_n dX11_product_7 rfl ?_
    refine gw_iload_n dX11_product_8 rfl ?_
    refine gw_W.wd (w' := bW cy ad sa ta (σ.1) ((sOp σ).length) ((sTr σ).length) nx (σ.2.2.2.2.2.2.1) (σ.2.2.2.2.2.2.2) (σ.2.2.2.2.1) lo pg bo ++ (xs ++ (tb ++ op))) rfl ?_
    refine gw_callV 0 (As := [.int (a)]) (st := []) (c_bsumAt l cy ad sa ta (σ.1) ((sOp σ).length) ((sTr σ).length) nx (σ.2.2.2.2.2.2.1) (σ.2.2.2.2.2.2.2) (σ.2.2.2.2.1) lo pg bo (xs ++ (tb ++ op)) (a)) ok_X11_sumAt rfl rfl rfl wd_277 rfl rfl dX11_product_9 (by decide) (by decide) (Nat.le_of_ble_eq_true rfl) (fun r9 w9 hp9 => ?_)
    obtain ⟨rfl, rfl⟩ := hp9
    by_cases h9 : inZ (a).toInt (-1) 7 = true
    · rw [if_pos h9]
      refine gw_W.norm (st' := [.ref (sa (3 * cP (a)))]) (k1 := 0) (k2 := 0) rfl rfl rfl ?_
      refine gw_W.wd (w' := ([(ad 0, .inr (9, [.int (nI (σ.1)), .ref (ad 1), .ref (ad 2), .ref (sa (3 * 0)), .ref (ad 4), .ref (ad 5), .ref (ad 6), .int (nI ((sOp σ).length)), va_rf (lo), .int (nx), .int (σ.2.2.2.2.2.2.1), .int (σ.2.2.2.2.2.2.2), .ref (ad 12), .int (nI ((sTr σ).length)), .int (σ.2.2.2.2.1)])), (ad 1, .inl (cy 3, 9, .inr (.inr (.inr (.inr (fun i => some (sa (3 * i)))))))), (ad 2, .inl (cy 3, 9, .inr (.inr (.inr (.inr (fun i => some (sa (3 * (9 + i))))))))), (ad 5, .inl (cy 4, 8, .inr (.inr (.inr (.inr (fun i => some (ta (2 * i)))))))), (ad 6, .inl (cy 2, 40, .inr (.inr (.inr (.inr (pg)))))), (ad 12, .inl (cy 0, 16, .inl (bo)))] ++ (xs ++ (tb ++ op)))) rfl ?_
      refine gw_astore dX11_product_12 (by decide) rfl ?_
      refine gw_aload_n dX11_product_14 rfl ?_
      refine gw_iload_n dX11_product_15 rfl ?_
      refine gw_W.wd (w' := bW cy ad sa ta (σ.1) ((sOp σ).length) ((sTr σ).length) nx (σ.2.2.2.2.2.2.1) (σ.2.2.2.2.2.2.2) (σ.2.2.2.2.1) lo pg bo ++ (xs ++ (tb ++ op))) rfl ?_
      refine gw_callV 0 (As := [.int (b)]) (st := []) (c_bsumAt l cy ad sa ta (σ.1) ((sOp σ).length) ((sTr σ).length) nx (σ.2.2.2.2.2.2.1) (σ.2.2.2.2.2.2.2) (σ.2.2.2.2.1) lo pg bo (xs ++ (tb ++ op)) (b)) ok_X11_sumAt rfl rfl rfl wd_277 rfl rfl dX11_product_16 (by decide) (by decide) (Nat.le_of_ble_eq_true rfl) (fun r16 w16 hp16 => ?_)
      obtain ⟨rfl, rfl⟩ := hp16
      by_cases h16 : inZ (b).toInt (-1) 7 = true
      · rw [if_pos h16]
        refine gw_W.norm (st' := [.ref (sa (3 * cP (b)))]) (k1 := 0) (k2 := 0) rfl rfl rfl ?_
        refine gw_W.wd (w' := ([(ad 0, .inr (9, [.int (nI (σ.1)), .ref (ad 1), .ref (ad 2), .ref (sa (3 * 0)), .ref (ad 4), .ref (ad 5), .ref (ad 6), .int (nI ((sOp σ).length)), va_rf (lo), .int (nx), .int (σ.2.2.2.2.2.2.1), .int (σ.2.2.2.2.2.2.2), .ref (ad 12), .int (nI ((sTr σ).length)), .int (σ.2.2.2.2.1)])), (ad 1, .inl (cy 3, 9, .inr (.inr (.inr (.inr (fun i => some (sa (3 * i)))))))), (ad 2, .inl (cy 3, 9, .inr (.inr (.inr (.inr (fun i => some (sa (3 * (9 + i))))))))), (ad 5, .inl (cy 4, 8, .inr (.inr (.inr (.inr (fun i => some (ta (2 * i)))))))), (ad 6, .inl (cy 2, 40, .inr (.inr (.inr (.inr (pg)))))), (ad 12, .inl (cy 0, 16, .inl (bo)))] ++ (xs ++ (tb ++ op)))) rfl ?_
        refine gw_astore dX11_product_19 (by decide) rfl ?_
        refine gw_aload dX11_product_21 rfl ?_
        refine gw_ifnull dX11_product_23 ?_
        refine gw_aload dX11_product_26 rfl ?_
        refine gw_ifnull dX11_product_28 ?_
        refine gw_aload dX11_product_31 rfl ?_
        refine gw_ifnonnull (tgt := 39) dX11_product_33 (by decide) ?_
        obtain ⟨z1, z2, z3⟩ := csS_at hcs h2
        obtain ⟨y1, y2, y3⟩ := csS_at hcs h9
        obtain ⟨x1, x2, x3⟩ := csS_at hcs h16
        refine gw_aload_n dX11_product_39 rfl ?_
        refine gw_get (C0 := RX11) (T := TX11) (N := 15) (ref := RX11) 0 rfl rfl inX11 4 (by decide) wd_178 (Or.inl rfl) rfl dX11_product_40 ?_
        refine gw_aload dX11_product_43 rfl ?_
        refine gw_aload dX11_product_45 rfl ?_
        refine gw_aload dX11_product_47 rfl ?_
        refine gw_callHN (As := [.ref (sa (3 * cP (t))), .ref (sa (3 * cP (a))), .ref (sa (3 * cP (b)))]) (st := []) ((s_multiply l cy (ad 4) sa cs xs (cP t) (cP a) (cP b) σ.1 hxs z3 y3 x3 hn4.2 (by rw [y1]; exact y2.2.2) (by rw [x1]; exact x2.2.2)).frame (w2 := ([(ad 0, .inr (9, [.int (nI (σ.1)), .ref (ad 1), .ref (ad 2), .ref (sa (3 * 0)), .ref (ad 4), .ref (ad 5), .ref (ad 6), .int (nI ((sOp σ).length)), va_rf (lo), .int (nx), .int (σ.2.2.2.2.2.2.1), .int (σ.2.2.2.2.2.2.2), .ref (ad 12), .int (nI ((sTr σ).length)), .int (σ.2.2.2.2.1)])), (ad 1, .inl (cy 3, 9, .inr (.inr (.inr (.inr (fun i => some (sa (3 * i)))))))), (ad 2, .inl (cy 3, 9, .inr (.inr (.inr (.inr (fun i => some (sa (3 * (9 + i))))))))), (ad 5, .inl (cy 4, 8, .inr (.inr (.inr (.inr (fun i => some (ta (2 * i)))))))), (ad 6, .inl (cy 2, 40, .inr (.inr (.inr (.inr (pg)))))), (ad 12, .inl (cy 0, 16, .inl (bo)))] ++ (xs ++ (tb ++ op)))) (f := ([(ad 0, .inr (9, [.int (nI (σ.1)), .ref (ad 1), .ref (ad 2), .ref (sa (3 * 0)), .ref (ad 4), .ref (ad 5), .ref (ad 6), .int (nI ((sOp σ).length)), va_rf (lo), .int (nx), .int (σ.2.2.2.2.2.2.1), .int (σ.2.2.2.2.2.2.2), .ref (ad 12), .int (nI ((sTr σ).length)), .int (σ.2.2.2.2.1)])), (ad 1, .inl (cy 3, 9, .inr (.inr (.inr (.inr (fun i => some (sa (3 * i)))))))), (ad 2, .inl (cy 3, 9, .inr (.inr (.inr (.inr (fun i => some (sa (3 * (9 + i))))))))), (ad 5, .inl (cy 4, 8, .inr (.inr (.inr (.inr (fun i => some (ta (2 * i)))))))), (ad 6, .inl (cy 2, 40, .inr (.inr (.inr (.inr (pg)))))), (ad 12, .inl (cy 0, 16, .inl (bo)))] : va_W) ++ (tb ++ op)) perm_x) ok_X4_multiply (((xsP_has hxs).left).right) rfl rfl (host := "SpinBench") (by decide +kernel) rfl rfl dX11_product_49 (by decide) (by decide) (Nat.le_of_ble_eq_true rfl) (fun r49 w49 hp49 => ?_)
        obtain ⟨xw, ⟨rfl, hx2⟩, rfl⟩ := hp49
        refine gw_W.norm (st' := [.int (bI (prF (cs (cP a)) (cs (cP b))).isSome)]) (k1 := 0) (k2 := 0) rfl rfl rfl ?_
        refine gw_W.perm (w' := ([(ad 0, .inr (9, [.int (nI (σ.1)), .ref (ad 1), .ref (ad 2), .ref (sa (3 * 0)), .ref (ad 4), .ref (ad 5), .ref (ad 6), .int (nI ((sOp σ).length)), va_rf (lo), .int (nx), .int (σ.2.2.2.2.2.2.1), .int (σ.2.2.2.2.2.2.2), .ref (ad 12), .int (nI ((sTr σ).length)), .int (σ.2.2.2.2.1)])), (ad 1, .inl (cy 3, 9, .inr (.inr (.inr (.inr (fun i => some (sa (3 * i)))))))), (ad 2, .inl (cy 3, 9, .inr (.inr (.inr (.inr (fun i => some (sa (3 * (9 + i))))))))), (ad 5, .inl (cy 4, 8, .inr (.inr (.inr (.inr (fun i => some (ta (2 * i)))))))), (ad 6, .inl (cy 2, 40, .inr (.inr (.inr (.inr (pg)))))), (ad 12, .inl (cy 0, 16, .inl (bo)))] ++ (xw ++ (tb ++ op)))) perm_x.symm ?_
        refine gw_if_eq (tgt := 63) dX11_product_52 (by decide) (fun c52 => ?_) (fun c52 => ?_)
        · have hF := isS_none c52
          rw [hF] at hx2
          rw [y1, x1] at hF
          refine gw_ldc dX11_product_63 wd_336 ?_
          refine gw_W.wd (w' := bW cy ad sa ta (σ.1) ((sOp σ).length) ((sTr σ).length) nx (σ.2.2.2.2.2.2.1) (σ.2.2.2.2.2.2.2) (σ.2.2.2.2.1) lo pg bo ++ (xw ++ (tb ++ op))) rfl ?_
          refine gw_iret (?_) (by decide) (by decide) rfl dX11_product_65
          subst hpost
          rw [prF_sp ⟨h2, h9, h16⟩, hF]
          first
            | exact ⟨rfl, ad, sa, ta, oa, nx, lo, pg, bo, cs, xw, tb, op, td, rfl, List.Perm.refl _, hx2, hcs, htb, hop, hN, hbo⟩
            | exact ⟨rfl, ad, sa, ta, oa, nx, lo, pg, bo, va_up cs (cP t) S, xw, tb, op, td, rfl, List.Perm.refl _, hx2, csS_set hcs h2 (prF_ok hn4.2 (okk y2) (okk x2) hF), htb, hop, hN, hbo⟩
        · obtain ⟨S, hF⟩ := isS_some c52
          rw [hF] at hx2
          rw [y1, x1] at hF
          obtain ⟨ka, na, u1, u2, u3, u4, u5⟩ := xsP_mem hx2 (i := cP (t)) z3
          refine gw_aload dX11_product_55 rfl ?_
          refine gw_getMN (C0 := RX9) (T := TX9) (N := 3) (ref := RX9) (List.mem_append_right _ (List.mem_append_left _ u1)) rfl inX9 2 (by decide) (host := "SpinBench") (by decide +kernel) (Or.inl rfl) rfl dX11_product_57 ?_
          refine gw_topi (y := nI (S.length)) (congrArg (fun z => nI (List.length z)) (va_up_self _ _ _)) ?_
          refine gw_goto (tgt := 65) dX11_product_60 (by decide) ?_
          refine gw_W.wd (w' := bW cy ad sa ta (σ.1) ((sOp σ).length) ((sTr σ).length) nx (σ.2.2.2.2.2.2.1) (σ.2.2.2.2.2.2.2) (σ.2.2.2.2.1) lo pg bo ++ (xw ++ (tb ++ op))) rfl ?_
          refine gw_iret (?_) (by decide) (by decide) rfl dX11_product_65
          subst hpost
          rw [prF_sp ⟨h2, h9, h16⟩, hF]
          first
            | exact ⟨rfl, ad, sa, ta, oa, nx, lo, pg, bo, cs, xw, tb, op, td, rfl, List.Perm.refl _, hx2, hcs, htb, hop, hN, hbo⟩
            | exact ⟨rfl, ad, sa, ta, oa, nx, lo, pg, bo, va_up cs (cP t) S, xw, tb, op, td, rfl, List.Perm.refl _, hx2, csS_set hcs h2 (prF_ok hn4.2 (okk y2) (okk x2) hF), htb, hop, hN, hbo⟩
      · rw [if_neg h16]
        refine gw_W.norm (st' := [.null]) (k1 := 0) (k2 := 0) rfl rfl rfl ?_
        refine gw_W.wd (w' := ([(ad 0, .inr (9, [.int (nI (σ.1)), .ref (ad 1), .ref (ad 2), .ref (sa (3 * 0)), .ref (ad 4), .ref (ad 5), .ref (ad 6), .int (nI ((sOp σ).length)), va_rf (lo), .int (nx), .int (σ.2.2.2.2.2.2.1), .int (σ.2.2.2.2.2.2.2), .ref (ad 12), .int (nI ((sTr σ).length)), .int (σ.2.2.2.2.1)])), (ad 1, .inl (cy 3, 9, .inr (.inr (.inr (.inr (fun i => some (sa (3 * i)))))))), (ad 2, .inl (cy 3, 9, .inr (.inr (.inr (.inr (fun i => some (sa (3 * (9 + i))))))))), (ad 5, .inl (cy 4, 8, .inr (.inr (.inr (.inr (fun i => some (ta (2 * i)))))))), (ad 6, .inl (cy 2, 40, .inr (.inr (.inr (.inr (pg)))))), (ad 12, .inl (cy 0, 16, .inl (bo)))] ++ (xs ++ (tb ++ op)))) rfl ?_
        refine gw_astoreN dX11_product_19 (by decide) rfl ?_
        refine gw_aload dX11_product_21 rfl ?_
        refine gw_ifnull dX11_product_23 ?_
        refine gw_aload dX11_product_26 rfl ?_
        refine gw_ifnull dX11_product_28 ?_
        refine gw_aloadN dX11_product_31 rfl ?_
        refine gw_ifnonnullN dX11_product_33 ?_
        refine gw_ldc dX11_product_36 wd_233 ?_
        refine gw_W.wd (w' := bW cy ad sa ta (σ.1) ((sOp σ).length) ((sTr σ).length) nx (σ.2.2.2.2.2.2.1) (σ.2.2.2.2.2.2.2) (σ.2.2.2.2.1) lo pg bo ++ (xs ++ (tb ++ op))) rfl ?_
        refine gw_iret (?_) (by decide) (by decide) rfl dX11_product_38
        subst hpost
        unfold spProduct
        rw [if_neg (fun h => by first | exact h2 h.1 | exact h9 h.2.1 | exact h16 h.2.2)]
        exact ⟨rfl, ad, sa, ta, oa, nx, lo, pg, bo, cs, xs, tb, op, td, rfl, List.Perm.refl _, hxs, hcs, htb, hop, hN, hbo⟩
    · rw [if_neg h9]
      refine gw_W.norm (st' := [.null]) (k1 := 0) (k2 := 0) rfl rfl rfl ?_
      refine gw_W.wd (w' := ([(ad 0, .inr (9, [.int (nI (σ.1)), .ref (ad 1), .ref (ad 2), .ref (sa (3 * 0)), .ref (ad 4), .ref (ad 5), .ref (ad 6), .int (nI ((sOp σ).length)), va_rf (lo), .int (nx), .int (σ.2.2.2.2.2.2.1), .int (σ.2.2.2.2.2.2.2), .ref (ad 12), .int (nI ((sTr σ).length)), .int (σ.2.2.2.2.1)])), (ad 1, .inl (cy 3, 9, .inr (.inr (.inr (.inr (fun i => some (sa (3 * i)))))))), (ad 2, .inl (cy 3, 9, .inr (.inr (.inr (.inr (fun i => some (sa (3 * (9 + i))))))))), (ad 5, .inl (cy 4, 8, .inr (.inr (.inr (.inr (fun i => some (ta (2 * i)))))))), (ad 6, .inl (cy 2, 40, .inr (.inr (.inr (.inr (pg)))))), (ad 12, .inl (cy 0, 16, .inl (bo)))] ++ (xs ++ (tb ++ op)))) rfl ?_
      refine gw_astoreN dX11_product_12 (by decide) rfl ?_
      refine gw_aload_n dX11_product_14 rfl ?_
      refine gw_iload_n dX11_product_15 rfl ?_
      refine gw_W.wd (w' := bW cy ad sa ta (σ.1) ((sOp σ).length) ((sTr σ).length) nx (σ.2.2.2.2.2.2.1) (σ.2.2.2.2.2.2.2) (σ.2.2.2.2.1) lo pg bo ++ (xs ++ (tb ++ op))) rfl ?_
      refine gw_callV 0 (As := [.int (b)]) (st := []) (c_bsumAt l cy ad sa ta (σ.1) ((sOp σ).length) ((sTr σ).length) nx (σ.2.2.2.2.2.2.1) (σ.2.2.2.2.2.2.2) (σ.2.2.2.2.1) lo pg bo (xs ++ (tb ++ op)) (b)) ok_X11_sumAt rfl rfl rfl wd_277 rfl rfl dX11_product_16 (by decide) (by decide) (Nat.le_of_ble_eq_true rfl) (fun r16 w16 hp16 => ?_)
      obtain ⟨rfl, rfl⟩ := hp16
      by_cases h16 : inZ (b).toInt (-1) 7 = true
      · rw [if_pos h16]
        refine gw_W.norm (st' := [.ref (sa (3 * cP (b)))]) (k1 := 0) (k2 := 0) rfl rfl rfl ?_
        refine gw_W.wd (w' := ([(ad 0, .inr (9, [.int (nI (σ.1)), .ref (ad 1), .ref (ad 2), .ref (sa (3 * 0)), .ref (ad 4), .ref (ad 5), .ref (ad 6), .int (nI ((sOp σ).length)), va_rf (lo), .int (nx), .int (σ.2.2.2.2.2.2.1), .int (σ.2.2.2.2.2.2.2), .ref (ad 12), .int (nI ((sTr σ).length)), .int (σ.2.2.2.2.1)])), (ad 1, .inl (cy 3, 9, .inr (.inr (.inr (.inr (fun i => some (sa (3 * i)))))))), (ad 2, .inl (cy 3, 9, .inr (.inr (.inr (.inr (fun i => some (sa (3 * (9 + i))))))))), (ad 5, .inl (cy 4, 8, .inr (.inr (.inr (.inr (fun i => some (ta (2 * i)))))))), (ad 6, .inl (cy 2, 40, .inr (.inr (.inr (.inr (pg)))))), (ad 12, .inl (cy 0, 16, .inl (bo)))] ++ (xs ++ (tb ++ op)))) rfl ?_
        refine gw_astore dX11_product_19 (by decide) rfl ?_
        refine gw_aload dX11_product_21 rfl ?_
        refine gw_ifnull dX11_product_23 ?_
        refine gw_aloadN dX11_product_26 rfl ?_
        refine gw_ifnullN (tgt := 36) dX11_product_28 (by decide) ?_
        refine gw_ldc dX11_product_36 wd_233 ?_
        refine gw_W.wd (w' := bW cy ad sa ta (σ.1) ((sOp σ).length) ((sTr σ).length) nx (σ.2.2.2.2.2.2.1) (σ.2.2.2.2.2.2.2) (σ.2.2.2.2.1) lo pg bo ++ (xs ++ (tb ++ op))) rfl ?_
        refine gw_iret (?_) (by decide) (by decide) rfl dX11_product_38
        subst hpost
        unfold spProduct
        rw [if_neg (fun h => by first | exact h2 h.1 | exact h9 h.2.1 | exact h16 h.2.2)]
        exact ⟨rfl, ad, sa, ta, oa, nx, lo, pg, bo, cs, xs, tb, op, td, rfl, List.Perm.refl _, hxs, hcs, htb, hop, hN, hbo⟩
      · rw [if_neg h16]
        refine gw_W.norm (st' := [.null]) (k1 := 0) (k2 := 0) rfl rfl rfl ?_
        refine gw_W.wd (w' := ([(ad 0, .inr (9, [.int (nI (σ.1)), .ref (ad 1), .ref (ad 2), .ref (sa (3 * 0)), .ref (ad 4), .ref (ad 5), .ref (ad 6), .int (nI ((sOp σ).length)), va_rf (lo), .int (nx), .int (σ.2.2.2.2.2.2.1), .int (σ.2.2.2.2.2.2.2), .ref (ad 12), .int (nI ((sTr σ).length)), .int (σ.2.2.2.2.1)])), (ad 1, .inl (cy 3, 9, .inr (.inr (.inr (.inr (fun i => some (sa (3 * i)))))))), (ad 2, .inl (cy 3, 9, .inr (.inr (.inr (.inr (fun i => some (sa (3 * (9 + i))))))))), (ad 5, .inl (cy 4, 8, .inr (.inr (.inr (.inr (fun i => some (ta (2 * i)))))))), (ad 6, .inl (cy 2, 40, .inr (.inr (.inr (.inr (pg)))))), (ad 12, .inl (cy 0, 16, .inl (bo)))] ++ (xs ++ (tb ++ op)))) rfl ?_
        refine gw_astoreN dX11_product_19 (by decide) rfl ?_
        refine gw_aload dX11_product_21 rfl ?_
        refine gw_ifnull dX11_product_23 ?_
        refine gw_aloadN dX11_product_26 rfl ?_
        refine gw_ifnullN (tgt := 36) dX11_product_28 (by decide) ?_
        refine gw_ldc dX11_product_36 wd_233 ?_
        refine gw_W.wd (w' := bW cy ad sa ta (σ.1) ((sOp σ).length) ((sTr σ).length) nx (σ.2.2.2.2.2.2.1) (σ.2.2.2.2.2.2.2) (σ.2.2.2.2.1) lo pg bo ++ (xs ++ (tb ++ op))) rfl ?_
        refine gw_iret (?_) (by decide) (by decide) rfl dX11_product_38
        subst hpost
        unfold spProduct
        rw [if_neg (fun h => by first | exact h2 h.1 | exact h9 h.2.1 | exact h16 h.2.2)]
        exact ⟨rfl, ad, sa, ta, oa, nx, lo, pg, bo, cs, xs, tb, op, td, rfl, List.Perm.refl _, hxs, hcs, htb, hop, hN, hbo⟩
  · rw [if_neg h2]
    refine gw_W.norm (st' := [.null]) (k1 := 0) (k2 := 0) rfl rfl rfl ?_
    refine gw_W.wd (w' := ([(ad 0, .inr (9, [.int (nI (σ.1)), .ref (ad 1), .ref (ad 2), .ref (sa (3 * 0)), .ref (ad 4), .ref (ad 5), .ref (ad 6), .int (nI ((sOp σ).length)), va_rf (lo), .int (nx), .int (σ.2.2.2.2.2.2.1), .int (σ.2.2.2.2.2.2.2), .ref (ad 12), .int (nI ((sTr σ).length)), .int (σ.2.2.2.2.1)])), (ad 1, .inl (cy 3, 9, .inr (.inr (.inr (.inr (fun i => some (sa (3 * i)))))))), (ad 2, .inl (cy 3, 9, .inr (.inr (.inr (.inr (fun i => some (sa (3 * (9 + i))))))))), (ad 5, .inl (cy 4, 8, .inr (.inr (.inr (.inr (fun i => some (ta (2 * i)))))))), (ad 6, .inl (cy 2, 40, .inr (.inr (.inr (.inr (pg)))))), (ad 12, .inl (cy 0, 16, .inl (bo)))] ++ (xs ++ (tb ++ op)))) rfl ?_
    refine gw_astoreN dX11_product_5 (by decide) rfl ?_
    refine gw_aload_n dX11_product_7 rfl ?_
    refine gw_iload_n dX11_product_8 rfl ?_
    refine gw_W.wd (w' := bW cy ad sa ta (σ.1) ((sOp σ).length) ((sTr σ).length) nx (σ.2.2.2.2.2.2.1) (σ.2.2.2.2.2.2.2) (σ.2.2.2.2.1) lo pg bo ++ (xs ++ (tb ++ op))) rfl ?_
    refine gw_callV 0 (As := [.int (a)]) (st := []) (c_bsumAt l cy ad sa ta (σ.1) ((sOp σ).length) ((sTr σ).length) nx (σ.2.2.2.2.2.2.1) (σ.2.2.2.2.2.2.2) (σ.2.2.2.2.1) lo pg bo (xs ++ (tb ++ op)) (a)) ok_X11_sumAt rfl rfl rfl wd_277 rfl rfl dX11_product_9 (by decide) (by decide) (Nat.le_of_ble_eq_true rfl) (fun r9 w9 hp9 => ?_)
    obtain ⟨rfl, rfl⟩ := hp9
    by_cases h9 : inZ (a).toInt (-1) 7 = true
    · rw [if_pos h9]
      refine gw_W.norm (st' := [.ref (sa (3 * cP (a)))]) (k1 := 0) (k2 := 0) rfl rfl rfl ?_
      refine gw_W.wd (w' := ([(ad 0, .inr (9, [.int (nI (σ.1)), .ref (ad 1), .ref (ad 2), .ref (sa (3 * 0)), .ref (ad 4), .ref (ad 5), .ref (ad 6), .int (nI ((sOp σ).length)), va_rf (lo), .int (nx), .int (σ.2.2.2.2.2.2.1), .int (σ.2.2.2.2.2.2.2), .ref (ad 12), .int (nI ((sTr σ).length)), .int (σ.2.2.2.2.1)])), (ad 1, .inl (cy 3, 9, .inr (.inr (.inr (.inr (fun i => some (sa (3 * i)))))))), (ad 2, .inl (cy 3, 9, .inr (.inr (.inr (.inr (fun i => some (sa (3 * (9 + i))))))))), (ad 5, .inl (cy 4, 8, .inr (.inr (.inr (.inr (fun i => some (ta (2 * i)))))))), (ad 6, .inl (cy 2, 40, .inr (.inr (.inr (.inr (pg)))))), (ad 12, .inl (cy 0, 16, .inl (bo)))] ++ (xs ++ (tb ++ op)))) rfl ?_
      refine gw_astore dX11_product_12 (by decide) rfl ?_
      refine gw_aload_n dX11_product_14 rfl ?_
      refine gw_iload_n dX11_product_15 rfl ?_
      refine gw_W.wd (w' := bW cy ad sa ta (σ.1) ((sOp σ).length) ((sTr σ).length) nx (σ.2.2.2.2.2.2.1) (σ.2.2.2.2.2.2.2) (σ.2.2.2.2.1) lo pg bo ++ (xs ++ (tb ++ op))) rfl ?_
      refine gw_callV 0 (As := [.int (b)]) (st := []) (c_bsumAt l cy ad sa ta (σ.1) ((sOp σ).length) ((sTr σ).length) nx (σ.2.2.2.2.2.2.1) (σ.2.2.2.2.2.2.2) (σ.2.2.2.2.1) lo pg bo (xs ++ (tb ++ op)) (b)) ok_X11_sumAt rfl rfl rfl wd_277 rfl rfl dX11_product_16 (by decide) (by decide) (Nat.le_of_ble_eq_true rfl) (fun r16 w16 hp16 => ?_)
      obtain ⟨rfl, rfl⟩ := hp16
      by_cases h16 : inZ (b).toInt (-1) 7 = true
      · rw [if_pos h16]
        refine gw_W.norm (st' := [.ref (sa (3 * cP (b)))]) (k1 := 0) (k2 := 0) rfl rfl rfl ?_
        refine gw_W.wd (w' := ([(ad 0, .inr (9, [.int (nI (σ.1)), .ref (ad 1), .ref (ad 2), .ref (sa (3 * 0)), .ref (ad 4), .ref (ad 5), .ref (ad 6), .int (nI ((sOp σ).length)), va_rf (lo), .int (nx), .int (σ.2.2.2.2.2.2.1), .int (σ.2.2.2.2.2.2.2), .ref (ad 12), .int (nI ((sTr σ).length)), .int (σ.2.2.2.2.1)])), (ad 1, .inl (cy 3, 9, .inr (.inr (.inr (.inr (fun i => some (sa (3 * i)))))))), (ad 2, .inl (cy 3, 9, .inr (.inr (.inr (.inr (fun i => some (sa (3 * (9 + i))))))))), (ad 5, .inl (cy 4, 8, .inr (.inr (.inr (.inr (fun i => some (ta (2 * i)))))))), (ad 6, .inl (cy 2, 40, .inr (.inr (.inr (.inr (pg)))))), (ad 12, .inl (cy 0, 16, .inl (bo)))] ++ (xs ++ (tb ++ op)))) rfl ?_
        refine gw_astore dX11_product_19 (by decide) rfl ?_
        refine gw_aloadN dX11_product_21 rfl ?_
        refine gw_ifnullN (tgt := 36) dX11_product_23 (by decide) ?_
        refine gw_ldc dX11_product_36 wd_233 ?_
        refine gw_W.wd (w' := bW cy ad sa ta (σ.1) ((sOp σ).length) ((sTr σ).length) nx (σ.2.2.2.2.2.2.1) (σ.2.2.2.2.2.2.2) (σ.2.2.2.2.1) lo pg bo ++ (xs ++ (tb ++ op))) rfl ?_
        refine gw_iret (?_) (by decide) (by decide) rfl dX11_product_38
        subst hpost
        unfold spProduct
        rw [if_neg (fun h => by first | exact h2 h.1 | exact h9 h.2.1 | exact h16 h.2.2)]
        exact ⟨rfl, ad, sa, ta, oa, nx, lo, pg, bo, cs, xs, tb, op, td, rfl, List.Perm.refl _, hxs, hcs, htb, hop, hN, hbo⟩
      · rw [if_neg h16]
        refine gw_W.norm (st' := [.null]) (k1 := 0) (k2 := 0) rfl rfl rfl ?_
        refine gw_W.wd (w' := ([(ad 0, .inr (9, [.int (nI (σ.1)), .ref (ad 1), .ref (ad 2), .ref (sa (3 * 0)), .ref (ad 4), .ref (ad 5), .ref (ad 6), .int (nI ((sOp σ).length)), va_rf (lo), .int (nx), .int (σ.2.2.2.2.2.2.1), .int (σ.2.2.2.2.2.2.2), .ref (ad 12), .int (nI ((sTr σ).length)), .int (σ.2.2.2.2.1)])), (ad 1, .inl (cy 3, 9, .inr (.inr (.inr (.inr (fun i => some (sa (3 * i)))))))), (ad 2, .inl (cy 3, 9, .inr (.inr (.inr (.inr (fun i => some (sa (3 * (9 + i))))))))), (ad 5, .inl (cy 4, 8, .inr (.inr (.inr (.inr (fun i => some (ta (2 * i)))))))), (ad 6, .inl (cy 2, 40, .inr (.inr (.inr (.inr (pg)))))), (ad 12, .inl (cy 0, 16, .inl (bo)))] ++ (xs ++ (tb ++ op)))) rfl ?_
        refine gw_astoreN dX11_product_19 (by decide) rfl ?_
        refine gw_aloadN dX11_product_21 rfl ?_
        refine gw_ifnullN (tgt := 36) dX11_product_23 (by decide) ?_
        refine gw_ldc dX11_product_36 wd_233 ?_
        refine gw_W.wd (w' := bW cy ad sa ta (σ.1) ((sOp σ).length) ((sTr σ).length) nx (σ.2.2.2.2.2.2.1) (σ.2.2.2.2.2.2.2) (σ.2.2.2.2.1) lo pg bo ++ (xs ++ (tb ++ op))) rfl ?_
        refine gw_iret (?_) (by decide) (by decide) rfl dX11_product_38
        subst hpost
        unfold spProduct
        rw [if_neg (fun h => by first | exact h2 h.1 | exact h9 h.2.1 | exact h16 h.2.2)]
        exact ⟨rfl, ad, sa, ta, oa, nx, lo, pg, bo, cs, xs, tb, op, td, rfl, List.Perm.refl _, hxs, hcs, htb, hop, hN, hbo⟩
    · rw [if_neg h9]
      refine gw_W.norm (st' := [.null]) (k1 := 0) (k2 := 0) rfl rfl rfl ?_
      refine gw_W.wd (w' := ([(ad 0, .inr (9, [.int (nI (σ.1)), .ref (ad 1), .ref (ad 2), .ref (sa (3 * 0)), .ref (ad 4), .ref (ad 5), .ref (ad 6), .int (nI ((sOp σ).length)), va_rf (lo), .int (nx), .int (σ.2.2.2.2.2.2.1), .int (σ.2.2.2.2.2.2.2), .ref (ad 12), .int (nI ((sTr σ).length)), .int (σ.2.2.2.2.1)])), (ad 1, .inl (cy 3, 9, .inr (.inr (.inr (.inr (fun i => some (sa (3 * i)))))))), (ad 2, .inl (cy 3, 9, .inr (.inr (.inr (.inr (fun i => some (sa (3 * (9 + i))))))))), (ad 5, .inl (cy 4, 8, .inr (.inr (.inr (.inr (fun i => some (ta (2 * i)))))))), (ad 6, .inl (cy 2, 40, .inr (.inr (.inr (.inr (pg)))))), (ad 12, .inl (cy 0, 16, .inl (bo)))] ++ (xs ++ (tb ++ op)))) rfl ?_
      refine gw_astoreN dX11_product_12 (by decide) rfl ?_
      refine gw_aload_n dX11_product_14 rfl ?_
      refine gw_iload_n dX11_product_15 rfl ?_
      refine gw_W.wd (w' := bW cy ad sa ta (σ.1) ((sOp σ).length) ((sTr σ).length) nx (σ.2.2.2.2.2.2.1) (σ.2.2.2.2.2.2.2) (σ.2.2.2.2.1) lo pg bo ++ (xs ++ (tb ++ op))) rfl ?_
      refine gw_callV 0 (As := [.int (b)]) (st := []) (c_bsumAt l cy ad sa ta (σ.1) ((sOp σ).length) ((sTr σ).length) nx (σ.2.2.2.2.2.2.1) (σ.2.2.2.2.2.2.2) (σ.2.2.2.2.1) lo pg bo (xs ++ (tb ++ op)) (b)) ok_X11_sumAt rfl rfl rfl wd_277 rfl rfl dX11_product_16 (by decide) (by decide) (Nat.le_of_ble_eq_true rfl) (fun r16 w16 hp16 => ?_)
      obtain ⟨rfl, rfl⟩ := hp16
      by_cases h16 : inZ (b).toInt (-1) 7 = true
      · rw [if_pos h16]
        refine gw_W.norm (st' := [.ref (sa (3 * cP (b)))]) (k1 := 0) (k2 := 0) rfl rfl rfl ?_
        refine gw_W.wd (w' := ([(ad 0, .inr (9, [.int (nI (σ.1)), .ref (ad 1), .ref (ad 2), .ref (sa (3 * 0)), .ref (ad 4), .ref (ad 5), .ref (ad 6), .int (nI ((sOp σ).length)), va_rf (lo), .int (nx), .int (σ.2.2.2.2.2.2.1), .int (σ.2.2.2.2.2.2.2), .ref (ad 12), .int (nI ((sTr σ).length)), .int (σ.2.2.2.2.1)])), (ad 1, .inl (cy 3, 9, .inr (.inr (.inr (.inr (fun i => some (sa (3 * i)))))))), (ad 2, .inl (cy 3, 9, .inr (.inr (.inr (.inr (fun i => some (sa (3 * (9 + i))))))))), (ad 5, .inl (cy 4, 8, .inr (.inr (.inr (.inr (fun i => some (ta (2 * i)))))))), (ad 6, .inl (cy 2, 40, .inr (.inr (.inr (.inr (pg)))))), (ad 12, .inl (cy 0, 16, .inl (bo)))] ++ (xs ++ (tb ++ op)))) rfl ?_
        refine gw_astore dX11_product_19 (by decide) rfl ?_
        refine gw_aloadN dX11_product_21 rfl ?_
        refine gw_ifnullN (tgt := 36) dX11_product_23 (by decide) ?_
        refine gw_ldc dX11_product_36 wd_233 ?_
        refine gw_W.wd (w' := bW cy ad sa ta (σ.1) ((sOp σ).length) ((sTr σ).length) nx (σ.2.2.2.2.2.2.1) (σ.2.2.2.2.2.2.2) (σ.2.2.2.2.1) lo pg bo ++ (xs ++ (tb ++ op))) rfl ?_
        refine gw_iret (?_) (by decide) (by decide) rfl dX11_product_38
        subst hpost
        unfold spProduct
        rw [if_neg (fun h => by first | exact h2 h.1 | exact h9 h.2.1 | exact h16 h.2.2)]
        exact ⟨rfl, ad, sa, ta, oa, nx, lo, pg, bo, cs, xs, tb, op, td, rfl, List.Perm.refl _, hxs, hcs, htb, hop, hN, hbo⟩
      · rw [if_neg h16]
        refine gw_W.norm (st' := [.null]) (k1 := 0) (k2 := 0) rfl rfl rfl ?_
        refine gw_W.wd (w' := ([(ad 0, .inr (9, [.int (nI (σ.1)), .ref (ad 1), .ref (ad 2), .ref (sa (3 * 0)), .ref (ad 4), .ref (ad 5), .ref (ad 6), .int (nI ((sOp σ).length)), va_rf (lo), .int (nx), .int (σ.2.2.2.2.2.2.1), .int (σ.2.2.2.2.2.2.2), .ref (ad 12), .int (nI ((sTr σ).length)), .int (σ.2.2.2.2.1)])), (ad 1, .inl (cy 3, 9, .inr (.inr (.inr (.inr (fun i => some (sa (3 * i)))))))), (ad 2, .inl (cy 3, 9, .inr (.inr (.inr (.inr (fun i => some (sa (3 * (9 + i))))))))), (ad 5, .inl (cy 4, 8, .inr (.inr (.inr (.inr (fun i => some (ta (2 * i)))))))), (ad 6, .inl (cy 2, 40, .inr (.inr (.inr (.inr (pg)))))), (ad 12, .inl (cy 0, 16, .inl (bo)))] ++ (xs ++ (tb ++ op)))) rfl ?_
        refine gw_astoreN dX11_product_19 (by decide) rfl ?_
        refine gw_aloadN dX11_product_21 rfl ?_
        refine gw_ifnullN (tgt := 36) dX11_product_23 (by decide) ?_
        refine gw_ldc dX11_product_36 wd_233 ?_
        refine gw_W.wd (w' := bW cy ad sa ta (σ.1) ((sOp σ).length) ((sTr σ).length) nx (σ.2.2.2.2.2.2.1) (σ.2.2.2.2.2.2.2) (σ.2.2.2.2.1) lo pg bo ++ (xs ++ (tb ++ op))) rfl ?_
        refine gw_iret (?_) (by decide) (by decide) rfl dX11_product_38
        subst hpost
        unfold spProduct
        rw [if_neg (fun h => by first | exact h2 h.1 | exact h9 h.2.1 | exact h16 h.2.2)]
        exact ⟨rfl, ad, sa, ta, oa, nx, lo, pg, bo, cs, xs, tb, op, td, rfl, List.Perm.refl _, hxs, hcs, htb, hop, hN, hbo⟩
