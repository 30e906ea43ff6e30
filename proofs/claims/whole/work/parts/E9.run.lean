/-! run -/
def cA (cs : Nat → List sT) (i : Nat) : Nat → List sT := fun k => if 9 ≤ k ∧ k < 9 + i then cs (k - 9) else cs k
def cB (cs : Nat → List sT) (i : Nat) : Nat → List sT := fun k => if k < i then cs (9 + k) else cs k
theorem cA_up {cs : Nat → List sT} {i : Nat} (hi : i < 9) : va_up (cA cs i) (9 + i) (cA cs i i) = cA cs (i + 1) := by
  funext k
  by_cases e : k = 9 + i
  · subst e; rw [va_up_self]; unfold cA; rw [if_neg (by omega), if_pos (by omega), show 9 + i - 9 = i by omega]
  · rw [va_up_ne _ _ e]; unfold cA
    by_cases c : 9 ≤ k ∧ k < 9 + i
    · rw [if_pos c, if_pos (by omega)]
    · rw [if_neg c, if_neg (by omega)]
theorem cB_up {cs : Nat → List sT} {i : Nat} (hi : i < 9) : va_up (cB cs i) i (cB cs i (9 + i)) = cB cs (i + 1) := by
  funext k
  by_cases e : k = i
  · subst e; rw [va_up_self]; unfold cB; rw [if_neg (by omega), if_pos (by omega)]
  · rw [va_up_ne _ _ e]; unfold cB
    by_cases c : k < i
    · rw [if_pos c, if_pos (by omega)]
    · rw [if_neg c, if_neg (by omega)]
theorem cA_0 {cs : Nat → List sT} : cA cs 0 = cs := by funext k; unfold cA; rw [if_neg (by omega)]
theorem cB_0 {cs : Nat → List sT} : cB cs 0 = cs := by funext k; unfold cB; rw [if_neg (by omega)]
theorem opAt_n {pg : Nat → Option Nat} {oa : Nat → Nat} {n q : Nat} (h : n ≤ 40) (hq : q ≤ 40) (hp : ∀ j, j < n → pg j = some (oa j)) : (if inZ (nI q).toInt 0 ((n : Int) - 1) = true then pg (tI (nI q)) else none) = (if q < n then some (oa q) else none) := by
  have e : (nI q).toInt = (q : Int) := nI_toInt (by omega)
  have e2 : tI (nI q) = q := by unfold tI; rw [e]; omega
  by_cases c : q < n
  · rw [if_pos (by rw [inZ_t, e]; omega), if_pos c, e2]; exact hp q c
  · rw [if_neg (by rw [inZ_t, e]; omega), if_neg c]
theorem rnN_le {O : List aO} {td : Nat → Int32} {rs : List (Nat × Nat)} {p c : Nat} (hp : p < O.length) (hR : RSI O td rs p) (hoc : opn O = some c) : (rnN O p rs (opJ O p)).1 ≤ O.length := by
  unfold rnN
  by_cases h5 : (opJ O p).1 = 5
  · rw [if_pos h5]; show p + 1 ≤ O.length; omega
  · rw [if_neg h5]
    by_cases h6 : (opJ O p).1 = 6
    · rw [if_pos h6]
      obtain ⟨r, tl, e⟩ := opk_ne hoc hp h6
      obtain ⟨L, d, hrs, -⟩ := RSI_cons hR e
      have hr := opk_lt O p r (by rw [e]; exact List.mem_cons_self ..)
      subst hrs
      rw [rsT_app]
      split
      · show r + 1 ≤ O.length; omega
      · show p + 1 ≤ O.length; omega
    · rw [if_neg h6]; show p + 1 ≤ O.length; omega
abbrev kX11_takeAll : gw_K := (yX11_takeAll, cX11_takeAll, 3, { frames := 2, cells := 0, slots := 0, locals := 81 }, none)
theorem ok_X11_takeAll : gw_calS kX11_takeAll 2 := ⟨⟨wd_738, wd_57, by decide, by decide, by decide +kernel⟩, wd_737⟩
set_option maxHeartbeats 4000000 in
set_option maxRecDepth 100000 in
theorem c_btakeA (l : Launch) (cy : Nat → ClassId) (ad sa ta : Nat → Nat) (n ln bb : Nat) (nx sd lb lf : Int32) (lo : Option Nat) (pg : Nat → Option Nat) (bo : Nat → Int32) (T xs0 : va_W) (cs0 : Nat → List sT) (hx0 : xsP cy (ad 4) sa cs0 xs0) : gw_M l kX11_takeAll cy [.ref (ad 2), .ref (ad 1)] (bW cy ad sa ta n ln bb nx sd lb lf lo pg bo ++ (xs0 ++ T)) (fun r w' => r = none ∧ ∃ (xs : va_W), xsP cy (ad 4) sa (cA cs0 9) xs ∧ w' = bW cy ad sa ta n ln bb nx sd lb lf lo pg bo ++ (xs ++ T)) := by
  refine gw_M.mk (lv := [some (.ref (ad 2)), some (.ref (ad 1)), none]) (by decide) (Nat.le_of_ble_eq_true rfl) rfl ?_
  generalize hpost : (fun r w' => r = none ∧ ∃ (xs : va_W), xsP cy (ad 4) sa (cA cs0 9) xs ∧ w' = bW cy ad sa ta n ln bb nx sd lb lf lo pg bo ++ (xs ++ T) : gw_Q) = post
  refine gw_W.wd (w' := ([(ad 0, .inr (9, [.int (nI (n)), .ref (ad 1), .ref (ad 2), .ref (sa (3 * 0)), .ref (ad 4), .ref (ad 5), .ref (ad 6), .int (nI (ln)), va_rf (lo), .int (nx), .int (sd), .int (lb), .ref (ad 12), .int (nI (bb)), .int (lf)])), (ad 1, .inl (cy 3, 9, .inr (.inr (.inr (.inr (fun i => some (sa (3 * i)))))))), (ad 2, .inl (cy 3, 9, .inr (.inr (.inr (.inr (fun i => some (sa (3 * (9 + i))))))))), (ad 5, .inl (cy 4, 8, .inr (.inr (.inr (.inr (fun i => some (ta (2 * i)))))))), (ad 6, .inl (cy 2, 40, .inr (.inr (.inr (.inr (pg)))))), (ad 12, .inl (cy 0, 16, .inl (bo)))] ++ (xs0 ++ T))) rfl ?_
  refine gw_iconst (v := nI (0)) dX11_takeAll_0 (by decide) ?_
  refine gw_istore_n dX11_takeAll_1 (by decide) rfl ?_
  have cut2 : ∀ (fu : Nat) (i : Nat) (xs : va_W), (i ≤ 9) → (xsP cy (ad 4) sa (cA cs0 i) xs) → (9 - i) < fu → gw_W l kX11_takeAll cy (gw_R kX11_takeAll post) ([(ad 0, .inr (9, [.int (nI (n)), .ref (ad 1), .ref (ad 2), .ref (sa (3 * 0)), .ref (ad 4), .ref (ad 5), .ref (ad 6), .int (nI (ln)), va_rf (lo), .int (nx), .int (sd), .int (lb), .ref (ad 12), .int (nI (bb)), .int (lf)])), (ad 1, .inl (cy 3, 9, .inr (.inr (.inr (.inr (fun i => some (sa (3 * i)))))))), (ad 2, .inl (cy 3, 9, .inr (.inr (.inr (.inr (fun i => some (sa (3 * (9 + i))))))))), (ad 5, .inl (cy 4, 8, .inr (.inr (.inr (.inr (fun i => some (ta (2 * i)))))))), (ad 6, .inl (cy 2, 40, .inr (.inr (.inr (.inr (pg)))))), (ad 12, .inl (cy 0, 16, .inl (bo)))] ++ (xs ++ T)) 0 0 2 [some (.ref (ad 2)), some (.ref (ad 1)), some (.int (nI (i)))] [] := by
    intro fu
    induction fu with
    | zero => intro i xs h1 h2 hfu; exact absurd hfu (Nat.not_lt_zero _)
    | succ fu ih2 =>
      intro i xs h1 h2 hfu
      refine gw_iload_n dX11_takeAll_2 rfl ?_
      refine gw_aload_n dX11_takeAll_3 rfl ?_
      refine gw_alen (t0 := 3) 2 rfl rfl dX11_takeAll_4 ?_
      refine gw_icmpN_ge (tgt := 29) dX11_takeAll_5 (by decide) (by omega) (by omega) (fun c5 => ?_) (fun c5 => ?_)
      · obtain rfl : i = 9 := by omega
        refine gw_vret (?_) (by decide) (by decide) rfl dX11_takeAll_29
        subst hpost
        exact ⟨rfl, xs, h2, rfl⟩
      · refine gw_iload_n dX11_takeAll_8 rfl ?_
        refine gw_aload_n dX11_takeAll_9 rfl ?_
        refine gw_alen (t0 := 3) 1 rfl rfl dX11_takeAll_10 ?_
        refine gw_icmpN_ge (tgt := 29) dX11_takeAll_11 (by decide) (by omega) (by omega) (fun c11 => ?_) (fun c11 => ?_)
        · exact absurd c11 (by omega)
        · refine gw_aload_n dX11_takeAll_14 rfl ?_
          refine gw_iload_n dX11_takeAll_15 rfl ?_
          refine gw_aald3 2 rfl (rfl) (by omega) (by decide) dX11_takeAll_16 ?_
          refine gw_W.rst (st' := [.ref (sa (3 * (9 + i)))]) (rfl) ?_
          refine gw_aload_n dX11_takeAll_17 rfl ?_
          refine gw_iload_n dX11_takeAll_18 rfl ?_
          refine gw_aald3 1 rfl (rfl) (by omega) (by decide) dX11_takeAll_19 ?_
          refine gw_W.rst (st' := [.ref (sa (3 * (i))), .ref (sa (3 * (9 + i)))]) (rfl) ?_
          refine gw_callHN (As := [.ref (sa (3 * (i)))]) (st := []) ((xs_become l cy (ad 4) sa (cA cs0 i) xs (9 + i) (i) h2 (by omega) (by omega)).frame (w2 := ([(ad 0, .inr (9, [.int (nI (n)), .ref (ad 1), .ref (ad 2), .ref (sa (3 * 0)), .ref (ad 4), .ref (ad 5), .ref (ad 6), .int (nI (ln)), va_rf (lo), .int (nx), .int (sd), .int (lb), .ref (ad 12), .int (nI (bb)), .int (lf)])), (ad 1, .inl (cy 3, 9, .inr (.inr (.inr (.inr (fun i => some (sa (3 * i)))))))), (ad 2, .inl (cy 3, 9, .inr (.inr (.inr (.inr (fun i => some (sa (3 * (9 + i))))))))), (ad 5, .inl (cy 4, 8, .inr (.inr (.inr (.inr (fun i => some (ta (2 * i)))))))), (ad 6, .inl (cy 2, 40, .inr (.inr (.inr (.inr (pg)))))), (ad 12, .inl (cy 0, 16, .inl (bo)))] ++ (xs ++ T))) (f := ([(ad 0, .inr (9, [.int (nI (n)), .ref (ad 1), .ref (ad 2), .ref (sa (3 * 0)), .ref (ad 4), .ref (ad 5), .ref (ad 6), .int (nI (ln)), va_rf (lo), .int (nx), .int (sd), .int (lb), .ref (ad 12), .int (nI (bb)), .int (lf)])), (ad 1, .inl (cy 3, 9, .inr (.inr (.inr (.inr (fun i => some (sa (3 * i)))))))), (ad 2, .inl (cy 3, 9, .inr (.inr (.inr (.inr (fun i => some (sa (3 * (9 + i))))))))), (ad 5, .inl (cy 4, 8, .inr (.inr (.inr (.inr (fun i => some (ta (2 * i)))))))), (ad 6, .inl (cy 2, 40, .inr (.inr (.inr (.inr (pg)))))), (ad 12, .inl (cy 0, 16, .inl (bo)))] : va_W) ++ T) (perm_x (B := ([(ad 0, .inr (9, [.int (nI (n)), .ref (ad 1), .ref (ad 2), .ref (sa (3 * 0)), .ref (ad 4), .ref (ad 5), .ref (ad 6), .int (nI (ln)), va_rf (lo), .int (nx), .int (sd), .int (lb), .ref (ad 12), .int (nI (bb)), .int (lf)])), (ad 1, .inl (cy 3, 9, .inr (.inr (.inr (.inr (fun i => some (sa (3 * i)))))))), (ad 2, .inl (cy 3, 9, .inr (.inr (.inr (.inr (fun i => some (sa (3 * (9 + i))))))))), (ad 5, .inl (cy 4, 8, .inr (.inr (.inr (.inr (fun i => some (ta (2 * i)))))))), (ad 6, .inl (cy 2, 40, .inr (.inr (.inr (.inr (pg)))))), (ad 12, .inl (cy 0, 16, .inl (bo)))] : va_W)))) ok_X9_become (gw_has.right (gw_has.left (ssP_has h2 (i := 9 + i) (by omega)))) rfl rfl (host := "SpinBench") (by decide +kernel) rfl rfl dX11_takeAll_20 (by decide) (by decide) (Nat.le_of_ble_eq_true rfl) (fun r20 w20 hp20 => ?_)
          obtain ⟨x2, ⟨rfl, hx2⟩, rfl⟩ := hp20
          rw [cA_up (by omega)] at hx2
          refine gw_W.perm (perm_x (B := ([(ad 0, .inr (9, [.int (nI (n)), .ref (ad 1), .ref (ad 2), .ref (sa (3 * 0)), .ref (ad 4), .ref (ad 5), .ref (ad 6), .int (nI (ln)), va_rf (lo), .int (nx), .int (sd), .int (lb), .ref (ad 12), .int (nI (bb)), .int (lf)])), (ad 1, .inl (cy 3, 9, .inr (.inr (.inr (.inr (fun i => some (sa (3 * i)))))))), (ad 2, .inl (cy 3, 9, .inr (.inr (.inr (.inr (fun i => some (sa (3 * (9 + i))))))))), (ad 5, .inl (cy 4, 8, .inr (.inr (.inr (.inr (fun i => some (ta (2 * i)))))))), (ad 6, .inl (cy 2, 40, .inr (.inr (.inr (.inr (pg)))))), (ad 12, .inl (cy 0, 16, .inl (bo)))] : va_W)) (xs := x2) (T := T)).symm ?_
          refine gw_W.norm (st' := []) (k1 := 0) (k2 := 0) rfl rfl rfl ?_
          refine gw_W.wd (w' := ([(ad 0, .inr (9, [.int (nI (n)), .ref (ad 1), .ref (ad 2), .ref (sa (3 * 0)), .ref (ad 4), .ref (ad 5), .ref (ad 6), .int (nI (ln)), va_rf (lo), .int (nx), .int (sd), .int (lb), .ref (ad 12), .int (nI (bb)), .int (lf)])), (ad 1, .inl (cy 3, 9, .inr (.inr (.inr (.inr (fun i => some (sa (3 * i)))))))), (ad 2, .inl (cy 3, 9, .inr (.inr (.inr (.inr (fun i => some (sa (3 * (9 + i))))))))), (ad 5, .inl (cy 4, 8, .inr (.inr (.inr (.inr (fun i => some (ta (2 * i)))))))), (ad 6, .inl (cy 2, 40, .inr (.inr (.inr (.inr (pg)))))), (ad 12, .inl (cy 0, 16, .inl (bo)))] ++ (x2 ++ T))) rfl ?_
          refine gw_iinc (v := nI (i + 1)) dX11_takeAll_23 rfl (nI_add _ 1) (by decide) rfl ?_
          refine gw_goto (tgt := 2) dX11_takeAll_26 (by decide) ?_
          refine ih2 (i + 1) (x2) (by omega) hx2 ?_
          omega
  refine cut2 _ (0) (xs0) (Nat.zero_le _) (by rw [cA_0]; exact hx0) (Nat.lt_succ_self _)
set_option maxHeartbeats 4000000 in
set_option maxRecDepth 100000 in
theorem c_btakeB (l : Launch) (cy : Nat → ClassId) (ad sa ta : Nat → Nat) (n ln bb : Nat) (nx sd lb lf : Int32) (lo : Option Nat) (pg : Nat → Option Nat) (bo : Nat → Int32) (T xs0 : va_W) (cs0 : Nat → List sT) (hx0 : xsP cy (ad 4) sa cs0 xs0) : gw_M l kX11_takeAll cy [.ref (ad 1), .ref (ad 2)] (bW cy ad sa ta n ln bb nx sd lb lf lo pg bo ++ (xs0 ++ T)) (fun r w' => r = none ∧ ∃ (xs : va_W), xsP cy (ad 4) sa (cB cs0 9) xs ∧ w' = bW cy ad sa ta n ln bb nx sd lb lf lo pg bo ++ (xs ++ T)) := by
  refine gw_M.mk (lv := [some (.ref (ad 1)), some (.ref (ad 2)), none]) (by decide) (Nat.le_of_ble_eq_true rfl) rfl ?_
  generalize hpost : (fun r w' => r = none ∧ ∃ (xs : va_W), xsP cy (ad 4) sa (cB cs0 9) xs ∧ w' = bW cy ad sa ta n ln bb nx sd lb lf lo pg bo ++ (xs ++ T) : gw_Q) = post
  refine gw_W.wd (w' := ([(ad 0, .inr (9, [.int (nI (n)), .ref (ad 1), .ref (ad 2), .ref (sa (3 * 0)), .ref (ad 4), .ref (ad 5), .ref (ad 6), .int (nI (ln)), va_rf (lo), .int (nx), .int (sd), .int (lb), .ref (ad 12), .int (nI (bb)), .int (lf)])), (ad 1, .inl (cy 3, 9, .inr (.inr (.inr (.inr (fun i => some (sa (3 * i)))))))), (ad 2, .inl (cy 3, 9, .inr (.inr (.inr (.inr (fun i => some (sa (3 * (9 + i))))))))), (ad 5, .inl (cy 4, 8, .inr (.inr (.inr (.inr (fun i => some (ta (2 * i)))))))), (ad 6, .inl (cy 2, 40, .inr (.inr (.inr (.inr (pg)))))), (ad 12, .inl (cy 0, 16, .inl (bo)))] ++ (xs0 ++ T))) rfl ?_
  refine gw_iconst (v := nI (0)) dX11_takeAll_0 (by decide) ?_
  refine gw_istore_n dX11_takeAll_1 (by decide) rfl ?_
  have cut2 : ∀ (fu : Nat) (i : Nat) (xs : va_W), (i ≤ 9) → (xsP cy (ad 4) sa (cB cs0 i) xs) → (9 - i) < fu → gw_W l kX11_takeAll cy (gw_R kX11_takeAll post) ([(ad 0, .inr (9, [.int (nI (n)), .ref (ad 1), .ref (ad 2), .ref (sa (3 * 0)), .ref (ad 4), .ref (ad 5), .ref (ad 6), .int (nI (ln)), va_rf (lo), .int (nx), .int (sd), .int (lb), .ref (ad 12), .int (nI (bb)), .int (lf)])), (ad 1, .inl (cy 3, 9, .inr (.inr (.inr (.inr (fun i => some (sa (3 * i)))))))), (ad 2, .inl (cy 3, 9, .inr (.inr (.inr (.inr (fun i => some (sa (3 * (9 + i))))))))), (ad 5, .inl (cy 4, 8, .inr (.inr (.inr (.inr (fun i => some (ta (2 * i)))))))), (ad 6, .inl (cy 2, 40, .inr (.inr (.inr (.inr (pg)))))), (ad 12, .inl (cy 0, 16, .inl (bo)))] ++ (xs ++ T)) 0 0 2 [some (.ref (ad 1)), some (.ref (ad 2)), some (.int (nI (i)))] [] := by
    intro fu
    induction fu with
    | zero => intro i xs h1 h2 hfu; exact absurd hfu (Nat.not_lt_zero _)
    | succ fu ih2 =>
      intro i xs h1 h2 hfu
      refine gw_iload_n dX11_takeAll_2 rfl ?_
      refine gw_aload_n dX11_takeAll_3 rfl ?_
      refine gw_alen (t0 := 3) 1 rfl rfl dX11_takeAll_4 ?_
      refine gw_icmpN_ge (tgt := 29) dX11_takeAll_5 (by decide) (by omega) (by omega) (fun c5 => ?_) (fun c5 => ?_)
      · obtain rfl : i = 9 := by omega
        refine gw_vret (?_) (by decide) (by decide) rfl dX11_takeAll_29
        subst hpost
        exact ⟨rfl, xs, h2, rfl⟩
      · refine gw_iload_n dX11_takeAll_8 rfl ?_
        refine gw_aload_n dX11_takeAll_9 rfl ?_
        refine gw_alen (t0 := 3) 2 rfl rfl dX11_takeAll_10 ?_
        refine gw_icmpN_ge (tgt := 29) dX11_takeAll_11 (by decide) (by omega) (by omega) (fun c11 => ?_) (fun c11 => ?_)
        · exact absurd c11 (by omega)
        · refine gw_aload_n dX11_takeAll_14 rfl ?_
          refine gw_iload_n dX11_takeAll_15 rfl ?_
          refine gw_aald3 1 rfl (rfl) (by omega) (by decide) dX11_takeAll_16 ?_
          refine gw_W.rst (st' := [.ref (sa (3 * (i)))]) (rfl) ?_
          refine gw_aload_n dX11_takeAll_17 rfl ?_
          refine gw_iload_n dX11_takeAll_18 rfl ?_
          refine gw_aald3 2 rfl (rfl) (by omega) (by decide) dX11_takeAll_19 ?_
          refine gw_W.rst (st' := [.ref (sa (3 * (9 + i))), .ref (sa (3 * (i)))]) (rfl) ?_
          refine gw_callHN (As := [.ref (sa (3 * (9 + i)))]) (st := []) ((xs_become l cy (ad 4) sa (cB cs0 i) xs (i) (9 + i) h2 (by omega) (by omega)).frame (w2 := ([(ad 0, .inr (9, [.int (nI (n)), .ref (ad 1), .ref (ad 2), .ref (sa (3 * 0)), .ref (ad 4), .ref (ad 5), .ref (ad 6), .int (nI (ln)), va_rf (lo), .int (nx), .int (sd), .int (lb), .ref (ad 12), .int (nI (bb)), .int (lf)])), (ad 1, .inl (cy 3, 9, .inr (.inr (.inr (.inr (fun i => some (sa (3 * i)))))))), (ad 2, .inl (cy 3, 9, .inr (.inr (.inr (.inr (fun i => some (sa (3 * (9 + i))))))))), (ad 5, .inl (cy 4, 8, .inr (.inr (.inr (.inr (fun i => some (ta (2 * i)))))))), (ad 6, .inl (cy 2, 40, .inr (.inr (.inr (.inr (pg)))))), (ad 12, .inl (cy 0, 16, .inl (bo)))] ++ (xs ++ T))) (f := ([(ad 0, .inr (9, [.int (nI (n)), .ref (ad 1), .ref (ad 2), .ref (sa (3 * 0)), .ref (ad 4), .ref (ad 5), .ref (ad 6), .int (nI (ln)), va_rf (lo), .int (nx), .int (sd), .int (lb), .ref (ad 12), .int (nI (bb)), .int (lf)])), (ad 1, .inl (cy 3, 9, .inr (.inr (.inr (.inr (fun i => some (sa (3 * i)))))))), (ad 2, .inl (cy 3, 9, .inr (.inr (.inr (.inr (fun i => some (sa (3 * (9 + i))))))))), (ad 5, .inl (cy 4, 8, .inr (.inr (.inr (.inr (fun i => some (ta (2 * i)))))))), (ad 6, .inl (cy 2, 40, .inr (.inr (.inr (.inr (pg)))))), (ad 12, .inl (cy 0, 16, .inl (bo)))] : va_W) ++ T) (perm_x (B := ([(ad 0, .inr (9, [.int (nI (n)), .ref (ad 1), .ref (ad 2), .ref (sa (3 * 0)), .ref (ad 4), .ref (ad 5), .ref (ad 6), .int (nI (ln)), va_rf (lo), .int (nx), .int (sd), .int (lb), .ref (ad 12), .int (nI (bb)), .int (lf)])), (ad 1, .inl (cy 3, 9, .inr (.inr (.inr (.inr (fun i => some (sa (3 * i)))))))), (ad 2, .inl (cy 3, 9, .inr (.inr (.inr (.inr (fun i => some (sa (3 * (9 + i))))))))), (ad 5, .inl (cy 4, 8, .inr (.inr (.inr (.inr (fun i => some (ta (2 * i)))))))), (ad 6, .inl (cy 2, 40, .inr (.inr (.inr (.inr (pg)))))), (ad 12, .inl (cy 0, 16, .inl (bo)))] : va_W)))) ok_X9_become (gw_has.right (gw_has.left (ssP_has h2 (i := i) (by omega)))) rfl rfl (host := "SpinBench") (by decide +kernel) rfl rfl dX11_takeAll_20 (by decide) (by decide) (Nat.le_of_ble_eq_true rfl) (fun r20 w20 hp20 => ?_)
          obtain ⟨x2, ⟨rfl, hx2⟩, rfl⟩ := hp20
          rw [cB_up (by omega)] at hx2
          refine gw_W.perm (perm_x (B := ([(ad 0, .inr (9, [.int (nI (n)), .ref (ad 1), .ref (ad 2), .ref (sa (3 * 0)), .ref (ad 4), .ref (ad 5), .ref (ad 6), .int (nI (ln)), va_rf (lo), .int (nx), .int (sd), .int (lb), .ref (ad 12), .int (nI (bb)), .int (lf)])), (ad 1, .inl (cy 3, 9, .inr (.inr (.inr (.inr (fun i => some (sa (3 * i)))))))), (ad 2, .inl (cy 3, 9, .inr (.inr (.inr (.inr (fun i => some (sa (3 * (9 + i))))))))), (ad 5, .inl (cy 4, 8, .inr (.inr (.inr (.inr (fun i => some (ta (2 * i)))))))), (ad 6, .inl (cy 2, 40, .inr (.inr (.inr (.inr (pg)))))), (ad 12, .inl (cy 0, 16, .inl (bo)))] : va_W)) (xs := x2) (T := T)).symm ?_
          refine gw_W.norm (st' := []) (k1 := 0) (k2 := 0) rfl rfl rfl ?_
          refine gw_W.wd (w' := ([(ad 0, .inr (9, [.int (nI (n)), .ref (ad 1), .ref (ad 2), .ref (sa (3 * 0)), .ref (ad 4), .ref (ad 5), .ref (ad 6), .int (nI (ln)), va_rf (lo), .int (nx), .int (sd), .int (lb), .ref (ad 12), .int (nI (bb)), .int (lf)])), (ad 1, .inl (cy 3, 9, .inr (.inr (.inr (.inr (fun i => some (sa (3 * i)))))))), (ad 2, .inl (cy 3, 9, .inr (.inr (.inr (.inr (fun i => some (sa (3 * (9 + i))))))))), (ad 5, .inl (cy 4, 8, .inr (.inr (.inr (.inr (fun i => some (ta (2 * i)))))))), (ad 6, .inl (cy 2, 40, .inr (.inr (.inr (.inr (pg)))))), (ad 12, .inl (cy 0, 16, .inl (bo)))] ++ (x2 ++ T))) rfl ?_
          refine gw_iinc (v := nI (i + 1)) dX11_takeAll_23 rfl (nI_add _ 1) (by decide) rfl ?_
          refine gw_goto (tgt := 2) dX11_takeAll_26 (by decide) ?_
          refine ih2 (i + 1) (x2) (by omega) hx2 ?_
          omega
  refine cut2 _ (0) (xs0) (Nat.zero_le _) (by rw [cB_0]; exact hx0) (Nat.lt_succ_self _)
abbrev kX11_run : gw_K := (yX11_run, cX11_run, 4, { frames := 6, cells := 0, slots := 0, locals := 159 }, (some .int))
theorem ok_X11_run : gw_calV kX11_run 0 := ⟨⟨wd_735, wd_57, by decide, by decide, by decide +kernel⟩, wd_733, wd_734⟩
theorem gR_place {l : Launch} {cy : Nat → ClassId} {Z : gw_Z} {w : va_W} {n1 n2 pc : Nat} {lv : List (Option Value)} {st : List Value} {a j : Nat} {o : aO} {ar : Option Nat} {td : Int32} (hm : (a, .inr (opCe o j ar td)) ∈ w) (ho : 2 ≤ o.1 ∧ o.1 ≤ 7) (hd : decode cX11_run pc = .ok (.getfield 259, 3)) (k : gw_W l kX11_run cy Z w n1 n2 (pc + 3) lv (.int (nI j) :: st)) : gw_W l kX11_run cy Z w n1 n2 pc lv (.ref a :: st) := by
  rcases (show o.1 = 2 ∨ o.1 = 3 ∨ o.1 = 4 ∨ o.1 = 5 ∨ o.1 = 6 ∨ o.1 = 7 by omega) with h | h | h | h | h | h
  · rw [opCe, if_pos h] at hm
    exact gw_getM (C0 := RX6) (T := TX6) (N := 5) (ref := RX5) (hm) rfl inX6 0 (by decide) wd_486 (Or.inl rfl) rfl hd k
  · rw [opCe, if_neg (by omega), if_pos h] at hm
    exact gw_getM (C0 := RX0) (T := TX0) (N := 6) (ref := RX5) (hm) rfl inX0 3 (by decide) wd_486 (Or.inl rfl) rfl hd k
  · rw [opCe, if_neg (by omega), if_neg (by omega), if_pos h] at hm
    exact gw_getM (C0 := RX1) (T := TX1) (N := 5) (ref := RX5) (hm) rfl inX1 0 (by decide) wd_486 (Or.inl rfl) rfl hd k
  · rw [opCe, if_neg (by omega), if_neg (by omega), if_neg (by omega), if_pos h] at hm
    exact gw_getM (C0 := RX7) (T := TX7) (N := 4) (ref := RX5) (hm) rfl inX7 0 (by decide) wd_486 (Or.inl rfl) rfl hd k
  · rw [opCe, if_neg (by omega), if_neg (by omega), if_neg (by omega), if_neg (by omega), if_pos h] at hm
    exact gw_getM (C0 := RX2) (T := TX2) (N := 2) (ref := RX5) (hm) rfl inX2 0 (by decide) wd_486 (Or.inl rfl) rfl hd k
  · rw [opCe, if_neg (by omega), if_neg (by omega), if_neg (by omega), if_neg (by omega), if_neg (by omega)] at hm
    exact gw_getM (C0 := RX8) (T := TX8) (N := 4) (ref := RX5) (hm) rfl inX8 0 (by decide) wd_486 (Or.inl rfl) rfl hd k
set_option maxHeartbeats 4000000 in
theorem gR_perform {l : Launch} {cy : Nat → ClassId} {Z : gw_Z} {n1 n2 pc : Nat} {lv : List (Option Value)} {st : List Value} (ad sa ta oa : Nat → Nat) (σ : aS) (ln bb : Nat) (nx sd lb lf : Int32) (lo : Option Nat) (pg : Nat → Option Nat) (bo : Nat → Int32) (xs tb op : va_W) (cs sm : Nat → List sT) (td : Nat → Int32) (p : Nat) (rs : List (Nat × Nat)) (hxs : xsP cy (ad 4) sa cs xs) (hcs : csS (wSm σ sm) cs) (htb : tbP cy ta (sTb σ) tb) (hop : opP oa (sOp σ) lo pg td op) (hn4 : 1 ≤ σ.1 ∧ σ.1 ≤ 4) (hp : p < (sOp σ).length) (hRS : RSI (sOp σ) td rs p) (ho : opOK σ.1 (opJ (sOp σ) p)) (hnx : nx = nI (p + 1)) (hoc : ∃ c, opn (sOp σ) = some c) (hO : ∀ r, opOK σ.1 (opJ (sOp σ) r) ∨ (sOp σ).length ≤ r) (hd : decode cX11_run pc = .ok (.invokevirtual 265, 3)) (hst : (st.map fun v => v.category).sum ≤ 8) (hf : n1 ≤ 0 ∧ n2 ≤ 0) (k : ∀ (r : Option Value) (w' : va_W), qPr cy ad sa ta oa σ ln bb sd lb lf lo pg bo cs sm p rs r w' → gw_W l kX11_run cy Z w' (n1 + 0) (n2 + 0) (pc + 3) lv (r.toList ++ st)) : gw_W l kX11_run cy Z (bW cy ad sa ta σ.1 ln bb nx sd lb lf lo pg bo ++ (xs ++ (tb ++ op))) n1 n2 pc lv (.ref (ad 0) :: .ref (oa p) :: st) := by
  have hmp := opP_mem hop hp
  have hko := op_k8 ho
  rcases (show (opJ (sOp σ) p).1 = 2 ∨ (opJ (sOp σ) p).1 = 3 ∨ (opJ (sOp σ) p).1 = 4 ∨ (opJ (sOp σ) p).1 = 5 ∨ (opJ (sOp σ) p).1 = 6 ∨ (opJ (sOp σ) p).1 = 7 by omega) with hk | hk | hk | hk | hk | hk
  · rw [opCe, if_pos hk] at hmp
    exact gw_callD (As := [.ref (ad 0)]) (st := st) (ci := 4) (x := ⟨"SpinBench$Op", "perform", "(LSpinBench;)I"⟩) (owner := "SpinBench$Op") (c_pf_2 l cy ad sa ta oa σ ln bb nx sd lb lf lo pg bo xs tb op cs sm td p rs hxs hcs htb hop hn4 hp hRS ho hnx hoc hk) okB_X6_perform wd_764 ⟨_, List.mem_append_right _ (List.mem_append_right _ (List.mem_append_right _ hmp))⟩ rfl wd_763 wd_741 (gw_dec.abs (by decide +kernel)) ⟨by decide, by decide⟩ rfl wd_739 rfl rfl hd (by decide) ⟨hf.1, hf.2⟩ hst k
  · rw [opCe, if_neg (by omega), if_pos hk] at hmp
    exact gw_callD (As := [.ref (ad 0)]) (st := st) (ci := 0) (x := ⟨"SpinBench$Op", "perform", "(LSpinBench;)I"⟩) (owner := "SpinBench$Op") (c_pf_3 l cy ad sa ta oa σ ln bb nx sd lb lf lo pg bo xs tb op cs sm td p rs hxs hcs htb hop hn4 hp hRS ho hnx hoc hk) okB_X0_perform wd_743 ⟨_, List.mem_append_right _ (List.mem_append_right _ (List.mem_append_right _ hmp))⟩ rfl wd_742 wd_741 (gw_dec.abs (by decide +kernel)) ⟨by decide, by decide⟩ rfl wd_739 rfl rfl hd (by decide) ⟨hf.1, hf.2⟩ hst k
  · rw [opCe, if_neg (by omega), if_neg (by omega), if_pos hk] at hmp
    exact gw_callD (As := [.ref (ad 0)]) (st := st) (ci := 1) (x := ⟨"SpinBench$Op", "perform", "(LSpinBench;)I"⟩) (owner := "SpinBench$Op") (c_pf_4 l cy ad sa ta oa σ ln bb nx sd lb lf lo pg bo xs tb op cs sm td p rs hxs hcs htb hop hn4 hp hRS ho hnx hoc hk) okB_X1_perform wd_756 ⟨_, List.mem_append_right _ (List.mem_append_right _ (List.mem_append_right _ hmp))⟩ rfl wd_755 wd_741 (gw_dec.abs (by decide +kernel)) ⟨by decide, by decide⟩ rfl wd_739 rfl rfl hd (by decide) ⟨hf.1, hf.2⟩ hst k
  · rw [opCe, if_neg (by omega), if_neg (by omega), if_neg (by omega), if_pos hk] at hmp
    exact gw_callD (As := [.ref (ad 0)]) (st := st) (ci := 5) (x := ⟨"SpinBench$Op", "perform", "(LSpinBench;)I"⟩) (owner := "SpinBench$Op") (c_pf_5 l cy ad sa ta oa σ ln bb nx sd lb lf lo pg bo xs tb op cs sm td p rs hxs hcs htb hop hn4 hp hRS ho hnx hoc hk) okB_X7_perform wd_768 ⟨_, List.mem_append_right _ (List.mem_append_right _ (List.mem_append_right _ hmp))⟩ rfl wd_767 wd_741 (gw_dec.abs (by decide +kernel)) ⟨by decide, by decide⟩ rfl wd_739 rfl rfl hd (by decide) ⟨hf.1, hf.2⟩ hst k
  · rw [opCe, if_neg (by omega), if_neg (by omega), if_neg (by omega), if_neg (by omega), if_pos hk] at hmp
    exact gw_callD (As := [.ref (ad 0)]) (st := st) (ci := 2) (x := ⟨"SpinBench$Op", "perform", "(LSpinBench;)I"⟩) (owner := "SpinBench$Op") (c_pf_6 l cy ad sa ta oa σ ln bb nx sd lb lf lo pg bo xs tb op cs sm td p rs hxs hcs htb hop hn4 hp hRS ho hnx hoc hO hk) okB_X2_perform wd_761 ⟨_, List.mem_append_right _ (List.mem_append_right _ (List.mem_append_right _ hmp))⟩ rfl wd_760 wd_741 (gw_dec.abs (by decide +kernel)) ⟨by decide, by decide⟩ rfl wd_739 rfl rfl hd (by decide) ⟨hf.1, hf.2⟩ hst k
  · rw [opCe, if_neg (by omega), if_neg (by omega), if_neg (by omega), if_neg (by omega), if_neg (by omega)] at hmp
    exact gw_callD (As := [.ref (ad 0)]) (st := st) (ci := 6) (x := ⟨"SpinBench$Op", "perform", "(LSpinBench;)I"⟩) (owner := "SpinBench$Op") (c_pf_7 l cy ad sa ta oa σ ln bb nx sd lb lf lo pg bo xs tb op cs sm td p rs hxs hcs htb hop hn4 hp hRS ho hnx hoc hk) okB_X8_perform wd_771 ⟨_, List.mem_append_right _ (List.mem_append_right _ (List.mem_append_right _ hmp))⟩ rfl wd_770 wd_741 (gw_dec.abs (by decide +kernel)) ⟨by decide, by decide⟩ rfl wd_739 rfl rfl hd (by decide) ⟨hf.1, hf.2⟩ hst k
theorem csS_back {σ : aS} {cs cs1 : Nat → List sT} (h : csS σ cs) (hk : ∀ i, i < 9 → cs1 (9 + i) = cs i) : csS σ (cB cs1 9) := fun i hi => by
  have h1 := h i hi
  rw [show cB cs1 9 (if i = 8 then 0 else i + 1) = cs (if i = 8 then 0 else i + 1) from by
    unfold cB; rw [if_pos (by split <;> omega)]; exact hk _ (by split <;> omega)]
  exact h1
theorem cA_9 {cs : Nat → List sT} : ∀ i, i < 9 → cA cs 9 (9 + i) = cs i := fun i hi => by unfold cA; rw [if_pos (by omega), show 9 + i - 9 = i by omega]
theorem csS_A {σ : aS} {cs : Nat → List sT} (h : csS σ cs) : csS σ (cA cs 9) := fun i hi => by
  rw [show cA cs 9 (if i = 8 then 0 else i + 1) = cs (if i = 8 then 0 else i + 1) from by unfold cA; rw [if_neg (by split <;> omega)]]
  exact h i hi
set_option maxHeartbeats 8000000 in
set_option maxRecDepth 100000 in
theorem t_cgrun (l : Launch) (cy : Nat → ClassId) (b : Nat) (σ : aS) (w : va_W) (hI : cInv cy b σ w)  : gw_M l kX11_run cy [.ref (b)] (w) (cPost cy b (spRun σ)) := by
  obtain ⟨ad, sa, ta, oa, nx, lo, pg, bo, cs, xs, tb, op, td, rfl, hw, hxs, hcs, htb, hop, hN, hbo⟩ := hI
  have hn4 : 1 ≤ σ.1 ∧ σ.1 ≤ 4 := ⟨hN.1, hN.2.1⟩
  refine gw_M.pm hw ?_
  obtain ⟨oc, hoc⟩ := hN.2.2.2.2.1
  have l40 : (sOp σ).length ≤ 40 := hN.2.2.2.1
  have hC := opC_eq hoc
  have hk := opk_C hoc
  have hlo := hop.2.1
  unfold arOf at hlo
  have hOO : ∀ r, opOK σ.1 (opJ (sOp σ) r) ∨ (sOp σ).length ≤ r := fun r => by
    rcases Nat.lt_or_ge r (sOp σ).length with h | h
    · exact Or.inl (hN.2.2.2.2.2 _ (opJ_mem h))
    · exact Or.inr h
  cases e : opk (sOp σ) (sOp σ).length with
  | nil =>
    rw [e] at hlo hk
    have hlo : lo = none := hlo
    subst hlo
    have hC0 : opC σ = 0 := by rw [hC]; exact hk.symm
    refine gw_M.mk (lv := [some (.ref (ad 0)), none, none, none]) (by decide) (Nat.le_of_ble_eq_true rfl) rfl ?_
    generalize hpost : (cPost cy (ad 0) (spRun σ) : gw_Q) = post
    refine gw_W.wd (w' := ([(ad 0, .inr (9, [.int (nI (σ.1)), .ref (ad 1), .ref (ad 2), .ref (sa (3 * 0)), .ref (ad 4), .ref (ad 5), .ref (ad 6), .int (nI ((sOp σ).length)), .null, .int (nx), .int (σ.2.2.2.2.2.2.1), .int (σ.2.2.2.2.2.2.2), .ref (ad 12), .int (nI ((sTr σ).length)), .int (σ.2.2.2.2.1)])), (ad 1, .inl (cy 3, 9, .inr (.inr (.inr (.inr (fun i => some (sa (3 * i)))))))), (ad 2, .inl (cy 3, 9, .inr (.inr (.inr (.inr (fun i => some (sa (3 * (9 + i))))))))), (ad 5, .inl (cy 4, 8, .inr (.inr (.inr (.inr (fun i => some (ta (2 * i)))))))), (ad 6, .inl (cy 2, 40, .inr (.inr (.inr (.inr (pg)))))), (ad 12, .inl (cy 0, 16, .inl (bo)))] ++ (xs ++ (tb ++ op)))) rfl ?_
    refine gw_aload_n dX11_run_0 rfl ?_
    refine gw_get (C0 := RX11) (T := TX11) (N := 15) (ref := RX11) 0 rfl rfl inX11 8 (by decide) wd_183 (Or.inl rfl) rfl dX11_run_1 ?_
    refine gw_ifnullN (tgt := 10) dX11_run_4 (by decide) ?_
    refine gw_aload_n dX11_run_10 rfl ?_
    refine gw_get (C0 := RX11) (T := TX11) (N := 15) (ref := RX11) 0 rfl rfl inX11 2 (by decide) wd_175 (Or.inl rfl) rfl dX11_run_11 ?_
    refine gw_aload_n dX11_run_14 rfl ?_
    refine gw_get (C0 := RX11) (T := TX11) (N := 15) (ref := RX11) 0 rfl rfl inX11 1 (by decide) wd_174 (Or.inl rfl) rfl dX11_run_15 ?_
    refine gw_W.wd (w' := bW cy ad sa ta (σ.1) ((sOp σ).length) ((sTr σ).length) nx (σ.2.2.2.2.2.2.1) (σ.2.2.2.2.2.2.2) (σ.2.2.2.2.1) none pg bo ++ (xs ++ (tb ++ op))) rfl ?_
    refine gw_callS (As := [.ref (ad 2), .ref (ad 1)]) (st := []) (c_btakeA l cy ad sa ta (σ.1) ((sOp σ).length) ((sTr σ).length) nx (σ.2.2.2.2.2.2.1) (σ.2.2.2.2.2.2.2) (σ.2.2.2.2.1) none pg bo (tb ++ op) xs (cs) hxs) ok_X11_takeAll wd_736 rfl rfl dX11_run_18 (by decide) (by decide) (Nat.le_of_ble_eq_true rfl) (fun r18 w18 hp18 => ?_)
    obtain ⟨rfl, x9, hx9, rfl⟩ := hp18
    refine gw_W.norm (st' := []) (k1 := 0) (k2 := 0) rfl rfl rfl ?_
    refine gw_W.wd (w' := ([(ad 0, .inr (9, [.int (nI (σ.1)), .ref (ad 1), .ref (ad 2), .ref (sa (3 * 0)), .ref (ad 4), .ref (ad 5), .ref (ad 6), .int (nI ((sOp σ).length)), .null, .int (nx), .int (σ.2.2.2.2.2.2.1), .int (σ.2.2.2.2.2.2.2), .ref (ad 12), .int (nI ((sTr σ).length)), .int (σ.2.2.2.2.1)])), (ad 1, .inl (cy 3, 9, .inr (.inr (.inr (.inr (fun i => some (sa (3 * i)))))))), (ad 2, .inl (cy 3, 9, .inr (.inr (.inr (.inr (fun i => some (sa (3 * (9 + i))))))))), (ad 5, .inl (cy 4, 8, .inr (.inr (.inr (.inr (fun i => some (ta (2 * i)))))))), (ad 6, .inl (cy 2, 40, .inr (.inr (.inr (.inr (pg)))))), (ad 12, .inl (cy 0, 16, .inl (bo)))] ++ (x9 ++ (tb ++ op)))) rfl ?_
    refine gw_aload_n dX11_run_21 rfl ?_
    refine gw_iconst (v := nI (0)) dX11_run_22 (by decide) ?_
    refine gw_put (C0 := RX11) (T := TX11) (N := 15) (ref := RX11) (ty := tyX11 10) 0 rfl rfl inX11 10 (by decide) tyX11 tyX11_ok nmX11 wd_186 (Or.inl rfl) rfl (tyX11_ok 10 (by decide)) (rfl) (rfl) (Nat.le_of_ble_eq_true rfl) dX11_run_23 ?_
    refine gw_W.wd (w' := ([(ad 0, .inr (9, [.int (nI (σ.1)), .ref (ad 1), .ref (ad 2), .ref (sa (3 * 0)), .ref (ad 4), .ref (ad 5), .ref (ad 6), .int (nI ((sOp σ).length)), .null, .int (nx), .int (nI (0)), .int (σ.2.2.2.2.2.2.2), .ref (ad 12), .int (nI ((sTr σ).length)), .int (σ.2.2.2.2.1)])), (ad 1, .inl (cy 3, 9, .inr (.inr (.inr (.inr (fun i => some (sa (3 * i)))))))), (ad 2, .inl (cy 3, 9, .inr (.inr (.inr (.inr (fun i => some (sa (3 * (9 + i))))))))), (ad 5, .inl (cy 4, 8, .inr (.inr (.inr (.inr (fun i => some (ta (2 * i)))))))), (ad 6, .inl (cy 2, 40, .inr (.inr (.inr (.inr (pg)))))), (ad 12, .inl (cy 0, 16, .inl (bo)))] ++ (x9 ++ (tb ++ op)))) rfl ?_
    refine gw_aload_n dX11_run_26 rfl ?_
    refine gw_ldc dX11_run_27 wd_121 ?_
    refine gw_put (C0 := RX11) (T := TX11) (N := 15) (ref := RX11) (ty := tyX11 11) 0 rfl rfl inX11 11 (by decide) tyX11 tyX11_ok nmX11 wd_187 (Or.inl rfl) rfl (tyX11_ok 11 (by decide)) (rfl) (rfl) (Nat.le_of_ble_eq_true rfl) dX11_run_29 ?_
    refine gw_W.wd (w' := ([(ad 0, .inr (9, [.int (nI (σ.1)), .ref (ad 1), .ref (ad 2), .ref (sa (3 * 0)), .ref (ad 4), .ref (ad 5), .ref (ad 6), .int (nI ((sOp σ).length)), .null, .int (nx), .int (nI (0)), .int (((-1000000) : Int32)), .ref (ad 12), .int (nI ((sTr σ).length)), .int (σ.2.2.2.2.1)])), (ad 1, .inl (cy 3, 9, .inr (.inr (.inr (.inr (fun i => some (sa (3 * i)))))))), (ad 2, .inl (cy 3, 9, .inr (.inr (.inr (.inr (fun i => some (sa (3 * (9 + i))))))))), (ad 5, .inl (cy 4, 8, .inr (.inr (.inr (.inr (fun i => some (ta (2 * i)))))))), (ad 6, .inl (cy 2, 40, .inr (.inr (.inr (.inr (pg)))))), (ad 12, .inl (cy 0, 16, .inl (bo)))] ++ (x9 ++ (tb ++ op)))) rfl ?_
    refine gw_iconst (v := nI (0)) dX11_run_32 (by decide) ?_
    refine gw_istore_n dX11_run_33 (by decide) rfl ?_
    have cut42 : ∀ (fu : Nat) (s : Nat) (p : Nat) (rs : List (Nat × Nat)) (sm : Nat → List sT) (y : Int32) (cs1 : Nat → List sT) (x1 : va_W) (tb1 : va_W) (op1 : va_W) (td1 : Nat → Int32) (nx1 : Int32), (s ≤ 500) → (rn σ.1 (sTb σ) (sOp σ) (500 - s) sm p rs y = rnA σ) → (csS (wSm σ sm) cs1) → (∀ i, i < 9 → cs1 (9 + i) = cs i) → (xsP cy (ad 4) sa cs1 x1) → (tbP cy ta (sTb σ) tb1) → (opP oa (sOp σ) none pg td1 op1) → (RSI (sOp σ) td1 rs p) → (p ≤ (sOp σ).length) → (500 - s) < fu → gw_W l kX11_run cy (gw_R kX11_run post) ([(ad 0, .inr (9, [.int (nI (σ.1)), .ref (ad 1), .ref (ad 2), .ref (sa (3 * 0)), .ref (ad 4), .ref (ad 5), .ref (ad 6), .int (nI ((sOp σ).length)), .null, .int (nx1), .int (nI (s)), .int (y), .ref (ad 12), .int (nI ((sTr σ).length)), .int (σ.2.2.2.2.1)])), (ad 1, .inl (cy 3, 9, .inr (.inr (.inr (.inr (fun i => some (sa (3 * i)))))))), (ad 2, .inl (cy 3, 9, .inr (.inr (.inr (.inr (fun i => some (sa (3 * (9 + i))))))))), (ad 5, .inl (cy 4, 8, .inr (.inr (.inr (.inr (fun i => some (ta (2 * i)))))))), (ad 6, .inl (cy 2, 40, .inr (.inr (.inr (.inr (pg)))))), (ad 12, .inl (cy 0, 16, .inl (bo)))] ++ (x1 ++ (tb1 ++ op1))) 0 0 42 [some (.ref (ad 0)), some (.int (nI (0))), some (va_rf ((if p < (sOp σ).length then some (oa p) else none))), some (.int (nI (s)))] [] := by
      intro fu
      induction fu with
      | zero => intro s p rs sm y cs1 x1 tb1 op1 td1 nx1 h1 hQ hc1 hk9 hx1 ht1 ho1 hR1 hpl hfu; exact absurd hfu (Nat.not_lt_zero _)
      | succ fu ih42 =>
        intro s p rs sm y cs1 x1 tb1 op1 td1 nx1 h1 hQ hc1 hk9 hx1 ht1 ho1 hR1 hpl hfu
        by_cases hpL : p < (sOp σ).length
        · rw [if_pos hpL]
          refine gw_W.rlv (lv' := [some (.ref (ad 0)), some (.int (nI (0))), some (.ref (oa p)), some (.int (nI (s)))]) rfl ?_
          have hmp := opP_mem ho1 hpL
          have hoP := hN.2.2.2.2.2 _ (opJ_mem hpL)
          have hko := op_k8 hoP
          refine gw_iload_n dX11_run_42 rfl ?_
          refine gw_sipush (v := nI (500)) dX11_run_43 (by decide) ?_
          refine gw_icmpN_ge (tgt := 110) dX11_run_46 (by decide) (by omega) (by omega) (fun c46 => ?_) (fun c46 => ?_)
          · refine gw_aload_n dX11_run_110 rfl ?_
            refine gw_ifnonnull (tgt := 123) dX11_run_111 (by decide) ?_
            refine gw_aload_n dX11_run_123 rfl ?_
            refine gw_get (C0 := RX11) (T := TX11) (N := 15) (ref := RX11) 0 rfl rfl inX11 1 (by decide) wd_174 (Or.inl rfl) rfl dX11_run_124 ?_
            refine gw_aload_n dX11_run_127 rfl ?_
            refine gw_get (C0 := RX11) (T := TX11) (N := 15) (ref := RX11) 0 rfl rfl inX11 2 (by decide) wd_175 (Or.inl rfl) rfl dX11_run_128 ?_
            refine gw_W.wd (w' := bW cy ad sa ta (σ.1) ((sOp σ).length) ((sTr σ).length) nx1 (nI (s)) y (σ.2.2.2.2.1) none pg bo ++ (x1 ++ (tb1 ++ op1))) rfl ?_
            refine gw_callS (As := [.ref (ad 1), .ref (ad 2)]) (st := []) (c_btakeB l cy ad sa ta (σ.1) ((sOp σ).length) ((sTr σ).length) nx1 (nI (s)) y (σ.2.2.2.2.1) none pg bo (tb1 ++ op1) x1 (cs1) hx1) ok_X11_takeAll wd_736 rfl rfl dX11_run_131 (by decide) (by decide) (Nat.le_of_ble_eq_true rfl) (fun r131 w131 hp131 => ?_)
            obtain ⟨rfl, x9, hx9, rfl⟩ := hp131
            refine gw_W.norm (st' := []) (k1 := 0) (k2 := 0) rfl rfl rfl ?_
            refine gw_W.wd (w' := ([(ad 0, .inr (9, [.int (nI (σ.1)), .ref (ad 1), .ref (ad 2), .ref (sa (3 * 0)), .ref (ad 4), .ref (ad 5), .ref (ad 6), .int (nI ((sOp σ).length)), .null, .int (nx1), .int (nI (s)), .int (y), .ref (ad 12), .int (nI ((sTr σ).length)), .int (σ.2.2.2.2.1)])), (ad 1, .inl (cy 3, 9, .inr (.inr (.inr (.inr (fun i => some (sa (3 * i)))))))), (ad 2, .inl (cy 3, 9, .inr (.inr (.inr (.inr (fun i => some (sa (3 * (9 + i))))))))), (ad 5, .inl (cy 4, 8, .inr (.inr (.inr (.inr (fun i => some (ta (2 * i)))))))), (ad 6, .inl (cy 2, 40, .inr (.inr (.inr (.inr (pg)))))), (ad 12, .inl (cy 0, 16, .inl (bo)))] ++ (x9 ++ (tb1 ++ op1)))) rfl ?_
            refine gw_iload_n dX11_run_134 rfl ?_
            refine gw_ifN_eq (tgt := 144) dX11_run_135 (by decide) (by omega) (fun _ => ?_) (fun h => absurd h (by decide))
            refine gw_ldc dX11_run_144 wd_336 ?_
            refine gw_goto (tgt := 154) dX11_run_146 (by decide) ?_
            refine gw_W.wd (w' := bW cy ad sa ta (σ.1) ((sOp σ).length) ((sTr σ).length) nx1 (nI (s)) y (σ.2.2.2.2.1) none pg bo ++ (x9 ++ (tb1 ++ op1))) rfl ?_
            refine gw_iret (?_) (by decide) (by decide) rfl dX11_run_154
            subst hpost
            obtain rfl : s = 500 := by omega
            have hA : rnA σ = (-1000003, sm, 0, y) := by rw [← hQ]; exact rn_full hpL
            unfold spRun
            rw [if_pos hC0, hA]
            rw [if_neg (show ¬ (-1000003 : Int32) = 0 from by decide), if_pos rfl]
            exact ⟨rfl, ad, sa, ta, oa, nx1, none, pg, bo, cB cs1 9, x9, tb1, op1, td1, rfl, List.Perm.refl _, hx9, csS_back hcs hk9, ht1, ho1, hN, hbo⟩
          · refine gw_aload_n dX11_run_49 rfl ?_
            refine gw_ifnull dX11_run_50 ?_
            refine gw_iload_n dX11_run_53 rfl ?_
            refine gw_ifN_ne (tgt := 110) dX11_run_54 (by decide) (by omega) (fun h => absurd h (by decide)) (fun _ => ?_)
            refine gw_aload_n dX11_run_57 rfl ?_
            refine gw_aload_n dX11_run_58 rfl ?_
            refine gR_place (List.mem_append_right _ (List.mem_append_right _ (List.mem_append_right _ hmp))) hko dX11_run_59 ?_
            refine gw_put (C0 := RX11) (T := TX11) (N := 15) (ref := RX11) (ty := tyX11 11) 0 rfl rfl inX11 11 (by decide) tyX11 tyX11_ok nmX11 wd_187 (Or.inl rfl) rfl (tyX11_ok 11 (by decide)) (rfl) (rfl) (Nat.le_of_ble_eq_true rfl) dX11_run_62 ?_
            refine gw_W.wd (w' := ([(ad 0, .inr (9, [.int (nI (σ.1)), .ref (ad 1), .ref (ad 2), .ref (sa (3 * 0)), .ref (ad 4), .ref (ad 5), .ref (ad 6), .int (nI ((sOp σ).length)), .null, .int (nx1), .int (nI (s)), .int (nI (p)), .ref (ad 12), .int (nI ((sTr σ).length)), .int (σ.2.2.2.2.1)])), (ad 1, .inl (cy 3, 9, .inr (.inr (.inr (.inr (fun i => some (sa (3 * i)))))))), (ad 2, .inl (cy 3, 9, .inr (.inr (.inr (.inr (fun i => some (sa (3 * (9 + i))))))))), (ad 5, .inl (cy 4, 8, .inr (.inr (.inr (.inr (fun i => some (ta (2 * i)))))))), (ad 6, .inl (cy 2, 40, .inr (.inr (.inr (.inr (pg)))))), (ad 12, .inl (cy 0, 16, .inl (bo)))] ++ (x1 ++ (tb1 ++ op1)))) rfl ?_
            refine gw_aload_n dX11_run_65 rfl ?_
            refine gw_aload_n dX11_run_66 rfl ?_
            refine gR_place (List.mem_append_right _ (List.mem_append_right _ (List.mem_append_right _ hmp))) hko dX11_run_67 ?_
            refine gw_iconst (v := nI (1)) dX11_run_70 (by decide) ?_
            refine gw_iaddN dX11_run_71 ?_
            refine gw_put (C0 := RX11) (T := TX11) (N := 15) (ref := RX11) (ty := tyX11 9) 0 rfl rfl inX11 9 (by decide) tyX11 tyX11_ok nmX11 wd_185 (Or.inl rfl) rfl (tyX11_ok 9 (by decide)) (rfl) (rfl) (Nat.le_of_ble_eq_true rfl) dX11_run_72 ?_
            refine gw_W.wd (w' := ([(ad 0, .inr (9, [.int (nI (σ.1)), .ref (ad 1), .ref (ad 2), .ref (sa (3 * 0)), .ref (ad 4), .ref (ad 5), .ref (ad 6), .int (nI ((sOp σ).length)), .null, .int (nI (p + 1)), .int (nI (s)), .int (nI (p)), .ref (ad 12), .int (nI ((sTr σ).length)), .int (σ.2.2.2.2.1)])), (ad 1, .inl (cy 3, 9, .inr (.inr (.inr (.inr (fun i => some (sa (3 * i)))))))), (ad 2, .inl (cy 3, 9, .inr (.inr (.inr (.inr (fun i => some (sa (3 * (9 + i))))))))), (ad 5, .inl (cy 4, 8, .inr (.inr (.inr (.inr (fun i => some (ta (2 * i)))))))), (ad 6, .inl (cy 2, 40, .inr (.inr (.inr (.inr (pg)))))), (ad 12, .inl (cy 0, 16, .inl (bo)))] ++ (x1 ++ (tb1 ++ op1)))) rfl ?_
            refine gw_aload_n dX11_run_75 rfl ?_
            refine gw_aload_n dX11_run_76 rfl ?_
            refine gw_W.wd (w' := bW cy ad sa ta σ.1 (sOp σ).length (sTr σ).length (nI (p + 1)) (nI s) (nI p) σ.2.2.2.2.1 none pg bo ++ (x1 ++ (tb1 ++ op1))) rfl ?_
            refine gR_perform ad sa ta oa σ (sOp σ).length (sTr σ).length (nI (p + 1)) (nI s) (nI p) σ.2.2.2.2.1 none pg bo x1 tb1 op1 cs1 sm td1 p rs hx1 hc1 ht1 ho1 hn4 hpL hR1 hoP rfl ⟨oc, hoc⟩ hOO dX11_run_77 (Nat.le_of_ble_eq_true rfl) ⟨Nat.le_refl _, Nat.le_refl _⟩ (fun r77 w77 hp77 => ?_)
            obtain ⟨cs2, x2, tb2, op2, td2, nx2, rfl, q1, q2, q3, q4, q5, rfl, q6⟩ := hp77
            have hk92 : ∀ i, i < 9 → cs2 (9 + i) = cs i := fun i hi => by rw [q2 _ (by omega)]; exact hk9 i hi
            refine gw_W.norm (st' := [.int ((doM σ.1 (sTb σ) sm (rsD rs) (opJ (sOp σ) p)).1)]) (k1 := 0) (k2 := 0) rfl rfl rfl ?_
            refine gw_W.wd (w' := ([(ad 0, .inr (9, [.int (nI (σ.1)), .ref (ad 1), .ref (ad 2), .ref (sa (3 * 0)), .ref (ad 4), .ref (ad 5), .ref (ad 6), .int (nI ((sOp σ).length)), .null, .int (nx2), .int (nI (s)), .int (nI (p)), .ref (ad 12), .int (nI ((sTr σ).length)), .int (σ.2.2.2.2.1)])), (ad 1, .inl (cy 3, 9, .inr (.inr (.inr (.inr (fun i => some (sa (3 * i)))))))), (ad 2, .inl (cy 3, 9, .inr (.inr (.inr (.inr (fun i => some (sa (3 * (9 + i))))))))), (ad 5, .inl (cy 4, 8, .inr (.inr (.inr (.inr (fun i => some (ta (2 * i)))))))), (ad 6, .inl (cy 2, 40, .inr (.inr (.inr (.inr (pg)))))), (ad 12, .inl (cy 0, 16, .inl (bo)))] ++ (x2 ++ (tb2 ++ op2)))) rfl ?_
            refine gw_istore_n dX11_run_80 (by decide) rfl ?_
            refine gw_iload_n dX11_run_81 rfl ?_
            refine gw_if_ne (tgt := 104) dX11_run_82 (by decide) (fun c82 => ?_) (fun c82 => ?_)
            · have hA : rnA σ = ((doM σ.1 (sTb σ) sm (rsD rs) (opJ (sOp σ) p)).1, (doM σ.1 (sTb σ) sm (rsD rs) (opJ (sOp σ) p)).2, 500 - s, nI p) := by
                have hf : 500 - s = (499 - s) + 1 := by omega
                rw [← hQ, hf]; exact rn_stop hpL c82
              refine gw_iinc (v := nI (s + 1)) dX11_run_104 rfl (nI_add _ 1) (by decide) rfl ?_
              refine gw_goto (tgt := 42) dX11_run_107 (by decide) ?_
              refine gw_iload_n dX11_run_42 rfl ?_
              refine gw_sipush (v := nI (500)) dX11_run_43 (by decide) ?_
              refine gw_icmpN_ge (tgt := 110) dX11_run_46 (by decide) (by omega) (by omega) (fun c46 => ?_) (fun c46 => ?_)
              · refine gw_aload_n dX11_run_110 rfl ?_
                refine gw_ifnonnull (tgt := 123) dX11_run_111 (by decide) ?_
                refine gw_aload_n dX11_run_123 rfl ?_
                refine gw_get (C0 := RX11) (T := TX11) (N := 15) (ref := RX11) 0 rfl rfl inX11 1 (by decide) wd_174 (Or.inl rfl) rfl dX11_run_124 ?_
                refine gw_aload_n dX11_run_127 rfl ?_
                refine gw_get (C0 := RX11) (T := TX11) (N := 15) (ref := RX11) 0 rfl rfl inX11 2 (by decide) wd_175 (Or.inl rfl) rfl dX11_run_128 ?_
                refine gw_W.wd (w' := bW cy ad sa ta (σ.1) ((sOp σ).length) ((sTr σ).length) nx2 (nI (s)) (nI (p)) (σ.2.2.2.2.1) none pg bo ++ (x2 ++ (tb2 ++ op2))) rfl ?_
                refine gw_callS (As := [.ref (ad 1), .ref (ad 2)]) (st := []) (c_btakeB l cy ad sa ta (σ.1) ((sOp σ).length) ((sTr σ).length) nx2 (nI (s)) (nI (p)) (σ.2.2.2.2.1) none pg bo (tb2 ++ op2) x2 (cs2) q3) ok_X11_takeAll wd_736 rfl rfl dX11_run_131 (by decide) (by decide) (Nat.le_of_ble_eq_true rfl) (fun r131 w131 hp131 => ?_)
                obtain ⟨rfl, x9, hx9, rfl⟩ := hp131
                refine gw_W.norm (st' := []) (k1 := 0) (k2 := 0) rfl rfl rfl ?_
                refine gw_W.wd (w' := ([(ad 0, .inr (9, [.int (nI (σ.1)), .ref (ad 1), .ref (ad 2), .ref (sa (3 * 0)), .ref (ad 4), .ref (ad 5), .ref (ad 6), .int (nI ((sOp σ).length)), .null, .int (nx2), .int (nI (s)), .int (nI (p)), .ref (ad 12), .int (nI ((sTr σ).length)), .int (σ.2.2.2.2.1)])), (ad 1, .inl (cy 3, 9, .inr (.inr (.inr (.inr (fun i => some (sa (3 * i)))))))), (ad 2, .inl (cy 3, 9, .inr (.inr (.inr (.inr (fun i => some (sa (3 * (9 + i))))))))), (ad 5, .inl (cy 4, 8, .inr (.inr (.inr (.inr (fun i => some (ta (2 * i)))))))), (ad 6, .inl (cy 2, 40, .inr (.inr (.inr (.inr (pg)))))), (ad 12, .inl (cy 0, 16, .inl (bo)))] ++ (x9 ++ (tb2 ++ op2)))) rfl ?_
                refine gw_iload_n dX11_run_134 rfl ?_
                refine gw_if_eq (tgt := 144) dX11_run_135 (by decide) (fun c135 => ?_) (fun c135 => ?_)
                · exact absurd c135 c82
                · refine gw_iload_n dX11_run_138 rfl ?_
                  refine gw_ldc dX11_run_139 wd_336 ?_
                  refine gw_icmp_ne (tgt := 149) dX11_run_141 (by decide) (fun c141 => ?_) (fun c141 => ?_)
                  · refine gw_aload_n dX11_run_149 rfl ?_
                    refine gw_iload_n dX11_run_150 rfl ?_
                    refine gw_W.wd (w' := bW cy ad sa ta (σ.1) ((sOp σ).length) ((sTr σ).length) nx2 (nI (s)) (nI (p)) (σ.2.2.2.2.1) none pg bo ++ (x9 ++ (tb2 ++ op2))) rfl ?_
                    refine gw_callV 0 (As := [.int ((doM σ.1 (sTb σ) sm (rsD rs) (opJ (sOp σ) p)).1)]) (st := []) (c_bfound l cy ad sa ta (σ.1) ((sOp σ).length) ((sTr σ).length) nx2 (nI (s)) (nI (p)) (σ.2.2.2.2.1) none pg bo (x9 ++ (tb2 ++ op2)) ((doM σ.1 (sTb σ) sm (rsD rs) (opJ (sOp σ) p)).1)) ok_X11_found rfl rfl rfl wd_234 rfl rfl dX11_run_151 (by decide) (by decide) (Nat.le_of_ble_eq_true rfl) (fun r151 w151 hp151 => ?_)
                    obtain ⟨rfl, rfl⟩ := hp151
                    refine gw_W.norm (st' := [.int ((-1000010) - ((doM σ.1 (sTb σ) sm (rsD rs) (opJ (sOp σ) p)).1))]) (k1 := 0) (k2 := 0) rfl rfl rfl ?_
                    refine gw_W.wd (w' := ([(ad 0, .inr (9, [.int (nI (σ.1)), .ref (ad 1), .ref (ad 2), .ref (sa (3 * 0)), .ref (ad 4), .ref (ad 5), .ref (ad 6), .int (nI ((sOp σ).length)), .null, .int (nx2), .int (nI (s)), .int (nI (p)), .ref (ad 12), .int (nI ((sTr σ).length)), .int ((doM σ.1 (sTb σ) sm (rsD rs) (opJ (sOp σ) p)).1)])), (ad 1, .inl (cy 3, 9, .inr (.inr (.inr (.inr (fun i => some (sa (3 * i)))))))), (ad 2, .inl (cy 3, 9, .inr (.inr (.inr (.inr (fun i => some (sa (3 * (9 + i))))))))), (ad 5, .inl (cy 4, 8, .inr (.inr (.inr (.inr (fun i => some (ta (2 * i)))))))), (ad 6, .inl (cy 2, 40, .inr (.inr (.inr (.inr (pg)))))), (ad 12, .inl (cy 0, 16, .inl (bo)))] ++ (x9 ++ (tb2 ++ op2)))) rfl ?_
                    refine gw_W.wd (w' := bW cy ad sa ta (σ.1) ((sOp σ).length) ((sTr σ).length) nx2 (nI (s)) (nI (p)) ((doM σ.1 (sTb σ) sm (rsD rs) (opJ (sOp σ) p)).1) none pg bo ++ (x9 ++ (tb2 ++ op2))) rfl ?_
                    refine gw_iret (?_) (by decide) (by decide) rfl dX11_run_154
                    subst hpost
                    unfold spRun
                    rw [if_pos hC0, hA]
                    rw [show 500 - (500 - s) = s by omega]
                    first
                      | (rw [if_neg c82, if_neg c141]; exact ⟨rfl, ad, sa, ta, oa, nx2, none, pg, bo, cB cs2 9, x9, tb2, op2, td2, rfl, List.Perm.refl _, hx9, csS_back hcs hk92, q4, q5, hN, hbo⟩)
                      | (rw [if_neg c82, if_pos (Decidable.not_not.mp c141)]; exact ⟨rfl, ad, sa, ta, oa, nx2, none, pg, bo, cB cs2 9, x9, tb2, op2, td2, rfl, List.Perm.refl _, hx9, csS_back hcs hk92, q4, q5, hN, hbo⟩)
                      | (rw [if_neg c82, if_pos c141]; exact ⟨rfl, ad, sa, ta, oa, nx2, none, pg, bo, cB cs2 9, x9, tb2, op2, td2, rfl, List.Perm.refl _, hx9, csS_back hcs hk92, q4, q5, hN, hbo⟩)
                  · refine gw_ldc dX11_run_144 wd_336 ?_
                    refine gw_goto (tgt := 154) dX11_run_146 (by decide) ?_
                    refine gw_W.wd (w' := bW cy ad sa ta (σ.1) ((sOp σ).length) ((sTr σ).length) nx2 (nI (s)) (nI (p)) (σ.2.2.2.2.1) none pg bo ++ (x9 ++ (tb2 ++ op2))) rfl ?_
                    refine gw_iret (?_) (by decide) (by decide) rfl dX11_run_154
                    subst hpost
                    unfold spRun
                    rw [if_pos hC0, hA]
                    rw [show 500 - (500 - s) = s by omega]
                    first
                      | (rw [if_neg c82, if_neg c141]; exact ⟨rfl, ad, sa, ta, oa, nx2, none, pg, bo, cB cs2 9, x9, tb2, op2, td2, rfl, List.Perm.refl _, hx9, csS_back hcs hk92, q4, q5, hN, hbo⟩)
                      | (rw [if_neg c82, if_pos (Decidable.not_not.mp c141)]; exact ⟨rfl, ad, sa, ta, oa, nx2, none, pg, bo, cB cs2 9, x9, tb2, op2, td2, rfl, List.Perm.refl _, hx9, csS_back hcs hk92, q4, q5, hN, hbo⟩)
                      | (rw [if_neg c82, if_pos c141]; exact ⟨rfl, ad, sa, ta, oa, nx2, none, pg, bo, cB cs2 9, x9, tb2, op2, td2, rfl, List.Perm.refl _, hx9, csS_back hcs hk92, q4, q5, hN, hbo⟩)
              · refine gw_aload_n dX11_run_49 rfl ?_
                refine gw_ifnull dX11_run_50 ?_
                refine gw_iload_n dX11_run_53 rfl ?_
                refine gw_if_ne (tgt := 110) dX11_run_54 (by decide) (fun c54 => ?_) (fun c54 => ?_)
                · refine gw_aload_n dX11_run_110 rfl ?_
                  refine gw_ifnonnull (tgt := 123) dX11_run_111 (by decide) ?_
                  refine gw_aload_n dX11_run_123 rfl ?_
                  refine gw_get (C0 := RX11) (T := TX11) (N := 15) (ref := RX11) 0 rfl rfl inX11 1 (by decide) wd_174 (Or.inl rfl) rfl dX11_run_124 ?_
                  refine gw_aload_n dX11_run_127 rfl ?_
                  refine gw_get (C0 := RX11) (T := TX11) (N := 15) (ref := RX11) 0 rfl rfl inX11 2 (by decide) wd_175 (Or.inl rfl) rfl dX11_run_128 ?_
                  refine gw_W.wd (w' := bW cy ad sa ta (σ.1) ((sOp σ).length) ((sTr σ).length) nx2 (nI (s)) (nI (p)) (σ.2.2.2.2.1) none pg bo ++ (x2 ++ (tb2 ++ op2))) rfl ?_
                  refine gw_callS (As := [.ref (ad 1), .ref (ad 2)]) (st := []) (c_btakeB l cy ad sa ta (σ.1) ((sOp σ).length) ((sTr σ).length) nx2 (nI (s)) (nI (p)) (σ.2.2.2.2.1) none pg bo (tb2 ++ op2) x2 (cs2) q3) ok_X11_takeAll wd_736 rfl rfl dX11_run_131 (by decide) (by decide) (Nat.le_of_ble_eq_true rfl) (fun r131 w131 hp131 => ?_)
                  obtain ⟨rfl, x9, hx9, rfl⟩ := hp131
                  refine gw_W.norm (st' := []) (k1 := 0) (k2 := 0) rfl rfl rfl ?_
                  refine gw_W.wd (w' := ([(ad 0, .inr (9, [.int (nI (σ.1)), .ref (ad 1), .ref (ad 2), .ref (sa (3 * 0)), .ref (ad 4), .ref (ad 5), .ref (ad 6), .int (nI ((sOp σ).length)), .null, .int (nx2), .int (nI (s)), .int (nI (p)), .ref (ad 12), .int (nI ((sTr σ).length)), .int (σ.2.2.2.2.1)])), (ad 1, .inl (cy 3, 9, .inr (.inr (.inr (.inr (fun i => some (sa (3 * i)))))))), (ad 2, .inl (cy 3, 9, .inr (.inr (.inr (.inr (fun i => some (sa (3 * (9 + i))))))))), (ad 5, .inl (cy 4, 8, .inr (.inr (.inr (.inr (fun i => some (ta (2 * i)))))))), (ad 6, .inl (cy 2, 40, .inr (.inr (.inr (.inr (pg)))))), (ad 12, .inl (cy 0, 16, .inl (bo)))] ++ (x9 ++ (tb2 ++ op2)))) rfl ?_
                  refine gw_iload_n dX11_run_134 rfl ?_
                  refine gw_if_eq (tgt := 144) dX11_run_135 (by decide) (fun c135 => ?_) (fun c135 => ?_)
                  · exact absurd c135 c82
                  · refine gw_iload_n dX11_run_138 rfl ?_
                    refine gw_ldc dX11_run_139 wd_336 ?_
                    refine gw_icmp_ne (tgt := 149) dX11_run_141 (by decide) (fun c141 => ?_) (fun c141 => ?_)
                    · refine gw_aload_n dX11_run_149 rfl ?_
                      refine gw_iload_n dX11_run_150 rfl ?_
                      refine gw_W.wd (w' := bW cy ad sa ta (σ.1) ((sOp σ).length) ((sTr σ).length) nx2 (nI (s)) (nI (p)) (σ.2.2.2.2.1) none pg bo ++ (x9 ++ (tb2 ++ op2))) rfl ?_
                      refine gw_callV 0 (As := [.int ((doM σ.1 (sTb σ) sm (rsD rs) (opJ (sOp σ) p)).1)]) (st := []) (c_bfound l cy ad sa ta (σ.1) ((sOp σ).length) ((sTr σ).length) nx2 (nI (s)) (nI (p)) (σ.2.2.2.2.1) none pg bo (x9 ++ (tb2 ++ op2)) ((doM σ.1 (sTb σ) sm (rsD rs) (opJ (sOp σ) p)).1)) ok_X11_found rfl rfl rfl wd_234 rfl rfl dX11_run_151 (by decide) (by decide) (Nat.le_of_ble_eq_true rfl) (fun r151 w151 hp151 => ?_)
                      obtain ⟨rfl, rfl⟩ := hp151
                      refine gw_W.norm (st' := [.int ((-1000010) - ((doM σ.1 (sTb σ) sm (rsD rs) (opJ (sOp σ) p)).1))]) (k1 := 0) (k2 := 0) rfl rfl rfl ?_
                      refine gw_W.wd (w' := ([(ad 0, .inr (9, [.int (nI (σ.1)), .ref (ad 1), .ref (ad 2), .ref (sa (3 * 0)), .ref (ad 4), .ref (ad 5), .ref (ad 6), .int (nI ((sOp σ).length)), .null, .int (nx2), .int (nI (s)), .int (nI (p)), .ref (ad 12), .int (nI ((sTr σ).length)), .int ((doM σ.1 (sTb σ) sm (rsD rs) (opJ (sOp σ) p)).1)])), (ad 1, .inl (cy 3, 9, .inr (.inr (.inr (.inr (fun i => some (sa (3 * i)))))))), (ad 2, .inl (cy 3, 9, .inr (.inr (.inr (.inr (fun i => some (sa (3 * (9 + i))))))))), (ad 5, .inl (cy 4, 8, .inr (.inr (.inr (.inr (fun i => some (ta (2 * i)))))))), (ad 6, .inl (cy 2, 40, .inr (.inr (.inr (.inr (pg)))))), (ad 12, .inl (cy 0, 16, .inl (bo)))] ++ (x9 ++ (tb2 ++ op2)))) rfl ?_
                      refine gw_W.wd (w' := bW cy ad sa ta (σ.1) ((sOp σ).length) ((sTr σ).length) nx2 (nI (s)) (nI (p)) ((doM σ.1 (sTb σ) sm (rsD rs) (opJ (sOp σ) p)).1) none pg bo ++ (x9 ++ (tb2 ++ op2))) rfl ?_
                      refine gw_iret (?_) (by decide) (by decide) rfl dX11_run_154
                      subst hpost
                      unfold spRun
                      rw [if_pos hC0, hA]
                      rw [show 500 - (500 - s) = s by omega]
                      first
                        | (rw [if_neg c82, if_neg c141]; exact ⟨rfl, ad, sa, ta, oa, nx2, none, pg, bo, cB cs2 9, x9, tb2, op2, td2, rfl, List.Perm.refl _, hx9, csS_back hcs hk92, q4, q5, hN, hbo⟩)
                        | (rw [if_neg c82, if_pos (Decidable.not_not.mp c141)]; exact ⟨rfl, ad, sa, ta, oa, nx2, none, pg, bo, cB cs2 9, x9, tb2, op2, td2, rfl, List.Perm.refl _, hx9, csS_back hcs hk92, q4, q5, hN, hbo⟩)
                        | (rw [if_neg c82, if_pos c141]; exact ⟨rfl, ad, sa, ta, oa, nx2, none, pg, bo, cB cs2 9, x9, tb2, op2, td2, rfl, List.Perm.refl _, hx9, csS_back hcs hk92, q4, q5, hN, hbo⟩)
                    · refine gw_ldc dX11_run_144 wd_336 ?_
                      refine gw_goto (tgt := 154) dX11_run_146 (by decide) ?_
                      refine gw_W.wd (w' := bW cy ad sa ta (σ.1) ((sOp σ).length) ((sTr σ).length) nx2 (nI (s)) (nI (p)) (σ.2.2.2.2.1) none pg bo ++ (x9 ++ (tb2 ++ op2))) rfl ?_
                      refine gw_iret (?_) (by decide) (by decide) rfl dX11_run_154
                      subst hpost
                      unfold spRun
                      rw [if_pos hC0, hA]
                      rw [show 500 - (500 - s) = s by omega]
                      first
                        | (rw [if_neg c82, if_neg c141]; exact ⟨rfl, ad, sa, ta, oa, nx2, none, pg, bo, cB cs2 9, x9, tb2, op2, td2, rfl, List.Perm.refl _, hx9, csS_back hcs hk92, q4, q5, hN, hbo⟩)
                        | (rw [if_neg c82, if_pos (Decidable.not_not.mp c141)]; exact ⟨rfl, ad, sa, ta, oa, nx2, none, pg, bo, cB cs2 9, x9, tb2, op2, td2, rfl, List.Perm.refl _, hx9, csS_back hcs hk92, q4, q5, hN, hbo⟩)
                        | (rw [if_neg c82, if_pos c141]; exact ⟨rfl, ad, sa, ta, oa, nx2, none, pg, bo, cB cs2 9, x9, tb2, op2, td2, rfl, List.Perm.refl _, hx9, csS_back hcs hk92, q4, q5, hN, hbo⟩)
                · exact absurd c54 c82
            · have hG : rn σ.1 (sTb σ) (sOp σ) (500 - (s + 1)) (doM σ.1 (sTb σ) sm (rsD rs) (opJ (sOp σ) p)).2 (rnN (sOp σ) p rs (opJ (sOp σ) p)).1 (rnN (sOp σ) p rs (opJ (sOp σ) p)).2 (nI p) = rnA σ := by
                have hf : 500 - s = (499 - s) + 1 := by omega
                rw [← hQ, hf, rn_go (q := (rnN (sOp σ) p rs (opJ (sOp σ) p)).1) (rs2 := (rnN (sOp σ) p rs (opJ (sOp σ) p)).2) hpL c82 rfl, show 500 - (s + 1) = 499 - s by omega]
              obtain ⟨rn1, rn2⟩ := q6 c82
              have hle := rnN_le hpL hR1 hoc
              refine gw_W.rlv (lv' := [some (.ref (ad 0)), some (.int (nI (0))), some (.ref (oa p)), some (.int (nI (s)))]) (by rw [← show (0 : Int32) = nI 0 from rfl, ← c82]; rfl) ?_
              refine gw_aload_n dX11_run_85 rfl ?_
              refine gw_dup dX11_run_86 rfl ?_
              refine gw_get (C0 := RX11) (T := TX11) (N := 15) (ref := RX11) 0 rfl rfl inX11 10 (by decide) wd_186 (Or.inl rfl) rfl dX11_run_87 ?_
              refine gw_iconst (v := nI (1)) dX11_run_90 (by decide) ?_
              refine gw_iaddN dX11_run_91 ?_
              refine gw_put (C0 := RX11) (T := TX11) (N := 15) (ref := RX11) (ty := tyX11 10) 0 rfl rfl inX11 10 (by decide) tyX11 tyX11_ok nmX11 wd_186 (Or.inl rfl) rfl (tyX11_ok 10 (by decide)) (rfl) (rfl) (Nat.le_of_ble_eq_true rfl) dX11_run_92 ?_
              refine gw_W.wd (w' := ([(ad 0, .inr (9, [.int (nI (σ.1)), .ref (ad 1), .ref (ad 2), .ref (sa (3 * 0)), .ref (ad 4), .ref (ad 5), .ref (ad 6), .int (nI ((sOp σ).length)), .null, .int (nx2), .int (nI (s + 1)), .int (nI (p)), .ref (ad 12), .int (nI ((sTr σ).length)), .int (σ.2.2.2.2.1)])), (ad 1, .inl (cy 3, 9, .inr (.inr (.inr (.inr (fun i => some (sa (3 * i)))))))), (ad 2, .inl (cy 3, 9, .inr (.inr (.inr (.inr (fun i => some (sa (3 * (9 + i))))))))), (ad 5, .inl (cy 4, 8, .inr (.inr (.inr (.inr (fun i => some (ta (2 * i)))))))), (ad 6, .inl (cy 2, 40, .inr (.inr (.inr (.inr (pg)))))), (ad 12, .inl (cy 0, 16, .inl (bo)))] ++ (x2 ++ (tb2 ++ op2)))) rfl ?_
              refine gw_aload_n dX11_run_95 rfl ?_
              refine gw_aload_n dX11_run_96 rfl ?_
              refine gw_get (C0 := RX11) (T := TX11) (N := 15) (ref := RX11) 0 rfl rfl inX11 9 (by decide) wd_185 (Or.inl rfl) rfl dX11_run_97 ?_
              refine gw_topi (y := nI ((rnN (sOp σ) p rs (opJ (sOp σ) p)).1)) (rn1) ?_
              refine gw_W.wd (w' := bW cy ad sa ta (σ.1) ((sOp σ).length) ((sTr σ).length) nx2 (nI (s + 1)) (nI (p)) (σ.2.2.2.2.1) none pg bo ++ (x2 ++ (tb2 ++ op2))) rfl ?_
              refine gw_callV 0 (As := [.int (nI ((rnN (sOp σ) p rs (opJ (sOp σ) p)).1))]) (st := []) (c_bopAt l cy ad sa ta (σ.1) ((sOp σ).length) ((sTr σ).length) nx2 (nI (s + 1)) (nI (p)) (σ.2.2.2.2.1) none pg bo (x2 ++ (tb2 ++ op2)) (nI ((rnN (sOp σ) p rs (opJ (sOp σ) p)).1)) (by omega)) ok_X11_opAt rfl rfl rfl wd_614 rfl rfl dX11_run_100 (by decide) (by decide) (Nat.le_of_ble_eq_true rfl) (fun r100 w100 hp100 => ?_)
              obtain ⟨rfl, rfl⟩ := hp100
              rw [opAt_n l40 (by omega) hop.2.2]
              generalize hob : (if ((rnN (sOp σ) p rs (opJ (sOp σ) p)).1) < (sOp σ).length then some (oa ((rnN (sOp σ) p rs (opJ (sOp σ) p)).1)) else none) = ob
              cases ob with
              | none =>
                refine gw_W.norm (st' := [.null]) (k1 := 0) (k2 := 0) rfl rfl rfl ?_
                refine gw_W.wd (w' := ([(ad 0, .inr (9, [.int (nI (σ.1)), .ref (ad 1), .ref (ad 2), .ref (sa (3 * 0)), .ref (ad 4), .ref (ad 5), .ref (ad 6), .int (nI ((sOp σ).length)), .null, .int (nx2), .int (nI (s + 1)), .int (nI (p)), .ref (ad 12), .int (nI ((sTr σ).length)), .int (σ.2.2.2.2.1)])), (ad 1, .inl (cy 3, 9, .inr (.inr (.inr (.inr (fun i => some (sa (3 * i)))))))), (ad 2, .inl (cy 3, 9, .inr (.inr (.inr (.inr (fun i => some (sa (3 * (9 + i))))))))), (ad 5, .inl (cy 4, 8, .inr (.inr (.inr (.inr (fun i => some (ta (2 * i)))))))), (ad 6, .inl (cy 2, 40, .inr (.inr (.inr (.inr (pg)))))), (ad 12, .inl (cy 0, 16, .inl (bo)))] ++ (x2 ++ (tb2 ++ op2)))) rfl ?_
                refine gw_astore_nN dX11_run_103 (by decide) rfl ?_
                refine gw_iinc (v := nI (s + 1)) dX11_run_104 rfl (nI_add _ 1) (by decide) rfl ?_
                refine gw_W.rlv (lv' := [some (.ref (ad 0)), some (.int (nI (0))), some (va_rf (if ((rnN (sOp σ) p rs (opJ (sOp σ) p)).1) < (sOp σ).length then some (oa ((rnN (sOp σ) p rs (opJ (sOp σ) p)).1)) else none)), some (.int (nI (s + 1)))]) (by rw [hob]; rfl) ?_
                refine gw_goto (tgt := 42) dX11_run_107 (by decide) ?_
                refine ih42 (s + 1) ((rnN (sOp σ) p rs (opJ (sOp σ) p)).1) ((rnN (sOp σ) p rs (opJ (sOp σ) p)).2) ((doM σ.1 (sTb σ) sm (rsD rs) (opJ (sOp σ) p)).2) (nI p) (cs2) (x2) (tb2) (op2) (td2) (nx2) (by omega) hG q1 hk92 q3 q4 q5 rn2 hle ?_
                omega
              | some oj =>
                refine gw_W.norm (st' := [.ref (oj)]) (k1 := 0) (k2 := 0) rfl rfl rfl ?_
                refine gw_W.wd (w' := ([(ad 0, .inr (9, [.int (nI (σ.1)), .ref (ad 1), .ref (ad 2), .ref (sa (3 * 0)), .ref (ad 4), .ref (ad 5), .ref (ad 6), .int (nI ((sOp σ).length)), .null, .int (nx2), .int (nI (s + 1)), .int (nI (p)), .ref (ad 12), .int (nI ((sTr σ).length)), .int (σ.2.2.2.2.1)])), (ad 1, .inl (cy 3, 9, .inr (.inr (.inr (.inr (fun i => some (sa (3 * i)))))))), (ad 2, .inl (cy 3, 9, .inr (.inr (.inr (.inr (fun i => some (sa (3 * (9 + i))))))))), (ad 5, .inl (cy 4, 8, .inr (.inr (.inr (.inr (fun i => some (ta (2 * i)))))))), (ad 6, .inl (cy 2, 40, .inr (.inr (.inr (.inr (pg)))))), (ad 12, .inl (cy 0, 16, .inl (bo)))] ++ (x2 ++ (tb2 ++ op2)))) rfl ?_
                refine gw_astore_n dX11_run_103 (by decide) rfl ?_
                refine gw_iinc (v := nI (s + 1)) dX11_run_104 rfl (nI_add _ 1) (by decide) rfl ?_
                refine gw_W.rlv (lv' := [some (.ref (ad 0)), some (.int (nI (0))), some (va_rf (if ((rnN (sOp σ) p rs (opJ (sOp σ) p)).1) < (sOp σ).length then some (oa ((rnN (sOp σ) p rs (opJ (sOp σ) p)).1)) else none)), some (.int (nI (s + 1)))]) (by rw [hob]; rfl) ?_
                refine gw_goto (tgt := 42) dX11_run_107 (by decide) ?_
                refine ih42 (s + 1) ((rnN (sOp σ) p rs (opJ (sOp σ) p)).1) ((rnN (sOp σ) p rs (opJ (sOp σ) p)).2) ((doM σ.1 (sTb σ) sm (rsD rs) (opJ (sOp σ) p)).2) (nI p) (cs2) (x2) (tb2) (op2) (td2) (nx2) (by omega) hG q1 hk92 q3 q4 q5 rn2 hle ?_
                omega
        · rw [if_neg hpL]
          refine gw_W.rlv (lv' := [some (.ref (ad 0)), some (.int (nI (0))), some (.null), some (.int (nI (s)))]) rfl ?_
          refine gw_iload_n dX11_run_42 rfl ?_
          refine gw_sipush (v := nI (500)) dX11_run_43 (by decide) ?_
          refine gw_icmpN_ge (tgt := 110) dX11_run_46 (by decide) (by omega) (by omega) (fun c46 => ?_) (fun c46 => ?_)
          · refine gw_aload_nN dX11_run_110 rfl ?_
            refine gw_ifnonnullN dX11_run_111 ?_
            refine gw_aload_n dX11_run_114 rfl ?_
            refine gw_aload_n dX11_run_115 rfl ?_
            refine gw_get (C0 := RX11) (T := TX11) (N := 15) (ref := RX11) 0 rfl rfl inX11 10 (by decide) wd_186 (Or.inl rfl) rfl dX11_run_116 ?_
            refine gw_W.wd (w' := bW cy ad sa ta (σ.1) ((sOp σ).length) ((sTr σ).length) nx1 (nI (s)) y (σ.2.2.2.2.1) none pg bo ++ (x1 ++ (tb1 ++ op1))) rfl ?_
            refine gw_callV 0 (As := [.int (nI (s))]) (st := []) (c_bnotFound l cy ad sa ta (σ.1) ((sOp σ).length) ((sTr σ).length) nx1 (nI (s)) y (σ.2.2.2.2.1) none pg bo (x1 ++ (tb1 ++ op1)) (nI (s))) ok_X11_notFound rfl rfl rfl wd_246 rfl rfl dX11_run_119 (by decide) (by decide) (Nat.le_of_ble_eq_true rfl) (fun r119 w119 hp119 => ?_)
            obtain ⟨rfl, rfl⟩ := hp119
            refine gw_W.norm (st' := [.int (nI (s))]) (k1 := 0) (k2 := 0) rfl rfl rfl ?_
            refine gw_W.wd (w' := ([(ad 0, .inr (9, [.int (nI (σ.1)), .ref (ad 1), .ref (ad 2), .ref (sa (3 * 0)), .ref (ad 4), .ref (ad 5), .ref (ad 6), .int (nI ((sOp σ).length)), .null, .int (nx1), .int (nI (s)), .int (y), .ref (ad 12), .int (nI ((sTr σ).length)), .int (0)])), (ad 1, .inl (cy 3, 9, .inr (.inr (.inr (.inr (fun i => some (sa (3 * i)))))))), (ad 2, .inl (cy 3, 9, .inr (.inr (.inr (.inr (fun i => some (sa (3 * (9 + i))))))))), (ad 5, .inl (cy 4, 8, .inr (.inr (.inr (.inr (fun i => some (ta (2 * i)))))))), (ad 6, .inl (cy 2, 40, .inr (.inr (.inr (.inr (pg)))))), (ad 12, .inl (cy 0, 16, .inl (bo)))] ++ (x1 ++ (tb1 ++ op1)))) rfl ?_
            refine gw_W.wd (w' := bW cy ad sa ta (σ.1) ((sOp σ).length) ((sTr σ).length) nx1 (nI (s)) y 0 none pg bo ++ (x1 ++ (tb1 ++ op1))) rfl ?_
            refine gw_iret (?_) (by decide) (by decide) rfl dX11_run_122
            subst hpost
            have hA : rnA σ = (0, sm, 500 - s, y) := by rw [← hQ]; exact rn_end hpL
            unfold spRun
            rw [if_pos hC0, hA]
            rw [if_pos rfl, show 500 - (500 - s) = s by omega]
            exact ⟨rfl, ad, sa, ta, oa, nx1, none, pg, bo, cs1, x1, tb1, op1, td1, rfl, List.Perm.refl _, hx1, hc1, ht1, ho1, hN, hbo⟩
          · refine gw_aload_nN dX11_run_49 rfl ?_
            refine gw_ifnullN (tgt := 110) dX11_run_50 (by decide) ?_
            refine gw_aload_nN dX11_run_110 rfl ?_
            refine gw_ifnonnullN dX11_run_111 ?_
            refine gw_aload_n dX11_run_114 rfl ?_
            refine gw_aload_n dX11_run_115 rfl ?_
            refine gw_get (C0 := RX11) (T := TX11) (N := 15) (ref := RX11) 0 rfl rfl inX11 10 (by decide) wd_186 (Or.inl rfl) rfl dX11_run_116 ?_
            refine gw_W.wd (w' := bW cy ad sa ta (σ.1) ((sOp σ).length) ((sTr σ).length) nx1 (nI (s)) y (σ.2.2.2.2.1) none pg bo ++ (x1 ++ (tb1 ++ op1))) rfl ?_
            refine gw_callV 0 (As := [.int (nI (s))]) (st := []) (c_bnotFound l cy ad sa ta (σ.1) ((sOp σ).length) ((sTr σ).length) nx1 (nI (s)) y (σ.2.2.2.2.1) none pg bo (x1 ++ (tb1 ++ op1)) (nI (s))) ok_X11_notFound rfl rfl rfl wd_246 rfl rfl dX11_run_119 (by decide) (by decide) (Nat.le_of_ble_eq_true rfl) (fun r119 w119 hp119 => ?_)
            obtain ⟨rfl, rfl⟩ := hp119
            refine gw_W.norm (st' := [.int (nI (s))]) (k1 := 0) (k2 := 0) rfl rfl rfl ?_
            refine gw_W.wd (w' := ([(ad 0, .inr (9, [.int (nI (σ.1)), .ref (ad 1), .ref (ad 2), .ref (sa (3 * 0)), .ref (ad 4), .ref (ad 5), .ref (ad 6), .int (nI ((sOp σ).length)), .null, .int (nx1), .int (nI (s)), .int (y), .ref (ad 12), .int (nI ((sTr σ).length)), .int (0)])), (ad 1, .inl (cy 3, 9, .inr (.inr (.inr (.inr (fun i => some (sa (3 * i)))))))), (ad 2, .inl (cy 3, 9, .inr (.inr (.inr (.inr (fun i => some (sa (3 * (9 + i))))))))), (ad 5, .inl (cy 4, 8, .inr (.inr (.inr (.inr (fun i => some (ta (2 * i)))))))), (ad 6, .inl (cy 2, 40, .inr (.inr (.inr (.inr (pg)))))), (ad 12, .inl (cy 0, 16, .inl (bo)))] ++ (x1 ++ (tb1 ++ op1)))) rfl ?_
            refine gw_W.wd (w' := bW cy ad sa ta (σ.1) ((sOp σ).length) ((sTr σ).length) nx1 (nI (s)) y 0 none pg bo ++ (x1 ++ (tb1 ++ op1))) rfl ?_
            refine gw_iret (?_) (by decide) (by decide) rfl dX11_run_122
            subst hpost
            have hA : rnA σ = (0, sm, 500 - s, y) := by rw [← hQ]; exact rn_end hpL
            unfold spRun
            rw [if_pos hC0, hA]
            rw [if_pos rfl, show 500 - (500 - s) = s by omega]
            exact ⟨rfl, ad, sa, ta, oa, nx1, none, pg, bo, cs1, x1, tb1, op1, td1, rfl, List.Perm.refl _, hx1, hc1, ht1, ho1, hN, hbo⟩
    refine gw_aload_n dX11_run_34 rfl ?_
    refine gw_iconst (v := nI (0)) dX11_run_35 (by decide) ?_
    refine gw_W.wd (w' := bW cy ad sa ta (σ.1) ((sOp σ).length) ((sTr σ).length) nx (nI (0)) (((-1000000) : Int32)) (σ.2.2.2.2.1) none pg bo ++ (x9 ++ (tb ++ op))) rfl ?_
    refine gw_callV 0 (As := [.int (nI (0))]) (st := []) (c_bopAt l cy ad sa ta (σ.1) ((sOp σ).length) ((sTr σ).length) nx (nI (0)) (((-1000000) : Int32)) (σ.2.2.2.2.1) none pg bo (x9 ++ (tb ++ op)) (nI (0)) (by omega)) ok_X11_opAt rfl rfl rfl wd_614 rfl rfl dX11_run_36 (by decide) (by decide) (Nat.le_of_ble_eq_true rfl) (fun r36 w36 hp36 => ?_)
    obtain ⟨rfl, rfl⟩ := hp36
    rw [opAt_n l40 (by omega) hop.2.2]
    generalize hob : (if 0 < (sOp σ).length then some (oa (0)) else none) = ob
    cases ob with
    | none =>
      refine gw_W.norm (st' := [.null]) (k1 := 0) (k2 := 0) rfl rfl rfl ?_
      refine gw_W.wd (w' := ([(ad 0, .inr (9, [.int (nI (σ.1)), .ref (ad 1), .ref (ad 2), .ref (sa (3 * 0)), .ref (ad 4), .ref (ad 5), .ref (ad 6), .int (nI ((sOp σ).length)), .null, .int (nx), .int (nI (0)), .int (((-1000000) : Int32)), .ref (ad 12), .int (nI ((sTr σ).length)), .int (σ.2.2.2.2.1)])), (ad 1, .inl (cy 3, 9, .inr (.inr (.inr (.inr (fun i => some (sa (3 * i)))))))), (ad 2, .inl (cy 3, 9, .inr (.inr (.inr (.inr (fun i => some (sa (3 * (9 + i))))))))), (ad 5, .inl (cy 4, 8, .inr (.inr (.inr (.inr (fun i => some (ta (2 * i)))))))), (ad 6, .inl (cy 2, 40, .inr (.inr (.inr (.inr (pg)))))), (ad 12, .inl (cy 0, 16, .inl (bo)))] ++ (x9 ++ (tb ++ op)))) rfl ?_
      refine gw_astore_nN dX11_run_39 (by decide) rfl ?_
      refine gw_iconst (v := nI (0)) dX11_run_40 (by decide) ?_
      refine gw_istore_n dX11_run_41 (by decide) rfl ?_
      refine gw_W.rlv (lv' := [some (.ref (ad 0)), some (.int (nI (0))), some (va_rf (if 0 < (sOp σ).length then some (oa (0)) else none)), some (.int (nI (0)))]) (by rw [hob]; rfl) ?_
      refine cut42 _ (0) (0) ([]) (sSm σ) ((-1000000)) (cA cs 9) (x9) (tb) (op) (td) (nx) (Nat.zero_le _) rfl (csS_A hcs) cA_9 hx9 htb hop (⟨rfl, fun e he => by cases he⟩) (Nat.zero_le _) (Nat.lt_succ_self _)
    | some oj =>
      refine gw_W.norm (st' := [.ref (oj)]) (k1 := 0) (k2 := 0) rfl rfl rfl ?_
      refine gw_W.wd (w' := ([(ad 0, .inr (9, [.int (nI (σ.1)), .ref (ad 1), .ref (ad 2), .ref (sa (3 * 0)), .ref (ad 4), .ref (ad 5), .ref (ad 6), .int (nI ((sOp σ).length)), .null, .int (nx), .int (nI (0)), .int (((-1000000) : Int32)), .ref (ad 12), .int (nI ((sTr σ).length)), .int (σ.2.2.2.2.1)])), (ad 1, .inl (cy 3, 9, .inr (.inr (.inr (.inr (fun i => some (sa (3 * i)))))))), (ad 2, .inl (cy 3, 9, .inr (.inr (.inr (.inr (fun i => some (sa (3 * (9 + i))))))))), (ad 5, .inl (cy 4, 8, .inr (.inr (.inr (.inr (fun i => some (ta (2 * i)))))))), (ad 6, .inl (cy 2, 40, .inr (.inr (.inr (.inr (pg)))))), (ad 12, .inl (cy 0, 16, .inl (bo)))] ++ (x9 ++ (tb ++ op)))) rfl ?_
      refine gw_astore_n dX11_run_39 (by decide) rfl ?_
      refine gw_iconst (v := nI (0)) dX11_run_40 (by decide) ?_
      refine gw_istore_n dX11_run_41 (by decide) rfl ?_
      refine gw_W.rlv (lv' := [some (.ref (ad 0)), some (.int (nI (0))), some (va_rf (if 0 < (sOp σ).length then some (oa (0)) else none)), some (.int (nI (0)))]) (by rw [hob]; rfl) ?_
      refine cut42 _ (0) (0) ([]) (sSm σ) ((-1000000)) (cA cs 9) (x9) (tb) (op) (td) (nx) (Nat.zero_le _) rfl (csS_A hcs) cA_9 hx9 htb hop (⟨rfl, fun e he => by cases he⟩) (Nat.zero_le _) (Nat.lt_succ_self _)
  | cons j r =>
    rw [e] at hlo hk
    have hlo : lo = some (oa j) := hlo
    subst hlo
    rw [List.length_cons] at hk
    have hC0 : ¬ opC σ = 0 := by omega
    refine gw_M.mk (lv := [some (.ref (ad 0)), none, none, none]) (by decide) (Nat.le_of_ble_eq_true rfl) rfl ?_
    generalize hpost : (cPost cy (ad 0) (spRun σ) : gw_Q) = post
    refine gw_W.wd (w' := ([(ad 0, .inr (9, [.int (nI (σ.1)), .ref (ad 1), .ref (ad 2), .ref (sa (3 * 0)), .ref (ad 4), .ref (ad 5), .ref (ad 6), .int (nI ((sOp σ).length)), .ref (oa j), .int (nx), .int (σ.2.2.2.2.2.2.1), .int (σ.2.2.2.2.2.2.2), .ref (ad 12), .int (nI ((sTr σ).length)), .int (σ.2.2.2.2.1)])), (ad 1, .inl (cy 3, 9, .inr (.inr (.inr (.inr (fun i => some (sa (3 * i)))))))), (ad 2, .inl (cy 3, 9, .inr (.inr (.inr (.inr (fun i => some (sa (3 * (9 + i))))))))), (ad 5, .inl (cy 4, 8, .inr (.inr (.inr (.inr (fun i => some (ta (2 * i)))))))), (ad 6, .inl (cy 2, 40, .inr (.inr (.inr (.inr (pg)))))), (ad 12, .inl (cy 0, 16, .inl (bo)))] ++ (xs ++ (tb ++ op)))) rfl ?_
    refine gw_aload_n dX11_run_0 rfl ?_
    refine gw_get (C0 := RX11) (T := TX11) (N := 15) (ref := RX11) 0 rfl rfl inX11 8 (by decide) wd_183 (Or.inl rfl) rfl dX11_run_1 ?_
    refine gw_ifnull dX11_run_4 ?_
    refine gw_ldc dX11_run_7 wd_559 ?_
    refine gw_W.wd (w' := bW cy ad sa ta (σ.1) ((sOp σ).length) ((sTr σ).length) nx (σ.2.2.2.2.2.2.1) (σ.2.2.2.2.2.2.2) (σ.2.2.2.2.1) (some (oa j)) pg bo ++ (xs ++ (tb ++ op))) rfl ?_
    refine gw_iret (?_) (by decide) (by decide) rfl dX11_run_9
    subst hpost
    unfold spRun
    rw [if_neg hC0]
    exact ⟨rfl, ad, sa, ta, oa, nx, some (oa j), pg, bo, cs, xs, tb, op, td, rfl, List.Perm.refl _, hxs, hcs, htb, hop, hN, hbo⟩
