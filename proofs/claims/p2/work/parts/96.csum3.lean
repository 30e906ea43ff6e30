/-! the class: become, isLike; take, same, join, add, product -/
abbrev kX9_become : gw_K := (yX9_become, cX9_become, 2, { frames := 1, cells := 0, slots := 0, locals := 60 }, none)
theorem ok_X9_become : gw_calV kX9_become 1 := ⟨⟨wd_344, wd_60, by decide, by decide, by decide +kernel⟩, wd_343, wd_17⟩
set_option maxHeartbeats 4000000 in
set_option maxRecDepth 100000 in
theorem c_sbecome (l : Launch) (cy : Nat → ClassId) (s0 s1 s2 r0 r1 r2 : Nat) (sz : Int32) (n : Nat) (sk rk : Nat → Int32) (sn rn : Nat → Int64) (hn : n ≤ 300) : gw_M l kX9_become cy [.ref (s0), .ref (r0)] ((sW3 cy s0 s1 s2 (sz) sk sn) ++ (sW3 cy r0 r1 r2 (nI n) rk rn)) (fun r w' => r = none ∧ ∃ (k2 : Nat → Int32) (n2 : Nat → Int64), w' = (sW3 cy s0 s1 s2 (nI n) k2 n2) ++ (sW3 cy r0 r1 r2 (nI n) rk rn) ∧ takeS k2 n2 0 n = takeS rk rn 0 n) := by
  refine gw_M.mk (lv := [some (.ref (s0)), some (.ref (r0))]) (by decide) (Nat.le_of_ble_eq_true rfl) rfl ?_
  generalize hpost : (fun r w' => r = none ∧ ∃ (k2 : Nat → Int32) (n2 : Nat → Int64), w' = (sW3 cy s0 s1 s2 (nI n) k2 n2) ++ (sW3 cy r0 r1 r2 (nI n) rk rn) ∧ takeS k2 n2 0 n = takeS rk rn 0 n : gw_Q) = post
  refine gw_W.wd (w' := [(s0, .inr (7, [.ref (s1), .ref (s2), .int (sz)])), (s1, .inl (cy 0, 300, .inl (sk))), (s2, .inl (cy 1, 300, .inr (.inl (sn)))), (r0, .inr (7, [.ref (r1), .ref (r2), .int (nI (n))])), (r1, .inl (cy 0, 300, .inl (rk))), (r2, .inl (cy 1, 300, .inr (.inl (rn))))]) rfl ?_
  refine gw_aload_n dX9_become_0 rfl ?_
  refine gw_get (C0 := RX9) (T := TX9) (N := 3) (ref := RX9) 3 rfl rfl inX9 0 (by decide) wd_133 (Or.inl rfl) rfl dX9_become_1 ?_
  refine gw_iconst (v := nI (0)) dX9_become_4 (by decide) ?_
  refine gw_aload_n dX9_become_5 rfl ?_
  refine gw_get (C0 := RX9) (T := TX9) (N := 3) (ref := RX9) 0 rfl rfl inX9 0 (by decide) wd_133 (Or.inl rfl) rfl dX9_become_6 ?_
  refine gw_iconst (v := nI (0)) dX9_become_9 (by decide) ?_
  refine gw_aload_n dX9_become_10 rfl ?_
  refine gw_get (C0 := RX9) (T := TX9) (N := 3) (ref := RX9) 3 rfl rfl inX9 2 (by decide) wd_139 (Or.inl rfl) rfl dX9_become_11 ?_
  refine gw_copyI (sp := 0) (dp := 0) (n := n) wd_345 wd_268 wd_267 wd_64 4 1 rfl rfl (rfl) (rfl) (rfl) (by omega) (by omega) (by decide) ⟨by decide, Nat.le_of_ble_eq_true rfl⟩ dX9_become_14 ?_
  refine gw_W.wd (w' := [(s0, .inr (7, [.ref (s1), .ref (s2), .int (sz)])), (s1, .inl (cy 0, 300, .inl (va_cpy rk sk 0 0 n))), (s2, .inl (cy 1, 300, .inr (.inl (sn)))), (r0, .inr (7, [.ref (r1), .ref (r2), .int (nI (n))])), (r1, .inl (cy 0, 300, .inl (rk))), (r2, .inl (cy 1, 300, .inr (.inl (rn))))]) rfl ?_
  refine gw_aload_n dX9_become_17 rfl ?_
  refine gw_get (C0 := RX9) (T := TX9) (N := 3) (ref := RX9) 3 rfl rfl inX9 1 (by decide) wd_136 (Or.inl rfl) rfl dX9_become_18 ?_
  refine gw_iconst (v := nI (0)) dX9_become_21 (by decide) ?_
  refine gw_aload_n dX9_become_22 rfl ?_
  refine gw_get (C0 := RX9) (T := TX9) (N := 3) (ref := RX9) 0 rfl rfl inX9 1 (by decide) wd_136 (Or.inl rfl) rfl dX9_become_23 ?_
  refine gw_iconst (v := nI (0)) dX9_become_26 (by decide) ?_
  refine gw_aload_n dX9_become_27 rfl ?_
  refine gw_get (C0 := RX9) (T := TX9) (N := 3) (ref := RX9) 3 rfl rfl inX9 2 (by decide) wd_139 (Or.inl rfl) rfl dX9_become_28 ?_
  refine gw_copyJ (sp := 0) (dp := 0) (n := n) wd_345 wd_268 wd_267 wd_64 5 2 rfl rfl (rfl) (rfl) (rfl) (by omega) (by omega) (by decide) ⟨by decide, Nat.le_of_ble_eq_true rfl⟩ dX9_become_31 ?_
  refine gw_W.wd (w' := [(s0, .inr (7, [.ref (s1), .ref (s2), .int (sz)])), (s1, .inl (cy 0, 300, .inl (va_cpy rk sk 0 0 n))), (s2, .inl (cy 1, 300, .inr (.inl (va_cpy rn sn 0 0 n)))), (r0, .inr (7, [.ref (r1), .ref (r2), .int (nI (n))])), (r1, .inl (cy 0, 300, .inl (rk))), (r2, .inl (cy 1, 300, .inr (.inl (rn))))]) rfl ?_
  refine gw_aload_n dX9_become_34 rfl ?_
  refine gw_aload_n dX9_become_35 rfl ?_
  refine gw_get (C0 := RX9) (T := TX9) (N := 3) (ref := RX9) 3 rfl rfl inX9 2 (by decide) wd_139 (Or.inl rfl) rfl dX9_become_36 ?_
  refine gw_put (C0 := RX9) (T := TX9) (N := 3) (ref := RX9) (ty := tyX9 2) 0 rfl rfl inX9 2 (by decide) tyX9 tyX9_ok nmX9 wd_139 (Or.inl rfl) rfl (tyX9_ok 2 (by decide)) (rfl) rfl (Nat.le_of_ble_eq_true rfl) dX9_become_39 ?_
  refine gw_W.wd (w' := [(s0, .inr (7, [.ref (s1), .ref (s2), .int (nI (n))])), (s1, .inl (cy 0, 300, .inl (va_cpy rk sk 0 0 n))), (s2, .inl (cy 1, 300, .inr (.inl (va_cpy rn sn 0 0 n)))), (r0, .inr (7, [.ref (r1), .ref (r2), .int (nI (n))])), (r1, .inl (cy 0, 300, .inl (rk))), (r2, .inl (cy 1, 300, .inr (.inl (rn))))]) rfl ?_
  refine gw_vret (?_) (by decide) (by decide) rfl dX9_become_42
  subst hpost
  exact ⟨rfl, _, _, rfl, takeS_congr (fun j hj => ⟨cpy_in hj, cpyL_in hj⟩)⟩
set_option maxHeartbeats 4000000 in
set_option maxRecDepth 100000 in
theorem d_sbecome (l : Launch) (cy : Nat → ClassId) (s0 s1 s2 : Nat) (n : Nat) (sk : Nat → Int32) (sn : Nat → Int64) (hn : n ≤ 300) : gw_M l kX9_become cy [.ref (s0), .ref (s0)] ((sW3 cy s0 s1 s2 (nI n) sk sn)) (fun r w' => r = none ∧ ∃ (k2 : Nat → Int32) (n2 : Nat → Int64), w' = (sW3 cy s0 s1 s2 (nI n) k2 n2) ∧ takeS k2 n2 0 n = takeS sk sn 0 n) := by
  refine gw_M.mk (lv := [some (.ref (s0)), some (.ref (s0))]) (by decide) (Nat.le_of_ble_eq_true rfl) rfl ?_
  generalize hpost : (fun r w' => r = none ∧ ∃ (k2 : Nat → Int32) (n2 : Nat → Int64), w' = (sW3 cy s0 s1 s2 (nI n) k2 n2) ∧ takeS k2 n2 0 n = takeS sk sn 0 n : gw_Q) = post
  refine gw_W.wd (w' := [(s0, .inr (7, [.ref (s1), .ref (s2), .int (nI (n))])), (s1, .inl (cy 0, 300, .inl (sk))), (s2, .inl (cy 1, 300, .inr (.inl (sn))))]) rfl ?_
  refine gw_aload_n dX9_become_0 rfl ?_
  refine gw_get (C0 := RX9) (T := TX9) (N := 3) (ref := RX9) 0 rfl rfl inX9 0 (by decide) wd_133 (Or.inl rfl) rfl dX9_become_1 ?_
  refine gw_iconst (v := nI (0)) dX9_become_4 (by decide) ?_
  refine gw_aload_n dX9_become_5 rfl ?_
  refine gw_get (C0 := RX9) (T := TX9) (N := 3) (ref := RX9) 0 rfl rfl inX9 0 (by decide) wd_133 (Or.inl rfl) rfl dX9_become_6 ?_
  refine gw_iconst (v := nI (0)) dX9_become_9 (by decide) ?_
  refine gw_aload_n dX9_become_10 rfl ?_
  refine gw_get (C0 := RX9) (T := TX9) (N := 3) (ref := RX9) 0 rfl rfl inX9 2 (by decide) wd_139 (Or.inl rfl) rfl dX9_become_11 ?_
  refine gw_copyI (sp := 0) (dp := 0) (n := n) wd_345 wd_268 wd_267 wd_64 1 1 rfl rfl (rfl) (rfl) (rfl) (by omega) (by omega) (by decide) ⟨by decide, Nat.le_of_ble_eq_true rfl⟩ dX9_become_14 ?_
  refine gw_W.wd (w' := [(s0, .inr (7, [.ref (s1), .ref (s2), .int (nI (n))])), (s1, .inl (cy 0, 300, .inl (va_cpy sk sk 0 0 n))), (s2, .inl (cy 1, 300, .inr (.inl (sn))))]) rfl ?_
  refine gw_aload_n dX9_become_17 rfl ?_
  refine gw_get (C0 := RX9) (T := TX9) (N := 3) (ref := RX9) 0 rfl rfl inX9 1 (by decide) wd_136 (Or.inl rfl) rfl dX9_become_18 ?_
  refine gw_iconst (v := nI (0)) dX9_become_21 (by decide) ?_
  refine gw_aload_n dX9_become_22 rfl ?_
  refine gw_get (C0 := RX9) (T := TX9) (N := 3) (ref := RX9) 0 rfl rfl inX9 1 (by decide) wd_136 (Or.inl rfl) rfl dX9_become_23 ?_
  refine gw_iconst (v := nI (0)) dX9_become_26 (by decide) ?_
  refine gw_aload_n dX9_become_27 rfl ?_
  refine gw_get (C0 := RX9) (T := TX9) (N := 3) (ref := RX9) 0 rfl rfl inX9 2 (by decide) wd_139 (Or.inl rfl) rfl dX9_become_28 ?_
  refine gw_copyJ (sp := 0) (dp := 0) (n := n) wd_345 wd_268 wd_267 wd_64 2 2 rfl rfl (rfl) (rfl) (rfl) (by omega) (by omega) (by decide) ⟨by decide, Nat.le_of_ble_eq_true rfl⟩ dX9_become_31 ?_
  refine gw_W.wd (w' := [(s0, .inr (7, [.ref (s1), .ref (s2), .int (nI (n))])), (s1, .inl (cy 0, 300, .inl (va_cpy sk sk 0 0 n))), (s2, .inl (cy 1, 300, .inr (.inl (va_cpy sn sn 0 0 n))))]) rfl ?_
  refine gw_aload_n dX9_become_34 rfl ?_
  refine gw_aload_n dX9_become_35 rfl ?_
  refine gw_get (C0 := RX9) (T := TX9) (N := 3) (ref := RX9) 0 rfl rfl inX9 2 (by decide) wd_139 (Or.inl rfl) rfl dX9_become_36 ?_
  refine gw_put (C0 := RX9) (T := TX9) (N := 3) (ref := RX9) (ty := tyX9 2) 0 rfl rfl inX9 2 (by decide) tyX9 tyX9_ok nmX9 wd_139 (Or.inl rfl) rfl (tyX9_ok 2 (by decide)) (rfl) rfl (Nat.le_of_ble_eq_true rfl) dX9_become_39 ?_
  refine gw_W.wd (w' := [(s0, .inr (7, [.ref (s1), .ref (s2), .int (nI (n))])), (s1, .inl (cy 0, 300, .inl (va_cpy sk sk 0 0 n))), (s2, .inl (cy 1, 300, .inr (.inl (va_cpy sn sn 0 0 n))))]) rfl ?_
  refine gw_vret (?_) (by decide) (by decide) rfl dX9_become_42
  subst hpost
  exact ⟨rfl, _, _, rfl, takeS_congr (fun j hj => ⟨cpy_in hj, cpyL_in hj⟩)⟩
theorem fam_out2 {n i j : Nat} (f : Nat → va_W) (h : i < n) (hj : j < n) (hne : ¬ j = i) : ∃ R, (famW n f).Perm (f i ++ (f j ++ R)) ∧ ∀ g : Nat → va_W, (∀ k, ¬ k = i → g k = f k) → (famW n g).Perm (g i ++ (f j ++ R)) := by
  have hm : j ∈ (List.range n).erase i := (List.mem_erase_of_ne hne).mpr (List.mem_range.mpr hj)
  refine ⟨(((List.range n).erase i).erase j).flatMap f, ?_, fun g hg => ?_⟩
  · refine (fam_out f h).trans (List.Perm.append_left _ ?_)
    unfold famX
    have := (List.perm_cons_erase hm).flatMap_right f
    rw [List.flatMap_cons] at this; exact this
  · refine (fam_out g h).trans (List.Perm.append_left _ ?_)
    rw [famX_congr (g := f) hg]
    unfold famX
    have := (List.perm_cons_erase hm).flatMap_right f
    rw [List.flatMap_cons] at this; exact this
theorem ss_become (l : Launch) (cy : Nat → ClassId) (sa : Nat → Nat) (cs : Nat → List sT) (s : va_W) (i j : Nat) (h : ssP cy sa cs s) (hi : i < 18) (hj : j < 18) : gw_M l kX9_become cy [.ref (sa (3 * i)), .ref (sa (3 * j))] s (fun r w' => r = none ∧ ssP cy sa (va_up cs i (cs j)) w') := by
  by_cases e : j = i
  · subst e
    obtain ⟨sk, sn, R, g1, g2, g3, g4⟩ := ssP_open h hi
    refine (d_sbecome l cy _ _ _ (cs j).length sk sn g2).lift g1 (fun r w1 hh => ?_)
    obtain ⟨hr, k2, n2, rfl, h2⟩ := hh
    exact ⟨hr, g4 (cs j) k2 n2 _ g2 (h2.trans g3) (List.Perm.refl _)⟩
  · obtain ⟨sz, sk, sn, hw, hc⟩ := h
    obtain ⟨R, g1, g2⟩ := fam_out2 (sF cy sa sz sk sn) hi hj e
    obtain ⟨c1, c2, c3⟩ := hc j hj
    have hw2 := hw.trans g1
    rw [← List.append_assoc] at hw2
    rw [show sF cy sa sz sk sn j = sW3 cy (sa (3 * j)) (sa (3 * j + 1)) (sa (3 * j + 2)) (nI (cs j).length) (sk j) (sn j) by rw [sF, c2]] at hw2 g2
    refine (c_sbecome l cy _ _ _ _ _ _ (sz i) (cs j).length (sk i) (sk j) (sn i) (sn j) c1).lift hw2 (fun r w1 hh => ?_)
    obtain ⟨hr, k2, n2, rfl, h2⟩ := hh
    refine ⟨hr, va_up sz i (nI (cs j).length), va_up sk i k2, va_up sn i n2, ?_, fun m hm => ?_⟩
    · have := g2 (sF cy sa (va_up sz i (nI (cs j).length)) (va_up sk i k2) (va_up sn i n2)) (fun k hk => by unfold sF; rw [va_up_ne _ _ hk, va_up_ne _ _ hk, va_up_ne _ _ hk])
      rw [sF, va_up_self, va_up_self, va_up_self] at this
      rw [List.append_assoc]; exact this.symm
    · by_cases em : m = i
      · subst em; rw [va_up_self, va_up_self, va_up_self, va_up_self]; exact ⟨c1, rfl, h2.trans c3⟩
      · rw [va_up_ne _ _ em, va_up_ne _ _ em, va_up_ne _ _ em, va_up_ne _ _ em]; exact hc m hm
theorem xs_become (l : Launch) (cy : Nat → ClassId) (a0 : Nat) (sa : Nat → Nat) (cs : Nat → List sT) (w : va_W) (i j : Nat) (h : xsP cy a0 sa cs w) (hi : i < 18) (hj : j < 18) : gw_M l kX9_become cy [.ref (sa (3 * i)), .ref (sa (3 * j))] w (fun r w' => r = none ∧ xsP cy a0 sa (va_up cs i (cs j)) w') := by
  obtain ⟨x, s, h1, h2, h3⟩ := h
  refine (ss_become l cy sa cs s i j h3 hi hj).lift (h1.trans List.perm_append_comm) (fun r w1 hh => ⟨hh.1, x, w1, List.perm_append_comm, h2, hh.2⟩)
theorem ssP_has {cy : Nat → ClassId} {a0 : Nat} {sa : Nat → Nat} {cs : Nat → List sT} {w : va_W} (h : xsP cy a0 sa cs w) {i : Nat} (hi : i < 18) : gw_has w (sa (3 * i)) 7 := by
  obtain ⟨sk, sn, u1, -⟩ := xsP_mem h hi; exact ⟨_, u1⟩
abbrev kX9_isLike : gw_K := (yX9_isLike, cX9_isLike, 3, { frames := 0, cells := 0, slots := 0, locals := 0 }, (some .boolean))
theorem ok_X9_isLike : gw_calV kX9_isLike 1 := ⟨⟨wd_424, wd_60, by decide, by decide, by decide +kernel⟩, wd_423, wd_22⟩
set_option maxHeartbeats 4000000 in
set_option maxRecDepth 100000 in
theorem xs_isLike (l : Launch) (cy : Nat → ClassId) (a0 : Nat) (sa : Nat → Nat) (cs : Nat → List sT) (w : va_W) (i j : Nat) (hx : xsP cy a0 sa cs w) (hi : i < 18) (hj : j < 18) : gw_M l kX9_isLike cy [.ref (sa (3 * i)), .ref (sa (3 * j))] w (fun r w' => r = some (.int (bI (decide (cs i = cs j)))) ∧ w' = w) := by
  refine gw_M.mk (lv := [some (.ref (sa (3 * i))), some (.ref (sa (3 * j))), none]) (by decide) (Nat.le_of_ble_eq_true rfl) rfl ?_
  generalize hpost : (fun r w' => r = some (.int (bI (decide (cs i = cs j)))) ∧ w' = w : gw_Q) = post
  obtain ⟨kp, np, p1, p2, p3, p4, p5⟩ := xsP_mem hx hi
  obtain ⟨kq, nq, q1, q2, q3, q4, q5⟩ := xsP_mem hx hj
  refine gw_aload_n dX9_isLike_0 rfl ?_
  refine gw_getM (C0 := RX9) (T := TX9) (N := 3) (ref := RX9) (p1) rfl inX9 2 (by decide) wd_139 (Or.inl rfl) rfl dX9_isLike_1 ?_
  refine gw_aload_n dX9_isLike_4 rfl ?_
  refine gw_getM (C0 := RX9) (T := TX9) (N := 3) (ref := RX9) (q1) rfl inX9 2 (by decide) wd_139 (Or.inl rfl) rfl dX9_isLike_5 ?_
  refine gw_icmpN_eq (tgt := 13) dX9_isLike_8 (by decide) (by omega) (by omega) (fun c8 => ?_) (fun c8 => ?_)
  · refine gw_iconst (v := nI (0)) dX9_isLike_13 (by decide) ?_
    refine gw_istore_n dX9_isLike_14 (by decide) rfl ?_
    have cut15 : ∀ (fu : Nat) (t : Nat), (t ≤ (cs i).length) → (∀ y, y < t → kp y = kq y ∧ np y = nq y) → ((cs i).length - t) < fu → gw_W l kX9_isLike cy (gw_R kX9_isLike post) w 0 0 15 [some (.ref (sa (3 * i))), some (.ref (sa (3 * j))), some (.int (nI (t)))] [] := by
      intro fu
      induction fu with
      | zero => intro t t1 t2 hfu; exact absurd hfu (Nat.not_lt_zero _)
      | succ fu ih15 =>
        intro t t1 t2 hfu
        refine gw_iload_n dX9_isLike_15 rfl ?_
        refine gw_aload_n dX9_isLike_16 rfl ?_
        refine gw_getM (C0 := RX9) (T := TX9) (N := 3) (ref := RX9) (p1) rfl inX9 2 (by decide) wd_139 (Or.inl rfl) rfl dX9_isLike_17 ?_
        refine gw_icmpN_ge (tgt := 62) dX9_isLike_20 (by decide) (by omega) (by omega) (fun c20 => ?_) (fun c20 => ?_)
        · have e1 : t = (cs i).length := by omega
          subst e1
          refine gw_iconst (v := nI (1)) dX9_isLike_62 (by decide) ?_
          refine gw_zret (?_) (by decide) (by decide) rfl (by decide) dX9_isLike_63
          subst hpost
          have he : cs i = cs j := by
            rw [← p5, ← q5, ← c8]
            exact takeS_congr (fun y hy => by rw [Nat.zero_add]; exact t2 y hy)
          exact ⟨by rw [decide_eq_true he]; rfl, rfl⟩
        · refine gw_aload_n dX9_isLike_23 rfl ?_
          refine gw_getM (C0 := RX9) (T := TX9) (N := 3) (ref := RX9) (p1) rfl inX9 0 (by decide) wd_133 (Or.inl rfl) rfl dX9_isLike_24 ?_
          refine gw_iload_n dX9_isLike_27 rfl ?_
          refine gw_ialdM (p2) (rfl) (by omega) (by decide) dX9_isLike_28 ?_
          refine gw_aload_n dX9_isLike_29 rfl ?_
          refine gw_getM (C0 := RX9) (T := TX9) (N := 3) (ref := RX9) (q1) rfl inX9 0 (by decide) wd_133 (Or.inl rfl) rfl dX9_isLike_30 ?_
          refine gw_iload_n dX9_isLike_33 rfl ?_
          refine gw_ialdM (q2) (rfl) (by omega) (by decide) dX9_isLike_34 ?_
          refine gw_icmp_ne (tgt := 54) dX9_isLike_35 (by decide) (fun c35 => ?_) (fun c35 => ?_)
          · refine gw_iconst (v := nI (0)) dX9_isLike_54 (by decide) ?_
            refine gw_zret (?_) (by decide) (by decide) rfl (by decide) dX9_isLike_55
            subst hpost
            have hne : ¬ cs i = cs j := by
              intro e
              have y1 := get_S p5 (j := t) (by omega)
              have y2 := get_S q5 (j := t) (by omega)
              rw [e, y2] at y1
              first
              | exact c35 (congrArg Prod.fst y1).symm
              | exact c51 (congrArg Prod.snd y1).symm
            exact ⟨congrArg (fun z => some (Value.int z)) (show (nI 0 : Int32) = bI (decide (cs i = cs j)) by rw [show decide (cs i = cs j) = false from decide_eq_false (fun e => hne e)]; rfl), rfl⟩
          · refine gw_aload_n dX9_isLike_38 rfl ?_
            refine gw_getM (C0 := RX9) (T := TX9) (N := 3) (ref := RX9) (p1) rfl inX9 1 (by decide) wd_136 (Or.inl rfl) rfl dX9_isLike_39 ?_
            refine gw_iload_n dX9_isLike_42 rfl ?_
            refine gw_laldM (p3) (rfl) (by omega) (by decide) dX9_isLike_43 ?_
            refine gw_aload_n dX9_isLike_44 rfl ?_
            refine gw_getM (C0 := RX9) (T := TX9) (N := 3) (ref := RX9) (q1) rfl inX9 1 (by decide) wd_136 (Or.inl rfl) rfl dX9_isLike_45 ?_
            refine gw_iload_n dX9_isLike_48 rfl ?_
            refine gw_laldM (q3) (rfl) (by omega) (by decide) dX9_isLike_49 ?_
            refine gw_lcmp dX9_isLike_50 ?_
            refine gw_if_eq (tgt := 56) dX9_isLike_51 (by decide) (fun c51 => ?_) (fun c51 => ?_)
            · rw [lg_cmp_eq] at c51
              refine gw_iinc (v := nI (t + 1)) dX9_isLike_56 rfl (nI_add _ 1) (by decide) rfl ?_
              refine gw_goto (tgt := 15) dX9_isLike_59 (by decide) ?_
              refine ih15 (t + 1) (by omega) ?_ ?_
              · intro y hy
                rcases Nat.lt_or_ge y t with g | g
                · exact t2 y g
                · have e3 : y = t := by omega
                  rw [e3]; exact ⟨c35, c51⟩
              · omega
            · rw [lg_cmp_eq] at c51
              refine gw_iconst (v := nI (0)) dX9_isLike_54 (by decide) ?_
              refine gw_zret (?_) (by decide) (by decide) rfl (by decide) dX9_isLike_55
              subst hpost
              have hne : ¬ cs i = cs j := by
                intro e
                have y1 := get_S p5 (j := t) (by omega)
                have y2 := get_S q5 (j := t) (by omega)
                rw [e, y2] at y1
                first
                | exact c35 (congrArg Prod.fst y1).symm
                | exact c51 (congrArg Prod.snd y1).symm
              exact ⟨congrArg (fun z => some (Value.int z)) (show (nI 0 : Int32) = bI (decide (cs i = cs j)) by rw [show decide (cs i = cs j) = false from decide_eq_false (fun e => hne e)]; rfl), rfl⟩
    refine cut15 _ (0) (Nat.zero_le _) (fun y h => absurd h (Nat.not_lt_zero _)) (Nat.lt_succ_self _)
  · refine gw_iconst (v := nI (0)) dX9_isLike_11 (by decide) ?_
    refine gw_zret (?_) (by decide) (by decide) rfl (by decide) dX9_isLike_12
    subst hpost
    exact ⟨congrArg (fun z => some (Value.int z)) (show (nI 0 : Int32) = bI (decide (cs i = cs j)) by rw [show decide (cs i = cs j) = false from decide_eq_false (fun e => c8 (by rw [e]))]; rfl), rfl⟩
abbrev kX11_take : gw_K := (yX11_take, cX11_take, 5, { frames := 2, cells := 0, slots := 0, locals := 81 }, (some .int))
theorem ok_X11_take : gw_calV kX11_take 2 := ⟨⟨wd_340, wd_57, by decide, by decide, by decide +kernel⟩, wd_338, wd_339⟩
set_option maxHeartbeats 4000000 in
set_option maxRecDepth 100000 in
theorem t_ctake (l : Launch) (cy : Nat → ClassId) (ob : Nat) (σ : aS) (w : va_W) (hI : cInv cy ob σ w) (a b : Int32) : gw_M l kX11_take cy [.ref (ob), .int (a), .int (b)] (w) (cPost cy ob (spTake σ a b)) := by
  obtain ⟨ad, sa, ta, oa, nx, lo, pg, bo, cs, xs, tb, op, td, rfl, hw, hxs, hcs, htb, hop, hN, hbo⟩ := hI
  have hn4 : 1 ≤ σ.1 ∧ σ.1 ≤ 4 := ⟨hN.1, hN.2.1⟩
  refine gw_M.pm hw ?_
  refine gw_M.mk (lv := [some (.ref (ad 0)), some (.int (a)), some (.int (b)), none, none]) (by decide) (Nat.le_of_ble_eq_true rfl) rfl ?_
  generalize hpost : (cPost cy (ad 0) (spTake σ a b) : gw_Q) = post
  refine gw_W.wd (w' := ([(ad 0, .inr (9, [.int (nI (σ.1)), .ref (ad 1), .ref (ad 2), .ref (sa (3 * 0)), .ref (ad 4), .ref (ad 5), .ref (ad 6), .int (nI ((sOp σ).length)), va_rf (lo), .int (nx), .int (σ.2.2.2.2.2.2.1), .int (σ.2.2.2.2.2.2.2), .ref (ad 12), .int (nI ((sTr σ).length)), .int (σ.2.2.2.2.1)])), (ad 1, .inl (cy 3, 9, .inr (.inr (.inr (.inr (fun i => some (sa (3 * i)))))))), (ad 2, .inl (cy 3, 9, .inr (.inr (.inr (.inr (fun i => some (sa (3 * (9 + i))))))))), (ad 5, .inl (cy 4, 8, .inr (.inr (.inr (.inr (fun i => some (ta (2 * i)))))))), (ad 6, .inl (cy 2, 40, .inr (.inr (.inr (.inr (pg)))))), (ad 12, .inl (cy 0, 16, .inl (bo)))] ++ (xs ++ (tb ++ op)))) rfl ?_
  refine gw_aload_n dX11_take_0 rfl ?_
  refine gw_iload_n dX11_take_1 rfl ?_
  refine gw_W.wd (w' := bW cy ad sa ta (σ.1) ((sOp σ).length) ((sTr σ).length) nx (σ.2.2.2.2.2.2.1) (σ.2.2.2.2.2.2.2) (σ.2.2.2.2.1) lo pg bo ++ (xs ++ (tb ++ op))) rfl ?_
  refine gw_callV 0 (As := [.int (a)]) (st := []) (c_bsumAt l cy ad sa ta (σ.1) ((sOp σ).length) ((sTr σ).length) nx (σ.2.2.2.2.2.2.1) (σ.2.2.2.2.2.2.2) (σ.2.2.2.2.1) lo pg bo (xs ++ (tb ++ op)) (a)) ok_X11_sumAt rfl rfl rfl wd_277 rfl rfl dX11_take_2 (by decide) (by decide) (Nat.le_of_ble_eq_true rfl) (fun r2 w2 hp2 => ?_)
  obtain ⟨rfl, rfl⟩ := hp2
  by_cases h2 : inZ (a).toInt (-1) 7 = true
  · rw [if_pos h2]
    refine gw_W.norm (st' := [.ref (sa (3 * cP (a)))]) (k1 := 0) (k2 := 0) rfl rfl rfl ?_
    refine gw_W.wd (w' := ([(ad 0, .inr (9, [.int (nI (σ.1)), .ref (ad 1), .ref (ad 2), .ref (sa (3 * 0)), .ref (ad 4), .ref (ad 5), .ref (ad 6), .int (nI ((sOp σ).length)), va_rf (lo), .int (nx), .int (σ.2.2.2.2.2.2.1), .int (σ.2.2.2.2.2.2.2), .ref (ad 12), .int (nI ((sTr σ).length)), .int (σ.2.2.2.2.1)])), (ad 1, .inl (cy 3, 9, .inr (.inr (.inr (.inr (fun i => some (sa (3 * i)))))))), (ad 2, .inl (cy 3, 9, .inr (.inr (.inr (.inr (fun i => some (sa (3 * (9 + i))))))))), (ad 5, .inl (cy 4, 8, .inr (.inr (.inr (.inr (fun i => some (ta (2 * i)))))))), (ad 6, .inl (cy 2, 40, .inr (.inr (.inr (.inr (pg)))))), (ad 12, .inl (cy 0, 16, .inl (bo)))] ++ (xs ++ (tb ++ op)))) rfl ?_
    refine gw_astore_n dX11_take_5 (by decide) rfl ?_
    refine gw_aload_n dX11_take_6 rfl ?_
    refine gw_iload_n dX11_take_7 rfl ?_
    refine gw_W.wd (w' := bW cy ad sa ta (σ.1) ((sOp σ).length) ((sTr σ).length) nx (σ.2.2.2.2.2.2.1) (σ.2.2.2.2.2.2.2) (σ.2.2.2.2.1) lo pg bo ++ (xs ++ (tb ++ op))) rfl ?_
    refine gw_callV 0 (As := [.int (b)]) (st := []) (c_bsumAt l cy ad sa ta (σ.1) ((sOp σ).length) ((sTr σ).length) nx (σ.2.2.2.2.2.2.1) (σ.2.2.2.2.2.2.2) (σ.2.2.2.2.1) lo pg bo (xs ++ (tb ++ op)) (b)) ok_X11_sumAt rfl rfl rfl wd_277 rfl rfl dX11_take_8 (by decide) (by decide) (Nat.le_of_ble_eq_true rfl) (fun r8 w8 hp8 => ?_)
    obtain ⟨rfl, rfl⟩ := hp8
    by_cases h8 : inZ (b).toInt (-1) 7 = true
    · rw [if_pos h8]
      refine gw_W.norm (st' := [.ref (sa (3 * cP (b)))]) (k1 := 0) (k2 := 0) rfl rfl rfl ?_
      refine gw_W.wd (w' := ([(ad 0, .inr (9, [.int (nI (σ.1)), .ref (ad 1), .ref (ad 2), .ref (sa (3 * 0)), .ref (ad 4), .ref (ad 5), .ref (ad 6), .int (nI ((sOp σ).length)), va_rf (lo), .int (nx), .int (σ.2.2.2.2.2.2.1), .int (σ.2.2.2.2.2.2.2), .ref (ad 12), .int (nI ((sTr σ).length)), .int (σ.2.2.2.2.1)])), (ad 1, .inl (cy 3, 9, .inr (.inr (.inr (.inr (fun i => some (sa (3 * i)))))))), (ad 2, .inl (cy 3, 9, .inr (.inr (.inr (.inr (fun i => some (sa (3 * (9 + i))))))))), (ad 5, .inl (cy 4, 8, .inr (.inr (.inr (.inr (fun i => some (ta (2 * i)))))))), (ad 6, .inl (cy 2, 40, .inr (.inr (.inr (.inr (pg)))))), (ad 12, .inl (cy 0, 16, .inl (bo)))] ++ (xs ++ (tb ++ op)))) rfl ?_
      refine gw_astore dX11_take_11 (by decide) rfl ?_
      refine gw_aload_n dX11_take_13 rfl ?_
      refine gw_ifnull dX11_take_14 ?_
      refine gw_aload dX11_take_17 rfl ?_
      refine gw_ifnonnull (tgt := 25) dX11_take_19 (by decide) ?_
      obtain ⟨z1, z2, z3⟩ := csS_at hcs h2
      obtain ⟨y1, y2, y3⟩ := csS_at hcs h8
      refine gw_aload_n dX11_take_25 rfl ?_
      refine gw_aload dX11_take_26 rfl ?_
      refine gw_callHN (As := [.ref (sa (3 * cP (b)))]) (st := []) ((xs_become l cy (ad 4) sa cs xs (cP a) (cP b) hxs z3 y3).frame (w2 := ([(ad 0, .inr (9, [.int (nI (σ.1)), .ref (ad 1), .ref (ad 2), .ref (sa (3 * 0)), .ref (ad 4), .ref (ad 5), .ref (ad 6), .int (nI ((sOp σ).length)), va_rf (lo), .int (nx), .int (σ.2.2.2.2.2.2.1), .int (σ.2.2.2.2.2.2.2), .ref (ad 12), .int (nI ((sTr σ).length)), .int (σ.2.2.2.2.1)])), (ad 1, .inl (cy 3, 9, .inr (.inr (.inr (.inr (fun i => some (sa (3 * i)))))))), (ad 2, .inl (cy 3, 9, .inr (.inr (.inr (.inr (fun i => some (sa (3 * (9 + i))))))))), (ad 5, .inl (cy 4, 8, .inr (.inr (.inr (.inr (fun i => some (ta (2 * i)))))))), (ad 6, .inl (cy 2, 40, .inr (.inr (.inr (.inr (pg)))))), (ad 12, .inl (cy 0, 16, .inl (bo)))] ++ (xs ++ (tb ++ op)))) (f := ([(ad 0, .inr (9, [.int (nI (σ.1)), .ref (ad 1), .ref (ad 2), .ref (sa (3 * 0)), .ref (ad 4), .ref (ad 5), .ref (ad 6), .int (nI ((sOp σ).length)), va_rf (lo), .int (nx), .int (σ.2.2.2.2.2.2.1), .int (σ.2.2.2.2.2.2.2), .ref (ad 12), .int (nI ((sTr σ).length)), .int (σ.2.2.2.2.1)])), (ad 1, .inl (cy 3, 9, .inr (.inr (.inr (.inr (fun i => some (sa (3 * i)))))))), (ad 2, .inl (cy 3, 9, .inr (.inr (.inr (.inr (fun i => some (sa (3 * (9 + i))))))))), (ad 5, .inl (cy 4, 8, .inr (.inr (.inr (.inr (fun i => some (ta (2 * i)))))))), (ad 6, .inl (cy 2, 40, .inr (.inr (.inr (.inr (pg)))))), (ad 12, .inl (cy 0, 16, .inl (bo)))] : va_W) ++ (tb ++ op)) perm_x) ok_X9_become (((ssP_has hxs z3).left).right) rfl rfl (host := "SpinBench") (by decide +kernel) rfl rfl dX11_take_28 (by decide) (by decide) (Nat.le_of_ble_eq_true rfl) (fun r28 w28 hp28 => ?_)
      obtain ⟨x2, ⟨rfl, hx2⟩, rfl⟩ := hp28
      refine gw_W.norm (st' := []) (k1 := 0) (k2 := 0) rfl rfl rfl ?_
      refine gw_W.perm (w' := ([(ad 0, .inr (9, [.int (nI (σ.1)), .ref (ad 1), .ref (ad 2), .ref (sa (3 * 0)), .ref (ad 4), .ref (ad 5), .ref (ad 6), .int (nI ((sOp σ).length)), va_rf (lo), .int (nx), .int (σ.2.2.2.2.2.2.1), .int (σ.2.2.2.2.2.2.2), .ref (ad 12), .int (nI ((sTr σ).length)), .int (σ.2.2.2.2.1)])), (ad 1, .inl (cy 3, 9, .inr (.inr (.inr (.inr (fun i => some (sa (3 * i)))))))), (ad 2, .inl (cy 3, 9, .inr (.inr (.inr (.inr (fun i => some (sa (3 * (9 + i))))))))), (ad 5, .inl (cy 4, 8, .inr (.inr (.inr (.inr (fun i => some (ta (2 * i)))))))), (ad 6, .inl (cy 2, 40, .inr (.inr (.inr (.inr (pg)))))), (ad 12, .inl (cy 0, 16, .inl (bo)))] ++ (x2 ++ (tb ++ op)))) perm_x.symm ?_
      obtain ⟨ka, na, u1, u2, u3, u4, u5⟩ := xsP_mem hx2 (i := cP (a)) z3
      refine gw_aload_n dX11_take_31 rfl ?_
      refine gw_getMN (C0 := RX9) (T := TX9) (N := 3) (ref := RX9) (List.mem_append_right _ (List.mem_append_left _ u1)) rfl inX9 2 (by decide) (host := "SpinBench") (by decide +kernel) (Or.inl rfl) rfl dX11_take_32 ?_
      refine gw_W.wd (w' := bW cy ad sa ta (σ.1) ((sOp σ).length) ((sTr σ).length) nx (σ.2.2.2.2.2.2.1) (σ.2.2.2.2.2.2.2) (σ.2.2.2.2.1) lo pg bo ++ (x2 ++ (tb ++ op))) rfl ?_
      refine gw_iret (?_) (by decide) (by decide) rfl dX11_take_35
      subst hpost
      unfold spTake
      rw [if_pos ⟨h2, h8⟩]
      refine ⟨congrArg (fun z => some (Value.int (nI (List.length z)))) ((va_up_self _ _ _).trans y1), ad, sa, ta, oa, nx, lo, pg, bo, va_up cs (cP a) (cs (cP b)), x2, tb, op, td, rfl, List.Perm.refl _, hx2, by rw [y1]; exact csS_set hcs h2 y2, htb, hop, hN, hbo⟩
    · rw [if_neg h8]
      refine gw_W.norm (st' := [.null]) (k1 := 0) (k2 := 0) rfl rfl rfl ?_
      refine gw_W.wd (w' := ([(ad 0, .inr (9, [.int (nI (σ.1)), .ref (ad 1), .ref (ad 2), .ref (sa (3 * 0)), .ref (ad 4), .ref (ad 5), .ref (ad 6), .int (nI ((sOp σ).length)), va_rf (lo), .int (nx), .int (σ.2.2.2.2.2.2.1), .int (σ.2.2.2.2.2.2.2), .ref (ad 12), .int (nI ((sTr σ).length)), .int (σ.2.2.2.2.1)])), (ad 1, .inl (cy 3, 9, .inr (.inr (.inr (.inr (fun i => some (sa (3 * i)))))))), (ad 2, .inl (cy 3, 9, .inr (.inr (.inr (.inr (fun i => some (sa (3 * (9 + i))))))))), (ad 5, .inl (cy 4, 8, .inr (.inr (.inr (.inr (fun i => some (ta (2 * i)))))))), (ad 6, .inl (cy 2, 40, .inr (.inr (.inr (.inr (pg)))))), (ad 12, .inl (cy 0, 16, .inl (bo)))] ++ (xs ++ (tb ++ op)))) rfl ?_
      refine gw_astoreN dX11_take_11 (by decide) rfl ?_
      refine gw_aload_n dX11_take_13 rfl ?_
      refine gw_ifnull dX11_take_14 ?_
      refine gw_aloadN dX11_take_17 rfl ?_
      refine gw_ifnonnullN dX11_take_19 ?_
      refine gw_ldc dX11_take_22 wd_233 ?_
      refine gw_W.wd (w' := bW cy ad sa ta (σ.1) ((sOp σ).length) ((sTr σ).length) nx (σ.2.2.2.2.2.2.1) (σ.2.2.2.2.2.2.2) (σ.2.2.2.2.1) lo pg bo ++ (xs ++ (tb ++ op))) rfl ?_
      refine gw_iret (?_) (by decide) (by decide) rfl dX11_take_24
      subst hpost
      unfold spTake
      rw [if_neg (fun h => by first | exact h2 h.1 | exact h8 h.2)]
      exact ⟨rfl, ad, sa, ta, oa, nx, lo, pg, bo, cs, xs, tb, op, td, rfl, List.Perm.refl _, hxs, hcs, htb, hop, hN, hbo⟩
  · rw [if_neg h2]
    refine gw_W.norm (st' := [.null]) (k1 := 0) (k2 := 0) rfl rfl rfl ?_
    refine gw_W.wd (w' := ([(ad 0, .inr (9, [.int (nI (σ.1)), .ref (ad 1), .ref (ad 2), .ref (sa (3 * 0)), .ref (ad 4), .ref (ad 5), .ref (ad 6), .int (nI ((sOp σ).length)), va_rf (lo), .int (nx), .int (σ.2.2.2.2.2.2.1), .int (σ.2.2.2.2.2.2.2), .ref (ad 12), .int (nI ((sTr σ).length)), .int (σ.2.2.2.2.1)])), (ad 1, .inl (cy 3, 9, .inr (.inr (.inr (.inr (fun i => some (sa (3 * i)))))))), (ad 2, .inl (cy 3, 9, .inr (.inr (.inr (.inr (fun i => some (sa (3 * (9 + i))))))))), (ad 5, .inl (cy 4, 8, .inr (.inr (.inr (.inr (fun i => some (ta (2 * i)))))))), (ad 6, .inl (cy 2, 40, .inr (.inr (.inr (.inr (pg)))))), (ad 12, .inl (cy 0, 16, .inl (bo)))] ++ (xs ++ (tb ++ op)))) rfl ?_
    refine gw_astore_nN dX11_take_5 (by decide) rfl ?_
    refine gw_aload_n dX11_take_6 rfl ?_
    refine gw_iload_n dX11_take_7 rfl ?_
    refine gw_W.wd (w' := bW cy ad sa ta (σ.1) ((sOp σ).length) ((sTr σ).length) nx (σ.2.2.2.2.2.2.1) (σ.2.2.2.2.2.2.2) (σ.2.2.2.2.1) lo pg bo ++ (xs ++ (tb ++ op))) rfl ?_
    refine gw_callV 0 (As := [.int (b)]) (st := []) (c_bsumAt l cy ad sa ta (σ.1) ((sOp σ).length) ((sTr σ).length) nx (σ.2.2.2.2.2.2.1) (σ.2.2.2.2.2.2.2) (σ.2.2.2.2.1) lo pg bo (xs ++ (tb ++ op)) (b)) ok_X11_sumAt rfl rfl rfl wd_277 rfl rfl dX11_take_8 (by decide) (by decide) (Nat.le_of_ble_eq_true rfl) (fun r8 w8 hp8 => ?_)
    obtain ⟨rfl, rfl⟩ := hp8
    by_cases h8 : inZ (b).toInt (-1) 7 = true
    · rw [if_pos h8]
      refine gw_W.norm (st' := [.ref (sa (3 * cP (b)))]) (k1 := 0) (k2 := 0) rfl rfl rfl ?_
      refine gw_W.wd (w' := ([(ad 0, .inr (9, [.int (nI (σ.1)), .ref (ad 1), .ref (ad 2), .ref (sa (3 * 0)), .ref (ad 4), .ref (ad 5), .ref (ad 6), .int (nI ((sOp σ).length)), va_rf (lo), .int (nx), .int (σ.2.2.2.2.2.2.1), .int (σ.2.2.2.2.2.2.2), .ref (ad 12), .int (nI ((sTr σ).length)), .int (σ.2.2.2.2.1)])), (ad 1, .inl (cy 3, 9, .inr (.inr (.inr (.inr (fun i => some (sa (3 * i)))))))), (ad 2, .inl (cy 3, 9, .inr (.inr (.inr (.inr (fun i => some (sa (3 * (9 + i))))))))), (ad 5, .inl (cy 4, 8, .inr (.inr (.inr (.inr (fun i => some (ta (2 * i)))))))), (ad 6, .inl (cy 2, 40, .inr (.inr (.inr (.inr (pg)))))), (ad 12, .inl (cy 0, 16, .inl (bo)))] ++ (xs ++ (tb ++ op)))) rfl ?_
      refine gw_astore dX11_take_11 (by decide) rfl ?_
      refine gw_aload_nN dX11_take_13 rfl ?_
      refine gw_ifnullN (tgt := 22) dX11_take_14 (by decide) ?_
      refine gw_ldc dX11_take_22 wd_233 ?_
      refine gw_W.wd (w' := bW cy ad sa ta (σ.1) ((sOp σ).length) ((sTr σ).length) nx (σ.2.2.2.2.2.2.1) (σ.2.2.2.2.2.2.2) (σ.2.2.2.2.1) lo pg bo ++ (xs ++ (tb ++ op))) rfl ?_
      refine gw_iret (?_) (by decide) (by decide) rfl dX11_take_24
      subst hpost
      unfold spTake
      rw [if_neg (fun h => by first | exact h2 h.1 | exact h8 h.2)]
      exact ⟨rfl, ad, sa, ta, oa, nx, lo, pg, bo, cs, xs, tb, op, td, rfl, List.Perm.refl _, hxs, hcs, htb, hop, hN, hbo⟩
    · rw [if_neg h8]
      refine gw_W.norm (st' := [.null]) (k1 := 0) (k2 := 0) rfl rfl rfl ?_
      refine gw_W.wd (w' := ([(ad 0, .inr (9, [.int (nI (σ.1)), .ref (ad 1), .ref (ad 2), .ref (sa (3 * 0)), .ref (ad 4), .ref (ad 5), .ref (ad 6), .int (nI ((sOp σ).length)), va_rf (lo), .int (nx), .int (σ.2.2.2.2.2.2.1), .int (σ.2.2.2.2.2.2.2), .ref (ad 12), .int (nI ((sTr σ).length)), .int (σ.2.2.2.2.1)])), (ad 1, .inl (cy 3, 9, .inr (.inr (.inr (.inr (fun i => some (sa (3 * i)))))))), (ad 2, .inl (cy 3, 9, .inr (.inr (.inr (.inr (fun i => some (sa (3 * (9 + i))))))))), (ad 5, .inl (cy 4, 8, .inr (.inr (.inr (.inr (fun i => some (ta (2 * i)))))))), (ad 6, .inl (cy 2, 40, .inr (.inr (.inr (.inr (pg)))))), (ad 12, .inl (cy 0, 16, .inl (bo)))] ++ (xs ++ (tb ++ op)))) rfl ?_
      refine gw_astoreN dX11_take_11 (by decide) rfl ?_
      refine gw_aload_nN dX11_take_13 rfl ?_
      refine gw_ifnullN (tgt := 22) dX11_take_14 (by decide) ?_
      refine gw_ldc dX11_take_22 wd_233 ?_
      refine gw_W.wd (w' := bW cy ad sa ta (σ.1) ((sOp σ).length) ((sTr σ).length) nx (σ.2.2.2.2.2.2.1) (σ.2.2.2.2.2.2.2) (σ.2.2.2.2.1) lo pg bo ++ (xs ++ (tb ++ op))) rfl ?_
      refine gw_iret (?_) (by decide) (by decide) rfl dX11_take_24
      subst hpost
      unfold spTake
      rw [if_neg (fun h => by first | exact h2 h.1 | exact h8 h.2)]
      exact ⟨rfl, ad, sa, ta, oa, nx, lo, pg, bo, cs, xs, tb, op, td, rfl, List.Perm.refl _, hxs, hcs, htb, hop, hN, hbo⟩
abbrev kX11_same : gw_K := (yX11_same, cX11_same, 5, { frames := 2, cells := 0, slots := 0, locals := 43 }, (some .int))
theorem ok_X11_same : gw_calV kX11_same 2 := ⟨⟨wd_420, wd_57, by decide, by decide, by decide +kernel⟩, wd_418, wd_419⟩
set_option maxHeartbeats 4000000 in
set_option maxRecDepth 100000 in
theorem t_csame (l : Launch) (cy : Nat → ClassId) (ob : Nat) (σ : aS) (w : va_W) (hI : cInv cy ob σ w) (a b : Int32) : gw_M l kX11_same cy [.ref (ob), .int (a), .int (b)] (w) (cPost cy ob (spSame σ a b)) := by
  obtain ⟨ad, sa, ta, oa, nx, lo, pg, bo, cs, xs, tb, op, td, rfl, hw, hxs, hcs, htb, hop, hN, hbo⟩ := hI
  have hn4 : 1 ≤ σ.1 ∧ σ.1 ≤ 4 := ⟨hN.1, hN.2.1⟩
  refine gw_M.pm hw ?_
  refine gw_M.mk (lv := [some (.ref (ad 0)), some (.int (a)), some (.int (b)), none, none]) (by decide) (Nat.le_of_ble_eq_true rfl) rfl ?_
  generalize hpost : (cPost cy (ad 0) (spSame σ a b) : gw_Q) = post
  refine gw_W.wd (w' := ([(ad 0, .inr (9, [.int (nI (σ.1)), .ref (ad 1), .ref (ad 2), .ref (sa (3 * 0)), .ref (ad 4), .ref (ad 5), .ref (ad 6), .int (nI ((sOp σ).length)), va_rf (lo), .int (nx), .int (σ.2.2.2.2.2.2.1), .int (σ.2.2.2.2.2.2.2), .ref (ad 12), .int (nI ((sTr σ).length)), .int (σ.2.2.2.2.1)])), (ad 1, .inl (cy 3, 9, .inr (.inr (.inr (.inr (fun i => some (sa (3 * i)))))))), (ad 2, .inl (cy 3, 9, .inr (.inr (.inr (.inr (fun i => some (sa (3 * (9 + i))))))))), (ad 5, .inl (cy 4, 8, .inr (.inr (.inr (.inr (fun i => some (ta (2 * i)))))))), (ad 6, .inl (cy 2, 40, .inr (.inr (.inr (.inr (pg)))))), (ad 12, .inl (cy 0, 16, .inl (bo)))] ++ (xs ++ (tb ++ op)))) rfl ?_
  refine gw_aload_n dX11_same_0 rfl ?_
  refine gw_iload_n dX11_same_1 rfl ?_
  refine gw_W.wd (w' := bW cy ad sa ta (σ.1) ((sOp σ).length) ((sTr σ).length) nx (σ.2.2.2.2.2.2.1) (σ.2.2.2.2.2.2.2) (σ.2.2.2.2.1) lo pg bo ++ (xs ++ (tb ++ op))) rfl ?_
  refine gw_callV 0 (As := [.int (a)]) (st := []) (c_bsumAt l cy ad sa ta (σ.1) ((sOp σ).length) ((sTr σ).length) nx (σ.2.2.2.2.2.2.1) (σ.2.2.2.2.2.2.2) (σ.2.2.2.2.1) lo pg bo (xs ++ (tb ++ op)) (a)) ok_X11_sumAt rfl rfl rfl wd_277 rfl rfl dX11_same_2 (by decide) (by decide) (Nat.le_of_ble_eq_true rfl) (fun r2 w2 hp2 => ?_)
  obtain ⟨rfl, rfl⟩ := hp2
  by_cases h2 : inZ (a).toInt (-1) 7 = true
  · rw [if_pos h2]
    refine gw_W.norm (st' := [.ref (sa (3 * cP (a)))]) (k1 := 0) (k2 := 0) rfl rfl rfl ?_
    refine gw_W.wd (w' := ([(ad 0, .inr (9, [.int (nI (σ.1)), .ref (ad 1), .ref (ad 2), .ref (sa (3 * 0)), .ref (ad 4), .ref (ad 5), .ref (ad 6), .int (nI ((sOp σ).length)), va_rf (lo), .int (nx), .int (σ.2.2.2.2.2.2.1), .int (σ.2.2.2.2.2.2.2), .ref (ad 12), .int (nI ((sTr σ).length)), .int (σ.2.2.2.2.1)])), (ad 1, .inl (cy 3, 9, .inr (.inr (.inr (.inr (fun i => some (sa (3 * i)))))))), (ad 2, .inl (cy 3, 9, .inr (.inr (.inr (.inr (fun i => some (sa (3 * (9 + i))))))))), (ad 5, .inl (cy 4, 8, .inr (.inr (.inr (.inr (fun i => some (ta (2 * i)))))))), (ad 6, .inl (cy 2, 40, .inr (.inr (.inr (.inr (pg)))))), (ad 12, .inl (cy 0, 16, .inl (bo)))] ++ (xs ++ (tb ++ op)))) rfl ?_
    refine gw_astore_n dX11_same_5 (by decide) rfl ?_
    refine gw_aload_n dX11_same_6 rfl ?_
    refine gw_iload_n dX11_same_7 rfl ?_
    refine gw_W.wd (w' := bW cy ad sa ta (σ.1) ((sOp σ).length) ((sTr σ).length) nx (σ.2.2.2.2.2.2.1) (σ.2.2.2.2.2.2.2) (σ.2.2.2.2.1) lo pg bo ++ (xs ++ (tb ++ op))) rfl ?_
    refine gw_callV 0 (As := [.int (b)]) (st := []) (c_bsumAt l cy ad sa ta (σ.1) ((sOp σ).length) ((sTr σ).length) nx (σ.2.2.2.2.2.2.1) (σ.2.2.2.2.2.2.2) (σ.2.2.2.2.1) lo pg bo (xs ++ (tb ++ op)) (b)) ok_X11_sumAt rfl rfl rfl wd_277 rfl rfl dX11_same_8 (by decide) (by decide) (Nat.le_of_ble_eq_true rfl) (fun r8 w8 hp8 => ?_)
    obtain ⟨rfl, rfl⟩ := hp8
    by_cases h8 : inZ (b).toInt (-1) 7 = true
    · rw [if_pos h8]
      refine gw_W.norm (st' := [.ref (sa (3 * cP (b)))]) (k1 := 0) (k2 := 0) rfl rfl rfl ?_
      refine gw_W.wd (w' := ([(ad 0, .inr (9, [.int (nI (σ.1)), .ref (ad 1), .ref (ad 2), .ref (sa (3 * 0)), .ref (ad 4), .ref (ad 5), .ref (ad 6), .int (nI ((sOp σ).length)), va_rf (lo), .int (nx), .int (σ.2.2.2.2.2.2.1), .int (σ.2.2.2.2.2.2.2), .ref (ad 12), .int (nI ((sTr σ).length)), .int (σ.2.2.2.2.1)])), (ad 1, .inl (cy 3, 9, .inr (.inr (.inr (.inr (fun i => some (sa (3 * i)))))))), (ad 2, .inl (cy 3, 9, .inr (.inr (.inr (.inr (fun i => some (sa (3 * (9 + i))))))))), (ad 5, .inl (cy 4, 8, .inr (.inr (.inr (.inr (fun i => some (ta (2 * i)))))))), (ad 6, .inl (cy 2, 40, .inr (.inr (.inr (.inr (pg)))))), (ad 12, .inl (cy 0, 16, .inl (bo)))] ++ (xs ++ (tb ++ op)))) rfl ?_
      refine gw_astore dX11_same_11 (by decide) rfl ?_
      refine gw_aload_n dX11_same_13 rfl ?_
      refine gw_ifnull dX11_same_14 ?_
      refine gw_aload dX11_same_17 rfl ?_
      refine gw_ifnonnull (tgt := 25) dX11_same_19 (by decide) ?_
      obtain ⟨z1, z2, z3⟩ := csS_at hcs h2
      obtain ⟨y1, y2, y3⟩ := csS_at hcs h8
      refine gw_aload_n dX11_same_25 rfl ?_
      refine gw_aload dX11_same_26 rfl ?_
      refine gw_callHN (As := [.ref (sa (3 * cP (b)))]) (st := []) ((xs_isLike l cy (ad 4) sa cs xs (cP a) (cP b) hxs z3 y3).frame (w2 := ([(ad 0, .inr (9, [.int (nI (σ.1)), .ref (ad 1), .ref (ad 2), .ref (sa (3 * 0)), .ref (ad 4), .ref (ad 5), .ref (ad 6), .int (nI ((sOp σ).length)), va_rf (lo), .int (nx), .int (σ.2.2.2.2.2.2.1), .int (σ.2.2.2.2.2.2.2), .ref (ad 12), .int (nI ((sTr σ).length)), .int (σ.2.2.2.2.1)])), (ad 1, .inl (cy 3, 9, .inr (.inr (.inr (.inr (fun i => some (sa (3 * i)))))))), (ad 2, .inl (cy 3, 9, .inr (.inr (.inr (.inr (fun i => some (sa (3 * (9 + i))))))))), (ad 5, .inl (cy 4, 8, .inr (.inr (.inr (.inr (fun i => some (ta (2 * i)))))))), (ad 6, .inl (cy 2, 40, .inr (.inr (.inr (.inr (pg)))))), (ad 12, .inl (cy 0, 16, .inl (bo)))] ++ (xs ++ (tb ++ op)))) (f := ([(ad 0, .inr (9, [.int (nI (σ.1)), .ref (ad 1), .ref (ad 2), .ref (sa (3 * 0)), .ref (ad 4), .ref (ad 5), .ref (ad 6), .int (nI ((sOp σ).length)), va_rf (lo), .int (nx), .int (σ.2.2.2.2.2.2.1), .int (σ.2.2.2.2.2.2.2), .ref (ad 12), .int (nI ((sTr σ).length)), .int (σ.2.2.2.2.1)])), (ad 1, .inl (cy 3, 9, .inr (.inr (.inr (.inr (fun i => some (sa (3 * i)))))))), (ad 2, .inl (cy 3, 9, .inr (.inr (.inr (.inr (fun i => some (sa (3 * (9 + i))))))))), (ad 5, .inl (cy 4, 8, .inr (.inr (.inr (.inr (fun i => some (ta (2 * i)))))))), (ad 6, .inl (cy 2, 40, .inr (.inr (.inr (.inr (pg)))))), (ad 12, .inl (cy 0, 16, .inl (bo)))] : va_W) ++ (tb ++ op)) perm_x) ok_X9_isLike (((ssP_has hxs z3).left).right) rfl rfl (host := "SpinBench") (by decide +kernel) rfl rfl dX11_same_28 (by decide) (by decide) (Nat.le_of_ble_eq_true rfl) (fun r28 w28 hp28 => ?_)
      obtain ⟨x2, ⟨rfl, e2⟩, rfl⟩ := hp28
      rw [e2]
      refine gw_W.norm (st' := [.int (bI (decide (cs (cP a) = cs (cP b))))]) (k1 := 0) (k2 := 0) rfl rfl rfl ?_
      refine gw_W.perm (w' := ([(ad 0, .inr (9, [.int (nI (σ.1)), .ref (ad 1), .ref (ad 2), .ref (sa (3 * 0)), .ref (ad 4), .ref (ad 5), .ref (ad 6), .int (nI ((sOp σ).length)), va_rf (lo), .int (nx), .int (σ.2.2.2.2.2.2.1), .int (σ.2.2.2.2.2.2.2), .ref (ad 12), .int (nI ((sTr σ).length)), .int (σ.2.2.2.2.1)])), (ad 1, .inl (cy 3, 9, .inr (.inr (.inr (.inr (fun i => some (sa (3 * i)))))))), (ad 2, .inl (cy 3, 9, .inr (.inr (.inr (.inr (fun i => some (sa (3 * (9 + i))))))))), (ad 5, .inl (cy 4, 8, .inr (.inr (.inr (.inr (fun i => some (ta (2 * i)))))))), (ad 6, .inl (cy 2, 40, .inr (.inr (.inr (.inr (pg)))))), (ad 12, .inl (cy 0, 16, .inl (bo)))] ++ (xs ++ (tb ++ op)))) perm_x.symm ?_
      refine gw_if_eq (tgt := 38) dX11_same_31 (by decide) (fun c31 => ?_) (fun c31 => ?_)
      · rw [bI_0, z1, y1] at c31
        refine gw_iconst (v := nI (0)) dX11_same_38 (by decide) ?_
        refine gw_W.wd (w' := bW cy ad sa ta (σ.1) ((sOp σ).length) ((sTr σ).length) nx (σ.2.2.2.2.2.2.1) (σ.2.2.2.2.2.2.2) (σ.2.2.2.2.1) lo pg bo ++ (xs ++ (tb ++ op))) rfl ?_
        refine gw_iret (?_) (by decide) (by decide) rfl dX11_same_39
        subst hpost
        unfold spSame
        rw [if_pos ⟨h2, h8⟩, c31]
        exact ⟨rfl, ad, sa, ta, oa, nx, lo, pg, bo, cs, xs, tb, op, td, rfl, List.Perm.refl _, hxs, hcs, htb, hop, hN, hbo⟩
      · rw [bI_n0, z1, y1] at c31
        refine gw_iconst (v := nI (1)) dX11_same_34 (by decide) ?_
        refine gw_goto (tgt := 39) dX11_same_35 (by decide) ?_
        refine gw_W.wd (w' := bW cy ad sa ta (σ.1) ((sOp σ).length) ((sTr σ).length) nx (σ.2.2.2.2.2.2.1) (σ.2.2.2.2.2.2.2) (σ.2.2.2.2.1) lo pg bo ++ (xs ++ (tb ++ op))) rfl ?_
        refine gw_iret (?_) (by decide) (by decide) rfl dX11_same_39
        subst hpost
        unfold spSame
        rw [if_pos ⟨h2, h8⟩, c31]
        exact ⟨rfl, ad, sa, ta, oa, nx, lo, pg, bo, cs, xs, tb, op, td, rfl, List.Perm.refl _, hxs, hcs, htb, hop, hN, hbo⟩
    · rw [if_neg h8]
      refine gw_W.norm (st' := [.null]) (k1 := 0) (k2 := 0) rfl rfl rfl ?_
      refine gw_W.wd (w' := ([(ad 0, .inr (9, [.int (nI (σ.1)), .ref (ad 1), .ref (ad 2), .ref (sa (3 * 0)), .ref (ad 4), .ref (ad 5), .ref (ad 6), .int (nI ((sOp σ).length)), va_rf (lo), .int (nx), .int (σ.2.2.2.2.2.2.1), .int (σ.2.2.2.2.2.2.2), .ref (ad 12), .int (nI ((sTr σ).length)), .int (σ.2.2.2.2.1)])), (ad 1, .inl (cy 3, 9, .inr (.inr (.inr (.inr (fun i => some (sa (3 * i)))))))), (ad 2, .inl (cy 3, 9, .inr (.inr (.inr (.inr (fun i => some (sa (3 * (9 + i))))))))), (ad 5, .inl (cy 4, 8, .inr (.inr (.inr (.inr (fun i => some (ta (2 * i)))))))), (ad 6, .inl (cy 2, 40, .inr (.inr (.inr (.inr (pg)))))), (ad 12, .inl (cy 0, 16, .inl (bo)))] ++ (xs ++ (tb ++ op)))) rfl ?_
      refine gw_astoreN dX11_same_11 (by decide) rfl ?_
      refine gw_aload_n dX11_same_13 rfl ?_
      refine gw_ifnull dX11_same_14 ?_
      refine gw_aloadN dX11_same_17 rfl ?_
      refine gw_ifnonnullN dX11_same_19 ?_
      refine gw_ldc dX11_same_22 wd_233 ?_
      refine gw_W.wd (w' := bW cy ad sa ta (σ.1) ((sOp σ).length) ((sTr σ).length) nx (σ.2.2.2.2.2.2.1) (σ.2.2.2.2.2.2.2) (σ.2.2.2.2.1) lo pg bo ++ (xs ++ (tb ++ op))) rfl ?_
      refine gw_iret (?_) (by decide) (by decide) rfl dX11_same_24
      subst hpost
      unfold spSame
      rw [if_neg (fun h => by first | exact h2 h.1 | exact h8 h.2)]
      exact ⟨rfl, ad, sa, ta, oa, nx, lo, pg, bo, cs, xs, tb, op, td, rfl, List.Perm.refl _, hxs, hcs, htb, hop, hN, hbo⟩
  · rw [if_neg h2]
    refine gw_W.norm (st' := [.null]) (k1 := 0) (k2 := 0) rfl rfl rfl ?_
    refine gw_W.wd (w' := ([(ad 0, .inr (9, [.int (nI (σ.1)), .ref (ad 1), .ref (ad 2), .ref (sa (3 * 0)), .ref (ad 4), .ref (ad 5), .ref (ad 6), .int (nI ((sOp σ).length)), va_rf (lo), .int (nx), .int (σ.2.2.2.2.2.2.1), .int (σ.2.2.2.2.2.2.2), .ref (ad 12), .int (nI ((sTr σ).length)), .int (σ.2.2.2.2.1)])), (ad 1, .inl (cy 3, 9, .inr (.inr (.inr (.inr (fun i => some (sa (3 * i)))))))), (ad 2, .inl (cy 3, 9, .inr (.inr (.inr (.inr (fun i => some (sa (3 * (9 + i))))))))), (ad 5, .inl (cy 4, 8, .inr (.inr (.inr (.inr (fun i => some (ta (2 * i)))))))), (ad 6, .inl (cy 2, 40, .inr (.inr (.inr (.inr (pg)))))), (ad 12, .inl (cy 0, 16, .inl (bo)))] ++ (xs ++ (tb ++ op)))) rfl ?_
    refine gw_astore_nN dX11_same_5 (by decide) rfl ?_
    refine gw_aload_n dX11_same_6 rfl ?_
    refine gw_iload_n dX11_same_7 rfl ?_
    refine gw_W.wd (w' := bW cy ad sa ta (σ.1) ((sOp σ).length) ((sTr σ).length) nx (σ.2.2.2.2.2.2.1) (σ.2.2.2.2.2.2.2) (σ.2.2.2.2.1) lo pg bo ++ (xs ++ (tb ++ op))) rfl ?_
    refine gw_callV 0 (As := [.int (b)]) (st := []) (c_bsumAt l cy ad sa ta (σ.1) ((sOp σ).length) ((sTr σ).length) nx (σ.2.2.2.2.2.2.1) (σ.2.2.2.2.2.2.2) (σ.2.2.2.2.1) lo pg bo (xs ++ (tb ++ op)) (b)) ok_X11_sumAt rfl rfl rfl wd_277 rfl rfl dX11_same_8 (by decide) (by decide) (Nat.le_of_ble_eq_true rfl) (fun r8 w8 hp8 => ?_)
    obtain ⟨rfl, rfl⟩ := hp8
    by_cases h8 : inZ (b).toInt (-1) 7 = true
    · rw [if_pos h8]
      refine gw_W.norm (st' := [.ref (sa (3 * cP (b)))]) (k1 := 0) (k2 := 0) rfl rfl rfl ?_
      refine gw_W.wd (w' := ([(ad 0, .inr (9, [.int (nI (σ.1)), .ref (ad 1), .ref (ad 2), .ref (sa (3 * 0)), .ref (ad 4), .ref (ad 5), .ref (ad 6), .int (nI ((sOp σ).length)), va_rf (lo), .int (nx), .int (σ.2.2.2.2.2.2.1), .int (σ.2.2.2.2.2.2.2), .ref (ad 12), .int (nI ((sTr σ).length)), .int (σ.2.2.2.2.1)])), (ad 1, .inl (cy 3, 9, .inr (.inr (.inr (.inr (fun i => some (sa (3 * i)))))))), (ad 2, .inl (cy 3, 9, .inr (.inr (.inr (.inr (fun i => some (sa (3 * (9 + i))))))))), (ad 5, .inl (cy 4, 8, .inr (.inr (.inr (.inr (fun i => some (ta (2 * i)))))))), (ad 6, .inl (cy 2, 40, .inr (.inr (.inr (.inr (pg)))))), (ad 12, .inl (cy 0, 16, .inl (bo)))] ++ (xs ++ (tb ++ op)))) rfl ?_
      refine gw_astore dX11_same_11 (by decide) rfl ?_
      refine gw_aload_nN dX11_same_13 rfl ?_
      refine gw_ifnullN (tgt := 22) dX11_same_14 (by decide) ?_
      refine gw_ldc dX11_same_22 wd_233 ?_
      refine gw_W.wd (w' := bW cy ad sa ta (σ.1) ((sOp σ).length) ((sTr σ).length) nx (σ.2.2.2.2.2.2.1) (σ.2.2.2.2.2.2.2) (σ.2.2.2.2.1) lo pg bo ++ (xs ++ (tb ++ op))) rfl ?_
      refine gw_iret (?_) (by decide) (by decide) rfl dX11_same_24
      subst hpost
      unfold spSame
      rw [if_neg (fun h => by first | exact h2 h.1 | exact h8 h.2)]
      exact ⟨rfl, ad, sa, ta, oa, nx, lo, pg, bo, cs, xs, tb, op, td, rfl, List.Perm.refl _, hxs, hcs, htb, hop, hN, hbo⟩
    · rw [if_neg h8]
      refine gw_W.norm (st' := [.null]) (k1 := 0) (k2 := 0) rfl rfl rfl ?_
      refine gw_W.wd (w' := ([(ad 0, .inr (9, [.int (nI (σ.1)), .ref (ad 1), .ref (ad 2), .ref (sa (3 * 0)), .ref (ad 4), .ref (ad 5), .ref (ad 6), .int (nI ((sOp σ).length)), va_rf (lo), .int (nx), .int (σ.2.2.2.2.2.2.1), .int (σ.2.2.2.2.2.2.2), .ref (ad 12), .int (nI ((sTr σ).length)), .int (σ.2.2.2.2.1)])), (ad 1, .inl (cy 3, 9, .inr (.inr (.inr (.inr (fun i => some (sa (3 * i)))))))), (ad 2, .inl (cy 3, 9, .inr (.inr (.inr (.inr (fun i => some (sa (3 * (9 + i))))))))), (ad 5, .inl (cy 4, 8, .inr (.inr (.inr (.inr (fun i => some (ta (2 * i)))))))), (ad 6, .inl (cy 2, 40, .inr (.inr (.inr (.inr (pg)))))), (ad 12, .inl (cy 0, 16, .inl (bo)))] ++ (xs ++ (tb ++ op)))) rfl ?_
      refine gw_astoreN dX11_same_11 (by decide) rfl ?_
      refine gw_aload_nN dX11_same_13 rfl ?_
      refine gw_ifnullN (tgt := 22) dX11_same_14 (by decide) ?_
      refine gw_ldc dX11_same_22 wd_233 ?_
      refine gw_W.wd (w' := bW cy ad sa ta (σ.1) ((sOp σ).length) ((sTr σ).length) nx (σ.2.2.2.2.2.2.1) (σ.2.2.2.2.2.2.2) (σ.2.2.2.2.1) lo pg bo ++ (xs ++ (tb ++ op))) rfl ?_
      refine gw_iret (?_) (by decide) (by decide) rfl dX11_same_24
      subst hpost
      unfold spSame
      rw [if_neg (fun h => by first | exact h2 h.1 | exact h8 h.2)]
      exact ⟨rfl, ad, sa, ta, oa, nx, lo, pg, bo, cs, xs, tb, op, td, rfl, List.Perm.refl _, hxs, hcs, htb, hop, hN, hbo⟩
