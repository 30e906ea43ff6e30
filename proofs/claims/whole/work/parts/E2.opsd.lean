/-! rounds: open, ended, taken back -/
theorem opn_le3 (O : List aO) : ∀ (n c : Nat), n ≤ O.length → opn (O.take n) = some c → c ≤ 3 := by
  intro n
  induction n with
  | zero => intro c _ h; simp [opn] at h; omega
  | succ n ih =>
    intro c hn h
    rw [List.take_succ_eq_append_getElem (by omega), opn_snoc] at h
    cases e : opn (O.take n) with
    | none => rw [e] at h; cases h
    | some d =>
      have hd := ih d (by omega) e
      rw [e] at h
      unfold opStep at h
      simp only at h
      split at h
      · split at h
        · cases h; omega
        · cases h
      · split at h
        · split at h
          · cases h; omega
          · cases h
        · cases h; exact hd
theorem opn_3 {σ : aS} {c : Nat} (h : opn (sOp σ) = some c) : c ≤ 3 := opn_le3 (sOp σ) (sOp σ).length c (Nat.le_refl _) (by rw [List.take_length]; exact h)
theorem nI_ne3 {n : Nat} (h : n ≤ 40) : ¬ nI n = -1000003 := by
  intro e
  have h1 := congrArg Int32.toInt e
  rw [nI_toInt (by omega), show (-1000003 : Int32).toInt = -1000003 from by decide] at h1
  omega
theorem opP_back {oa : Nat → Nat} {O : List aO} {lo : Option Nat} {pg : Nat → Option Nat} {td : Nat → Int32} {w : va_W} (h : opP oa O lo pg td w) (h0 : ¬ O.length = 0) : ∃ w' g : va_W, w.Perm (w' ++ g) ∧ opP oa O.dropLast (arOf O oa (O.length - 1)) (va_up pg (O.length - 1) none) td w' := by
  have hne : O ≠ [] := fun e => h0 (by rw [e]; rfl)
  have e := List.dropLast_concat_getLast hne
  have el : O.dropLast.length = O.length - 1 := List.length_dropLast ..
  rw [← e] at h
  obtain ⟨w', h1, h2⟩ := opP_pop (pg' := va_up pg (O.length - 1) none) h (fun j hj => by rw [va_up_ne _ _ (by omega)])
  refine ⟨w', _, h1, ?_⟩
  rw [el] at h2
  rw [← arOf_app0 (o := O.getLast hne) (oa := oa) (j := O.length - 1) (by omega), e] at h2
  exact h2
theorem opAt_last {pg : Nat → Option Nat} {oa : Nat → Nat} {n : Nat} (h0 : ¬ n = 0) (h : n ≤ 40) (hp : ∀ j, j < n → pg j = some (oa j)) : (if inZ (nI (n - 1)).toInt 0 ((n : Int) - 1) = true then pg (tI (nI (n - 1))) else none) = some (oa (n - 1)) := by
  have e : (nI (n - 1)).toInt = ((n - 1 : Nat) : Int) := nI_toInt (by omega)
  rw [if_pos (by rw [inZ_t, e]; omega), show tI (nI (n - 1)) = n - 1 from by unfold tI; rw [e]; omega]
  exact hp _ (by omega)
theorem op0' {n : Nat} {z : Int} (h : n = 0) : ¬ inZ z 0 ((n : Int) - 1) = true := by rw [inZ_t]; omega
abbrev kX11_openRounds : gw_K := (yX11_openRounds, cX11_openRounds, 3, { frames := 0, cells := 0, slots := 0, locals := 0 }, (some .int))
theorem ok_X11_openRounds : gw_calV kX11_openRounds 0 := ⟨⟨wd_558, wd_57, by decide, by decide, by decide +kernel⟩, wd_557, wd_27⟩
set_option maxHeartbeats 4000000 in
set_option maxRecDepth 100000 in
theorem c_bopen (l : Launch) (cy : Nat → ClassId) (ad sa ta oa : Nat → Nat) (n bb : Nat) (nx sd lb lf : Int32) (lo : Option Nat) (pg : Nat → Option Nat) (bo : Nat → Int32) (xs tb op : va_W) (O : List aO) (td : Nat → Int32) (hop : opP oa O lo pg td op) : gw_M l kX11_openRounds cy [.ref (ad 0)] (bW cy ad sa ta n O.length bb nx sd lb lf lo pg bo ++ (xs ++ (tb ++ op))) (fun r w' => r = some (.int (nI (opk O O.length).length)) ∧ w' = (bW cy ad sa ta n O.length bb nx sd lb lf lo pg bo ++ (xs ++ (tb ++ op)))) := by
  refine gw_M.mk (lv := [some (.ref (ad 0)), none, none]) (by decide) (Nat.le_of_ble_eq_true rfl) rfl ?_
  generalize hpost : (fun r w' => r = some (.int (nI (opk O O.length).length)) ∧ w' = (bW cy ad sa ta n O.length bb nx sd lb lf lo pg bo ++ (xs ++ (tb ++ op))) : gw_Q) = post
  have step : ∀ (L : List Nat) (m k : Nat), m ≤ O.length → opk O m = L → k + L.length = (opk O O.length).length → gw_W l kX11_openRounds cy (gw_R kX11_openRounds post) (bW cy ad sa ta n O.length bb nx sd lb lf lo pg bo ++ (xs ++ (tb ++ op))) 0 0 7 [some (.ref (ad 0)), some (.int (nI k)), some (va_rf (L.head?.map oa))] [] := by
    intro L
    induction L with
    | nil =>
      intro m k hm hL hk
      refine gw_aload_nN dX11_openRounds_7 rfl ?_
      refine gw_ifnullN (tgt := 22) dX11_openRounds_8 (by decide) ?_
      refine gw_iload_n dX11_openRounds_22 rfl ?_
      refine gw_iret (?_) (by decide) (by decide) rfl dX11_openRounds_23
      subst hpost
      exact ⟨by rw [← hk]; rfl, rfl⟩
    | cons j r ih =>
      intro m k hm hL hk
      obtain ⟨t1, t2⟩ := opk_tail O m j r hL
      have hj := opk_lt O m j (by rw [hL]; exact List.mem_cons_self ..)
      have hmem := opP_mem hop (j := j) (by omega)
      rw [opCe, if_neg (by omega), if_neg (by omega), if_neg (by omega), if_pos t2] at hmem
      refine gw_aload_n (x := oa j) dX11_openRounds_7 rfl ?_
      refine gw_ifnull dX11_openRounds_8 ?_
      refine gw_iinc (v := nI (k + 1)) dX11_openRounds_11 rfl (nI_add _ 1) (by decide) rfl ?_
      refine gw_aload_n (x := oa j) dX11_openRounds_14 rfl ?_
      refine gw_getM (C0 := RX7) (T := TX7) (N := 4) (ref := RX7) (List.mem_append_right _ (List.mem_append_right _ (List.mem_append_right _ hmem))) rfl inX7 1 (by decide) wd_492 (Or.inr wd_493) rfl dX11_openRounds_15 ?_
      have e : arOf O oa j = r.head?.map oa := by unfold arOf; rw [t1]
      rw [e]
      rw [List.length_cons] at hk
      cases r with
      | nil =>
        refine gw_astore_nN dX11_openRounds_18 (by decide) rfl ?_
        refine gw_goto (tgt := 7) dX11_openRounds_19 (by decide) ?_
        exact ih j (k + 1) (by omega) t1 (by omega)
      | cons i t =>
        refine gw_astore_n (x := oa i) dX11_openRounds_18 (by decide) rfl ?_
        refine gw_goto (tgt := 7) dX11_openRounds_19 (by decide) ?_
        exact ih j (k + 1) (by omega) t1 (by omega)
  have hlo : lo = (opk O O.length).head?.map oa := hop.2.1
  refine gw_W.wd (w' := ([(ad 0, .inr (9, [.int (nI (n)), .ref (ad 1), .ref (ad 2), .ref (sa (3 * 0)), .ref (ad 4), .ref (ad 5), .ref (ad 6), .int (nI (O.length)), va_rf (lo), .int (nx), .int (sd), .int (lb), .ref (ad 12), .int (nI (bb)), .int (lf)])), (ad 1, .inl (cy 3, 9, .inr (.inr (.inr (.inr (fun i => some (sa (3 * i)))))))), (ad 2, .inl (cy 3, 9, .inr (.inr (.inr (.inr (fun i => some (sa (3 * (9 + i))))))))), (ad 5, .inl (cy 4, 8, .inr (.inr (.inr (.inr (fun i => some (ta (2 * i)))))))), (ad 6, .inl (cy 2, 40, .inr (.inr (.inr (.inr (pg)))))), (ad 12, .inl (cy 0, 16, .inl (bo)))] ++ (xs ++ (tb ++ op)))) rfl ?_
  refine gw_iconst (v := nI (0)) dX11_openRounds_0 (by decide) ?_
  refine gw_istore_n dX11_openRounds_1 (by decide) rfl ?_
  refine gw_aload_n dX11_openRounds_2 rfl ?_
  refine gw_get (C0 := RX11) (T := TX11) (N := 15) (ref := RX11) 0 rfl rfl inX11 8 (by decide) wd_183 (Or.inl rfl) rfl dX11_openRounds_3 ?_
  refine gw_W.rst (st' := [va_rf ((opk O O.length).head?.map oa)]) (by rw [← hlo]) ?_
  refine gw_W.wd (w' := (bW cy ad sa ta n O.length bb nx sd lb lf lo pg bo ++ (xs ++ (tb ++ op)))) rfl ?_
  have h0 := step (opk O O.length) O.length 0 (Nat.le_refl _) rfl (by omega)
  cases e : opk O O.length with
  | nil =>
    rw [e] at h0
    refine gw_astore_nN dX11_openRounds_6 (by decide) rfl ?_
    exact h0
  | cons j r =>
    rw [e] at h0
    refine gw_astore_n (x := oa j) dX11_openRounds_6 (by decide) rfl ?_
    exact h0
abbrev kX11_round : gw_K := (yX11_round, cX11_round, 4, { frames := 3, cells := 1, slots := 4, locals := 65 }, (some .int))
theorem ok_X11_round : gw_calV kX11_round 1 := ⟨⟨wd_554, wd_57, by decide, by decide, by decide +kernel⟩, wd_552, wd_553⟩
set_option maxHeartbeats 4000000 in
set_option maxRecDepth 100000 in
theorem t_cground (l : Launch) (cy : Nat → ClassId) (b : Nat) (σ : aS) (w : va_W) (hI : cInv cy b σ w) (x : Int32) : gw_M l kX11_round cy [.ref (b), .int (x)] (w) (cPost cy b (spRound σ x)) := by
  obtain ⟨ad, sa, ta, oa, nx, lo, pg, bo, cs, xs, tb, op, td, rfl, hw, hxs, hcs, htb, hop, hN, hbo⟩ := hI
  have hn4 : 1 ≤ σ.1 ∧ σ.1 ≤ 4 := ⟨hN.1, hN.2.1⟩
  refine gw_M.pm hw ?_
  obtain ⟨oc, hoc⟩ := hN.2.2.2.2.1
  have l40 : (sOp σ).length ≤ 40 := hN.2.2.2.1
  have hC := opC_eq hoc
  have hk := opk_C hoc
  have h3 := opn_3 hoc
  refine gw_M.mk (lv := [some (.ref (ad 0)), some (.int (x)), none, none]) (by decide) (Nat.le_of_ble_eq_true rfl) rfl ?_
  generalize hpost : (cPost cy (ad 0) (spRound σ x) : gw_Q) = post
  refine gw_W.wd (w' := ([(ad 0, .inr (9, [.int (nI (σ.1)), .ref (ad 1), .ref (ad 2), .ref (sa (3 * 0)), .ref (ad 4), .ref (ad 5), .ref (ad 6), .int (nI ((sOp σ).length)), va_rf (lo), .int (nx), .int (σ.2.2.2.2.2.2.1), .int (σ.2.2.2.2.2.2.2), .ref (ad 12), .int (nI ((sTr σ).length)), .int (σ.2.2.2.2.1)])), (ad 1, .inl (cy 3, 9, .inr (.inr (.inr (.inr (fun i => some (sa (3 * i)))))))), (ad 2, .inl (cy 3, 9, .inr (.inr (.inr (.inr (fun i => some (sa (3 * (9 + i))))))))), (ad 5, .inl (cy 4, 8, .inr (.inr (.inr (.inr (fun i => some (ta (2 * i)))))))), (ad 6, .inl (cy 2, 40, .inr (.inr (.inr (.inr (pg)))))), (ad 12, .inl (cy 0, 16, .inl (bo)))] ++ (xs ++ (tb ++ op)))) rfl ?_
  refine gw_iload_n dX11_round_0 rfl ?_
  refine gw_iconst (v := nI (1)) dX11_round_1 (by decide) ?_
  refine gw_bipush (v := nI (8)) dX11_round_2 (by decide) ?_
  refine gw_callS (As := [.int (x), .int (nI (1)), .int (nI (8))]) (st := []) (c_within l cy (x) (nI (1)) (nI (8)) ([(ad 0, .inr (9, [.int (nI (σ.1)), .ref (ad 1), .ref (ad 2), .ref (sa (3 * 0)), .ref (ad 4), .ref (ad 5), .ref (ad 6), .int (nI ((sOp σ).length)), va_rf (lo), .int (nx), .int (σ.2.2.2.2.2.2.1), .int (σ.2.2.2.2.2.2.2), .ref (ad 12), .int (nI ((sTr σ).length)), .int (σ.2.2.2.2.1)])), (ad 1, .inl (cy 3, 9, .inr (.inr (.inr (.inr (fun i => some (sa (3 * i)))))))), (ad 2, .inl (cy 3, 9, .inr (.inr (.inr (.inr (fun i => some (sa (3 * (9 + i))))))))), (ad 5, .inl (cy 4, 8, .inr (.inr (.inr (.inr (fun i => some (ta (2 * i)))))))), (ad 6, .inl (cy 2, 40, .inr (.inr (.inr (.inr (pg)))))), (ad 12, .inl (cy 0, 16, .inl (bo)))] ++ (xs ++ (tb ++ op)))) ok_X11_within wd_230 rfl rfl dX11_round_4 (by decide) (by decide) (Nat.le_of_ble_eq_true rfl) (fun r4 w4 hp4 => ?_)
  obtain ⟨rfl, rfl⟩ := hp4
  refine gw_W.norm (st' := [.int (bI (inZ (x).toInt (nI (1)).toInt (nI (8)).toInt))]) (k1 := 0) (k2 := 0) rfl rfl rfl ?_
  refine gw_if_ne (tgt := 13) dX11_round_7 (by decide) (fun c7 => ?_) (fun c7 => ?_)
  · rw [bI_n0] at c7
    have d7 : inZ x.toInt 1 8 = true := c7
    refine gw_aload_n dX11_round_13 rfl ?_
    refine gw_W.wd (w' := bW cy ad sa ta (σ.1) ((sOp σ).length) ((sTr σ).length) nx (σ.2.2.2.2.2.2.1) (σ.2.2.2.2.2.2.2) (σ.2.2.2.2.1) lo pg bo ++ (xs ++ (tb ++ op))) rfl ?_
    refine gw_callV 0 (As := []) (st := []) (c_bopen l cy ad sa ta oa σ.1 (sTr σ).length nx σ.2.2.2.2.2.2.1 σ.2.2.2.2.2.2.2 σ.2.2.2.2.1 lo pg bo xs tb op (sOp σ) td hop) ok_X11_openRounds rfl rfl rfl wd_555 rfl rfl dX11_round_14 (by decide) (by decide) (Nat.le_of_ble_eq_true rfl) (fun r14 w14 hp14 => ?_)
    obtain ⟨rfl, rfl⟩ := hp14
    refine gw_W.norm (st' := [.int (nI ((opk (sOp σ) (sOp σ).length).length))]) (k1 := 0) (k2 := 0) rfl rfl rfl ?_
    refine gw_W.wd (w' := ([(ad 0, .inr (9, [.int (nI (σ.1)), .ref (ad 1), .ref (ad 2), .ref (sa (3 * 0)), .ref (ad 4), .ref (ad 5), .ref (ad 6), .int (nI ((sOp σ).length)), va_rf (lo), .int (nx), .int (σ.2.2.2.2.2.2.1), .int (σ.2.2.2.2.2.2.2), .ref (ad 12), .int (nI ((sTr σ).length)), .int (σ.2.2.2.2.1)])), (ad 1, .inl (cy 3, 9, .inr (.inr (.inr (.inr (fun i => some (sa (3 * i)))))))), (ad 2, .inl (cy 3, 9, .inr (.inr (.inr (.inr (fun i => some (sa (3 * (9 + i))))))))), (ad 5, .inl (cy 4, 8, .inr (.inr (.inr (.inr (fun i => some (ta (2 * i)))))))), (ad 6, .inl (cy 2, 40, .inr (.inr (.inr (.inr (pg)))))), (ad 12, .inl (cy 0, 16, .inl (bo)))] ++ (xs ++ (tb ++ op)))) rfl ?_
    refine gw_iconst (v := nI (3)) dX11_round_17 (by decide) ?_
    refine gw_icmpN_lt (tgt := 24) dX11_round_18 (by decide) (by omega) (by omega) (fun c18 => ?_) (fun c18 => ?_)
    · have hC3 : ¬ opC σ = 3 := by omega
      refine gw_new (C0 := RX7) (T := TX7) (N := 4) (ci := 5) (fs := [.int ((0 : Int32)), .null, .int ((0 : Int32)), .int ((0 : Int32))]) tyX7 tyX7_ok rfl inX7 wd_560 wd_561 wd_71 (fun j hj => by
        rcases (show j = 0 ∨ j = 1 ∨ j = 2 ∨ j = 3 by omega) with rfl | rfl | rfl | rfl <;> rfl) (by decide) (by decide) dX11_round_24 (fun q24 => ?_)
      refine gw_W.perm (perm_sn2 (A := ([(ad 0, .inr (9, [.int (nI (σ.1)), .ref (ad 1), .ref (ad 2), .ref (sa (3 * 0)), .ref (ad 4), .ref (ad 5), .ref (ad 6), .int (nI ((sOp σ).length)), va_rf (lo), .int (nx), .int (σ.2.2.2.2.2.2.1), .int (σ.2.2.2.2.2.2.2), .ref (ad 12), .int (nI ((sTr σ).length)), .int (σ.2.2.2.2.1)])), (ad 1, .inl (cy 3, 9, .inr (.inr (.inr (.inr (fun i => some (sa (3 * i)))))))), (ad 2, .inl (cy 3, 9, .inr (.inr (.inr (.inr (fun i => some (sa (3 * (9 + i))))))))), (ad 5, .inl (cy 4, 8, .inr (.inr (.inr (.inr (fun i => some (ta (2 * i)))))))), (ad 6, .inl (cy 2, 40, .inr (.inr (.inr (.inr (pg)))))), (ad 12, .inl (cy 0, 16, .inl (bo)))] : va_W)) (R := (xs ++ (tb ++ op))) (C := [(q24, .inr (5, [.int ((0 : Int32)), .null, .int ((0 : Int32)), .int ((0 : Int32))]))])) ?_
      refine gw_W.norm (st' := [.ref (q24)]) (k1 := 1) (k2 := 4) rfl rfl rfl ?_
      refine gw_W.wd (w' := ([(ad 0, .inr (9, [.int (nI (σ.1)), .ref (ad 1), .ref (ad 2), .ref (sa (3 * 0)), .ref (ad 4), .ref (ad 5), .ref (ad 6), .int (nI ((sOp σ).length)), va_rf (lo), .int (nx), .int (σ.2.2.2.2.2.2.1), .int (σ.2.2.2.2.2.2.2), .ref (ad 12), .int (nI ((sTr σ).length)), .int (σ.2.2.2.2.1)])), (ad 1, .inl (cy 3, 9, .inr (.inr (.inr (.inr (fun i => some (sa (3 * i)))))))), (ad 2, .inl (cy 3, 9, .inr (.inr (.inr (.inr (fun i => some (sa (3 * (9 + i))))))))), (ad 5, .inl (cy 4, 8, .inr (.inr (.inr (.inr (fun i => some (ta (2 * i)))))))), (ad 6, .inl (cy 2, 40, .inr (.inr (.inr (.inr (pg)))))), (ad 12, .inl (cy 0, 16, .inl (bo))), (q24, .inr (5, [.int ((0 : Int32)), .null, .int ((0 : Int32)), .int ((0 : Int32))]))] ++ (xs ++ (tb ++ op)))) rfl ?_
      refine gw_dup dX11_round_27 rfl ?_
      refine gw_aload_n dX11_round_28 rfl ?_
      refine gw_get (C0 := RX11) (T := TX11) (N := 15) (ref := RX11) 0 rfl rfl inX11 7 (by decide) wd_182 (Or.inl rfl) rfl dX11_round_29 ?_
      refine gw_aload_n dX11_round_32 rfl ?_
      refine gw_get (C0 := RX11) (T := TX11) (N := 15) (ref := RX11) 0 rfl rfl inX11 8 (by decide) wd_183 (Or.inl rfl) rfl dX11_round_33 ?_
      refine gw_iload_n dX11_round_36 rfl ?_
      refine gw_callI (As := [.int (nI ((sOp σ).length)), va_rf (lo), .int (x)]) (st := [.ref (q24)]) ((c_q7 l cy q24 (lo) (nI ((sOp σ).length)) x).frame (w2 := ([(ad 0, .inr (9, [.int (nI (σ.1)), .ref (ad 1), .ref (ad 2), .ref (sa (3 * 0)), .ref (ad 4), .ref (ad 5), .ref (ad 6), .int (nI ((sOp σ).length)), va_rf (lo), .int (nx), .int (σ.2.2.2.2.2.2.1), .int (σ.2.2.2.2.2.2.2), .ref (ad 12), .int (nI ((sTr σ).length)), .int (σ.2.2.2.2.1)])), (ad 1, .inl (cy 3, 9, .inr (.inr (.inr (.inr (fun i => some (sa (3 * i)))))))), (ad 2, .inl (cy 3, 9, .inr (.inr (.inr (.inr (fun i => some (sa (3 * (9 + i))))))))), (ad 5, .inl (cy 4, 8, .inr (.inr (.inr (.inr (fun i => some (ta (2 * i)))))))), (ad 6, .inl (cy 2, 40, .inr (.inr (.inr (.inr (pg)))))), (ad 12, .inl (cy 0, 16, .inl (bo))), (q24, .inr (5, [.int ((0 : Int32)), .null, .int ((0 : Int32)), .int ((0 : Int32))]))] ++ (xs ++ (tb ++ op)))) (f := ([(ad 0, .inr (9, [.int (nI (σ.1)), .ref (ad 1), .ref (ad 2), .ref (sa (3 * 0)), .ref (ad 4), .ref (ad 5), .ref (ad 6), .int (nI ((sOp σ).length)), va_rf (lo), .int (nx), .int (σ.2.2.2.2.2.2.1), .int (σ.2.2.2.2.2.2.2), .ref (ad 12), .int (nI ((sTr σ).length)), .int (σ.2.2.2.2.1)])), (ad 1, .inl (cy 3, 9, .inr (.inr (.inr (.inr (fun i => some (sa (3 * i)))))))), (ad 2, .inl (cy 3, 9, .inr (.inr (.inr (.inr (fun i => some (sa (3 * (9 + i))))))))), (ad 5, .inl (cy 4, 8, .inr (.inr (.inr (.inr (fun i => some (ta (2 * i)))))))), (ad 6, .inl (cy 2, 40, .inr (.inr (.inr (.inr (pg)))))), (ad 12, .inl (cy 0, 16, .inl (bo)))] : va_W) ++ (xs ++ (tb ++ op))) (perm_op (A := ([(ad 0, .inr (9, [.int (nI (σ.1)), .ref (ad 1), .ref (ad 2), .ref (sa (3 * 0)), .ref (ad 4), .ref (ad 5), .ref (ad 6), .int (nI ((sOp σ).length)), va_rf (lo), .int (nx), .int (σ.2.2.2.2.2.2.1), .int (σ.2.2.2.2.2.2.2), .ref (ad 12), .int (nI ((sTr σ).length)), .int (σ.2.2.2.2.1)])), (ad 1, .inl (cy 3, 9, .inr (.inr (.inr (.inr (fun i => some (sa (3 * i)))))))), (ad 2, .inl (cy 3, 9, .inr (.inr (.inr (.inr (fun i => some (sa (3 * (9 + i))))))))), (ad 5, .inl (cy 4, 8, .inr (.inr (.inr (.inr (fun i => some (ta (2 * i)))))))), (ad 6, .inl (cy 2, 40, .inr (.inr (.inr (.inr (pg)))))), (ad 12, .inl (cy 0, 16, .inl (bo)))] : va_W)) (C := ([(q24, .inr (5, [.int ((0 : Int32)), .null, .int ((0 : Int32)), .int ((0 : Int32))]))] : va_W)) (R := (xs ++ (tb ++ op))))) ok_X7_init wd_562 rfl rfl dX11_round_37 (by decide) (by decide) (Nat.le_of_ble_eq_true rfl) (fun r37 w37 hp37 => ?_)
      obtain ⟨w37, ⟨rfl, rfl⟩, rfl⟩ := hp37
      refine gw_W.perm (perm_op (A := ([(ad 0, .inr (9, [.int (nI (σ.1)), .ref (ad 1), .ref (ad 2), .ref (sa (3 * 0)), .ref (ad 4), .ref (ad 5), .ref (ad 6), .int (nI ((sOp σ).length)), va_rf (lo), .int (nx), .int (σ.2.2.2.2.2.2.1), .int (σ.2.2.2.2.2.2.2), .ref (ad 12), .int (nI ((sTr σ).length)), .int (σ.2.2.2.2.1)])), (ad 1, .inl (cy 3, 9, .inr (.inr (.inr (.inr (fun i => some (sa (3 * i)))))))), (ad 2, .inl (cy 3, 9, .inr (.inr (.inr (.inr (fun i => some (sa (3 * (9 + i))))))))), (ad 5, .inl (cy 4, 8, .inr (.inr (.inr (.inr (fun i => some (ta (2 * i)))))))), (ad 6, .inl (cy 2, 40, .inr (.inr (.inr (.inr (pg)))))), (ad 12, .inl (cy 0, 16, .inl (bo)))] : va_W)) (C := ([(q24, .inr (5, [.int (nI ((sOp σ).length)), va_rf (lo), .int (x), .int ((0 : Int32))]))] : va_W)) (R := (xs ++ (tb ++ op)))).symm ?_
      refine gw_W.norm (st' := [.ref (q24)]) (k1 := 1) (k2 := 4) rfl rfl rfl ?_
      refine gw_W.wd (w' := ([(ad 0, .inr (9, [.int (nI (σ.1)), .ref (ad 1), .ref (ad 2), .ref (sa (3 * 0)), .ref (ad 4), .ref (ad 5), .ref (ad 6), .int (nI ((sOp σ).length)), va_rf (lo), .int (nx), .int (σ.2.2.2.2.2.2.1), .int (σ.2.2.2.2.2.2.2), .ref (ad 12), .int (nI ((sTr σ).length)), .int (σ.2.2.2.2.1)])), (ad 1, .inl (cy 3, 9, .inr (.inr (.inr (.inr (fun i => some (sa (3 * i)))))))), (ad 2, .inl (cy 3, 9, .inr (.inr (.inr (.inr (fun i => some (sa (3 * (9 + i))))))))), (ad 5, .inl (cy 4, 8, .inr (.inr (.inr (.inr (fun i => some (ta (2 * i)))))))), (ad 6, .inl (cy 2, 40, .inr (.inr (.inr (.inr (pg)))))), (ad 12, .inl (cy 0, 16, .inl (bo))), (q24, .inr (5, [.int (nI ((sOp σ).length)), va_rf (lo), .int (x), .int ((0 : Int32))]))] ++ (xs ++ (tb ++ op)))) rfl ?_
      refine gw_astore_n dX11_round_40 (by decide) rfl ?_
      refine gw_aload_n dX11_round_41 rfl ?_
      refine gw_aload_n dX11_round_42 rfl ?_
      refine gw_W.wd (w' := bW cy ad sa ta (σ.1) ((sOp σ).length) ((sTr σ).length) nx (σ.2.2.2.2.2.2.1) (σ.2.2.2.2.2.2.2) (σ.2.2.2.2.1) lo pg bo ++ ([(q24, .inr (5, [.int (nI ((sOp σ).length)), va_rf (lo), .int (x), .int ((0 : Int32))]))] ++ (xs ++ (tb ++ op)))) rfl ?_
      by_cases h40 : (sOp σ).length = 40
      · refine gw_callV 0 (As := [.ref (q24)]) (st := []) (c_bappendF l cy ad sa ta (σ.1) ((sOp σ).length) ((sTr σ).length) nx (σ.2.2.2.2.2.2.1) (σ.2.2.2.2.2.2.2) (σ.2.2.2.2.1) lo pg bo (xs ++ (tb ++ op)) q24 5 [.int (nI ((sOp σ).length)), va_rf (lo), .int (x), .int ((0 : Int32))] h40) ok_X11_append rfl rfl rfl wd_506 rfl rfl dX11_round_43 (by decide) (by decide) (Nat.le_of_ble_eq_true rfl) (fun r43 w43 hp43 => ?_)
        obtain ⟨rfl, rfl⟩ := hp43
        refine gw_W.norm (st' := [.int ((-1000003 : Int32))]) (k1 := 1) (k2 := 4) rfl rfl rfl ?_
        refine gw_W.wd (w' := ([(ad 0, .inr (9, [.int (nI (σ.1)), .ref (ad 1), .ref (ad 2), .ref (sa (3 * 0)), .ref (ad 4), .ref (ad 5), .ref (ad 6), .int (nI ((sOp σ).length)), va_rf (lo), .int (nx), .int (σ.2.2.2.2.2.2.1), .int (σ.2.2.2.2.2.2.2), .ref (ad 12), .int (nI ((sTr σ).length)), .int (σ.2.2.2.2.1)])), (ad 1, .inl (cy 3, 9, .inr (.inr (.inr (.inr (fun i => some (sa (3 * i)))))))), (ad 2, .inl (cy 3, 9, .inr (.inr (.inr (.inr (fun i => some (sa (3 * (9 + i))))))))), (ad 5, .inl (cy 4, 8, .inr (.inr (.inr (.inr (fun i => some (ta (2 * i)))))))), (ad 6, .inl (cy 2, 40, .inr (.inr (.inr (.inr (pg)))))), (ad 12, .inl (cy 0, 16, .inl (bo))), (q24, .inr (5, [.int (nI ((sOp σ).length)), va_rf (lo), .int (x), .int ((0 : Int32))]))] ++ (xs ++ (tb ++ op)))) rfl ?_
        refine gw_W.perm (perm_sn2 (A := ([(ad 0, .inr (9, [.int (nI (σ.1)), .ref (ad 1), .ref (ad 2), .ref (sa (3 * 0)), .ref (ad 4), .ref (ad 5), .ref (ad 6), .int (nI ((sOp σ).length)), va_rf (lo), .int (nx), .int (σ.2.2.2.2.2.2.1), .int (σ.2.2.2.2.2.2.2), .ref (ad 12), .int (nI ((sTr σ).length)), .int (σ.2.2.2.2.1)])), (ad 1, .inl (cy 3, 9, .inr (.inr (.inr (.inr (fun i => some (sa (3 * i)))))))), (ad 2, .inl (cy 3, 9, .inr (.inr (.inr (.inr (fun i => some (sa (3 * (9 + i))))))))), (ad 5, .inl (cy 4, 8, .inr (.inr (.inr (.inr (fun i => some (ta (2 * i)))))))), (ad 6, .inl (cy 2, 40, .inr (.inr (.inr (.inr (pg)))))), (ad 12, .inl (cy 0, 16, .inl (bo)))] : va_W)) (R := (xs ++ (tb ++ op))) (C := [(q24, .inr (5, [.int (nI ((sOp σ).length)), va_rf (lo), .int (x), .int ((0 : Int32))]))])).symm ?_
        refine gw_W.drop ?_
        refine gw_W.wd (w' := ([(ad 0, .inr (9, [.int (nI (σ.1)), .ref (ad 1), .ref (ad 2), .ref (sa (3 * 0)), .ref (ad 4), .ref (ad 5), .ref (ad 6), .int (nI ((sOp σ).length)), va_rf (lo), .int (nx), .int (σ.2.2.2.2.2.2.1), .int (σ.2.2.2.2.2.2.2), .ref (ad 12), .int (nI ((sTr σ).length)), .int (σ.2.2.2.2.1)])), (ad 1, .inl (cy 3, 9, .inr (.inr (.inr (.inr (fun i => some (sa (3 * i)))))))), (ad 2, .inl (cy 3, 9, .inr (.inr (.inr (.inr (fun i => some (sa (3 * (9 + i))))))))), (ad 5, .inl (cy 4, 8, .inr (.inr (.inr (.inr (fun i => some (ta (2 * i)))))))), (ad 6, .inl (cy 2, 40, .inr (.inr (.inr (.inr (pg)))))), (ad 12, .inl (cy 0, 16, .inl (bo)))] ++ (xs ++ (tb ++ op)))) rfl ?_
        refine gw_istore_n dX11_round_46 (by decide) rfl ?_
        refine gw_iload_n dX11_round_47 rfl ?_
        refine gw_ldc dX11_round_48 wd_336 ?_
        refine gw_icmp_eq (tgt := 58) dX11_round_50 (by decide) (fun c50 => ?_) (fun c50 => ?_)
        · refine gw_iload_n dX11_round_58 rfl ?_
          refine gw_W.wd (w' := bW cy ad sa ta (σ.1) ((sOp σ).length) ((sTr σ).length) nx (σ.2.2.2.2.2.2.1) (σ.2.2.2.2.2.2.2) (σ.2.2.2.2.1) lo pg bo ++ (xs ++ (tb ++ op))) rfl ?_
          refine gw_iret (?_) (by decide) (by decide) rfl dX11_round_59
          subst hpost
          unfold spRound spCome
          rw [if_pos d7, if_neg hC3]
          first
            | (rw [if_pos h40]; exact ⟨rfl, ad, sa, ta, oa, nx, lo, pg, bo, cs, xs, tb, op, td, rfl, List.Perm.refl _, hxs, hcs, htb, hop, hN, hbo⟩)
            | (rw [if_neg h40]; exact ⟨rfl, cInv_push hxs hcs htb hop hN hbo (5, x, 0, 0, 0) _ 0 (ro_ok d7) (show opStep (opn (sOp σ)) (5, x, 0, 0, 0) = some (oc + 1) from by rw [hoc]; simp [opStep]; omega) h40 ((arOf_5 rfl).symm)⟩)
        · exact absurd rfl c50
      · refine gw_callV 0 (As := [.ref (q24)]) (st := []) (c_bappend l cy ad sa ta (σ.1) ((sOp σ).length) ((sTr σ).length) nx (σ.2.2.2.2.2.2.1) (σ.2.2.2.2.2.2.2) (σ.2.2.2.2.1) lo pg bo (xs ++ (tb ++ op)) q24 5 [.int (nI ((sOp σ).length)), va_rf (lo), .int (x), .int ((0 : Int32))] _ rfl (by decide +kernel) (by omega)) ok_X11_append rfl rfl rfl wd_506 rfl rfl dX11_round_43 (by decide) (by decide) (Nat.le_of_ble_eq_true rfl) (fun r43 w43 hp43 => ?_)
        obtain ⟨rfl, rfl⟩ := hp43
        refine gw_W.norm (st' := [.int (nI ((sOp σ).length))]) (k1 := 1) (k2 := 4) rfl rfl rfl ?_
        refine gw_W.wd (w' := ([(ad 0, .inr (9, [.int (nI (σ.1)), .ref (ad 1), .ref (ad 2), .ref (sa (3 * 0)), .ref (ad 4), .ref (ad 5), .ref (ad 6), .int (nI ((sOp σ).length + 1)), va_rf (lo), .int (nx), .int (σ.2.2.2.2.2.2.1), .int (σ.2.2.2.2.2.2.2), .ref (ad 12), .int (nI ((sTr σ).length)), .int (σ.2.2.2.2.1)])), (ad 1, .inl (cy 3, 9, .inr (.inr (.inr (.inr (fun i => some (sa (3 * i)))))))), (ad 2, .inl (cy 3, 9, .inr (.inr (.inr (.inr (fun i => some (sa (3 * (9 + i))))))))), (ad 5, .inl (cy 4, 8, .inr (.inr (.inr (.inr (fun i => some (ta (2 * i)))))))), (ad 6, .inl (cy 2, 40, .inr (.inr (.inr (.inr (va_up pg ((sOp σ).length) (some q24))))))), (ad 12, .inl (cy 0, 16, .inl (bo))), (q24, .inr (5, [.int (nI ((sOp σ).length)), va_rf (lo), .int (x), .int ((0 : Int32))]))] ++ (xs ++ (tb ++ op)))) rfl ?_
        refine gw_istore_n dX11_round_46 (by decide) rfl ?_
        refine gw_iload_n dX11_round_47 rfl ?_
        refine gw_ldc dX11_round_48 wd_336 ?_
        refine gw_icmp_eq (tgt := 58) dX11_round_50 (by decide) (fun c50 => ?_) (fun c50 => ?_)
        · exact absurd c50 (nI_ne3 l40)
        · refine gw_aload_n dX11_round_53 rfl ?_
          refine gw_aload_n dX11_round_54 rfl ?_
          refine gw_put (C0 := RX11) (T := TX11) (N := 15) (ref := RX11) (ty := tyX11 8) 0 rfl rfl inX11 8 (by decide) tyX11 tyX11_ok nmX11 wd_183 (Or.inl rfl) rfl (tyX11_ok 8 (by decide)) (rfl) (rfl) (Nat.le_of_ble_eq_true rfl) dX11_round_55 ?_
          refine gw_W.wd (w' := ([(ad 0, .inr (9, [.int (nI (σ.1)), .ref (ad 1), .ref (ad 2), .ref (sa (3 * 0)), .ref (ad 4), .ref (ad 5), .ref (ad 6), .int (nI ((sOp σ).length + 1)), .ref (q24), .int (nx), .int (σ.2.2.2.2.2.2.1), .int (σ.2.2.2.2.2.2.2), .ref (ad 12), .int (nI ((sTr σ).length)), .int (σ.2.2.2.2.1)])), (ad 1, .inl (cy 3, 9, .inr (.inr (.inr (.inr (fun i => some (sa (3 * i)))))))), (ad 2, .inl (cy 3, 9, .inr (.inr (.inr (.inr (fun i => some (sa (3 * (9 + i))))))))), (ad 5, .inl (cy 4, 8, .inr (.inr (.inr (.inr (fun i => some (ta (2 * i)))))))), (ad 6, .inl (cy 2, 40, .inr (.inr (.inr (.inr (va_up pg ((sOp σ).length) (some q24))))))), (ad 12, .inl (cy 0, 16, .inl (bo))), (q24, .inr (5, [.int (nI ((sOp σ).length)), va_rf (lo), .int (x), .int ((0 : Int32))]))] ++ (xs ++ (tb ++ op)))) rfl ?_
          refine gw_iload_n dX11_round_58 rfl ?_
          refine gw_W.wd (w' := bW cy ad sa ta (σ.1) ((sOp σ).length + 1) ((sTr σ).length) nx (σ.2.2.2.2.2.2.1) (σ.2.2.2.2.2.2.2) (σ.2.2.2.2.1) (some (q24)) (va_up pg ((sOp σ).length) (some q24)) bo ++ ([(q24, .inr (5, [.int (nI ((sOp σ).length)), va_rf (lo), .int (x), .int ((0 : Int32))]))] ++ (xs ++ (tb ++ op)))) rfl ?_
          refine gw_iret (?_) (by decide) (by decide) rfl dX11_round_59
          subst hpost
          unfold spRound spCome
          rw [if_pos d7, if_neg hC3]
          first
            | (rw [if_pos h40]; exact ⟨rfl, ad, sa, ta, oa, nx, lo, pg, bo, cs, xs, tb, op, td, rfl, List.Perm.refl _, hxs, hcs, htb, hop, hN, hbo⟩)
            | (rw [if_neg h40]; exact ⟨rfl, cInv_push hxs hcs htb hop hN hbo (5, x, 0, 0, 0) _ 0 (ro_ok d7) (show opStep (opn (sOp σ)) (5, x, 0, 0, 0) = some (oc + 1) from by rw [hoc]; simp [opStep]; omega) h40 ((arOf_5 rfl).symm)⟩)
    · have hC3 : opC σ = 3 := by omega
      refine gw_ldc dX11_round_21 wd_559 ?_
      refine gw_W.wd (w' := bW cy ad sa ta (σ.1) ((sOp σ).length) ((sTr σ).length) nx (σ.2.2.2.2.2.2.1) (σ.2.2.2.2.2.2.2) (σ.2.2.2.2.1) lo pg bo ++ (xs ++ (tb ++ op))) rfl ?_
      refine gw_iret (?_) (by decide) (by decide) rfl dX11_round_23
      subst hpost
      unfold spRound
      rw [if_pos d7, if_pos hC3]
      exact ⟨rfl, ad, sa, ta, oa, nx, lo, pg, bo, cs, xs, tb, op, td, rfl, List.Perm.refl _, hxs, hcs, htb, hop, hN, hbo⟩
  · rw [bI_0] at c7
    have d7 : inZ x.toInt 1 8 = false := c7
    refine gw_ldc dX11_round_10 wd_233 ?_
    refine gw_W.wd (w' := bW cy ad sa ta (σ.1) ((sOp σ).length) ((sTr σ).length) nx (σ.2.2.2.2.2.2.1) (σ.2.2.2.2.2.2.2) (σ.2.2.2.2.1) lo pg bo ++ (xs ++ (tb ++ op))) rfl ?_
    refine gw_iret (?_) (by decide) (by decide) rfl dX11_round_12
    subst hpost
    unfold spRound
    rw [if_neg (by rw [d7]; decide)]
    exact ⟨rfl, ad, sa, ta, oa, nx, lo, pg, bo, cs, xs, tb, op, td, rfl, List.Perm.refl _, hxs, hcs, htb, hop, hN, hbo⟩
abbrev kX11_end : gw_K := (yX11_end, cX11_end, 3, { frames := 3, cells := 1, slots := 2, locals := 64 }, (some .int))
theorem ok_X11_end : gw_calV kX11_end 0 := ⟨⟨wd_581, wd_57, by decide, by decide, by decide +kernel⟩, wd_579, wd_580⟩
set_option maxHeartbeats 4000000 in
set_option maxRecDepth 100000 in
theorem t_cgend (l : Launch) (cy : Nat → ClassId) (b : Nat) (σ : aS) (w : va_W) (hI : cInv cy b σ w)  : gw_M l kX11_end cy [.ref (b)] (w) (cPost cy b (spEnd σ)) := by
  obtain ⟨ad, sa, ta, oa, nx, lo, pg, bo, cs, xs, tb, op, td, rfl, hw, hxs, hcs, htb, hop, hN, hbo⟩ := hI
  have hn4 : 1 ≤ σ.1 ∧ σ.1 ≤ 4 := ⟨hN.1, hN.2.1⟩
  refine gw_M.pm hw ?_
  obtain ⟨oc, hoc⟩ := hN.2.2.2.2.1
  have l40 : (sOp σ).length ≤ 40 := hN.2.2.2.1
  have hC := opC_eq hoc
  have hk := opk_C hoc
  have hlo := hop.2.1
  unfold arOf at hlo
  cases e : opk (sOp σ) (sOp σ).length with
  | nil =>
    rw [e] at hlo hk
    have hlo : lo = none := hlo
    subst hlo
    refine gw_M.mk (lv := [some (.ref (ad 0)), none, none]) (by decide) (Nat.le_of_ble_eq_true rfl) rfl ?_
    generalize hpost : (cPost cy (ad 0) (spEnd σ) : gw_Q) = post
    refine gw_W.wd (w' := ([(ad 0, .inr (9, [.int (nI (σ.1)), .ref (ad 1), .ref (ad 2), .ref (sa (3 * 0)), .ref (ad 4), .ref (ad 5), .ref (ad 6), .int (nI ((sOp σ).length)), .null, .int (nx), .int (σ.2.2.2.2.2.2.1), .int (σ.2.2.2.2.2.2.2), .ref (ad 12), .int (nI ((sTr σ).length)), .int (σ.2.2.2.2.1)])), (ad 1, .inl (cy 3, 9, .inr (.inr (.inr (.inr (fun i => some (sa (3 * i)))))))), (ad 2, .inl (cy 3, 9, .inr (.inr (.inr (.inr (fun i => some (sa (3 * (9 + i))))))))), (ad 5, .inl (cy 4, 8, .inr (.inr (.inr (.inr (fun i => some (ta (2 * i)))))))), (ad 6, .inl (cy 2, 40, .inr (.inr (.inr (.inr (pg)))))), (ad 12, .inl (cy 0, 16, .inl (bo)))] ++ (xs ++ (tb ++ op)))) rfl ?_
    refine gw_aload_n dX11_end_0 rfl ?_
    refine gw_get (C0 := RX11) (T := TX11) (N := 15) (ref := RX11) 0 rfl rfl inX11 8 (by decide) wd_183 (Or.inl rfl) rfl dX11_end_1 ?_
    refine gw_astore_nN dX11_end_4 (by decide) rfl ?_
    refine gw_aload_nN dX11_end_5 rfl ?_
    refine gw_ifnonnullN dX11_end_6 ?_
    refine gw_ldc dX11_end_9 wd_559 ?_
    refine gw_W.wd (w' := bW cy ad sa ta (σ.1) ((sOp σ).length) ((sTr σ).length) nx (σ.2.2.2.2.2.2.1) (σ.2.2.2.2.2.2.2) (σ.2.2.2.2.1) none pg bo ++ (xs ++ (tb ++ op))) rfl ?_
    refine gw_iret (?_) (by decide) (by decide) rfl dX11_end_11
    subst hpost
    unfold spEnd
    rw [if_pos (by rw [hC]; exact hk.symm)]
    exact ⟨rfl, ad, sa, ta, oa, nx, none, pg, bo, cs, xs, tb, op, td, rfl, List.Perm.refl _, hxs, hcs, htb, hop, hN, hbo⟩
  | cons j r =>
    rw [e] at hlo hk
    have hlo : lo = some (oa j) := hlo
    subst hlo
    obtain ⟨t1, t2⟩ := opk_tail (sOp σ) _ j r e
    have hj := opk_lt (sOp σ) _ j (by rw [e]; exact List.mem_cons_self ..)
    have hmem := opP_mem hop (j := j) hj
    rw [opCe, if_neg (by omega), if_neg (by omega), if_neg (by omega), if_pos t2] at hmem
    rw [List.length_cons] at hk
    refine gw_M.mk (lv := [some (.ref (ad 0)), none, none]) (by decide) (Nat.le_of_ble_eq_true rfl) rfl ?_
    generalize hpost : (cPost cy (ad 0) (spEnd σ) : gw_Q) = post
    refine gw_W.wd (w' := ([(ad 0, .inr (9, [.int (nI (σ.1)), .ref (ad 1), .ref (ad 2), .ref (sa (3 * 0)), .ref (ad 4), .ref (ad 5), .ref (ad 6), .int (nI ((sOp σ).length)), .ref (oa j), .int (nx), .int (σ.2.2.2.2.2.2.1), .int (σ.2.2.2.2.2.2.2), .ref (ad 12), .int (nI ((sTr σ).length)), .int (σ.2.2.2.2.1)])), (ad 1, .inl (cy 3, 9, .inr (.inr (.inr (.inr (fun i => some (sa (3 * i)))))))), (ad 2, .inl (cy 3, 9, .inr (.inr (.inr (.inr (fun i => some (sa (3 * (9 + i))))))))), (ad 5, .inl (cy 4, 8, .inr (.inr (.inr (.inr (fun i => some (ta (2 * i)))))))), (ad 6, .inl (cy 2, 40, .inr (.inr (.inr (.inr (pg)))))), (ad 12, .inl (cy 0, 16, .inl (bo)))] ++ (xs ++ (tb ++ op)))) rfl ?_
    refine gw_aload_n dX11_end_0 rfl ?_
    refine gw_get (C0 := RX11) (T := TX11) (N := 15) (ref := RX11) 0 rfl rfl inX11 8 (by decide) wd_183 (Or.inl rfl) rfl dX11_end_1 ?_
    refine gw_astore_n dX11_end_4 (by decide) rfl ?_
    refine gw_aload_n dX11_end_5 rfl ?_
    refine gw_ifnonnull (tgt := 12) dX11_end_6 (by decide) ?_
    refine gw_aload_n dX11_end_12 rfl ?_
    refine gw_new (C0 := RX2) (T := TX2) (N := 2) (ci := 2) (fs := [.int ((0 : Int32)), .null]) tyX2 tyX2_ok rfl inX2 wd_582 wd_583 wd_72 (fun j hj => by
      rcases (show j = 0 ∨ j = 1 by omega) with rfl | rfl <;> rfl) (by decide) (by decide) dX11_end_13 (fun q13 => ?_)
    refine gw_W.perm (perm_sn2 (A := ([(ad 0, .inr (9, [.int (nI (σ.1)), .ref (ad 1), .ref (ad 2), .ref (sa (3 * 0)), .ref (ad 4), .ref (ad 5), .ref (ad 6), .int (nI ((sOp σ).length)), .ref (oa j), .int (nx), .int (σ.2.2.2.2.2.2.1), .int (σ.2.2.2.2.2.2.2), .ref (ad 12), .int (nI ((sTr σ).length)), .int (σ.2.2.2.2.1)])), (ad 1, .inl (cy 3, 9, .inr (.inr (.inr (.inr (fun i => some (sa (3 * i)))))))), (ad 2, .inl (cy 3, 9, .inr (.inr (.inr (.inr (fun i => some (sa (3 * (9 + i))))))))), (ad 5, .inl (cy 4, 8, .inr (.inr (.inr (.inr (fun i => some (ta (2 * i)))))))), (ad 6, .inl (cy 2, 40, .inr (.inr (.inr (.inr (pg)))))), (ad 12, .inl (cy 0, 16, .inl (bo)))] : va_W)) (R := (xs ++ (tb ++ op))) (C := [(q13, .inr (2, [.int ((0 : Int32)), .null]))])) ?_
    refine gw_W.norm (st' := [.ref (q13), .ref (ad 0)]) (k1 := 1) (k2 := 2) rfl rfl rfl ?_
    refine gw_W.wd (w' := ([(ad 0, .inr (9, [.int (nI (σ.1)), .ref (ad 1), .ref (ad 2), .ref (sa (3 * 0)), .ref (ad 4), .ref (ad 5), .ref (ad 6), .int (nI ((sOp σ).length)), .ref (oa j), .int (nx), .int (σ.2.2.2.2.2.2.1), .int (σ.2.2.2.2.2.2.2), .ref (ad 12), .int (nI ((sTr σ).length)), .int (σ.2.2.2.2.1)])), (ad 1, .inl (cy 3, 9, .inr (.inr (.inr (.inr (fun i => some (sa (3 * i)))))))), (ad 2, .inl (cy 3, 9, .inr (.inr (.inr (.inr (fun i => some (sa (3 * (9 + i))))))))), (ad 5, .inl (cy 4, 8, .inr (.inr (.inr (.inr (fun i => some (ta (2 * i)))))))), (ad 6, .inl (cy 2, 40, .inr (.inr (.inr (.inr (pg)))))), (ad 12, .inl (cy 0, 16, .inl (bo))), (q13, .inr (2, [.int ((0 : Int32)), .null]))] ++ (xs ++ (tb ++ op)))) rfl ?_
    refine gw_dup dX11_end_16 rfl ?_
    refine gw_aload_n dX11_end_17 rfl ?_
    refine gw_get (C0 := RX11) (T := TX11) (N := 15) (ref := RX11) 0 rfl rfl inX11 7 (by decide) wd_182 (Or.inl rfl) rfl dX11_end_18 ?_
    refine gw_aload_n dX11_end_21 rfl ?_
    refine gw_callI (As := [.int (nI ((sOp σ).length)), .ref (oa j)]) (st := [.ref (q13), .ref (ad 0)]) ((c_q2 l cy q13 (some (oa j)) (nI ((sOp σ).length))).frame (w2 := ([(ad 0, .inr (9, [.int (nI (σ.1)), .ref (ad 1), .ref (ad 2), .ref (sa (3 * 0)), .ref (ad 4), .ref (ad 5), .ref (ad 6), .int (nI ((sOp σ).length)), .ref (oa j), .int (nx), .int (σ.2.2.2.2.2.2.1), .int (σ.2.2.2.2.2.2.2), .ref (ad 12), .int (nI ((sTr σ).length)), .int (σ.2.2.2.2.1)])), (ad 1, .inl (cy 3, 9, .inr (.inr (.inr (.inr (fun i => some (sa (3 * i)))))))), (ad 2, .inl (cy 3, 9, .inr (.inr (.inr (.inr (fun i => some (sa (3 * (9 + i))))))))), (ad 5, .inl (cy 4, 8, .inr (.inr (.inr (.inr (fun i => some (ta (2 * i)))))))), (ad 6, .inl (cy 2, 40, .inr (.inr (.inr (.inr (pg)))))), (ad 12, .inl (cy 0, 16, .inl (bo))), (q13, .inr (2, [.int ((0 : Int32)), .null]))] ++ (xs ++ (tb ++ op)))) (f := ([(ad 0, .inr (9, [.int (nI (σ.1)), .ref (ad 1), .ref (ad 2), .ref (sa (3 * 0)), .ref (ad 4), .ref (ad 5), .ref (ad 6), .int (nI ((sOp σ).length)), .ref (oa j), .int (nx), .int (σ.2.2.2.2.2.2.1), .int (σ.2.2.2.2.2.2.2), .ref (ad 12), .int (nI ((sTr σ).length)), .int (σ.2.2.2.2.1)])), (ad 1, .inl (cy 3, 9, .inr (.inr (.inr (.inr (fun i => some (sa (3 * i)))))))), (ad 2, .inl (cy 3, 9, .inr (.inr (.inr (.inr (fun i => some (sa (3 * (9 + i))))))))), (ad 5, .inl (cy 4, 8, .inr (.inr (.inr (.inr (fun i => some (ta (2 * i)))))))), (ad 6, .inl (cy 2, 40, .inr (.inr (.inr (.inr (pg)))))), (ad 12, .inl (cy 0, 16, .inl (bo)))] : va_W) ++ (xs ++ (tb ++ op))) (perm_op (A := ([(ad 0, .inr (9, [.int (nI (σ.1)), .ref (ad 1), .ref (ad 2), .ref (sa (3 * 0)), .ref (ad 4), .ref (ad 5), .ref (ad 6), .int (nI ((sOp σ).length)), .ref (oa j), .int (nx), .int (σ.2.2.2.2.2.2.1), .int (σ.2.2.2.2.2.2.2), .ref (ad 12), .int (nI ((sTr σ).length)), .int (σ.2.2.2.2.1)])), (ad 1, .inl (cy 3, 9, .inr (.inr (.inr (.inr (fun i => some (sa (3 * i)))))))), (ad 2, .inl (cy 3, 9, .inr (.inr (.inr (.inr (fun i => some (sa (3 * (9 + i))))))))), (ad 5, .inl (cy 4, 8, .inr (.inr (.inr (.inr (fun i => some (ta (2 * i)))))))), (ad 6, .inl (cy 2, 40, .inr (.inr (.inr (.inr (pg)))))), (ad 12, .inl (cy 0, 16, .inl (bo)))] : va_W)) (C := ([(q13, .inr (2, [.int ((0 : Int32)), .null]))] : va_W)) (R := (xs ++ (tb ++ op))))) ok_X2_init wd_584 rfl rfl dX11_end_22 (by decide) (by decide) (Nat.le_of_ble_eq_true rfl) (fun r22 w22 hp22 => ?_)
    obtain ⟨w22, ⟨rfl, rfl⟩, rfl⟩ := hp22
    refine gw_W.perm (perm_op (A := ([(ad 0, .inr (9, [.int (nI (σ.1)), .ref (ad 1), .ref (ad 2), .ref (sa (3 * 0)), .ref (ad 4), .ref (ad 5), .ref (ad 6), .int (nI ((sOp σ).length)), .ref (oa j), .int (nx), .int (σ.2.2.2.2.2.2.1), .int (σ.2.2.2.2.2.2.2), .ref (ad 12), .int (nI ((sTr σ).length)), .int (σ.2.2.2.2.1)])), (ad 1, .inl (cy 3, 9, .inr (.inr (.inr (.inr (fun i => some (sa (3 * i)))))))), (ad 2, .inl (cy 3, 9, .inr (.inr (.inr (.inr (fun i => some (sa (3 * (9 + i))))))))), (ad 5, .inl (cy 4, 8, .inr (.inr (.inr (.inr (fun i => some (ta (2 * i)))))))), (ad 6, .inl (cy 2, 40, .inr (.inr (.inr (.inr (pg)))))), (ad 12, .inl (cy 0, 16, .inl (bo)))] : va_W)) (C := ([(q13, .inr (2, [.int (nI ((sOp σ).length)), .ref (oa j)]))] : va_W)) (R := (xs ++ (tb ++ op)))).symm ?_
    refine gw_W.norm (st' := [.ref (q13), .ref (ad 0)]) (k1 := 1) (k2 := 2) rfl rfl rfl ?_
    refine gw_W.wd (w' := ([(ad 0, .inr (9, [.int (nI (σ.1)), .ref (ad 1), .ref (ad 2), .ref (sa (3 * 0)), .ref (ad 4), .ref (ad 5), .ref (ad 6), .int (nI ((sOp σ).length)), .ref (oa j), .int (nx), .int (σ.2.2.2.2.2.2.1), .int (σ.2.2.2.2.2.2.2), .ref (ad 12), .int (nI ((sTr σ).length)), .int (σ.2.2.2.2.1)])), (ad 1, .inl (cy 3, 9, .inr (.inr (.inr (.inr (fun i => some (sa (3 * i)))))))), (ad 2, .inl (cy 3, 9, .inr (.inr (.inr (.inr (fun i => some (sa (3 * (9 + i))))))))), (ad 5, .inl (cy 4, 8, .inr (.inr (.inr (.inr (fun i => some (ta (2 * i)))))))), (ad 6, .inl (cy 2, 40, .inr (.inr (.inr (.inr (pg)))))), (ad 12, .inl (cy 0, 16, .inl (bo))), (q13, .inr (2, [.int (nI ((sOp σ).length)), .ref (oa j)]))] ++ (xs ++ (tb ++ op)))) rfl ?_
    refine gw_W.wd (w' := bW cy ad sa ta (σ.1) ((sOp σ).length) ((sTr σ).length) nx (σ.2.2.2.2.2.2.1) (σ.2.2.2.2.2.2.2) (σ.2.2.2.2.1) (some (oa j)) pg bo ++ ([(q13, .inr (2, [.int (nI ((sOp σ).length)), .ref (oa j)]))] ++ (xs ++ (tb ++ op)))) rfl ?_
    by_cases h40 : (sOp σ).length = 40
    · refine gw_callV 0 (As := [.ref (q13)]) (st := []) (c_bappendF l cy ad sa ta (σ.1) ((sOp σ).length) ((sTr σ).length) nx (σ.2.2.2.2.2.2.1) (σ.2.2.2.2.2.2.2) (σ.2.2.2.2.1) (some (oa j)) pg bo (xs ++ (tb ++ op)) q13 2 [.int (nI ((sOp σ).length)), .ref (oa j)] h40) ok_X11_append rfl rfl rfl wd_506 rfl rfl dX11_end_25 (by decide) (by decide) (Nat.le_of_ble_eq_true rfl) (fun r25 w25 hp25 => ?_)
      obtain ⟨rfl, rfl⟩ := hp25
      refine gw_W.norm (st' := [.int ((-1000003 : Int32))]) (k1 := 1) (k2 := 2) rfl rfl rfl ?_
      refine gw_W.wd (w' := ([(ad 0, .inr (9, [.int (nI (σ.1)), .ref (ad 1), .ref (ad 2), .ref (sa (3 * 0)), .ref (ad 4), .ref (ad 5), .ref (ad 6), .int (nI ((sOp σ).length)), .ref (oa j), .int (nx), .int (σ.2.2.2.2.2.2.1), .int (σ.2.2.2.2.2.2.2), .ref (ad 12), .int (nI ((sTr σ).length)), .int (σ.2.2.2.2.1)])), (ad 1, .inl (cy 3, 9, .inr (.inr (.inr (.inr (fun i => some (sa (3 * i)))))))), (ad 2, .inl (cy 3, 9, .inr (.inr (.inr (.inr (fun i => some (sa (3 * (9 + i))))))))), (ad 5, .inl (cy 4, 8, .inr (.inr (.inr (.inr (fun i => some (ta (2 * i)))))))), (ad 6, .inl (cy 2, 40, .inr (.inr (.inr (.inr (pg)))))), (ad 12, .inl (cy 0, 16, .inl (bo))), (q13, .inr (2, [.int (nI ((sOp σ).length)), .ref (oa j)]))] ++ (xs ++ (tb ++ op)))) rfl ?_
      refine gw_W.perm (perm_sn2 (A := ([(ad 0, .inr (9, [.int (nI (σ.1)), .ref (ad 1), .ref (ad 2), .ref (sa (3 * 0)), .ref (ad 4), .ref (ad 5), .ref (ad 6), .int (nI ((sOp σ).length)), .ref (oa j), .int (nx), .int (σ.2.2.2.2.2.2.1), .int (σ.2.2.2.2.2.2.2), .ref (ad 12), .int (nI ((sTr σ).length)), .int (σ.2.2.2.2.1)])), (ad 1, .inl (cy 3, 9, .inr (.inr (.inr (.inr (fun i => some (sa (3 * i)))))))), (ad 2, .inl (cy 3, 9, .inr (.inr (.inr (.inr (fun i => some (sa (3 * (9 + i))))))))), (ad 5, .inl (cy 4, 8, .inr (.inr (.inr (.inr (fun i => some (ta (2 * i)))))))), (ad 6, .inl (cy 2, 40, .inr (.inr (.inr (.inr (pg)))))), (ad 12, .inl (cy 0, 16, .inl (bo)))] : va_W)) (R := (xs ++ (tb ++ op))) (C := [(q13, .inr (2, [.int (nI ((sOp σ).length)), .ref (oa j)]))])).symm ?_
      refine gw_W.drop ?_
      refine gw_W.wd (w' := ([(ad 0, .inr (9, [.int (nI (σ.1)), .ref (ad 1), .ref (ad 2), .ref (sa (3 * 0)), .ref (ad 4), .ref (ad 5), .ref (ad 6), .int (nI ((sOp σ).length)), .ref (oa j), .int (nx), .int (σ.2.2.2.2.2.2.1), .int (σ.2.2.2.2.2.2.2), .ref (ad 12), .int (nI ((sTr σ).length)), .int (σ.2.2.2.2.1)])), (ad 1, .inl (cy 3, 9, .inr (.inr (.inr (.inr (fun i => some (sa (3 * i)))))))), (ad 2, .inl (cy 3, 9, .inr (.inr (.inr (.inr (fun i => some (sa (3 * (9 + i))))))))), (ad 5, .inl (cy 4, 8, .inr (.inr (.inr (.inr (fun i => some (ta (2 * i)))))))), (ad 6, .inl (cy 2, 40, .inr (.inr (.inr (.inr (pg)))))), (ad 12, .inl (cy 0, 16, .inl (bo)))] ++ (xs ++ (tb ++ op)))) rfl ?_
      refine gw_istore_n dX11_end_28 (by decide) rfl ?_
      refine gw_iload_n dX11_end_29 rfl ?_
      refine gw_ldc dX11_end_30 wd_336 ?_
      refine gw_icmp_eq (tgt := 43) dX11_end_32 (by decide) (fun c32 => ?_) (fun c32 => ?_)
      · refine gw_iload_n dX11_end_43 rfl ?_
        refine gw_W.wd (w' := bW cy ad sa ta (σ.1) ((sOp σ).length) ((sTr σ).length) nx (σ.2.2.2.2.2.2.1) (σ.2.2.2.2.2.2.2) (σ.2.2.2.2.1) (some (oa j)) pg bo ++ (xs ++ (tb ++ op))) rfl ?_
        refine gw_iret (?_) (by decide) (by decide) rfl dX11_end_44
        subst hpost
        unfold spEnd spCome
        rw [if_neg (show ¬ opC σ = 0 from by omega)]
        first
          | (rw [if_pos h40]; exact ⟨rfl, ad, sa, ta, oa, nx, some (oa j), pg, bo, cs, xs, tb, op, td, rfl, List.Perm.refl _, hxs, hcs, htb, hop, hN, hbo⟩)
          | (rw [if_neg h40]; exact ⟨rfl, cInv_push hxs hcs htb hop hN hbo (6, 0, 0, 0, 0) _ 0 (Or.inr (Or.inr (Or.inr (Or.inl rfl)))) (show opStep (opn (sOp σ)) (6, 0, 0, 0, 0) = some (oc - 1) from by rw [hoc]; simp [opStep]; omega) h40 ((arOf_6 rfl e).symm)⟩)
      · exact absurd rfl c32
    · refine gw_callV 0 (As := [.ref (q13)]) (st := []) (c_bappend l cy ad sa ta (σ.1) ((sOp σ).length) ((sTr σ).length) nx (σ.2.2.2.2.2.2.1) (σ.2.2.2.2.2.2.2) (σ.2.2.2.2.1) (some (oa j)) pg bo (xs ++ (tb ++ op)) q13 2 [.int (nI ((sOp σ).length)), .ref (oa j)] _ rfl (by decide +kernel) (by omega)) ok_X11_append rfl rfl rfl wd_506 rfl rfl dX11_end_25 (by decide) (by decide) (Nat.le_of_ble_eq_true rfl) (fun r25 w25 hp25 => ?_)
      obtain ⟨rfl, rfl⟩ := hp25
      refine gw_W.norm (st' := [.int (nI ((sOp σ).length))]) (k1 := 1) (k2 := 2) rfl rfl rfl ?_
      refine gw_W.wd (w' := ([(ad 0, .inr (9, [.int (nI (σ.1)), .ref (ad 1), .ref (ad 2), .ref (sa (3 * 0)), .ref (ad 4), .ref (ad 5), .ref (ad 6), .int (nI ((sOp σ).length + 1)), .ref (oa j), .int (nx), .int (σ.2.2.2.2.2.2.1), .int (σ.2.2.2.2.2.2.2), .ref (ad 12), .int (nI ((sTr σ).length)), .int (σ.2.2.2.2.1)])), (ad 1, .inl (cy 3, 9, .inr (.inr (.inr (.inr (fun i => some (sa (3 * i)))))))), (ad 2, .inl (cy 3, 9, .inr (.inr (.inr (.inr (fun i => some (sa (3 * (9 + i))))))))), (ad 5, .inl (cy 4, 8, .inr (.inr (.inr (.inr (fun i => some (ta (2 * i)))))))), (ad 6, .inl (cy 2, 40, .inr (.inr (.inr (.inr (va_up pg ((sOp σ).length) (some q13))))))), (ad 12, .inl (cy 0, 16, .inl (bo))), (q13, .inr (2, [.int (nI ((sOp σ).length)), .ref (oa j)]))] ++ (xs ++ (tb ++ op)))) rfl ?_
      refine gw_istore_n dX11_end_28 (by decide) rfl ?_
      refine gw_iload_n dX11_end_29 rfl ?_
      refine gw_ldc dX11_end_30 wd_336 ?_
      refine gw_icmp_eq (tgt := 43) dX11_end_32 (by decide) (fun c32 => ?_) (fun c32 => ?_)
      · exact absurd c32 (nI_ne3 l40)
      · refine gw_aload_n dX11_end_35 rfl ?_
        refine gw_aload_n dX11_end_36 rfl ?_
        refine gw_getM (C0 := RX7) (T := TX7) (N := 4) (ref := RX7) (List.mem_append_right _ (List.mem_append_right _ (List.mem_append_right _ hmem))) rfl inX7 1 (by decide) wd_492 (Or.inr wd_493) rfl dX11_end_37 ?_
        refine gw_put (C0 := RX11) (T := TX11) (N := 15) (ref := RX11) (ty := tyX11 8) 0 rfl rfl inX11 8 (by decide) tyX11 tyX11_ok nmX11 wd_183 (Or.inl rfl) rfl (tyX11_ok 8 (by decide)) (nar_rf _) (fit_rf _) (Nat.le_of_ble_eq_true rfl) dX11_end_40 ?_
        refine gw_W.wd (w' := ([(ad 0, .inr (9, [.int (nI (σ.1)), .ref (ad 1), .ref (ad 2), .ref (sa (3 * 0)), .ref (ad 4), .ref (ad 5), .ref (ad 6), .int (nI ((sOp σ).length + 1)), va_rf (arOf (sOp σ) oa j), .int (nx), .int (σ.2.2.2.2.2.2.1), .int (σ.2.2.2.2.2.2.2), .ref (ad 12), .int (nI ((sTr σ).length)), .int (σ.2.2.2.2.1)])), (ad 1, .inl (cy 3, 9, .inr (.inr (.inr (.inr (fun i => some (sa (3 * i)))))))), (ad 2, .inl (cy 3, 9, .inr (.inr (.inr (.inr (fun i => some (sa (3 * (9 + i))))))))), (ad 5, .inl (cy 4, 8, .inr (.inr (.inr (.inr (fun i => some (ta (2 * i)))))))), (ad 6, .inl (cy 2, 40, .inr (.inr (.inr (.inr (va_up pg ((sOp σ).length) (some q13))))))), (ad 12, .inl (cy 0, 16, .inl (bo))), (q13, .inr (2, [.int (nI ((sOp σ).length)), .ref (oa j)]))] ++ (xs ++ (tb ++ op)))) rfl ?_
        refine gw_iload_n dX11_end_43 rfl ?_
        refine gw_W.wd (w' := bW cy ad sa ta (σ.1) ((sOp σ).length + 1) ((sTr σ).length) nx (σ.2.2.2.2.2.2.1) (σ.2.2.2.2.2.2.2) (σ.2.2.2.2.1) (arOf (sOp σ) oa j) (va_up pg ((sOp σ).length) (some q13)) bo ++ ([(q13, .inr (2, [.int (nI ((sOp σ).length)), .ref (oa j)]))] ++ (xs ++ (tb ++ op)))) rfl ?_
        refine gw_iret (?_) (by decide) (by decide) rfl dX11_end_44
        subst hpost
        unfold spEnd spCome
        rw [if_neg (show ¬ opC σ = 0 from by omega)]
        first
          | (rw [if_pos h40]; exact ⟨rfl, ad, sa, ta, oa, nx, some (oa j), pg, bo, cs, xs, tb, op, td, rfl, List.Perm.refl _, hxs, hcs, htb, hop, hN, hbo⟩)
          | (rw [if_neg h40]; exact ⟨rfl, cInv_push hxs hcs htb hop hN hbo (6, 0, 0, 0, 0) _ 0 (Or.inr (Or.inr (Or.inr (Or.inl rfl)))) (show opStep (opn (sOp σ)) (6, 0, 0, 0, 0) = some (oc - 1) from by rw [hoc]; simp [opStep]; omega) h40 ((arOf_6 rfl e).symm)⟩)
abbrev kX11_back : gw_K := (yX11_back, cX11_back, 2, { frames := 2, cells := 0, slots := 0, locals := 43 }, (some .int))
theorem ok_X11_back : gw_calV kX11_back 0 := ⟨⟨wd_613, wd_57, by decide, by decide, by decide +kernel⟩, wd_611, wd_612⟩
theorem opJ_mem {O : List aO} {j : Nat} (h : j < O.length) : opJ O j ∈ O := by
  unfold opJ; rw [List.getD_eq_getElem?_getD, List.getElem?_eq_getElem h]; exact List.getElem_mem h
theorem gB_around {l : Launch} {cy : Nat → ClassId} {Z : gw_Z} {w : va_W} {n1 n2 pc : Nat} {lv : List (Option Value)} {st : List Value} {a j : Nat} {o : aO} {ar : Option Nat} {td : Int32} (hm : (a, .inr (opCe o j ar td)) ∈ w) (ho : 2 ≤ o.1 ∧ o.1 ≤ 7) (hd : decode cX11_back pc = .ok (.getfield 232, 3)) (k : gw_W l kX11_back cy Z w n1 n2 (pc + 3) lv (va_rf ar :: st)) : gw_W l kX11_back cy Z w n1 n2 pc lv (.ref a :: st) := by
  rcases (show o.1 = 2 ∨ o.1 = 3 ∨ o.1 = 4 ∨ o.1 = 5 ∨ o.1 = 6 ∨ o.1 = 7 by omega) with h | h | h | h | h | h
  · rw [opCe, if_pos h] at hm
    exact gw_getM (C0 := RX6) (T := TX6) (N := 5) (ref := RX5) (hm) rfl inX6 1 (by decide) wd_494 (Or.inl rfl) rfl hd k
  · rw [opCe, if_neg (by omega), if_pos h] at hm
    exact gw_getM (C0 := RX0) (T := TX0) (N := 6) (ref := RX5) (hm) rfl inX0 4 (by decide) wd_494 (Or.inl rfl) rfl hd k
  · rw [opCe, if_neg (by omega), if_neg (by omega), if_pos h] at hm
    exact gw_getM (C0 := RX1) (T := TX1) (N := 5) (ref := RX5) (hm) rfl inX1 1 (by decide) wd_494 (Or.inl rfl) rfl hd k
  · rw [opCe, if_neg (by omega), if_neg (by omega), if_neg (by omega), if_pos h] at hm
    exact gw_getM (C0 := RX7) (T := TX7) (N := 4) (ref := RX5) (hm) rfl inX7 1 (by decide) wd_494 (Or.inl rfl) rfl hd k
  · rw [opCe, if_neg (by omega), if_neg (by omega), if_neg (by omega), if_neg (by omega), if_pos h] at hm
    exact gw_getM (C0 := RX2) (T := TX2) (N := 2) (ref := RX5) (hm) rfl inX2 1 (by decide) wd_494 (Or.inl rfl) rfl hd k
  · rw [opCe, if_neg (by omega), if_neg (by omega), if_neg (by omega), if_neg (by omega), if_neg (by omega)] at hm
    exact gw_getM (C0 := RX8) (T := TX8) (N := 4) (ref := RX5) (hm) rfl inX8 1 (by decide) wd_494 (Or.inl rfl) rfl hd k
theorem perm_drop {α : Type} {B xs tb op w g : List α} (h : op.Perm (w ++ g)) : (B ++ (xs ++ (tb ++ op))).Perm ((B ++ (xs ++ (tb ++ w))) ++ g) := by
  have h1 : (B ++ (xs ++ (tb ++ op))).Perm (B ++ (xs ++ (tb ++ (w ++ g)))) := List.Perm.append_left _ (List.Perm.append_left _ (List.Perm.append_left _ h))
  refine h1.trans ?_
  simp only [List.append_assoc]
  exact List.Perm.refl _
theorem cN_back {σ : aS} (h : cN σ) (h0 : ¬ (sOp σ).length = 0) : cN (setOp σ (sOp σ).dropLast) := by
  obtain ⟨n1, n2, n3, n4, ⟨c, n5⟩, n6⟩ := h
  have hne : sOp σ ≠ [] := fun e => h0 (by rw [e]; rfl)
  refine ⟨n1, n2, n3, ?_, ?_, fun x hx => n6 x (by
    have e := List.dropLast_concat_getLast hne
    rw [← e]; exact List.mem_append_left _ hx)⟩
  · show (sOp σ).dropLast.length ≤ 40
    rw [List.length_dropLast]; omega
  · show ∃ c, opn (sOp σ).dropLast = some c
    have e := List.dropLast_concat_getLast hne
    rw [← e, opn_snoc] at n5
    cases e2 : opn (sOp σ).dropLast with
    | none => rw [e2] at n5; cases n5
    | some d => exact ⟨d, rfl⟩
set_option maxHeartbeats 4000000 in
set_option maxRecDepth 100000 in
theorem t_cgback (l : Launch) (cy : Nat → ClassId) (b : Nat) (σ : aS) (w : va_W) (hI : cInv cy b σ w)  : gw_M l kX11_back cy [.ref (b)] (w) (cPost cy b (spBack σ)) := by
  obtain ⟨ad, sa, ta, oa, nx, lo, pg, bo, cs, xs, tb, op, td, rfl, hw, hxs, hcs, htb, hop, hN, hbo⟩ := hI
  have hn4 : 1 ≤ σ.1 ∧ σ.1 ≤ 4 := ⟨hN.1, hN.2.1⟩
  refine gw_M.pm hw ?_
  obtain ⟨oc, hoc⟩ := hN.2.2.2.2.1
  have l40 : (sOp σ).length ≤ 40 := hN.2.2.2.1
  by_cases hn0 : (sOp σ).length = 0
  ·
    refine gw_M.mk (lv := [some (.ref (ad 0)), none]) (by decide) (Nat.le_of_ble_eq_true rfl) rfl ?_
    generalize hpost : (cPost cy (ad 0) (spBack σ) : gw_Q) = post
    refine gw_W.wd (w' := ([(ad 0, .inr (9, [.int (nI (σ.1)), .ref (ad 1), .ref (ad 2), .ref (sa (3 * 0)), .ref (ad 4), .ref (ad 5), .ref (ad 6), .int (nI ((sOp σ).length)), va_rf (lo), .int (nx), .int (σ.2.2.2.2.2.2.1), .int (σ.2.2.2.2.2.2.2), .ref (ad 12), .int (nI ((sTr σ).length)), .int (σ.2.2.2.2.1)])), (ad 1, .inl (cy 3, 9, .inr (.inr (.inr (.inr (fun i => some (sa (3 * i)))))))), (ad 2, .inl (cy 3, 9, .inr (.inr (.inr (.inr (fun i => some (sa (3 * (9 + i))))))))), (ad 5, .inl (cy 4, 8, .inr (.inr (.inr (.inr (fun i => some (ta (2 * i)))))))), (ad 6, .inl (cy 2, 40, .inr (.inr (.inr (.inr (pg)))))), (ad 12, .inl (cy 0, 16, .inl (bo)))] ++ (xs ++ (tb ++ op)))) rfl ?_
    refine gw_aload_n dX11_back_0 rfl ?_
    refine gw_aload_n dX11_back_1 rfl ?_
    refine gw_get (C0 := RX11) (T := TX11) (N := 15) (ref := RX11) 0 rfl rfl inX11 7 (by decide) wd_182 (Or.inl rfl) rfl dX11_back_2 ?_
    refine gw_iconst (v := nI (1)) dX11_back_5 (by decide) ?_
    refine gw_isub dX11_back_6 ?_
    refine gw_W.wd (w' := bW cy ad sa ta (σ.1) ((sOp σ).length) ((sTr σ).length) nx (σ.2.2.2.2.2.2.1) (σ.2.2.2.2.2.2.2) (σ.2.2.2.2.1) lo pg bo ++ (xs ++ (tb ++ op))) rfl ?_
    refine gw_callV 0 (As := [.int ((nI ((sOp σ).length)) - (nI (1)))]) (st := []) (c_bopAt l cy ad sa ta (σ.1) ((sOp σ).length) ((sTr σ).length) nx (σ.2.2.2.2.2.2.1) (σ.2.2.2.2.2.2.2) (σ.2.2.2.2.1) lo pg bo (xs ++ (tb ++ op)) ((nI ((sOp σ).length)) - (nI (1))) (by omega)) ok_X11_opAt rfl rfl rfl wd_614 rfl rfl dX11_back_7 (by decide) (by decide) (Nat.le_of_ble_eq_true rfl) (fun r7 w7 hp7 => ?_)
    obtain ⟨rfl, rfl⟩ := hp7
    rw [if_neg (op0' hn0)]
    refine gw_W.norm (st' := [.null]) (k1 := 0) (k2 := 0) rfl rfl rfl ?_
    refine gw_W.wd (w' := ([(ad 0, .inr (9, [.int (nI (σ.1)), .ref (ad 1), .ref (ad 2), .ref (sa (3 * 0)), .ref (ad 4), .ref (ad 5), .ref (ad 6), .int (nI ((sOp σ).length)), va_rf (lo), .int (nx), .int (σ.2.2.2.2.2.2.1), .int (σ.2.2.2.2.2.2.2), .ref (ad 12), .int (nI ((sTr σ).length)), .int (σ.2.2.2.2.1)])), (ad 1, .inl (cy 3, 9, .inr (.inr (.inr (.inr (fun i => some (sa (3 * i)))))))), (ad 2, .inl (cy 3, 9, .inr (.inr (.inr (.inr (fun i => some (sa (3 * (9 + i))))))))), (ad 5, .inl (cy 4, 8, .inr (.inr (.inr (.inr (fun i => some (ta (2 * i)))))))), (ad 6, .inl (cy 2, 40, .inr (.inr (.inr (.inr (pg)))))), (ad 12, .inl (cy 0, 16, .inl (bo)))] ++ (xs ++ (tb ++ op)))) rfl ?_
    refine gw_astore_nN dX11_back_10 (by decide) rfl ?_
    refine gw_aload_nN dX11_back_11 rfl ?_
    refine gw_ifnonnullN dX11_back_12 ?_
    refine gw_ldc dX11_back_15 wd_559 ?_
    refine gw_W.wd (w' := bW cy ad sa ta (σ.1) ((sOp σ).length) ((sTr σ).length) nx (σ.2.2.2.2.2.2.1) (σ.2.2.2.2.2.2.2) (σ.2.2.2.2.1) lo pg bo ++ (xs ++ (tb ++ op))) rfl ?_
    refine gw_iret (?_) (by decide) (by decide) rfl dX11_back_17
    subst hpost
    unfold spBack
    rw [if_pos hn0]
    exact ⟨rfl, ad, sa, ta, oa, nx, lo, pg, bo, cs, xs, tb, op, td, rfl, List.Perm.refl _, hxs, hcs, htb, hop, hN, hbo⟩
  ·
    have hmj := opP_mem hop (j := (sOp σ).length - 1) (by omega)
    have hko := op_k8 (hN.2.2.2.2.2 (opJ (sOp σ) ((sOp σ).length - 1)) (opJ_mem (by omega)))
    refine gw_M.mk (lv := [some (.ref (ad 0)), none]) (by decide) (Nat.le_of_ble_eq_true rfl) rfl ?_
    generalize hpost : (cPost cy (ad 0) (spBack σ) : gw_Q) = post
    refine gw_W.wd (w' := ([(ad 0, .inr (9, [.int (nI (σ.1)), .ref (ad 1), .ref (ad 2), .ref (sa (3 * 0)), .ref (ad 4), .ref (ad 5), .ref (ad 6), .int (nI ((sOp σ).length)), va_rf (lo), .int (nx), .int (σ.2.2.2.2.2.2.1), .int (σ.2.2.2.2.2.2.2), .ref (ad 12), .int (nI ((sTr σ).length)), .int (σ.2.2.2.2.1)])), (ad 1, .inl (cy 3, 9, .inr (.inr (.inr (.inr (fun i => some (sa (3 * i)))))))), (ad 2, .inl (cy 3, 9, .inr (.inr (.inr (.inr (fun i => some (sa (3 * (9 + i))))))))), (ad 5, .inl (cy 4, 8, .inr (.inr (.inr (.inr (fun i => some (ta (2 * i)))))))), (ad 6, .inl (cy 2, 40, .inr (.inr (.inr (.inr (pg)))))), (ad 12, .inl (cy 0, 16, .inl (bo)))] ++ (xs ++ (tb ++ op)))) rfl ?_
    refine gw_aload_n dX11_back_0 rfl ?_
    refine gw_aload_n dX11_back_1 rfl ?_
    refine gw_get (C0 := RX11) (T := TX11) (N := 15) (ref := RX11) 0 rfl rfl inX11 7 (by decide) wd_182 (Or.inl rfl) rfl dX11_back_2 ?_
    refine gw_iconst (v := nI (1)) dX11_back_5 (by decide) ?_
    refine gw_isubN dX11_back_6 (by omega) ?_
    refine gw_W.wd (w' := bW cy ad sa ta (σ.1) ((sOp σ).length) ((sTr σ).length) nx (σ.2.2.2.2.2.2.1) (σ.2.2.2.2.2.2.2) (σ.2.2.2.2.1) lo pg bo ++ (xs ++ (tb ++ op))) rfl ?_
    refine gw_callV 0 (As := [.int (nI (((sOp σ).length) - (1)))]) (st := []) (c_bopAt l cy ad sa ta (σ.1) ((sOp σ).length) ((sTr σ).length) nx (σ.2.2.2.2.2.2.1) (σ.2.2.2.2.2.2.2) (σ.2.2.2.2.1) lo pg bo (xs ++ (tb ++ op)) (nI (((sOp σ).length) - (1))) (by omega)) ok_X11_opAt rfl rfl rfl wd_614 rfl rfl dX11_back_7 (by decide) (by decide) (Nat.le_of_ble_eq_true rfl) (fun r7 w7 hp7 => ?_)
    obtain ⟨rfl, rfl⟩ := hp7
    rw [opAt_last hn0 l40 hop.2.2]
    refine gw_W.norm (st' := [.ref (oa (((sOp σ).length) - (1)))]) (k1 := 0) (k2 := 0) rfl rfl rfl ?_
    refine gw_W.wd (w' := ([(ad 0, .inr (9, [.int (nI (σ.1)), .ref (ad 1), .ref (ad 2), .ref (sa (3 * 0)), .ref (ad 4), .ref (ad 5), .ref (ad 6), .int (nI ((sOp σ).length)), va_rf (lo), .int (nx), .int (σ.2.2.2.2.2.2.1), .int (σ.2.2.2.2.2.2.2), .ref (ad 12), .int (nI ((sTr σ).length)), .int (σ.2.2.2.2.1)])), (ad 1, .inl (cy 3, 9, .inr (.inr (.inr (.inr (fun i => some (sa (3 * i)))))))), (ad 2, .inl (cy 3, 9, .inr (.inr (.inr (.inr (fun i => some (sa (3 * (9 + i))))))))), (ad 5, .inl (cy 4, 8, .inr (.inr (.inr (.inr (fun i => some (ta (2 * i)))))))), (ad 6, .inl (cy 2, 40, .inr (.inr (.inr (.inr (pg)))))), (ad 12, .inl (cy 0, 16, .inl (bo)))] ++ (xs ++ (tb ++ op)))) rfl ?_
    refine gw_astore_n dX11_back_10 (by decide) rfl ?_
    refine gw_aload_n dX11_back_11 rfl ?_
    refine gw_ifnonnull (tgt := 18) dX11_back_12 (by decide) ?_
    refine gw_aload_n dX11_back_18 rfl ?_
    refine gw_dup dX11_back_19 rfl ?_
    refine gw_get (C0 := RX11) (T := TX11) (N := 15) (ref := RX11) 0 rfl rfl inX11 7 (by decide) wd_182 (Or.inl rfl) rfl dX11_back_20 ?_
    refine gw_iconst (v := nI (1)) dX11_back_23 (by decide) ?_
    refine gw_isubN dX11_back_24 (by omega) ?_
    refine gw_put (C0 := RX11) (T := TX11) (N := 15) (ref := RX11) (ty := tyX11 7) 0 rfl rfl inX11 7 (by decide) tyX11 tyX11_ok nmX11 wd_182 (Or.inl rfl) rfl (tyX11_ok 7 (by decide)) (rfl) (rfl) (Nat.le_of_ble_eq_true rfl) dX11_back_25 ?_
    refine gw_W.wd (w' := ([(ad 0, .inr (9, [.int (nI (σ.1)), .ref (ad 1), .ref (ad 2), .ref (sa (3 * 0)), .ref (ad 4), .ref (ad 5), .ref (ad 6), .int (nI (((sOp σ).length) - (1))), va_rf (lo), .int (nx), .int (σ.2.2.2.2.2.2.1), .int (σ.2.2.2.2.2.2.2), .ref (ad 12), .int (nI ((sTr σ).length)), .int (σ.2.2.2.2.1)])), (ad 1, .inl (cy 3, 9, .inr (.inr (.inr (.inr (fun i => some (sa (3 * i)))))))), (ad 2, .inl (cy 3, 9, .inr (.inr (.inr (.inr (fun i => some (sa (3 * (9 + i))))))))), (ad 5, .inl (cy 4, 8, .inr (.inr (.inr (.inr (fun i => some (ta (2 * i)))))))), (ad 6, .inl (cy 2, 40, .inr (.inr (.inr (.inr (pg)))))), (ad 12, .inl (cy 0, 16, .inl (bo)))] ++ (xs ++ (tb ++ op)))) rfl ?_
    refine gw_aload_n dX11_back_28 rfl ?_
    refine gw_get (C0 := RX11) (T := TX11) (N := 15) (ref := RX11) 0 rfl rfl inX11 6 (by decide) wd_181 (Or.inl rfl) rfl dX11_back_29 ?_
    refine gw_aload_n dX11_back_32 rfl ?_
    refine gw_get (C0 := RX11) (T := TX11) (N := 15) (ref := RX11) 0 rfl rfl inX11 7 (by decide) wd_182 (Or.inl rfl) rfl dX11_back_33 ?_
    refine gw_null dX11_back_36 ?_
    refine gw_aast2N 4 rfl (rfl) (by omega) (by decide) dX11_back_37 ?_
    refine gw_W.wd (w' := ([(ad 0, .inr (9, [.int (nI (σ.1)), .ref (ad 1), .ref (ad 2), .ref (sa (3 * 0)), .ref (ad 4), .ref (ad 5), .ref (ad 6), .int (nI (((sOp σ).length) - (1))), va_rf (lo), .int (nx), .int (σ.2.2.2.2.2.2.1), .int (σ.2.2.2.2.2.2.2), .ref (ad 12), .int (nI ((sTr σ).length)), .int (σ.2.2.2.2.1)])), (ad 1, .inl (cy 3, 9, .inr (.inr (.inr (.inr (fun i => some (sa (3 * i)))))))), (ad 2, .inl (cy 3, 9, .inr (.inr (.inr (.inr (fun i => some (sa (3 * (9 + i))))))))), (ad 5, .inl (cy 4, 8, .inr (.inr (.inr (.inr (fun i => some (ta (2 * i)))))))), (ad 6, .inl (cy 2, 40, .inr (.inr (.inr (.inr (va_up pg (((sOp σ).length) - (1)) (none))))))), (ad 12, .inl (cy 0, 16, .inl (bo)))] ++ (xs ++ (tb ++ op)))) rfl ?_
    refine gw_aload_n dX11_back_38 rfl ?_
    refine gw_aload_n dX11_back_39 rfl ?_
    refine gB_around (List.mem_append_right _ (List.mem_append_right _ (List.mem_append_right _ hmj))) hko dX11_back_40 ?_
    refine gw_put (C0 := RX11) (T := TX11) (N := 15) (ref := RX11) (ty := tyX11 8) 0 rfl rfl inX11 8 (by decide) tyX11 tyX11_ok nmX11 wd_183 (Or.inl rfl) rfl (tyX11_ok 8 (by decide)) (nar_rf _) (fit_rf _) (Nat.le_of_ble_eq_true rfl) dX11_back_43 ?_
    refine gw_W.wd (w' := ([(ad 0, .inr (9, [.int (nI (σ.1)), .ref (ad 1), .ref (ad 2), .ref (sa (3 * 0)), .ref (ad 4), .ref (ad 5), .ref (ad 6), .int (nI (((sOp σ).length) - (1))), va_rf (arOf (sOp σ) oa (((sOp σ).length) - (1))), .int (nx), .int (σ.2.2.2.2.2.2.1), .int (σ.2.2.2.2.2.2.2), .ref (ad 12), .int (nI ((sTr σ).length)), .int (σ.2.2.2.2.1)])), (ad 1, .inl (cy 3, 9, .inr (.inr (.inr (.inr (fun i => some (sa (3 * i)))))))), (ad 2, .inl (cy 3, 9, .inr (.inr (.inr (.inr (fun i => some (sa (3 * (9 + i))))))))), (ad 5, .inl (cy 4, 8, .inr (.inr (.inr (.inr (fun i => some (ta (2 * i)))))))), (ad 6, .inl (cy 2, 40, .inr (.inr (.inr (.inr (va_up pg (((sOp σ).length) - (1)) (none))))))), (ad 12, .inl (cy 0, 16, .inl (bo)))] ++ (xs ++ (tb ++ op)))) rfl ?_
    refine gw_aload_n dX11_back_46 rfl ?_
    refine gw_get (C0 := RX11) (T := TX11) (N := 15) (ref := RX11) 0 rfl rfl inX11 7 (by decide) wd_182 (Or.inl rfl) rfl dX11_back_47 ?_
    obtain ⟨w2, g2, hp2, hop2⟩ := opP_back hop hn0
    refine gw_W.perm (perm_drop (B := ([(ad 0, .inr (9, [.int (nI (σ.1)), .ref (ad 1), .ref (ad 2), .ref (sa (3 * 0)), .ref (ad 4), .ref (ad 5), .ref (ad 6), .int (nI (((sOp σ).length) - (1))), va_rf (arOf (sOp σ) oa (((sOp σ).length) - (1))), .int (nx), .int (σ.2.2.2.2.2.2.1), .int (σ.2.2.2.2.2.2.2), .ref (ad 12), .int (nI ((sTr σ).length)), .int (σ.2.2.2.2.1)])), (ad 1, .inl (cy 3, 9, .inr (.inr (.inr (.inr (fun i => some (sa (3 * i)))))))), (ad 2, .inl (cy 3, 9, .inr (.inr (.inr (.inr (fun i => some (sa (3 * (9 + i))))))))), (ad 5, .inl (cy 4, 8, .inr (.inr (.inr (.inr (fun i => some (ta (2 * i)))))))), (ad 6, .inl (cy 2, 40, .inr (.inr (.inr (.inr (va_up pg (((sOp σ).length) - (1)) (none))))))), (ad 12, .inl (cy 0, 16, .inl (bo)))] : va_W)) (xs := xs) (tb := tb) hp2) ?_
    refine gw_W.drop ?_
    refine gw_W.wd (w' := bW cy ad sa ta (σ.1) (((sOp σ).length) - (1)) ((sTr σ).length) nx (σ.2.2.2.2.2.2.1) (σ.2.2.2.2.2.2.2) (σ.2.2.2.2.1) (arOf (sOp σ) oa (((sOp σ).length) - (1))) (va_up pg (((sOp σ).length) - (1)) (none)) bo ++ (xs ++ (tb ++ w2))) rfl ?_
    refine gw_iret (?_) (by decide) (by decide) rfl dX11_back_50
    subst hpost
    unfold spBack
    rw [if_neg hn0]
    refine ⟨rfl, ad, sa, ta, oa, nx, _, _, bo, cs, xs, tb, w2, td, rfl, ?_, hxs, hcs, htb, hop2, cN_back hN hn0, hbo⟩
    show List.Perm _ (bW cy ad sa ta σ.1 (sOp σ).dropLast.length (sTr σ).length nx σ.2.2.2.2.2.2.1 σ.2.2.2.2.2.2.2 σ.2.2.2.2.1 _ _ bo ++ (xs ++ (tb ++ w2)))
    rw [List.length_dropLast]
