/-! run -/
def svR (sm : Nat → List sT) (a6 a7 : Nat → Int32) (b8 : Nat → Int64) (k : Nat) : Prop := ∀ i, i < k → a6 (9 + i) = nI (sm i).length ∧ takeS a7 b8 (300 * (9 + i)) (sm i).length = sm i
def bkR (sm : Nat → List sT) (a6 a7 : Nat → Int32) (b8 : Nat → Int64) (k : Nat) : Prop := ∀ i, i < k → a6 i = nI (sm i).length ∧ takeS a7 b8 (300 * i) (sm i).length = sm i
def rsI (O : List aO) (p : Nat) (rs : List (Nat × Nat)) : Prop := p ≤ O.length ∧ opn (O.take p) = some rs.length ∧ ∀ i, i < rs.length → (rs.getD i (0, 0)).1 < O.length ∧ (opJ O (rs.getD i (0, 0)).1).1 = 5 ∧ opn (O.take ((rs.getD i (0, 0)).1 + 1)) = some (i + 1)
theorem rn_end {n : Nat} {tb : Nat → aT} {O : List aO} {f : Nat} {sm : Nat → List sT} {p : Nat} {rs : List (Nat × Nat)} {y : Int32} (h : ¬ p < O.length) : rn n tb O f sm p rs y = (0, sm, f, y) := by
  cases f with
  | zero => unfold rn; rw [if_neg h]
  | succ f => unfold rn; rw [if_neg h]
theorem rn_full {n : Nat} {tb : Nat → aT} {O : List aO} {sm : Nat → List sT} {p : Nat} {rs : List (Nat × Nat)} {y : Int32} (h : p < O.length) : rn n tb O 0 sm p rs y = (-1000003, sm, 0, y) := by
  unfold rn; rw [if_pos h]
theorem rn_stop {n : Nat} {tb : Nat → aT} {O : List aO} {f : Nat} {sm : Nat → List sT} {p : Nat} {rs : List (Nat × Nat)} {y : Int32} (h : p < O.length) (h0 : ¬ (doM n tb sm (rsD rs) (opJ O p)).1 = 0) : rn n tb O (f + 1) sm p rs y = ((doM n tb sm (rsD rs) (opJ O p)).1, (doM n tb sm (rsD rs) (opJ O p)).2, f + 1, nI p) := by
  conv => lhs; unfold rn
  rw [if_pos h, if_neg h0]
theorem rn_go {n : Nat} {tb : Nat → aT} {O : List aO} {f : Nat} {sm : Nat → List sT} {p q : Nat} {rs rs2 : List (Nat × Nat)} {y : Int32} (h : p < O.length) (h0 : (doM n tb sm (rsD rs) (opJ O p)).1 = 0) (hN : rnN O p rs (opJ O p) = (q, rs2)) : rn n tb O (f + 1) sm p rs y = rn n tb O f (doM n tb sm (rsD rs) (opJ O p)).2 q rs2 (nI p) := by
  conv => lhs; unfold rn
  rw [if_pos h, if_pos h0, hN]
theorem take_J {O : List aO} {p : Nat} (h : p < O.length) : O.take (p + 1) = O.take p ++ [opJ O p] := by
  rw [List.take_add_one, List.getElem?_eq_getElem h]
  unfold opJ
  rw [List.getD_eq_getElem?_getD, List.getElem?_eq_getElem h]; rfl
theorem opn_none (O : List aO) : O.foldl opStep none = none := by
  induction O with
  | nil => rfl
  | cons o t ih => exact ih
theorem opn_pre {O : List aO} {c : Nat} (h : opn O = some c) (p : Nat) : ∃ d, opn (O.take p) = some d := by
  cases hd : opn (O.take p) with
  | some d => exact ⟨d, rfl⟩
  | none =>
    unfold opn at h hd
    rw [← List.take_append_drop p O, List.foldl_append, hd, opn_none] at h
    cases h
theorem opn_J {O : List aO} {c : Nat} (h : opn O = some c) {p k : Nat} (hp : p < O.length) (hk : opn (O.take p) = some k) : ∃ d, opn (O.take (p + 1)) = some d ∧ opStep (some k) (opJ O p) = some d := by
  obtain ⟨d, hd⟩ := opn_pre h (p + 1)
  refine ⟨d, hd, ?_⟩
  rw [take_J hp, opn_snoc, hk] at hd; exact hd
theorem rsI_5 {O : List aO} {c p : Nat} {rs : List (Nat × Nat)} (h : opn O = some c) (hp : p < O.length) (hI : rsI O p rs) (h5 : (opJ O p).1 = 5) : rs.length < 3 ∧ rsI O (p + 1) (rs ++ [(p, 0)]) := by
  obtain ⟨h1, h2, h3⟩ := hI
  obtain ⟨d, hd, hs⟩ := opn_J h hp h2
  unfold opStep at hs
  simp only [h5, if_true] at hs
  by_cases hl : rs.length < 3
  · rw [if_pos hl] at hs
    cases hs
    refine ⟨hl, hp, by rw [hd, List.length_append]; rfl, fun i hi => ?_⟩
    rw [List.length_append, List.length_singleton] at hi
    by_cases e : i = rs.length
    · subst e
      have e2 : (rs ++ [(p, 0)]).getD rs.length (0, 0) = (p, 0) := by simp [List.getD_eq_getElem?_getD]
      rw [e2]; exact ⟨hp, h5, hd⟩
    · have hi2 : i < rs.length := by omega
      have e2 : (rs ++ [(p, 0)]).getD i (0, 0) = rs.getD i (0, 0) := by simp [List.getD_eq_getElem?_getD, List.getElem?_append_left hi2]
      rw [e2]; exact h3 i hi2
  · rw [if_neg hl] at hs; cases hs
theorem rsI_6 {O : List aO} {c p : Nat} {rs : List (Nat × Nat)} (h : opn O = some c) (hp : p < O.length) (hI : rsI O p rs) (h6 : (opJ O p).1 = 6) : 0 < rs.length ∧ rsI O (p + 1) rs.dropLast ∧ ∀ d, rsI O ((rsT rs).1 + 1) (rs.set (rs.length - 1) ((rsT rs).1, d)) := by
  obtain ⟨h1, h2, h3⟩ := hI
  obtain ⟨d, hd, hs⟩ := opn_J h hp h2
  unfold opStep at hs
  simp only [h6] at hs
  rw [if_neg (by decide), if_pos trivial] at hs
  by_cases hl : 0 < rs.length
  · rw [if_pos hl] at hs
    cases hs
    refine ⟨hl, ⟨hp, by rw [hd, List.length_dropLast], fun i hi => ?_⟩, fun e => ?_⟩
    · rw [List.length_dropLast] at hi
      have e2 : rs.dropLast.getD i (0, 0) = rs.getD i (0, 0) := by
        rw [List.getD_eq_getElem?_getD, List.getD_eq_getElem?_getD, List.getElem?_dropLast, if_pos (by omega)]
      rw [e2]; exact h3 i (by omega)
    · have ht := h3 (rs.length - 1) (by omega)
      have e0 : (rsT rs) = rs.getD (rs.length - 1) (0, 0) := rfl
      rw [← e0] at ht
      refine ⟨ht.1, by rw [List.length_set, ht.2.2]; congr 1; omega, fun i hi => ?_⟩
      rw [List.length_set] at hi
      by_cases e1 : i = rs.length - 1
      · subst e1
        have e2 : ((rs.set (rs.length - 1) ((rsT rs).1, e)).getD (rs.length - 1) (0, 0)) = ((rsT rs).1, e) := by
          simp [List.getD_eq_getElem?_getD, List.getElem?_set_self (show rs.length - 1 < rs.length by omega)]
        rw [e2]; exact ht
      · have e2 : ((rs.set (rs.length - 1) ((rsT rs).1, e)).getD i (0, 0)) = rs.getD i (0, 0) := by
          simp [List.getD_eq_getElem?_getD, List.getElem?_set_ne (show rs.length - 1 ≠ i by omega)]
        rw [e2]; exact h3 i hi
  · rw [if_neg hl] at hs; cases hs
theorem rsI_0 {O : List aO} {c p : Nat} {rs : List (Nat × Nat)} (h : opn O = some c) (hp : p < O.length) (hI : rsI O p rs) (h5 : ¬ (opJ O p).1 = 5) (h6 : ¬ (opJ O p).1 = 6) : rsI O (p + 1) rs := by
  obtain ⟨h1, h2, h3⟩ := hI
  obtain ⟨d, hd, hs⟩ := opn_J h hp h2
  unfold opStep at hs
  simp only [h5, h6, if_false] at hs
  cases hs
  exact ⟨hp, hd, h3⟩
theorem rdR_5 {rs : List (Nat × Nat)} {v25 : Int32} {a26 a27 : Nat → Int32} {p : Nat} (h : rdR rs v25 a26 a27) (hl : rs.length < 3) : rdR (rs ++ [(p, 0)]) (nI (rs.length + 1)) (upd a26 rs.length (nI p)) (upd a27 rs.length (nI 0)) := by
  obtain ⟨h1, h2, h3⟩ := h
  refine ⟨by rw [List.length_append]; exact hl, by rw [List.length_append]; rfl, fun k hk => ?_⟩
  rw [List.length_append, List.length_singleton] at hk
  by_cases e : k = rs.length
  · subst e
    have e2 : (rs ++ [(p, 0)]).getD rs.length (0, 0) = (p, 0) := by simp [List.getD_eq_getElem?_getD]
    rw [e2, pk_us, pk_us]; exact ⟨rfl, rfl, show 0 < 8 by decide⟩
  · have hi2 : k < rs.length := by omega
    have e2 : (rs ++ [(p, 0)]).getD k (0, 0) = rs.getD k (0, 0) := by simp [List.getD_eq_getElem?_getD, List.getElem?_append_left hi2]
    rw [e2, pk_un e, pk_un e]; exact h3 k hi2
theorem rdR_set {rs : List (Nat × Nat)} {v25 : Int32} {a26 a27 : Nat → Int32} (h : rdR rs v25 a26 a27) (hl : 0 < rs.length) (d : Nat) (hd : d < 8) : rdR (rs.set (rs.length - 1) ((rsT rs).1, d)) v25 a26 (upd a27 (rs.length - 1) (nI d)) := by
  obtain ⟨h1, h2, h3⟩ := h
  refine ⟨by rw [List.length_set]; exact h1, by rw [List.length_set]; exact h2, fun k hk => ?_⟩
  rw [List.length_set] at hk
  by_cases e1 : k = rs.length - 1
  · subst e1
    have e2 : ((rs.set (rs.length - 1) ((rsT rs).1, d)).getD (rs.length - 1) (0, 0)) = ((rsT rs).1, d) := by
      simp [List.getD_eq_getElem?_getD, List.getElem?_set_self (show rs.length - 1 < rs.length by omega)]
    rw [e2, pk_us]; exact ⟨(h3 _ (by omega)).1, rfl, hd⟩
  · have e2 : ((rs.set (rs.length - 1) ((rsT rs).1, d)).getD k (0, 0)) = rs.getD k (0, 0) := by
      simp [List.getD_eq_getElem?_getD, List.getElem?_set_ne (show rs.length - 1 ≠ k by omega)]
    rw [e2, pk_un e1]; exact h3 k hk
theorem rdR_drop {rs : List (Nat × Nat)} {v25 : Int32} {a26 a27 : Nat → Int32} (h : rdR rs v25 a26 a27) (d : Int32) : rdR rs.dropLast (nI (rs.length - 1)) a26 (upd a27 (rs.length - 1) d) := by
  obtain ⟨h1, h2, h3⟩ := h
  refine ⟨by rw [List.length_dropLast]; omega, by rw [List.length_dropLast], fun k hk => ?_⟩
  rw [List.length_dropLast] at hk
  have e2 : rs.dropLast.getD k (0, 0) = rs.getD k (0, 0) := by
    rw [List.getD_eq_getElem?_getD, List.getD_eq_getElem?_getD, List.getElem?_dropLast, if_pos (by omega)]
  rw [e2, pk_un (by omega)]; exact h3 k (by omega)
theorem svR_kp {sm : Nat → List sT} {iv iv' : Nat → Int32} {ia ia' : Nat → Nat → Int32} {la la' : Nat → Nat → Int64} (h : svR sm (ia 6) (ia 7) (la 8) 9) (hl : ∀ i, i < 9 → (sm i).length ≤ 300) (hk : mKp iv ia la iv' ia' la') : svR sm (ia' 6) (ia' 7) (la' 8) 9 := fun i hi =>
  ⟨(hk.2.2.1 (9 + i) (by omega)).trans (h i hi).1, (takeS_congr (fun j hj => hk.2.2.2 (300 * (9 + i) + j) (by omega))).trans (h i hi).2⟩
def rnQ (σ : aS) (u : Int32) (sm : Nat → List sT) (st p : Nat) (rs : List (Nat × Nat)) (y : Int32) : Prop := (u = 0 ∧ rn σ.1 (sTb σ) (sOp σ) (500 - st) sm p rs y = rnA σ ∧ rsI (sOp σ) p rs) ∨ (¬ u = 0 ∧ rnA σ = (u, sm, 500 - st, y) ∧ p < (sOp σ).length)
theorem rnQ_end {σ : aS} {u : Int32} {sm : Nat → List sT} {st p : Nat} {rs : List (Nat × Nat)} {y : Int32} (h : rnQ σ u sm st p rs y) (he : ¬ p < (sOp σ).length ∨ ¬ u = 0) : rnA σ = (u, sm, 500 - st, y) := by
  rcases h with ⟨h1, h2, h3⟩ | ⟨h1, h2, h3⟩
  · rcases he with he | he
    · rw [← h2, rn_end he, h1]
    · exact absurd h1 he
  · exact h2
theorem rnQ_in {σ : aS} {u : Int32} {sm : Nat → List sT} {st p : Nat} {rs : List (Nat × Nat)} {y : Int32} (h : rnQ σ u sm st p rs y) (h0 : u = 0) : rn σ.1 (sTb σ) (sOp σ) (500 - st) sm p rs y = rnA σ ∧ rsI (sOp σ) p rs := by
  rcases h with ⟨h1, h2, h3⟩ | ⟨h1, h2, h3⟩
  · exact ⟨h2, h3⟩
  · exact absurd h0 h1
theorem rdR_kp {rs : List (Nat × Nat)} {iv iv' : Nat → Int32} {ia ia' : Nat → Nat → Int32} {la la' : Nat → Nat → Int64} (h : rdR rs (iv 25) (ia 26) (ia 27)) (hk : mKp iv ia la iv' ia' la') : rdR rs (iv' 25) (ia' 26) (ia' 27) := by
  rw [hk.1 25 (by decide) (by decide), hk.2.1 26 (by decide) (by decide) (by decide), hk.2.1 27 (by decide) (by decide) (by decide)]; exact h
abbrev kX12_run : gw_K := (yX12_run, cX12_run, 4, { frames := 5, cells := 0, slots := 0, locals := 124 }, (some .int))
theorem ok_X12_run : gw_calV kX12_run 0 := ⟨⟨wd_1143, wd_62, by decide, by decide, by decide +kernel⟩, wd_1141, wd_1142⟩
set_option maxHeartbeats 4000000 in
set_option maxRecDepth 100000 in
theorem t_mrun (l : Launch) (cy : Nat → ClassId) (ad : Nat → Nat) (iv : Nat → Int32) (ia : Nat → Nat → Int32) (la : Nat → Nat → Int64) (σ : aS) (hI : mInv σ iv ia la) : gw_M l kX12_run cy [.ref (ad 0)] (mW cy ad iv ia la) (mPost cy ad (spRun σ)) := by
  refine gw_M.mk (lv := [some (.ref (ad 0)), none, none, none]) (by decide) (Nat.le_of_ble_eq_true rfl) rfl ?_
  generalize hpost : (mPost cy ad (spRun σ) : gw_Q) = post
  obtain ⟨i1, i2, i3, i4, i5, i6, i7, i8⟩ := hI
  obtain ⟨q40, q12, ⟨c, qc, qc3, q18⟩, -, -⟩ := id i4
  have hC := opC_eq qc
  have q40 : (sOp σ).length ≤ 40 := q40
  have hl9 : ∀ i, i < 9 → (sSm σ i).length ≤ 300 := fun i hi => (i3 i hi).1.2.1
  refine gw_aload_n dX12_run_0 rfl ?_
  refine gm_get_notEnded rfl dX12_run_1 ?_
  refine gw_topi (y := nI (c)) (q18) ?_
  refine gw_ifN_le (tgt := 10) dX12_run_4 (by decide) (by omega) (fun c4 => ?_) (fun c4 => ?_)
  · refine gw_iconst (v := nI (0)) dX12_run_10 (by decide) ?_
    refine gw_istore_n dX12_run_11 (by decide) rfl ?_
    have cut12 : ∀ (fu : Nat) (k : Nat) (a6 : Nat → Int32) (kk : Nat → Int32) (nn : Nat → Int64), (k ≤ 9) → (svR (sSm σ) a6 kk nn k) → (∀ i, i < 9 → a6 i = ia 6 i) → (∀ j, j < 2700 → kk j = ia 7 j ∧ nn j = la 8 j) → (9 - k) < fu → gw_W l kX12_run cy (gw_R kX12_run post) (mW cy ad iv (va_up (va_up ia 6 (a6)) 7 (kk)) (va_up la 8 (nn))) 0 0 12 [some (.ref (ad 0)), some (.int (nI (k))), none, none] [] := by
      intro fu
      induction fu with
      | zero => intro k a6 kk nn k9 s1 s2 s3 hfu; exact absurd hfu (Nat.not_lt_zero _)
      | succ fu ih12 =>
        intro k a6 kk nn k9 s1 s2 s3 hfu
        refine gw_iload_n dX12_run_12 rfl ?_
        refine gw_bipush (v := nI (9)) dX12_run_13 (by decide) ?_
        refine gw_icmpN_ge (tgt := 33) dX12_run_15 (by decide) (by omega) (by omega) (fun c15 => ?_) (fun c15 => ?_)
        · have e9 : k = 9 := by omega
          subst e9
          have j3 : mI3 σ.1 (sSm σ) a6 kk nn := fun i hi => ⟨(i3 i hi).1, (s2 i hi).trans (i3 i hi).2.1, (takeS_congr (fun j hj => s3 _ (by have := hl9 i hi; omega))).trans (i3 i hi).2.2⟩
          refine gw_aload_n dX12_run_33 rfl ?_
          refine gw_iconst (v := nI (0)) dX12_run_34 (by decide) ?_
          refine gm_put_steps rfl dX12_run_35 ?_
          refine gw_W.wd (w' := (mW cy ad (va_up iv 22 (nI (0))) (va_up (va_up ia 6 (a6)) 7 (kk)) (va_up la 8 (nn)))) rfl ?_
          refine gw_aload_n dX12_run_38 rfl ?_
          refine gw_ldc dX12_run_39 wd_805 ?_
          refine gm_put_latest rfl dX12_run_41 ?_
          refine gw_W.wd (w' := (mW cy ad (va_up (va_up iv 22 (nI (0))) 23 (((-1000000) : Int32))) (va_up (va_up ia 6 (a6)) 7 (kk)) (va_up la 8 (nn)))) rfl ?_
          refine gw_aload_n dX12_run_44 rfl ?_
          refine gw_iconst (v := nI (0)) dX12_run_45 (by decide) ?_
          refine gm_put_rounds rfl dX12_run_46 ?_
          refine gw_W.wd (w' := (mW cy ad (va_up (va_up (va_up iv 22 (nI (0))) 23 (((-1000000) : Int32))) 25 (nI (0))) (va_up (va_up ia 6 (a6)) 7 (kk)) (va_up la 8 (nn)))) rfl ?_
          refine gw_iconst (v := nI (0)) dX12_run_49 (by decide) ?_
          refine gw_istore_n dX12_run_50 (by decide) rfl ?_
          refine gw_iconst (v := nI (0)) dX12_run_51 (by decide) ?_
          refine gw_istore_n dX12_run_52 (by decide) rfl ?_
          have cut53 : ∀ (fu : Nat) (p : Nat) (u : Int32) (e : Nat) (st : Nat) (y : Int32) (sm : Nat → List sT) (rs : List (Nat × Nat)) (iv1 : Nat → Int32) (ia1 : Nat → Nat → Int32) (la1 : Nat → Nat → Int64), (mInv (setTo (wSm σ sm) (nI st) y) iv1 ia1 la1) → (svR (sSm σ) (ia1 6) (ia1 7) (la1 8) 9) → (rdR rs (iv1 25) (ia1 26) (ia1 27)) → (st ≤ 500) → (rnQ σ u sm st p rs y) → (p ≤ 40) → ((u = 0 → e = 1) ∧ (¬ u = 0 → e = 0)) → (2 * (500 - st) + e) < fu → gw_W l kX12_run cy (gw_R kX12_run post) (mW cy ad iv1 ia1 la1) 0 0 53 [some (.ref (ad 0)), some (.int (nI (p))), some (.int (u)), none] [] := by
            intro fu
            induction fu with
            | zero => intro p u e st y sm rs iv1 ia1 la1 m1 m2 m3 m4 m5 m6 m7 hfu; exact absurd hfu (Nat.not_lt_zero _)
            | succ fu ih53 =>
              intro p u e st y sm rs iv1 ia1 la1 m1 m2 m3 m4 m5 m6 m7 hfu
              obtain ⟨j1, j2, j3, j4, j5, j6, j7, j8⟩ := id m1
              have cut241 : (rnA σ = (u, sm, 500 - st, y)) → gw_W l kX12_run cy (gw_R kX12_run post) (mW cy ad iv1 ia1 la1) 0 0 241 [some (.ref (ad 0)), none, some (.int (u)), none] [] := by
                intro hA
                refine gw_iload_n dX12_run_241 rfl ?_
                refine gw_if_ne (tgt := 254) dX12_run_242 (by decide) (fun c242 => ?_) (fun c242 => ?_)
                · refine gw_iconst (v := nI (0)) dX12_run_254 (by decide) ?_
                  refine gw_istore_n dX12_run_255 (by decide) rfl ?_
                  have cut256 : ∀ (fu : Nat) (k : Nat) (a6 : Nat → Int32) (kk : Nat → Int32) (nn : Nat → Int64), (k ≤ 9) → (bkR (sSm σ) a6 kk nn k) → (svR (sSm σ) a6 kk nn 9) → (9 - k) < fu → gw_W l kX12_run cy (gw_R kX12_run post) (mW cy ad iv1 (va_up (va_up ia1 6 (a6)) 7 (kk)) (va_up la1 8 (nn))) 0 0 256 [some (.ref (ad 0)), none, some (.int (u)), some (.int (nI (k)))] [] := by
                    intro fu
                    induction fu with
                    | zero => intro k a6 kk nn k9 b1 b2 hfu; exact absurd hfu (Nat.not_lt_zero _)
                    | succ fu ih256 =>
                      intro k a6 kk nn k9 b1 b2 hfu
                      refine gw_iload_n dX12_run_256 rfl ?_
                      refine gw_bipush (v := nI (9)) dX12_run_257 (by decide) ?_
                      refine gw_icmpN_ge (tgt := 277) dX12_run_259 (by decide) (by omega) (by omega) (fun c259 => ?_) (fun c259 => ?_)
                      · have e9 : k = 9 := by omega
                        subst e9
                        have j3 : mI3 σ.1 (sSm σ) a6 kk nn := fun i hi => ⟨(i3 i hi).1, b1 i hi⟩
                        refine gw_iload_n dX12_run_277 rfl ?_
                        refine gw_ldc dX12_run_278 wd_965 ?_
                        refine gw_icmp_ne (tgt := 288) dX12_run_280 (by decide) (fun c280 => ?_) (fun c280 => ?_)
                        · refine gw_aload_n dX12_run_288 rfl ?_
                          refine gw_iload_n dX12_run_289 rfl ?_
                          refine gw_callV 0 (As := [.int (u)]) (st := []) (c_mfinds l cy ad iv1 (va_up (va_up ia1 6 (a6)) 7 (kk)) (va_up la1 8 (nn)) (u)) ok_X12_finds rfl rfl rfl wd_904 rfl rfl dX12_run_290 (by decide) (by decide) (Nat.le_of_ble_eq_true rfl) (fun r290 w290 hp290 => ?_)
                          obtain ⟨rfl, rfl⟩ := hp290
                          refine gw_W.wd (w' := (mW cy ad (va_up iv1 19 (u)) (va_up (va_up ia1 6 (a6)) 7 (kk)) (va_up la1 8 (nn)))) rfl ?_
                          refine gw_W.norm (st' := [.int ((-1000010) - (u))]) (k1 := 0) (k2 := 0) rfl rfl rfl ?_
                          refine gw_iret (?_) (by decide) (by decide) rfl dX12_run_293
                          subst hpost
                          unfold spRun
                          rw [if_pos (by omega), hA]
                          simp only
                          rw [if_neg c242, show 500 - (500 - st) = st by omega]
                          first
                            | (rw [if_pos c280]; exact ⟨rfl, _, _, _, rfl, j1, j2, j3, j4, j5, j6, j7, j8⟩)
                            | (rw [if_neg c280]; exact ⟨rfl, _, _, _, rfl, j1, j2, j3, j4, rfl, j6, j7, j8⟩)
                        · refine gw_ldc dX12_run_283 wd_965 ?_
                          refine gw_goto (tgt := 293) dX12_run_285 (by decide) ?_
                          refine gw_iret (?_) (by decide) (by decide) rfl dX12_run_293
                          subst hpost
                          unfold spRun
                          rw [if_pos (by omega), hA]
                          simp only
                          rw [if_neg c242, show 500 - (500 - st) = st by omega]
                          first
                            | (rw [if_pos c280]; exact ⟨rfl, _, _, _, rfl, j1, j2, j3, j4, j5, j6, j7, j8⟩)
                            | (rw [if_neg c280]; exact ⟨rfl, _, _, _, rfl, j1, j2, j3, j4, rfl, j6, j7, j8⟩)
                      · have h3 := b2 k (by omega)
                        have h9 := hl9 k (by omega)
                        refine gw_aload_n dX12_run_262 rfl ?_
                        refine gw_iload_n dX12_run_263 rfl ?_
                        refine gw_bipush (v := nI (9)) dX12_run_264 (by decide) ?_
                        refine gw_iload_n dX12_run_266 rfl ?_
                        refine gw_iaddN dX12_run_267 ?_
                        refine gw_callV 0 (As := [.int (nI (k)), .int (nI (9 + k))]) (st := []) (c_mcopySum l cy ad iv1 (va_up (va_up ia1 6 (a6)) 7 (kk)) (va_up la1 8 (nn)) (k) (9 + k) ((sSm σ k).length) (h3.1) (by omega) (by omega) (h9)) ok_X12_copySum rfl rfl rfl wd_970 rfl rfl dX12_run_268 (by decide) (by decide) (Nat.le_of_ble_eq_true rfl) (fun r268 w268 hp268 => ?_)
                        obtain ⟨rfl, kk268, nn268, rfl, hT268, hO268⟩ := hp268
                        have hT268 : takeS kk268 nn268 (300 * (k)) ((sSm σ k).length) = takeS kk nn (300 * (9 + k)) ((sSm σ k).length) := hT268
                        have hO268 : ∀ j, (j < 300 * (k) ∨ 300 * (k) + 300 ≤ j) → kk268 j = kk j ∧ nn268 j = nn j := hO268
                        refine gw_W.wd (w' := (mW cy ad iv1 (va_up (va_up ia1 6 (upd a6 (k) (nI ((sSm σ k).length)))) 7 (kk268)) (va_up la1 8 (nn268)))) rfl ?_
                        refine gw_W.norm (st' := []) (k1 := 0) (k2 := 0) rfl rfl rfl ?_
                        refine gw_iinc (v := nI (k + 1)) dX12_run_271 rfl (nI_add _ 1) (by decide) rfl ?_
                        refine gw_goto (tgt := 256) dX12_run_274 (by decide) ?_
                        refine gw_W.wd (w' := (mW cy ad iv1 (va_up (va_up ia1 6 (((upd a6 (k) (nI ((sSm σ k).length)))))) 7 (((kk268)))) (va_up la1 8 (((nn268)))))) rfl ?_
                        refine ih256 (k + 1) ((upd a6 (k) (nI ((sSm σ k).length)))) ((kk268)) ((nn268)) (by omega) ?_ ?_ ?_
                        · intro i hi
                          rcases Nat.lt_or_ge i k with g | g
                          · have h8 := hl9 i (by omega)
                            exact ⟨by rw [pk_un (by omega)]; exact (b1 i g).1, (takeS_congr (fun j hj => hO268 _ (by omega))).trans (b1 i g).2⟩
                          · have e2 : i = k := by omega
                            subst e2
                            exact ⟨pk_us, hT268.trans h3.2⟩
                        · intro i hi
                          have h8 := hl9 i hi
                          exact ⟨by rw [pk_un (by omega)]; exact (b2 i hi).1, (takeS_congr (fun j hj => hO268 _ (by omega))).trans (b2 i hi).2⟩
                        · omega
                  refine gw_W.wd (w' := mW cy ad iv1 (va_up (va_up ia1 6 (ia1 6)) 7 (ia1 7)) (va_up la1 8 (la1 8))) (by rw [va_up_id, va_up_id, va_up_id]) ?_
                  refine gw_W.wd (w' := (mW cy ad iv1 (va_up (va_up ia1 6 ((ia1 6))) 7 ((ia1 7))) (va_up la1 8 ((la1 8))))) rfl ?_
                  refine cut256 _ (0) (ia1 6) (ia1 7) (la1 8) (Nat.zero_le _) (fun i h => absurd h (Nat.not_lt_zero _)) m2 (Nat.lt_succ_self _)
                · refine gw_aload_n dX12_run_245 rfl ?_
                  refine gw_aload_n dX12_run_246 rfl ?_
                  refine gm_get_steps rfl dX12_run_247 ?_
                  refine gw_topi (y := nI (st)) (j7) ?_
                  refine gw_callV 0 (As := [.int (nI (st))]) (st := []) (c_mwell l cy ad iv1 ia1 la1 (nI (st))) ok_X12_well rfl rfl rfl wd_909 rfl rfl dX12_run_250 (by decide) (by decide) (Nat.le_of_ble_eq_true rfl) (fun r250 w250 hp250 => ?_)
                  obtain ⟨rfl, rfl⟩ := hp250
                  refine gw_W.wd (w' := (mW cy ad (va_up iv1 19 (0)) ia1 la1)) rfl ?_
                  refine gw_W.norm (st' := [.int (nI (st))]) (k1 := 0) (k2 := 0) rfl rfl rfl ?_
                  refine gw_iret (?_) (by decide) (by decide) rfl dX12_run_253
                  subst hpost
                  unfold spRun
                  rw [if_pos (by omega), hA]
                  simp only
                  rw [if_pos c242, show 500 - (500 - st) = st by omega]
                  exact ⟨rfl, _, _, _, rfl, j1, j2, j3, j4, rfl, j6, j7, j8⟩
              refine gw_iload_n dX12_run_53 rfl ?_
              refine gw_aload_n dX12_run_54 rfl ?_
              refine gm_get_ops rfl dX12_run_55 ?_
              refine gw_topi (y := nI ((sOp σ).length)) (j4.2.1) ?_
              refine gw_icmpN_ge (tgt := 241) dX12_run_58 (by decide) (by omega) (by omega) (fun c58 => ?_) (fun c58 => ?_)
              · have c58 : ¬ p < (sOp σ).length := by omega
                refine gw_W.forget 1 ?_
                refine cut241  (rnQ_end m5 (Or.inl c58))
              · have c58 : p < (sOp σ).length := by omega
                refine gw_iload_n dX12_run_61 rfl ?_
                refine gw_if_ne (tgt := 241) dX12_run_62 (by decide) (fun c62 => ?_) (fun c62 => ?_)
                · refine gw_W.forget 1 ?_
                  refine cut241  (rnQ_end m5 (Or.inr c62))
                · obtain ⟨z1, z2⟩ := rnQ_in m5 c62
                  have e1 := m7.1 c62
                  refine gw_aload_n dX12_run_65 rfl ?_
                  refine gm_get_steps rfl dX12_run_66 ?_
                  refine gw_topi (y := nI (st)) (j7) ?_
                  refine gw_sipush (v := nI (500)) dX12_run_69 (by decide) ?_
                  refine gw_icmpN_ne (tgt := 81) dX12_run_72 (by decide) (by omega) (by omega) (fun c72 => ?_) (fun c72 => ?_)
                  · refine gw_aload_n dX12_run_81 rfl ?_
                    refine gw_iload_n dX12_run_82 rfl ?_
                    refine gm_put_latest rfl dX12_run_83 ?_
                    refine gw_W.wd (w' := (mW cy ad (va_up iv1 23 (nI (p))) ia1 la1)) rfl ?_
                    refine gw_aload_n dX12_run_86 rfl ?_
                    refine gw_iload_n dX12_run_87 rfl ?_
                    refine gw_callV 0 (As := [.int (nI (p))]) (st := []) (c_mdoes l cy ad (va_up iv1 23 (nI (p))) ia1 la1 (setTo (wSm σ sm) (nI st) (nI p)) ⟨j1, j2, j3, j4, j5, j6, j7, rfl⟩ p rs c58 m3) ok_X12_does rfl rfl rfl wd_1144 rfl rfl dX12_run_88 (by decide) (by decide) (Nat.le_of_ble_eq_true rfl) (fun r88 w88 hp88 => ?_)
                    obtain ⟨rfl, iv2, ia2, la2, rfl, n1, n0⟩ := hp88
                    have n1 : mInv (setTo (wSm σ (doM σ.1 (sTb σ) sm (rsD rs) (opJ (sOp σ) p)).2) (nI st) (nI p)) iv2 ia2 la2 := n1
                    have n3 := rdR_kp (iv := va_up iv1 23 (nI p)) m3 n0
                    have n2 := svR_kp m2 hl9 n0
                    obtain ⟨t1, t2, t3, t4, t5, t6, t7, t8⟩ := n1
                    obtain ⟨o1, o2, o3, o4, o5, o6, o7⟩ := opJ_t (O := sOp σ) t4 c58
                    have o8 := op_k8 o7
                    refine gw_W.norm (st' := [.int ((doM σ.1 (sTb σ) sm (rsD rs) (opJ (sOp σ) p)).1)]) (k1 := 0) (k2 := 0) rfl rfl rfl ?_
                    refine gw_istore_n dX12_run_91 (by decide) rfl ?_
                    refine gw_iload_n dX12_run_92 rfl ?_
                    refine gw_if_ne (tgt := 53) dX12_run_93 (by decide) (fun c93 => ?_) (fun c93 => ?_)
                    · refine ih53 (p) ((doM σ.1 (sTb σ) sm (rsD rs) (opJ (sOp σ) p)).1) (0) (st) (nI p) ((doM σ.1 (sTb σ) sm (rsD rs) (opJ (sOp σ) p)).2) (rs) (iv2) (ia2) (la2) (⟨t1, t2, t3, t4, t5, t6, t7, t8⟩) n2 n3 m4 (Or.inr ⟨c93, z1.symm.trans (by rw [show 500 - st = (499 - st) + 1 by omega]; exact rn_stop c58 c93), c58⟩) m6 (⟨fun h => absurd h c93, fun _ => rfl⟩) ?_
                      omega
                    · refine gw_aload_n dX12_run_96 rfl ?_
                      refine gw_dup dX12_run_97 rfl ?_
                      refine gm_get_steps rfl dX12_run_98 ?_
                      refine gw_topi (y := nI (st)) (t7) ?_
                      refine gw_iconst (v := nI (1)) dX12_run_101 (by decide) ?_
                      refine gw_iaddN dX12_run_102 ?_
                      refine gm_put_steps rfl dX12_run_103 ?_
                      refine gw_W.wd (w' := (mW cy ad (va_up iv2 22 (nI (st + 1))) ia2 la2)) rfl ?_
                      refine gw_iload_n dX12_run_106 rfl ?_
                      refine gw_iconst (v := nI (1)) dX12_run_107 (by decide) ?_
                      refine gw_iaddN dX12_run_108 ?_
                      refine gw_istore_n dX12_run_109 (by decide) rfl ?_
                      refine gw_aload_n dX12_run_110 rfl ?_
                      refine gm_get_kind rfl dX12_run_111 ?_
                      refine gw_iload_n dX12_run_114 rfl ?_
                      refine gm_ld_kind (j := p) (rfl) (o1) dX12_run_115 ?_
                      refine gw_topi (y := nI ((opJ (sOp σ) p).1)) (o2) ?_
                      refine gw_iconst (v := nI (5)) dX12_run_116 (by decide) ?_
                      refine gw_icmpN_ne (tgt := 153) dX12_run_117 (by decide) (by omega) (by omega) (fun c117 => ?_) (fun c117 => ?_)
                      · refine gw_aload_n dX12_run_153 rfl ?_
                        refine gm_get_kind rfl dX12_run_154 ?_
                        refine gw_iload_n dX12_run_157 rfl ?_
                        refine gm_ld_kind (j := p) (rfl) (o1) dX12_run_158 ?_
                        refine gw_topi (y := nI ((opJ (sOp σ) p).1)) (o2) ?_
                        refine gw_bipush (v := nI (6)) dX12_run_159 (by decide) ?_
                        refine gw_icmpN_ne (tgt := 236) dX12_run_161 (by decide) (by omega) (by omega) (fun c161 => ?_) (fun c161 => ?_)
                        · obtain ⟨rs2, hrs2⟩ : ∃ r, r = rs := ⟨_, rfl⟩
                          have eN : rnN (sOp σ) p rs (opJ (sOp σ) p) = (p + 1, rs2) := by unfold rnN; rw [if_neg c117, if_neg c161, hrs2]
                          have n5 : rsI (sOp σ) (p + 1) rs2 := by rw [hrs2]; exact rsI_0 qc c58 z2 c117 c161
                          have n6 : rdR rs2 (iv2 25) (ia2 26) (ia2 27) := by rw [hrs2]; exact n3
                          refine gw_iload_n dX12_run_236 rfl ?_
                          refine gw_istore_n dX12_run_237 (by decide) rfl ?_
                          refine gw_goto (tgt := 53) dX12_run_238 (by decide) ?_
                          refine gw_W.forget 3 ?_
                          refine ih53 (p + 1) ((doM σ.1 (sTb σ) sm (rsD rs) (opJ (sOp σ) p)).1) (1) (st + 1) (nI p) ((doM σ.1 (sTb σ) sm (rsD rs) (opJ (sOp σ) p)).2) (rs2) ((va_up iv2 22 (nI (st + 1)))) (ia2) (la2) (⟨t1, t2, t3, t4, t5, t6, rfl, t8⟩) n2 n6 (by omega) (Or.inl ⟨c93, Eq.trans (by rw [show 500 - st = (500 - (st + 1)) + 1 by omega]; exact (rn_go c58 c93 eN).symm) z1, n5⟩) (by have := n5.1; omega) (⟨fun _ => rfl, fun h => absurd c93 h⟩) ?_
                          omega
                        · obtain ⟨l3, n5, n7⟩ := rsI_6 qc c58 z2 c161
                          have w3 := n3.2.2 (rs.length - 1) (by omega)
                          have w4 := z2.2.2 (rs.length - 1) (by omega)
                          have w3 : ia2 26 (rs.length - 1) = nI (rsT rs).1 ∧ ia2 27 (rs.length - 1) = nI (rsT rs).2 ∧ (rsT rs).2 < 8 := w3
                          have w4 : (rsT rs).1 < (sOp σ).length ∧ (opJ (sOp σ) (rsT rs).1).1 = 5 ∧ _ := w4
                          have w2 := n3.1
                          obtain ⟨g1, g2, g3, g4, g5, g6, g7⟩ := opJ_t (O := sOp σ) t4 w4.1
                          have g8 := opOK_5 g7 w4.2.1
                          have g9 : ia2 14 (rsT rs).1 = nI (tI (opJ (sOp σ) (rsT rs).1).2.1) := by rw [g3]; exact tI_of (by omega)
                          have g10 : (tI (opJ (sOp σ) (rsT rs).1).2.1 : Int) = (opJ (sOp σ) (rsT rs).1).2.1.toInt := by unfold tI; omega
                          refine gw_aload_n dX12_run_164 rfl ?_
                          refine gm_get_roundDone rfl dX12_run_165 ?_
                          refine gw_aload_n dX12_run_168 rfl ?_
                          refine gm_get_rounds rfl dX12_run_169 ?_
                          refine gw_topi (y := nI (rs.length)) (n3.2.1) ?_
                          refine gw_iconst (v := nI (1)) dX12_run_172 (by decide) ?_
                          refine gw_isubN dX12_run_173 (by omega) ?_
                          refine gw_dup2 dX12_run_174 rfl rfl ?_
                          refine gm_ld_roundDone (j := (rs.length) - (1)) (rfl) (by omega) dX12_run_175 ?_
                          refine gw_topi (y := nI ((rsT rs).2)) (w3.2.1) ?_
                          refine gw_iconst (v := nI (1)) dX12_run_176 (by decide) ?_
                          refine gw_iaddN dX12_run_177 ?_
                          refine gm_st_roundDone (j := (rs.length) - (1)) (rfl) (by omega) dX12_run_178 ?_
                          refine gw_W.wd (w' := (mW cy ad (va_up iv2 22 (nI (st + 1))) (va_up ia2 27 (upd (ia2 27) ((rs.length) - (1)) (nI (((rsT rs).2) + 1)))) la2)) rfl ?_
                          refine gw_aload_n dX12_run_179 rfl ?_
                          refine gm_get_roundDone rfl dX12_run_180 ?_
                          refine gw_aload_n dX12_run_183 rfl ?_
                          refine gm_get_rounds rfl dX12_run_184 ?_
                          refine gw_topi (y := nI (rs.length)) (n3.2.1) ?_
                          refine gw_iconst (v := nI (1)) dX12_run_187 (by decide) ?_
                          refine gw_isubN dX12_run_188 (by omega) ?_
                          refine gm_ld_roundDone (j := (rs.length) - (1)) (rfl) (by omega) dX12_run_189 ?_
                          refine gw_topi (y := (upd (ia2 27) ((rs.length) - (1)) (nI (((rsT rs).2) + 1))) ((rs.length) - (1))) rfl ?_
                          refine gw_topi (y := nI ((rsT rs).2 + 1)) (pk_us) ?_
                          refine gw_aload_n dX12_run_190 rfl ?_
                          refine gm_get_set rfl dX12_run_191 ?_
                          refine gw_aload_n dX12_run_194 rfl ?_
                          refine gm_get_roundAt rfl dX12_run_195 ?_
                          refine gw_aload_n dX12_run_198 rfl ?_
                          refine gm_get_rounds rfl dX12_run_199 ?_
                          refine gw_topi (y := nI (rs.length)) (n3.2.1) ?_
                          refine gw_iconst (v := nI (1)) dX12_run_202 (by decide) ?_
                          refine gw_isubN dX12_run_203 (by omega) ?_
                          refine gm_ld_roundAt (j := (rs.length) - (1)) (rfl) (by omega) dX12_run_204 ?_
                          refine gw_topi (y := (ia2 26) ((rs.length) - (1))) rfl ?_
                          refine gw_topi (y := nI ((rsT rs).1)) (w3.1) ?_
                          refine gm_ld_set (j := (rsT rs).1) (rfl) (g1) dX12_run_205 ?_
                          refine gw_topi (y := (ia2 14) ((rsT rs).1)) rfl ?_
                          refine gw_topi (y := nI (tI (opJ (sOp σ) (rsT rs).1).2.1)) (g9) ?_
                          refine gw_icmpN_ge (tgt := 226) dX12_run_206 (by decide) (by omega) (by omega) (fun c206 => ?_) (fun c206 => ?_)
                          · obtain ⟨rs2, hrs2⟩ : ∃ r, r = rs.dropLast := ⟨_, rfl⟩
                            have eN : rnN (sOp σ) p rs (opJ (sOp σ) p) = (p + 1, rs2) := by unfold rnN; rw [if_neg c117, if_pos c161, if_neg (by omega), hrs2]
                            rw [← hrs2] at n5
                            have n6 := rdR_drop n3 (nI ((rsT rs).2 + 1))
                            rw [← hrs2] at n6
                            refine gw_aload_n dX12_run_226 rfl ?_
                            refine gw_dup dX12_run_227 rfl ?_
                            refine gm_get_rounds rfl dX12_run_228 ?_
                            refine gw_topi (y := nI (rs.length)) (n3.2.1) ?_
                            refine gw_iconst (v := nI (1)) dX12_run_231 (by decide) ?_
                            refine gw_isubN dX12_run_232 (by omega) ?_
                            refine gm_put_rounds rfl dX12_run_233 ?_
                            refine gw_W.wd (w' := (mW cy ad (va_up (va_up iv2 22 (nI (st + 1))) 25 (nI ((rs.length) - (1)))) (va_up ia2 27 (upd (ia2 27) ((rs.length) - (1)) (nI (((rsT rs).2) + 1)))) la2)) rfl ?_
                            refine gw_iload_n dX12_run_236 rfl ?_
                            refine gw_istore_n dX12_run_237 (by decide) rfl ?_
                            refine gw_goto (tgt := 53) dX12_run_238 (by decide) ?_
                            refine gw_W.forget 3 ?_
                            refine ih53 (p + 1) ((doM σ.1 (sTb σ) sm (rsD rs) (opJ (sOp σ) p)).1) (1) (st + 1) (nI p) ((doM σ.1 (sTb σ) sm (rsD rs) (opJ (sOp σ) p)).2) (rs2) ((va_up (va_up iv2 22 (nI (st + 1))) 25 (nI ((rs.length) - (1))))) ((va_up ia2 27 (upd (ia2 27) ((rs.length) - (1)) (nI (((rsT rs).2) + 1))))) (la2) (⟨t1, t2, t3, t4, t5, t6, rfl, t8⟩) n2 n6 (by omega) (Or.inl ⟨c93, Eq.trans (by rw [show 500 - st = (500 - (st + 1)) + 1 by omega]; exact (rn_go c58 c93 eN).symm) z1, n5⟩) (by have := n5.1; omega) (⟨fun _ => rfl, fun h => absurd c93 h⟩) ?_
                            omega
                          · obtain ⟨rs2, hrs2⟩ : ∃ r, r = rs.set (rs.length - 1) ((rsT rs).1, (rsT rs).2 + 1) := ⟨_, rfl⟩
                            have eN : rnN (sOp σ) p rs (opJ (sOp σ) p) = ((rsT rs).1 + 1, rs2) := by unfold rnN; rw [if_neg c117, if_pos c161, if_pos (by omega), hrs2]
                            have n5 : rsI (sOp σ) ((rsT rs).1 + 1) rs2 := by rw [hrs2]; exact n7 _
                            have n6 := rdR_set n3 l3 ((rsT rs).2 + 1) (by omega)
                            rw [← hrs2] at n6
                            refine gw_aload_n dX12_run_209 rfl ?_
                            refine gm_get_roundAt rfl dX12_run_210 ?_
                            refine gw_aload_n dX12_run_213 rfl ?_
                            refine gm_get_rounds rfl dX12_run_214 ?_
                            refine gw_topi (y := nI (rs.length)) (n3.2.1) ?_
                            refine gw_iconst (v := nI (1)) dX12_run_217 (by decide) ?_
                            refine gw_isubN dX12_run_218 (by omega) ?_
                            refine gm_ld_roundAt (j := (rs.length) - (1)) (rfl) (by omega) dX12_run_219 ?_
                            refine gw_topi (y := (ia2 26) ((rs.length) - (1))) rfl ?_
                            refine gw_topi (y := nI ((rsT rs).1)) (w3.1) ?_
                            refine gw_iconst (v := nI (1)) dX12_run_220 (by decide) ?_
                            refine gw_iaddN dX12_run_221 ?_
                            refine gw_istore_n dX12_run_222 (by decide) rfl ?_
                            refine gw_goto (tgt := 236) dX12_run_223 (by decide) ?_
                            refine gw_iload_n dX12_run_236 rfl ?_
                            refine gw_istore_n dX12_run_237 (by decide) rfl ?_
                            refine gw_goto (tgt := 53) dX12_run_238 (by decide) ?_
                            refine gw_W.forget 3 ?_
                            refine ih53 (((rsT rs).1) + 1) ((doM σ.1 (sTb σ) sm (rsD rs) (opJ (sOp σ) p)).1) (1) (st + 1) (nI p) ((doM σ.1 (sTb σ) sm (rsD rs) (opJ (sOp σ) p)).2) (rs2) ((va_up iv2 22 (nI (st + 1)))) ((va_up ia2 27 (upd (ia2 27) ((rs.length) - (1)) (nI (((rsT rs).2) + 1))))) (la2) (⟨t1, t2, t3, t4, t5, t6, rfl, t8⟩) n2 n6 (by omega) (Or.inl ⟨c93, Eq.trans (by rw [show 500 - st = (500 - (st + 1)) + 1 by omega]; exact (rn_go c58 c93 eN).symm) z1, n5⟩) (by have := n5.1; omega) (⟨fun _ => rfl, fun h => absurd c93 h⟩) ?_
                            omega
                      · obtain ⟨l3, n5⟩ := rsI_5 qc c58 z2 c117
                        obtain ⟨rs2, hrs2⟩ : ∃ r, r = rs ++ [(p, 0)] := ⟨_, rfl⟩
                        have eN : rnN (sOp σ) p rs (opJ (sOp σ) p) = (p + 1, rs2) := by unfold rnN; rw [if_pos c117, hrs2]
                        rw [← hrs2] at n5
                        have n6 := rdR_5 (p := p) n3 l3
                        rw [← hrs2] at n6
                        refine gw_aload_n dX12_run_120 rfl ?_
                        refine gm_get_roundAt rfl dX12_run_121 ?_
                        refine gw_aload_n dX12_run_124 rfl ?_
                        refine gm_get_rounds rfl dX12_run_125 ?_
                        refine gw_topi (y := nI (rs.length)) (n3.2.1) ?_
                        refine gw_iload_n dX12_run_128 rfl ?_
                        refine gm_st_roundAt (j := rs.length) (rfl) (l3) dX12_run_129 ?_
                        refine gw_W.wd (w' := (mW cy ad (va_up iv2 22 (nI (st + 1))) (va_up ia2 26 (upd (ia2 26) (rs.length) (nI (p)))) la2)) rfl ?_
                        refine gw_aload_n dX12_run_130 rfl ?_
                        refine gm_get_roundDone rfl dX12_run_131 ?_
                        refine gw_aload_n dX12_run_134 rfl ?_
                        refine gm_get_rounds rfl dX12_run_135 ?_
                        refine gw_topi (y := nI (rs.length)) (n3.2.1) ?_
                        refine gw_iconst (v := nI (0)) dX12_run_138 (by decide) ?_
                        refine gm_st_roundDone (j := rs.length) (rfl) (l3) dX12_run_139 ?_
                        refine gw_W.wd (w' := (mW cy ad (va_up iv2 22 (nI (st + 1))) (va_up (va_up ia2 26 (upd (ia2 26) (rs.length) (nI (p)))) 27 (upd (ia2 27) (rs.length) (nI (0)))) la2)) rfl ?_
                        refine gw_aload_n dX12_run_140 rfl ?_
                        refine gw_dup dX12_run_141 rfl ?_
                        refine gm_get_rounds rfl dX12_run_142 ?_
                        refine gw_topi (y := nI (rs.length)) (n3.2.1) ?_
                        refine gw_iconst (v := nI (1)) dX12_run_145 (by decide) ?_
                        refine gw_iaddN dX12_run_146 ?_
                        refine gm_put_rounds rfl dX12_run_147 ?_
                        refine gw_W.wd (w' := (mW cy ad (va_up (va_up iv2 22 (nI (st + 1))) 25 (nI ((rs.length) + 1))) (va_up (va_up ia2 26 (upd (ia2 26) (rs.length) (nI (p)))) 27 (upd (ia2 27) (rs.length) (nI (0)))) la2)) rfl ?_
                        refine gw_goto (tgt := 236) dX12_run_150 (by decide) ?_
                        refine gw_iload_n dX12_run_236 rfl ?_
                        refine gw_istore_n dX12_run_237 (by decide) rfl ?_
                        refine gw_goto (tgt := 53) dX12_run_238 (by decide) ?_
                        refine gw_W.forget 3 ?_
                        refine ih53 (p + 1) ((doM σ.1 (sTb σ) sm (rsD rs) (opJ (sOp σ) p)).1) (1) (st + 1) (nI p) ((doM σ.1 (sTb σ) sm (rsD rs) (opJ (sOp σ) p)).2) (rs2) ((va_up (va_up iv2 22 (nI (st + 1))) 25 (nI ((rs.length) + 1)))) ((va_up (va_up ia2 26 (upd (ia2 26) (rs.length) (nI (p)))) 27 (upd (ia2 27) (rs.length) (nI (0))))) (la2) (⟨t1, t2, t3, t4, t5, t6, rfl, t8⟩) n2 n6 (by omega) (Or.inl ⟨c93, Eq.trans (by rw [show 500 - st = (500 - (st + 1)) + 1 by omega]; exact (rn_go c58 c93 eN).symm) z1, n5⟩) (by have := n5.1; omega) (⟨fun _ => rfl, fun h => absurd c93 h⟩) ?_
                        omega
                  · have e5 : st = 500 := by omega
                    subst e5
                    refine gw_ldc dX12_run_75 wd_965 ?_
                    refine gw_istore_n dX12_run_77 (by decide) rfl ?_
                    refine gw_goto (tgt := 53) dX12_run_78 (by decide) ?_
                    refine ih53 (p) (((-1000003) : Int32)) (0) (500) (y) (sm) (rs) (iv1) (ia1) (la1) m1 m2 m3 m4 (Or.inr ⟨by decide, z1.symm.trans (rn_full c58), c58⟩) m6 (⟨fun h => absurd h (by decide), fun _ => rfl⟩) ?_
                    omega
          refine cut53 _ (0) (0) (1) (0) (-1000000) (sSm σ) ([]) ((va_up (va_up (va_up iv 22 (nI (0))) 23 (((-1000000) : Int32))) 25 (nI (0)))) ((va_up (va_up ia 6 (a6)) 7 (kk))) ((va_up la 8 (nn))) (⟨i1, i2, j3, i4, i5, i6, rfl, rfl⟩) s1 (⟨by decide, rfl, fun k hk => absurd hk (Nat.not_lt_zero _)⟩) (by decide) (Or.inl ⟨rfl, rfl, Nat.zero_le _, rfl, fun i hi => absurd hi (Nat.not_lt_zero _)⟩) (by decide) (⟨fun _ => rfl, fun h => absurd rfl h⟩) (Nat.lt_succ_self _)
        · have h3 := i3 k (by omega)
          have h9 := hl9 k (by omega)
          refine gw_aload_n dX12_run_18 rfl ?_
          refine gw_bipush (v := nI (9)) dX12_run_19 (by decide) ?_
          refine gw_iload_n dX12_run_21 rfl ?_
          refine gw_iaddN dX12_run_22 ?_
          refine gw_iload_n dX12_run_23 rfl ?_
          refine gw_callV 0 (As := [.int (nI (9 + k)), .int (nI (k))]) (st := []) (c_mcopySum l cy ad iv (va_up (va_up ia 6 (a6)) 7 (kk)) (va_up la 8 (nn)) (9 + k) (k) ((sSm σ k).length) ((s2 k (by omega)).trans h3.2.1) (by omega) (by omega) (h9)) ok_X12_copySum rfl rfl rfl wd_970 rfl rfl dX12_run_24 (by decide) (by decide) (Nat.le_of_ble_eq_true rfl) (fun r24 w24 hp24 => ?_)
          obtain ⟨rfl, kk24, nn24, rfl, hT24, hO24⟩ := hp24
          have hT24 : takeS kk24 nn24 (300 * (9 + k)) ((sSm σ k).length) = takeS kk nn (300 * (k)) ((sSm σ k).length) := hT24
          have hO24 : ∀ j, (j < 300 * (9 + k) ∨ 300 * (9 + k) + 300 ≤ j) → kk24 j = kk j ∧ nn24 j = nn j := hO24
          refine gw_W.wd (w' := (mW cy ad iv (va_up (va_up ia 6 (upd a6 (9 + k) (nI ((sSm σ k).length)))) 7 (kk24)) (va_up la 8 (nn24)))) rfl ?_
          refine gw_W.norm (st' := []) (k1 := 0) (k2 := 0) rfl rfl rfl ?_
          refine gw_iinc (v := nI (k + 1)) dX12_run_27 rfl (nI_add _ 1) (by decide) rfl ?_
          refine gw_goto (tgt := 12) dX12_run_30 (by decide) ?_
          refine gw_W.wd (w' := (mW cy ad iv (va_up (va_up ia 6 (((upd a6 (9 + k) (nI ((sSm σ k).length)))))) 7 (((kk24)))) (va_up la 8 (((nn24)))))) rfl ?_
          refine ih12 (k + 1) ((upd a6 (9 + k) (nI ((sSm σ k).length)))) ((kk24)) ((nn24)) (by omega) ?_ ?_ ?_ ?_
          · intro i hi
            rcases Nat.lt_or_ge i k with g | g
            · have h8 := hl9 i (by omega)
              exact ⟨by rw [pk_un (by omega)]; exact (s1 i g).1, (takeS_congr (fun j hj => hO24 _ (by omega))).trans (s1 i g).2⟩
            · have e2 : i = k := by omega
              subst e2
              exact ⟨pk_us, hT24.trans ((takeS_congr (fun j hj => s3 _ (by omega))).trans h3.2.2)⟩
          · intro i hi; rw [pk_un (by omega)]; exact s2 i hi
          · intro j hj; have := hO24 j (by omega); rw [this.1, this.2]; exact s3 j hj
          · omega
    refine gw_W.wd (w' := mW cy ad iv (va_up (va_up ia 6 (ia 6)) 7 (ia 7)) (va_up la 8 (la 8))) (by rw [va_up_id, va_up_id, va_up_id]) ?_
    refine gw_W.wd (w' := (mW cy ad iv (va_up (va_up ia 6 ((ia 6))) 7 ((ia 7))) (va_up la 8 ((la 8))))) rfl ?_
    refine cut12 _ (0) (ia 6) (ia 7) (la 8) (Nat.zero_le _) (fun i h => absurd h (Nat.not_lt_zero _)) (fun _ _ => rfl) (fun _ _ => ⟨rfl, rfl⟩) (Nat.lt_succ_self _)
  · refine gw_ldc dX12_run_7 wd_1087 ?_
    refine gw_iret (?_) (by decide) (by decide) rfl dX12_run_9
    subst hpost
    unfold spRun
    rw [if_neg (by omega)]
    exact ⟨rfl, iv, ia, la, rfl, i1, i2, i3, i4, i5, i6, i7, i8⟩
