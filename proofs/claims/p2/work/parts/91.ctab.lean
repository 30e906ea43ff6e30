/-! the class's tables; THE STATE of the class -/
def tW2 (cy : Nat → ClassId) (t0 t1 : Nat) (ms la sz : Int32) (it : Nat → Int32) : va_W := [(t0, .inr (8, [.ref t1, .int ms, .int la, .int sz])), (t1, .inl (cy 0, 60, .inl it))]
def tabR (t : aT) (ms la sz : Int32) (it : Nat → Int32) : Prop := match t with
  | none => ms = nI 1
  | some q => ms = nI 0 ∧ q.1 < 3 ∧ la = nI q.1 ∧ q.2.length ≤ 60 ∧ sz = nI q.2.length ∧ ∀ j, j < q.2.length → it j = q.2.getD j 0
def tF (cy : Nat → ClassId) (ta : Nat → Nat) (tm tl tz : Nat → Int32) (ti : Nat → Nat → Int32) (i : Nat) : va_W := tW2 cy (ta (2 * i)) (ta (2 * i + 1)) (tm i) (tl i) (tz i) (ti i)
def tbP (cy : Nat → ClassId) (ta : Nat → Nat) (tb : Nat → aT) (w : va_W) : Prop := ∃ (tm tl tz : Nat → Int32) (ti : Nat → Nat → Int32), w.Perm (famW 8 (tF cy ta tm tl tz ti)) ∧ ∀ i, i < 8 → tabR (tb i) (tm i) (tl i) (tz i) (ti i)
theorem tbP_open {cy : Nat → ClassId} {ta : Nat → Nat} {tb : Nat → aT} {w : va_W} (h : tbP cy ta tb w) {i : Nat} (hi : i < 8) : ∃ (ms la sz : Int32) (it : Nat → Int32) (R : va_W), w.Perm (tW2 cy (ta (2 * i)) (ta (2 * i + 1)) ms la sz it ++ R) ∧ tabR (tb i) ms la sz it ∧ ∀ (T : aT) (ms' la' sz' : Int32) (it' : Nat → Int32) (w' : va_W), tabR T ms' la' sz' it' → w'.Perm (tW2 cy (ta (2 * i)) (ta (2 * i + 1)) ms' la' sz' it' ++ R) → tbP cy ta (va_up tb i T) w' := by
  obtain ⟨tm, tl, tz, ti, hw, hc⟩ := h
  refine ⟨tm i, tl i, tz i, ti i, famX 8 i (tF cy ta tm tl tz ti), hw.trans (fam_out _ hi), hc i hi, fun T ms' la' sz' it' w' h1 hp => ?_⟩
  refine ⟨va_up tm i ms', va_up tl i la', va_up tz i sz', va_up ti i it', ?_, fun j hj => ?_⟩
  · refine hp.trans (List.Perm.trans ?_ (fam_out (tF cy ta (va_up tm i ms') (va_up tl i la') (va_up tz i sz') (va_up ti i it')) hi).symm)
    rw [famX_congr (f := tF cy ta tm tl tz ti) (g := tF cy ta (va_up tm i ms') (va_up tl i la') (va_up tz i sz') (va_up ti i it')) (fun j hj => by unfold tF; rw [va_up_ne _ _ hj, va_up_ne _ _ hj, va_up_ne _ _ hj, va_up_ne _ _ hj])]
    rw [tF, va_up_self, va_up_self, va_up_self, va_up_self]
  · by_cases e : j = i
    · subst e; rw [va_up_self, va_up_self, va_up_self, va_up_self, va_up_self]; exact h1
    · rw [va_up_ne _ _ e, va_up_ne _ _ e, va_up_ne _ _ e, va_up_ne _ _ e, va_up_ne _ _ e]; exact hc j hj
/-- the ops -/
def opCe (o : aO) (j : Nat) (ar : Option Nat) (td : Int32) : Nat × List Value :=
  if o.1 = 2 then (4, [.int (nI j), va_rf ar, .int o.2.1, .int o.2.2.1, .int o.2.2.2.1])
  else if o.1 = 3 then (0, [.int o.2.1, .int o.2.2.1, .int o.2.2.2.1, .int (nI j), va_rf ar, .int o.2.2.2.2])
  else if o.1 = 4 then (1, [.int (nI j), va_rf ar, .int o.2.1, .int o.2.2.1, .int o.2.2.2.1])
  else if o.1 = 5 then (5, [.int (nI j), va_rf ar, .int o.2.1, .int td])
  else if o.1 = 6 then (2, [.int (nI j), va_rf ar])
  else (6, [.int (nI j), va_rf ar, .int o.2.1, .int o.2.2.1])
/-- the places of the rounds that are open ahead of place j, the innermost first -/
def opk (O : List aO) : Nat → List Nat
  | 0 => []
  | j + 1 => if (opJ O j).1 = 5 then j :: opk O j else if (opJ O j).1 = 6 then (opk O j).tail else opk O j
def arOf (O : List aO) (oa : Nat → Nat) (j : Nat) : Option Nat := (opk O j).head?.map oa
def opF (O : List aO) (oa : Nat → Nat) (td : Nat → Int32) (j : Nat) : va_W := [(oa j, .inr (opCe (opJ O j) j (arOf O oa j) (td j)))]
def opP (oa : Nat → Nat) (O : List aO) (lo : Option Nat) (pg : Nat → Option Nat) (td : Nat → Int32) (w : va_W) : Prop := w.Perm (famW O.length (opF O oa td)) ∧ lo = arOf O oa O.length ∧ ∀ j, j < O.length → pg j = some (oa j)
def cN (σ : aS) : Prop := 1 ≤ σ.1 ∧ σ.1 ≤ 4 ∧ (sTr σ).length ≤ 16 ∧ (sOp σ).length ≤ 40 ∧ (∃ c, opn (sOp σ) = some c) ∧ ∀ o ∈ sOp σ, opOK σ.1 o
def csS (σ : aS) (cs : Nat → List sT) : Prop := ∀ i, i < 9 → cs (if i = 8 then 0 else i + 1) = sSm σ i ∧ sOK σ.1 (sSm σ i)
/-- the class holds the state σ -/
def cInv (cy : Nat → ClassId) (b : Nat) (σ : aS) (w : va_W) : Prop := ∃ (ad sa ta oa : Nat → Nat) (nx : Int32) (lo : Option Nat) (pg : Nat → Option Nat) (bo : Nat → Int32) (cs : Nat → List sT) (xs tb op : va_W) (td : Nat → Int32), ad 0 = b ∧ w.Perm (bW cy ad sa ta σ.1 (sOp σ).length (sTr σ).length nx σ.2.2.2.2.2.2.1 σ.2.2.2.2.2.2.2 σ.2.2.2.2.1 lo pg bo ++ (xs ++ (tb ++ op))) ∧ xsP cy (ad 4) sa cs xs ∧ csS σ cs ∧ tbP cy ta (sTb σ) tb ∧ opP oa (sOp σ) lo pg td op ∧ cN σ ∧ ∀ j, j < (sTr σ).length → bo j = (sTr σ).getD j 0
def cPost (cy : Nat → ClassId) (b : Nat) (x : Int32 × aS) : gw_Q := fun r w' => r = some (.int x.1) ∧ cInv cy b x.2 w'
def cPostL (cy : Nat → ClassId) (b : Nat) (x : Int64 × aS) : gw_Q := fun r w' => r = some (.long x.1) ∧ cInv cy b x.2 w'
theorem perm_tb {α : Type} {B xs tb op a r : List α} (h : tb.Perm (a ++ r)) : (B ++ (xs ++ (tb ++ op))).Perm (B ++ (a ++ (xs ++ (r ++ op)))) := by
  refine List.Perm.append_left B ?_
  refine (List.Perm.append_left xs (h.append_right op)).trans ?_
  rw [List.append_assoc, ← List.append_assoc, ← List.append_assoc a]
  exact List.perm_append_comm.append_right _
theorem perm_tb2 {α : Type} (B xs op a r : List α) : (B ++ (a ++ (xs ++ (r ++ op)))).Perm (B ++ (xs ++ ((a ++ r) ++ op))) := (perm_tb (List.Perm.refl _)).symm
theorem perm_xs {α : Type} {B xs T a r : List α} (h : xs.Perm (a ++ r)) : (B ++ (xs ++ T)).Perm (B ++ (a ++ (r ++ T))) := by
  refine List.Perm.append_left B ?_
  refine (h.append_right T).trans ?_
  rw [List.append_assoc]
theorem fitL_c {a : Nat} {v : Int32} : (a = 0 → v.toInt8.toInt32 = fitL a v) ∧ (a = 1 → v.toInt16.toInt32 = fitL a v) ∧ (¬ a = 0 → ¬ a = 1 → v = fitL a v) := by
  unfold fitL
  refine ⟨fun h => by rw [if_pos h], fun h => by rw [if_neg (by omega), if_pos h], fun h1 h2 => by rw [if_neg h1, if_neg h2]⟩
abbrev kJ7_fill_53178 : gw_K := (yJ7_fill_53178, cJ7_fill_53178, 4, { frames := 0, cells := 0, slots := 0, locals := 0 }, none)
theorem ok_J7_fill_53178 : gw_calS kJ7_fill_53178 2 := ⟨⟨wd_245, wd_63, by decide, by decide, by decide +kernel⟩, wd_244⟩
set_option maxHeartbeats 4000000 in
set_option maxRecDepth 100000 in
theorem c_fill (l : Launch) (cy : Nat → ClassId) (t1 N : Nat) (f : Nat → Int32) (R : va_W) (v : Int32) (hN : N < 2 ^ 31) : gw_M l kJ7_fill_53178 cy [.ref (t1), .int (v)] ([(t1, .inl (cy 0, N, .inl f))] ++ R) (fun r w' => r = none ∧ ∃ f2 : Nat → Int32, w' = [(t1, .inl (cy 0, N, .inl f2))] ++ R ∧ ∀ j, j < N → f2 j = v) := by
  refine gw_M.mk (lv := [some (.ref (t1)), some (.int (v)), none, none]) (by decide) (Nat.le_of_ble_eq_true rfl) rfl ?_
  generalize hpost : (fun r w' => r = none ∧ ∃ f2 : Nat → Int32, w' = [(t1, .inl (cy 0, N, .inl f2))] ++ R ∧ ∀ j, j < N → f2 j = v : gw_Q) = post
  refine gw_W.wd (w' := ([(t1, .inl (cy 0, N, .inl (f)))] ++ R)) rfl ?_
  refine gw_iconst (v := nI (0)) dJ7_fill_53178_0 (by decide) ?_
  refine gw_istore_n dJ7_fill_53178_1 (by decide) rfl ?_
  refine gw_aload_n dJ7_fill_53178_2 rfl ?_
  refine gw_alen (t0 := 0) 0 rfl rfl dJ7_fill_53178_3 ?_
  refine gw_istore_n dJ7_fill_53178_4 (by decide) rfl ?_
  have cut5 : ∀ (fu : Nat) (i : Nat) (f2 : Nat → Int32), (i ≤ N) → (∀ j, j < i → f2 j = v) → (N - i) < fu → gw_W l kJ7_fill_53178 cy (gw_R kJ7_fill_53178 post) ([(t1, .inl (cy 0, N, .inl (f2)))] ++ R) 0 0 5 [some (.ref (t1)), some (.int (v)), some (.int (nI (i))), some (.int (nI (N)))] [] := by
    intro fu
    induction fu with
    | zero => intro i f2 h1 h2 hfu; exact absurd hfu (Nat.not_lt_zero _)
    | succ fu ih5 =>
      intro i f2 h1 h2 hfu
      refine gw_iload_n dJ7_fill_53178_5 rfl ?_
      refine gw_iload_n dJ7_fill_53178_6 rfl ?_
      refine gw_icmpN_ge (tgt := 20) dJ7_fill_53178_7 (by decide) (by omega) (by omega) (fun c7 => ?_) (fun c7 => ?_)
      · have e1 : i = N := by omega
        subst e1
        refine gw_vret (?_) (by decide) (by decide) rfl dJ7_fill_53178_20
        subst hpost
        exact ⟨rfl, f2, rfl, h2⟩
      · refine gw_aload_n dJ7_fill_53178_10 rfl ?_
        refine gw_iload_n dJ7_fill_53178_11 rfl ?_
        refine gw_iload_n dJ7_fill_53178_12 rfl ?_
        refine gw_iast 0 rfl (rfl) (by omega) (hN) dJ7_fill_53178_13 ?_
        refine gw_W.wd (w' := ([(t1, .inl (cy 0, N, .inl (upd f2 (i) (v))))] ++ R)) rfl ?_
        refine gw_iinc (v := nI (i + 1)) dJ7_fill_53178_14 rfl (nI_add _ 1) (by decide) rfl ?_
        refine gw_goto (tgt := 5) dJ7_fill_53178_17 (by decide) ?_
        refine ih5 (i + 1) (upd f2 (i) (v)) (by omega) ?_ ?_
        · intro j hj
          rcases Nat.lt_or_ge j i with g | g
          · rw [pk_un (by omega)]; exact h2 j g
          · have e2 : j = i := by omega
            subst e2; exact pk_us
        · omega
  refine cut5 _ (0) (f) (Nat.zero_le _) (fun j h => absurd h (Nat.not_lt_zero _)) (Nat.lt_succ_self _)
abbrev kX10_make : gw_K := (yX10_make, cX10_make, 3, { frames := 1, cells := 0, slots := 0, locals := 23 }, none)
theorem ok_X10_make : gw_calV kX10_make 2 := ⟨⟨wd_242, wd_61, by decide, by decide, by decide +kernel⟩, wd_241, wd_2⟩
set_option maxHeartbeats 4000000 in
set_option maxRecDepth 100000 in
theorem c_tmake (l : Launch) (cy : Nat → ClassId) (t0 t1 : Nat) (ms la sz : Int32) (it : Nat → Int32) (R : va_W) (a n : Int32) : gw_M l kX10_make cy [.ref (t0), .int (a), .int (n)] (tW2 cy t0 t1 ms la sz it ++ R) (fun r w' => r = none ∧ ∃ f2 : Nat → Int32, w' = tW2 cy t0 t1 (nI 0) a n f2 ++ R ∧ ∀ j, j < 60 → f2 j = 0) := by
  refine gw_M.mk (lv := [some (.ref (t0)), some (.int (a)), some (.int (n))]) (by decide) (Nat.le_of_ble_eq_true rfl) rfl ?_
  generalize hpost : (fun r w' => r = none ∧ ∃ f2 : Nat → Int32, w' = tW2 cy t0 t1 (nI 0) a n f2 ++ R ∧ ∀ j, j < 60 → f2 j = 0 : gw_Q) = post
  refine gw_W.wd (w' := ([(t0, .inr (8, [.ref (t1), .int (ms), .int (la), .int (sz)])), (t1, .inl (cy 0, 60, .inl (it)))] ++ R)) rfl ?_
  refine gw_aload_n dX10_make_0 rfl ?_
  refine gw_iconst (v := nI (0)) dX10_make_1 (by decide) ?_
  refine gw_put (C0 := RX10) (T := TX10) (N := 4) (ref := RX10) (ty := tyX10 1) 0 rfl rfl inX10 1 (by decide) tyX10 tyX10_ok nmX10 wd_157 (Or.inl rfl) rfl (tyX10_ok 1 (by decide)) (by decide) rfl (Nat.le_of_ble_eq_true rfl) dX10_make_2 ?_
  refine gw_W.wd (w' := ([(t0, .inr (8, [.ref (t1), .int (nI (0)), .int (la), .int (sz)])), (t1, .inl (cy 0, 60, .inl (it)))] ++ R)) rfl ?_
  refine gw_aload_n dX10_make_5 rfl ?_
  refine gw_iload_n dX10_make_6 rfl ?_
  refine gw_put (C0 := RX10) (T := TX10) (N := 4) (ref := RX10) (ty := tyX10 2) 0 rfl rfl inX10 2 (by decide) tyX10 tyX10_ok nmX10 wd_160 (Or.inl rfl) rfl (tyX10_ok 2 (by decide)) (rfl) rfl (Nat.le_of_ble_eq_true rfl) dX10_make_7 ?_
  refine gw_W.wd (w' := ([(t0, .inr (8, [.ref (t1), .int (nI (0)), .int (a), .int (sz)])), (t1, .inl (cy 0, 60, .inl (it)))] ++ R)) rfl ?_
  refine gw_aload_n dX10_make_10 rfl ?_
  refine gw_iload_n dX10_make_11 rfl ?_
  refine gw_put (C0 := RX10) (T := TX10) (N := 4) (ref := RX10) (ty := tyX10 3) 0 rfl rfl inX10 3 (by decide) tyX10 tyX10_ok nmX10 wd_162 (Or.inl rfl) rfl (tyX10_ok 3 (by decide)) (rfl) rfl (Nat.le_of_ble_eq_true rfl) dX10_make_12 ?_
  refine gw_W.wd (w' := ([(t0, .inr (8, [.ref (t1), .int (nI (0)), .int (a), .int (n)])), (t1, .inl (cy 0, 60, .inl (it)))] ++ R)) rfl ?_
  refine gw_aload_n dX10_make_15 rfl ?_
  refine gw_get (C0 := RX10) (T := TX10) (N := 4) (ref := RX10) 0 rfl rfl inX10 0 (by decide) wd_154 (Or.inl rfl) rfl dX10_make_16 ?_
  refine gw_iconst (v := nI (0)) dX10_make_19 (by decide) ?_
  refine gw_callS (As := [.ref (t1), .int (nI (0))]) (st := []) ((c_fill l cy t1 60 it R (nI 0) (by decide)).frame (w2 := ([(t0, .inr (8, [.ref (t1), .int (nI (0)), .int (a), .int (n)])), (t1, .inl (cy 0, 60, .inl (it)))] ++ R)) (f := [(t0, .inr (8, [.ref (t1), .int (nI (0)), .int (a), .int (n)]))]) (List.perm_append_comm (l₁ := ([(t0, .inr (8, [.ref (t1), .int (nI (0)), .int (a), .int (n)]))] : va_W)))) ok_J7_fill_53178 wd_243 rfl rfl dX10_make_20 (by decide) (by decide) (Nat.le_of_ble_eq_true rfl) (fun r20 w20 hp20 => ?_)
  obtain ⟨w20, ⟨rfl, f2, rfl, hf2⟩, rfl⟩ := hp20
  refine gw_W.norm (st' := []) (k1 := 0) (k2 := 0) rfl rfl rfl ?_
  refine gw_W.perm (w' := ([(t0, .inr (8, [.ref (t1), .int (nI (0)), .int (a), .int (n)])), (t1, .inl (cy 0, 60, .inl (f2)))] ++ R)) (List.perm_append_comm (l₂ := ([(t0, .inr (8, [.ref (t1), .int (nI (0)), .int (a), .int (n)]))] : va_W))) ?_
  refine gw_vret (?_) (by decide) (by decide) rfl dX10_make_23
  subst hpost
  exact ⟨rfl, f2, rfl, hf2⟩
theorem sub_n {z : Nat} {v : Int32} (hz : z ≤ 60) (h0 : 0 ≤ v.toInt) : (nI z - v).toInt = (z : Int) - v.toInt := by
  have h1 := Int32.toInt_lt v
  rw [Int32.toInt_sub, nI_toInt (by omega), Int.bmod_eq_of_le]
  · have : (2 ^ 32 : Nat) / 2 = 2147483648 := by decide
    omega
  · have : ((2 ^ 32 : Nat) + 1) / 2 = 2147483648 := by decide
    omega
abbrev kX10_hasPlaces : gw_K := (yX10_hasPlaces, cX10_hasPlaces, 3, { frames := 0, cells := 0, slots := 0, locals := 0 }, (some .boolean))
theorem ok_X10_hasPlaces : gw_calV kX10_hasPlaces 2 := ⟨⟨wd_257, wd_61, by decide, by decide, by decide +kernel⟩, wd_256, wd_4⟩
set_option maxHeartbeats 4000000 in
set_option maxRecDepth 100000 in
theorem c_thas (l : Launch) (cy : Nat → ClassId) (t0 t1 : Nat) (ms la : Int32) (z : Nat) (it : Nat → Int32) (R : va_W) (i n : Int32) (hz : z ≤ 60) : gw_M l kX10_hasPlaces cy [.ref (t0), .int (i), .int (n)] (tW2 cy t0 t1 ms la (nI z) it ++ R) (fun r w' => r = some (.int (bI (decide (0 ≤ i.toInt ∧ 0 ≤ n.toInt ∧ i.toInt + n.toInt ≤ z)))) ∧ w' = tW2 cy t0 t1 ms la (nI z) it ++ R) := by
  refine gw_M.mk (lv := [some (.ref (t0)), some (.int (i)), some (.int (n))]) (by decide) (Nat.le_of_ble_eq_true rfl) rfl ?_
  generalize hpost : (fun r w' => r = some (.int (bI (decide (0 ≤ i.toInt ∧ 0 ≤ n.toInt ∧ i.toInt + n.toInt ≤ z)))) ∧ w' = tW2 cy t0 t1 ms la (nI z) it ++ R : gw_Q) = post
  refine gw_W.wd (w' := ([(t0, .inr (8, [.ref (t1), .int (ms), .int (la), .int (nI (z))])), (t1, .inl (cy 0, 60, .inl (it)))] ++ R)) rfl ?_
  refine gw_iload_n dX10_hasPlaces_0 rfl ?_
  refine gw_if_lt (tgt := 22) dX10_hasPlaces_1 (by decide) (fun c1 => ?_) (fun c1 => ?_)
  · rw [i32_lt] at c1
    have d1 : i.toInt < 0 := c1
    refine gw_iconst (v := nI (0)) dX10_hasPlaces_22 (by decide) ?_
    refine gw_zret (?_) (by decide) (by decide) rfl (by decide) dX10_hasPlaces_23
    subst hpost
    refine ⟨?_, rfl⟩
    first
      | (rw [show (decide (0 ≤ i.toInt ∧ 0 ≤ n.toInt ∧ i.toInt + n.toInt ≤ z)) = true from decide_eq_true (by omega)]; rfl)
      | (rw [show (decide (0 ≤ i.toInt ∧ 0 ≤ n.toInt ∧ i.toInt + n.toInt ≤ z)) = false from decide_eq_false (by omega)]; rfl)
  · rw [i32_lt] at c1
    have d1 : ¬ i.toInt < 0 := c1
    refine gw_iload_n dX10_hasPlaces_4 rfl ?_
    refine gw_if_lt (tgt := 22) dX10_hasPlaces_5 (by decide) (fun c5 => ?_) (fun c5 => ?_)
    · rw [i32_lt] at c5
      have d5 : n.toInt < 0 := c5
      refine gw_iconst (v := nI (0)) dX10_hasPlaces_22 (by decide) ?_
      refine gw_zret (?_) (by decide) (by decide) rfl (by decide) dX10_hasPlaces_23
      subst hpost
      refine ⟨?_, rfl⟩
      first
        | (rw [show (decide (0 ≤ i.toInt ∧ 0 ≤ n.toInt ∧ i.toInt + n.toInt ≤ z)) = true from decide_eq_true (by omega)]; rfl)
        | (rw [show (decide (0 ≤ i.toInt ∧ 0 ≤ n.toInt ∧ i.toInt + n.toInt ≤ z)) = false from decide_eq_false (by omega)]; rfl)
    · rw [i32_lt] at c5
      have d5 : ¬ n.toInt < 0 := c5
      refine gw_iload_n dX10_hasPlaces_8 rfl ?_
      refine gw_aload_n dX10_hasPlaces_9 rfl ?_
      refine gw_get (C0 := RX10) (T := TX10) (N := 4) (ref := RX10) 0 rfl rfl inX10 3 (by decide) wd_162 (Or.inl rfl) rfl dX10_hasPlaces_10 ?_
      refine gw_iload_n dX10_hasPlaces_13 rfl ?_
      refine gw_isub dX10_hasPlaces_14 ?_
      refine gw_icmp_gt (tgt := 22) dX10_hasPlaces_15 (by decide) (fun c15 => ?_) (fun c15 => ?_)
      · rw [i32_lt, sub_n hz (by omega)] at c15
        refine gw_iconst (v := nI (0)) dX10_hasPlaces_22 (by decide) ?_
        refine gw_zret (?_) (by decide) (by decide) rfl (by decide) dX10_hasPlaces_23
        subst hpost
        refine ⟨?_, rfl⟩
        first
          | (rw [show (decide (0 ≤ i.toInt ∧ 0 ≤ n.toInt ∧ i.toInt + n.toInt ≤ z)) = true from decide_eq_true (by omega)]; rfl)
          | (rw [show (decide (0 ≤ i.toInt ∧ 0 ≤ n.toInt ∧ i.toInt + n.toInt ≤ z)) = false from decide_eq_false (by omega)]; rfl)
      · rw [i32_lt, sub_n hz (by omega)] at c15
        refine gw_iconst (v := nI (1)) dX10_hasPlaces_18 (by decide) ?_
        refine gw_goto (tgt := 23) dX10_hasPlaces_19 (by decide) ?_
        refine gw_zret (?_) (by decide) (by decide) rfl (by decide) dX10_hasPlaces_23
        subst hpost
        refine ⟨?_, rfl⟩
        first
          | (rw [show (decide (0 ≤ i.toInt ∧ 0 ≤ n.toInt ∧ i.toInt + n.toInt ≤ z)) = true from decide_eq_true (by omega)]; rfl)
          | (rw [show (decide (0 ≤ i.toInt ∧ 0 ≤ n.toInt ∧ i.toInt + n.toInt ≤ z)) = false from decide_eq_false (by omega)]; rfl)
abbrev kX10_fitted : gw_K := (yX10_fitted, cX10_fitted, 2, { frames := 0, cells := 0, slots := 0, locals := 0 }, (some .int))
theorem ok_X10_fitted : gw_calV kX10_fitted 1 := ⟨⟨wd_261, wd_61, by decide, by decide, by decide +kernel⟩, wd_260, wd_5⟩
set_option maxHeartbeats 4000000 in
set_option maxRecDepth 100000 in
theorem c_tfit (l : Launch) (cy : Nat → ClassId) (t0 t1 : Nat) (ms : Int32) (a : Nat) (sz : Int32) (it : Nat → Int32) (R : va_W) (v : Int32) (ha : a < 3) : gw_M l kX10_fitted cy [.ref (t0), .int (v)] (tW2 cy t0 t1 ms (nI a) sz it ++ R) (fun r w' => r = some (.int (fitL a v)) ∧ w' = tW2 cy t0 t1 ms (nI a) sz it ++ R) := by
  refine gw_M.mk (lv := [some (.ref (t0)), some (.int (v))]) (by decide) (Nat.le_of_ble_eq_true rfl) rfl ?_
  generalize hpost : (fun r w' => r = some (.int (fitL a v)) ∧ w' = tW2 cy t0 t1 ms (nI a) sz it ++ R : gw_Q) = post
  refine gw_W.wd (w' := ([(t0, .inr (8, [.ref (t1), .int (ms), .int (nI (a)), .int (sz)])), (t1, .inl (cy 0, 60, .inl (it)))] ++ R)) rfl ?_
  have za : (nI a).toInt = (a : Int) := nI_toInt (by omega)
  refine gw_aload_n dX10_fitted_0 rfl ?_
  refine gw_get (C0 := RX10) (T := TX10) (N := 4) (ref := RX10) 0 rfl rfl inX10 2 (by decide) wd_160 (Or.inl rfl) rfl dX10_fitted_1 ?_
  by_cases c4_0 : (nI (a)).toInt = 0
  · refine gw_lookup (off := 28) (tgt := 32) dX10_fitted_4 (by decide) (by rw [c4_0]; rfl) (by decide) ?_
    refine gw_iload_n dX10_fitted_32 rfl ?_
    refine gw_i2b dX10_fitted_33 rfl ?_
    refine gw_iret (?_) (by decide) (by decide) rfl dX10_fitted_34
    subst hpost
    rw [← fitL_c.1 (by omega)]
    exact ⟨rfl, rfl⟩
  by_cases c4_1 : (nI (a)).toInt = 1
  · refine gw_lookup (off := 31) (tgt := 35) dX10_fitted_4 (by decide) (by rw [c4_1]; rfl) (by decide) ?_
    refine gw_iload_n dX10_fitted_35 rfl ?_
    refine gw_i2s dX10_fitted_36 rfl ?_
    refine gw_iret (?_) (by decide) (by decide) rfl dX10_fitted_37
    subst hpost
    rw [← fitL_c.2.1 (by omega)]
    exact ⟨rfl, rfl⟩
  refine gw_lookup (off := 34) (tgt := 38) dX10_fitted_4 (by decide) (by simp [Op.lookupswitch.offset, show ¬ ((0 : Int) = (nI (a)).toInt) from fun h => c4_0 h.symm, show ¬ ((1 : Int) = (nI (a)).toInt) from fun h => c4_1 h.symm]) (by decide) ?_
  refine gw_iload_n dX10_fitted_38 rfl ?_
  refine gw_iret (?_) (by decide) (by decide) rfl dX10_fitted_39
  subst hpost
  rw [← fitL_c.2.2 (by omega) (by omega)]
  exact ⟨rfl, rfl⟩
