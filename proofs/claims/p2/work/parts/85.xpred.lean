/-! the mixer and the sums as wholes: predicates of worlds, closed under permutation -/
def gw_has (w : va_W) (b ci : Nat) : Prop := ∃ fs : List Value, (b, .inr (ci, fs)) ∈ w
theorem gw_has.left {w v : va_W} {b ci : Nat} (h : gw_has w b ci) : gw_has (w ++ v) b ci := by obtain ⟨fs, h⟩ := h; exact ⟨fs, List.mem_append_left _ h⟩
theorem gw_has.right {w v : va_W} {b ci : Nat} (h : gw_has v b ci) : gw_has (w ++ v) b ci := by obtain ⟨fs, h⟩ := h; exact ⟨fs, List.mem_append_right _ h⟩
theorem gw_has.perm {w v : va_W} {b ci : Nat} (h : gw_has v b ci) (hp : w.Perm v) : gw_has w b ci := by obtain ⟨fs, h⟩ := h; exact ⟨fs, hp.mem_iff.mpr h⟩
theorem gw_callH {l : Launch} {κ : gw_K} {cy : Nat → ClassId} {Z : gw_Z} {w : va_W} {n1 n2 pc : Nat} {lv : List (Option Value)} {st : List Value} {κ' : gw_K} {index n : Nat} {As stk : List Value} {post : gw_Q} {b ci : Nat} {q : vw_C} (hM : gw_M l κ' cy (.ref b :: As) w post) (hc : gw_calV κ' n) (hh : gw_has w b ci) (hq : vwCl[ci]? = some q) (hC : q.1 = κ'.1.cls) (hk : Cond.methodLink κ.1.cls index κ'.1 ∈ gw_All) (hn : As.length = n) (hs : stk = As.reverse ++ .ref b :: st) (hd : decode κ.2.1 pc = .ok (.invokevirtual index, 3)) (hR : κ'.2.2.2.1.frames + 1 ≤ κ.2.2.2.1.frames ∧ 8 + (κ'.2.2.1 + 11) + κ'.2.2.2.1.locals ≤ κ.2.2.2.1.locals) (hf : n1 + κ'.2.2.2.1.cells ≤ κ.2.2.2.1.cells ∧ n2 + κ'.2.2.2.1.slots ≤ κ.2.2.2.1.slots) (hr : (st.map fun v => v.category).sum ≤ 8) (k : ∀ (r : Option Value) (w' : va_W), post r w' → gw_W l κ cy Z w' (n1 + κ'.2.2.2.1.cells) (n2 + κ'.2.2.2.1.slots) (pc + 3) lv (r.toList ++ st)) : gw_W l κ cy Z w n1 n2 pc lv stk := by
  obtain ⟨fs, hm⟩ := hh
  obtain ⟨q0, he⟩ := List.getElem?_of_mem hm
  exact gw_callV q0 hM hc he hq hC hk hn hs hd hR hf hr k
theorem gw_callHN {l : Launch} {κ : gw_K} {cy : Nat → ClassId} {Z : gw_Z} {w : va_W} {n1 n2 pc : Nat} {lv : List (Option Value)} {st : List Value} {κ' : gw_K} {index n : Nat} {As stk : List Value} {post : gw_Q} {b ci : Nat} {q : vw_C} (hM : gw_M l κ' cy (.ref b :: As) w post) (hc : gw_calV κ' n) (hh : gw_has w b ci) (hq : vwCl[ci]? = some q) (hC : q.1 = κ'.1.cls) {host : String} (hk : Cond.methodLinkNest κ.1.cls index κ'.1 host ∈ gw_N) (hn : As.length = n) (hs : stk = As.reverse ++ .ref b :: st) (hd : decode κ.2.1 pc = .ok (.invokevirtual index, 3)) (hR : κ'.2.2.2.1.frames + 1 ≤ κ.2.2.2.1.frames ∧ 8 + (κ'.2.2.1 + 11) + κ'.2.2.2.1.locals ≤ κ.2.2.2.1.locals) (hf : n1 + κ'.2.2.2.1.cells ≤ κ.2.2.2.1.cells ∧ n2 + κ'.2.2.2.1.slots ≤ κ.2.2.2.1.slots) (hr : (st.map fun v => v.category).sum ≤ 8) (k : ∀ (r : Option Value) (w' : va_W), post r w' → gw_W l κ cy Z w' (n1 + κ'.2.2.2.1.cells) (n2 + κ'.2.2.2.1.slots) (pc + 3) lv (r.toList ++ st)) : gw_W l κ cy Z w n1 n2 pc lv stk := by
  obtain ⟨fs, hm⟩ := hh
  obtain ⟨q0, he⟩ := List.getElem?_of_mem hm
  exact gw_callVN q0 hM hc he hq hC hk hn hs hd hR hf hr k
theorem gw_M.lift {l : Launch} {κ : gw_K} {cy : Nat → ClassId} {av : List Value} {w w2 f : va_W} {post post' : gw_Q} (h : gw_M l κ cy av w post) (hw : w2.Perm (w ++ f)) (hp : ∀ r w1, post r w1 → post' r (w1 ++ f)) : gw_M l κ cy av w2 post' :=
  (h.frame hw).less (fun r w' hh => by obtain ⟨w1, h1, h2⟩ := hh; rw [h2]; exact hp r w1 h1)
def mxP (cy : Nat → ClassId) (a0 : Nat) (C : List sT) (w : va_W) : Prop := sOrd C ∧ ∃ (E : List sT) (a1 a2 a3 a4 a5 a6 : Nat) (kk : Nat → Int32) (nn : Nat → Int64) (k2 : Nat → Int32) (n2 : Nat → Int64) (sl su : Nat → Int32), E.Perm C ∧ w = xW cy a0 a1 a2 a3 a4 a5 a6 (nI E.length) (nI E.length) kk nn k2 n2 sl su ∧ mxE E kk nn sl su
theorem mxP_C {cy : Nat → ClassId} {a0 : Nat} {C : List sT} {w : va_W} (h : mxP cy a0 C w) : mxC cy a0 w := by
  obtain ⟨-, E, a1, a2, a3, a4, a5, a6, kk, nn, k2, n2, sl, su, -, hw, hE⟩ := h
  exact ⟨a1, a2, a3, a4, a5, a6, _, E.length, kk, nn, k2, n2, sl, su, hw, hsh_cl hE.1 hE.2.2.1⟩
theorem mxC_has {cy : Nat → ClassId} {a0 : Nat} {w : va_W} (h : mxC cy a0 w) : gw_has w a0 3 := by
  obtain ⟨a1, a2, a3, a4, a5, a6, sz, u, kk, nn, k2, n2, sl, su, rfl, -⟩ := h
  exact ⟨_, List.mem_cons_self ..⟩
theorem mxP_has {cy : Nat → ClassId} {a0 : Nat} {C : List sT} {w : va_W} (h : mxP cy a0 C w) : gw_has w a0 3 := mxC_has (mxP_C h)
theorem p_put (l : Launch) (cy : Nat → ClassId) (a0 : Nat) (C : List sT) (x : va_W) (k : Int32) (v : Int64) (h : mxP cy a0 C x) (hl : C.length < 900) : gw_M l kX4_put cy [.ref a0, .int k, .long v] x (fun r w' => r = none ∧ mxP cy a0 (sIns k v C) w') := by
  obtain ⟨ho, E, a1, a2, a3, a4, a5, a6, kk, nn, k2, n2, sl, su, hp, rfl, hE⟩ := h
  refine (c_xput l cy a0 a1 a2 a3 a4 a5 a6 kk nn k2 n2 sl su E k v hE (by rw [hp.length_eq]; exact hl)).less (fun r w' hh => ?_)
  obtain ⟨hr, kk', nn', sl', su', hw, hE'⟩ := hh
  exact ⟨hr, sIns_ord ho, _, a1, a2, a3, a4, a5, a6, kk', nn', k2, n2, sl', su', xPut_perm ho hp, hw, hE'⟩
theorem p_begin (l : Launch) (cy : Nat → ClassId) (a0 : Nat) (x : va_W) (h : mxC cy a0 x) : gw_M l kX4_begin cy [.ref a0] x (fun r w' => r = none ∧ mxP cy a0 [] w') := by
  obtain ⟨a1, a2, a3, a4, a5, a6, sz, u, kk, nn, k2, n2, sl, su, rfl, hc⟩ := h
  refine (c_xbegin l cy a0 a1 a2 a3 a4 a5 a6 kk nn k2 n2 sl su sz u hc).less (fun r w' hh => ?_)
  obtain ⟨hr, kk', nn', sl', su', hw, hE'⟩ := hh
  exact ⟨hr, List.Pairwise.nil, [], a1, a2, a3, a4, a5, a6, kk', nn', k2, n2, sl', su', List.Perm.refl _, hw, hE'⟩
theorem p_settle (l : Launch) (cy : Nat → ClassId) (a0 s0 s1 s2 : Nat) (C : List sT) (x : va_W) (sz : Int32) (sk : Nat → Int32) (sn : Nat → Int64) (h : mxP cy a0 C x) (hm : noMin C) : gw_M l kX4_settle cy [.ref a0, .ref s0] (x ++ sW3 cy s0 s1 s2 sz sk sn) (qx_set cy a0 s0 s1 s2 C sz sk sn) := by
  obtain ⟨ho, E, a1, a2, a3, a4, a5, a6, kk, nn, k2, n2, sl, su, hp, rfl, hE⟩ := h
  exact c_xsettle l cy a0 a1 a2 a3 a4 a5 a6 kk nn k2 n2 sl su s0 s1 s2 sz sk sn E.length E.length C hE.1 (hsh_cl hE.1 hE.2.2.1) (by rw [hE.2.1]; exact hp) ho hm
abbrev kX4_putSum : gw_K := (yX4_putSum, cX4_putSum, 4, { frames := 2, cells := 0, slots := 0, locals := 50 }, none)
theorem ok_X4_putSum : gw_calV kX4_putSum 2 := ⟨⟨wd_296, wd_58, by decide, by decide, by decide +kernel⟩, wd_295, wd_9⟩
set_option maxHeartbeats 4000000 in
set_option maxRecDepth 100000 in
theorem p_putSum (l : Launch) (cy : Nat → ClassId) (a0 s0 s1 s2 : Nat) (C : List sT) (x : va_W) (n : Nat) (sk : Nat → Int32) (sn : Nat → Int64) (ti : Int32) (hx : mxP cy a0 C x) (hn : n ≤ 300) (hC : C.length + n ≤ 900) : gw_M l kX4_putSum cy [.ref (a0), .ref (s0), .int (ti)] ((sW3 cy s0 s1 s2 (nI n) sk sn) ++ x) (fun r w' => r = none ∧ ∃ x', mxP cy a0 (sPuts C (sScale ti.toInt64 (takeS sk sn 0 n))) x' ∧ w' = (sW3 cy s0 s1 s2 (nI n) sk sn) ++ x') := by
  refine gw_M.mk (lv := [some (.ref (a0)), some (.ref (s0)), some (.int (ti)), none]) (by decide) (Nat.le_of_ble_eq_true rfl) rfl ?_
  generalize hpost : (fun r w' => r = none ∧ ∃ x', mxP cy a0 (sPuts C (sScale ti.toInt64 (takeS sk sn 0 n))) x' ∧ w' = (sW3 cy s0 s1 s2 (nI n) sk sn) ++ x' : gw_Q) = post
  refine gw_W.wd (w' := ([(s0, .inr (7, [.ref (s1), .ref (s2), .int (nI (n))])), (s1, .inl (cy 0, 300, .inl (sk))), (s2, .inl (cy 1, 300, .inr (.inl (sn))))] ++ x)) rfl ?_
  refine gw_iconst (v := nI (0)) dX4_putSum_0 (by decide) ?_
  refine gw_istore_n dX4_putSum_1 (by decide) rfl ?_
  have cut2 : ∀ (fu : Nat) (t : Nat) (x1 : va_W), (t ≤ n) → (mxP cy a0 (sPuts C (sScale ti.toInt64 (takeS sk sn 0 t))) x1) → (n - t) < fu → gw_W l kX4_putSum cy (gw_R kX4_putSum post) ([(s0, .inr (7, [.ref (s1), .ref (s2), .int (nI (n))])), (s1, .inl (cy 0, 300, .inl (sk))), (s2, .inl (cy 1, 300, .inr (.inl (sn))))] ++ x1) 0 0 2 [some (.ref (a0)), some (.ref (s0)), some (.int (ti)), some (.int (nI (t)))] [] := by
    intro fu
    induction fu with
    | zero => intro t x1 t1 t2 hfu; exact absurd hfu (Nat.not_lt_zero _)
    | succ fu ih2 =>
      intro t x1 t1 t2 hfu
      refine gw_iload_n dX4_putSum_2 rfl ?_
      refine gw_aload_n dX4_putSum_3 rfl ?_
      refine gw_getN (C0 := RX9) (T := TX9) (N := 3) (ref := RX9) 0 rfl rfl inX9 2 (by decide) (host := "SpinBench") (by decide +kernel) (Or.inl rfl) rfl dX4_putSum_4 ?_
      refine gw_icmpN_ge (tgt := 35) dX4_putSum_7 (by decide) (by omega) (by omega) (fun c7 => ?_) (fun c7 => ?_)
      · have e1 : t = n := by omega
        subst e1
        refine gw_vret (?_) (by decide) (by decide) rfl dX4_putSum_35
        subst hpost
        exact ⟨rfl, x1, t2, rfl⟩
      · refine gw_aload_n dX4_putSum_10 rfl ?_
        refine gw_aload_n dX4_putSum_11 rfl ?_
        refine gw_getN (C0 := RX9) (T := TX9) (N := 3) (ref := RX9) 0 rfl rfl inX9 0 (by decide) (host := "SpinBench") (by decide +kernel) (Or.inl rfl) rfl dX4_putSum_12 ?_
        refine gw_iload_n dX4_putSum_15 rfl ?_
        refine gw_iald 1 rfl (rfl) (by omega) (by decide) dX4_putSum_16 ?_
        refine gw_aload_n dX4_putSum_17 rfl ?_
        refine gw_getN (C0 := RX9) (T := TX9) (N := 3) (ref := RX9) 0 rfl rfl inX9 1 (by decide) (host := "SpinBench") (by decide +kernel) (Or.inl rfl) rfl dX4_putSum_18 ?_
        refine gw_iload_n dX4_putSum_21 rfl ?_
        refine gw_lald 2 rfl (rfl) (by omega) (by decide) dX4_putSum_22 ?_
        refine gw_iload_n dX4_putSum_23 rfl ?_
        refine gw_i2l dX4_putSum_24 rfl ?_
        refine gw_lmul dX4_putSum_25 ?_
        refine gw_topl (y := ti.toInt64 * sn t) (Int64.mul_comm _ _) ?_
        refine gw_callH (As := [.int (sk (t)), .long (ti.toInt64 * sn t)]) (st := []) ((p_put l cy a0 (sPuts C (sScale ti.toInt64 (takeS sk sn 0 t))) x1 (sk (t)) (ti.toInt64 * sn t) t2 (by
          have q2 := sPuts_len C (sScale ti.toInt64 (takeS sk sn 0 t))
          simp only [sScale, List.length_map, takeS_len] at q2
          simp only [sScale]; omega)).frame (f := [(s0, .inr (7, [.ref (s1), .ref (s2), .int (nI (n))])), (s1, .inl (cy 0, 300, .inl (sk))), (s2, .inl (cy 1, 300, .inr (.inl (sn))))]) List.perm_append_comm) ok_X4_put ((mxP_has t2).right) rfl rfl wd_297 rfl rfl dX4_putSum_26 (by decide) (by decide) (Nat.le_of_ble_eq_true rfl) (fun r26 w26 hp26 => ?_)
        obtain ⟨x26, ⟨rfl, hx26⟩, rfl⟩ := hp26
        refine gw_W.norm (st' := []) (k1 := 0) (k2 := 0) rfl rfl rfl ?_
        refine gw_W.perm (w' := ([(s0, .inr (7, [.ref (s1), .ref (s2), .int (nI (n))])), (s1, .inl (cy 0, 300, .inl (sk))), (s2, .inl (cy 1, 300, .inr (.inl (sn))))] ++ x26)) List.perm_append_comm ?_
        refine gw_iinc (v := nI (t + 1)) dX4_putSum_29 rfl (nI_add _ 1) (by decide) rfl ?_
        refine gw_goto (tgt := 2) dX4_putSum_32 (by decide) ?_
        refine ih2 (t + 1) (x26) (by omega) (by rw [takeS_snoc, sScale_snoc, sPuts_snoc]; rw [Nat.zero_add]; exact hx26) ?_
        omega
  refine cut2 _ (0) (x) (Nat.zero_le _) hx (Nat.lt_succ_self _)
def ptsP (k : Int32) (x : Nat) (v : Int64) : List sT := if k &&& mOneS (nI x) = 0 then [(k + mOneS (nI x), v)] else [(k - mOneS (nI x), v), (k - mOneS (nI x) + nI 2 * mOneC (nI x), -v)]
abbrev kX4_putTimesSine : gw_K := (yX4_putTimesSine, cX4_putTimesSine, 6, { frames := 2, cells := 0, slots := 0, locals := 50 }, none)
theorem ok_X4_putTimesSine : gw_calV kX4_putTimesSine 3 := ⟨⟨wd_394, wd_58, by decide, by decide, by decide +kernel⟩, wd_393, wd_21⟩
set_option maxHeartbeats 4000000 in
set_option maxRecDepth 100000 in
theorem p_putTimesSine (l : Launch) (cy : Nat → ClassId) (a0 : Nat) (C : List sT) (w : va_W) (k : Int32) (x : Nat) (v : Int64) (hx : mxP cy a0 C w) (hx4 : x < 4) (hl : C.length < 899) : gw_M l kX4_putTimesSine cy [.ref (a0), .int (k), .int (nI (x)), .long (v)] w (fun r w' => r = none ∧ mxP cy a0 (sPuts C (ptsP k x v)) w') := by
  refine gw_M.mk (lv := [some (.ref (a0)), some (.int (k)), some (.int (nI (x))), some (.long (v)), none, none]) (by decide) (Nat.le_of_ble_eq_true rfl) rfl ?_
  generalize hpost : (fun r w' => r = none ∧ mxP cy a0 (sPuts C (ptsP k x v)) w' : gw_Q) = post
  refine gw_iload_n dX4_putTimesSine_0 rfl ?_
  refine gw_callSN (As := [.int (nI (x))]) (st := []) (c_oneSine l cy (x) (by omega) w) ok_X11_oneSine (host := "SpinBench") (by decide +kernel) rfl rfl dX4_putTimesSine_1 (by decide) (by decide) (Nat.le_of_ble_eq_true rfl) (fun r1 w1 hp1 => ?_)
  obtain ⟨rfl, hw1⟩ := hp1
  rw [hw1]
  clear hw1 w1
  refine gw_W.norm (st' := [.int (mOneS (nI (x)))]) (k1 := 0) (k2 := 0) rfl rfl rfl ?_
  refine gw_istore dX4_putTimesSine_4 (by decide) rfl ?_
  refine gw_iload_n dX4_putTimesSine_6 rfl ?_
  refine gw_iload dX4_putTimesSine_7 rfl ?_
  refine gw_iand dX4_putTimesSine_9 ?_
  refine gw_if_ne (tgt := 25) dX4_putTimesSine_10 (by decide) (fun c10 => ?_) (fun c10 => ?_)
  · refine gw_aload_n dX4_putTimesSine_25 rfl ?_
    refine gw_iload_n dX4_putTimesSine_26 rfl ?_
    refine gw_iload dX4_putTimesSine_27 rfl ?_
    refine gw_isub dX4_putTimesSine_29 ?_
    refine gw_lload_n dX4_putTimesSine_30 rfl ?_
    refine gw_callH (As := [.int ((k) - (mOneS (nI (x)))), .long (v)]) (st := []) (p_put l cy a0 (C) w ((k) - (mOneS (nI (x)))) (v) hx (by omega)) ok_X4_put (mxP_has hx) rfl rfl wd_297 rfl rfl dX4_putTimesSine_31 (by decide) (by decide) (Nat.le_of_ble_eq_true rfl) (fun r31 w31 hp31 => ?_)
    obtain ⟨rfl, hx31⟩ := hp31
    refine gw_W.norm (st' := []) (k1 := 0) (k2 := 0) rfl rfl rfl ?_
    refine gw_aload_n dX4_putTimesSine_34 rfl ?_
    refine gw_iload_n dX4_putTimesSine_35 rfl ?_
    refine gw_iload dX4_putTimesSine_36 rfl ?_
    refine gw_isub dX4_putTimesSine_38 ?_
    refine gw_iconst (v := nI (2)) dX4_putTimesSine_39 (by decide) ?_
    refine gw_iload_n dX4_putTimesSine_40 rfl ?_
    refine gw_callSN (As := [.int (nI (x))]) (st := [.int (nI (2)), .int ((k) - (mOneS (nI (x)))), .ref (a0)]) (c_oneCosine l cy (x) (by omega) w31) ok_X11_oneCosine (host := "SpinBench") (by decide +kernel) rfl rfl dX4_putTimesSine_41 (by decide) (by decide) (Nat.le_of_ble_eq_true rfl) (fun r41 w41 hp41 => ?_)
    obtain ⟨rfl, hw41⟩ := hp41
    rw [hw41]
    clear hw41 w41
    refine gw_W.norm (st' := [.int (mOneC (nI (x))), .int (nI (2)), .int ((k) - (mOneS (nI (x)))), .ref (a0)]) (k1 := 0) (k2 := 0) rfl rfl rfl ?_
    refine gw_imul dX4_putTimesSine_44 ?_
    refine gw_iadd dX4_putTimesSine_45 ?_
    refine gw_lload_n dX4_putTimesSine_46 rfl ?_
    refine gw_lneg dX4_putTimesSine_47 ?_
    refine gw_callH (As := [.int (((k) - (mOneS (nI (x)))) + ((nI (2)) * (mOneC (nI (x))))), .long (-(v))]) (st := []) (p_put l cy a0 (sIns (k - mOneS (nI x)) v C) w31 (((k) - (mOneS (nI (x)))) + ((nI (2)) * (mOneC (nI (x))))) (-(v)) hx31 (by have := sIns_len (k - mOneS (nI x)) v C; omega)) ok_X4_put (mxP_has hx31) rfl rfl wd_297 rfl rfl dX4_putTimesSine_48 (by decide) (by decide) (Nat.le_of_ble_eq_true rfl) (fun r48 w48 hp48 => ?_)
    obtain ⟨rfl, hx48⟩ := hp48
    refine gw_W.norm (st' := []) (k1 := 0) (k2 := 0) rfl rfl rfl ?_
    refine gw_vret (?_) (by decide) (by decide) rfl dX4_putTimesSine_51
    subst hpost
    refine ⟨rfl, ?_⟩
    unfold ptsP
    first
      | (rw [if_pos c10]; exact hx19)
      | (rw [if_neg c10]; exact hx48)
  · refine gw_aload_n dX4_putTimesSine_13 rfl ?_
    refine gw_iload_n dX4_putTimesSine_14 rfl ?_
    refine gw_iload dX4_putTimesSine_15 rfl ?_
    refine gw_iadd dX4_putTimesSine_17 ?_
    refine gw_lload_n dX4_putTimesSine_18 rfl ?_
    refine gw_callH (As := [.int ((k) + (mOneS (nI (x)))), .long (v)]) (st := []) (p_put l cy a0 (C) w ((k) + (mOneS (nI (x)))) (v) hx (by omega)) ok_X4_put (mxP_has hx) rfl rfl wd_297 rfl rfl dX4_putTimesSine_19 (by decide) (by decide) (Nat.le_of_ble_eq_true rfl) (fun r19 w19 hp19 => ?_)
    obtain ⟨rfl, hx19⟩ := hp19
    refine gw_W.norm (st' := []) (k1 := 0) (k2 := 0) rfl rfl rfl ?_
    refine gw_goto (tgt := 51) dX4_putTimesSine_22 (by decide) ?_
    refine gw_vret (?_) (by decide) (by decide) rfl dX4_putTimesSine_51
    subst hpost
    refine ⟨rfl, ?_⟩
    unfold ptsP
    first
      | (rw [if_pos c10]; exact hx19)
      | (rw [if_neg c10]; exact hx48)
/-- the cells of sum i -/
def sF (cy : Nat → ClassId) (sa : Nat → Nat) (sz : Nat → Int32) (sk : Nat → Nat → Int32) (sn : Nat → Nat → Int64) (i : Nat) : va_W := sW3 cy (sa (3 * i)) (sa (3 * i + 1)) (sa (3 * i + 2)) (sz i) (sk i) (sn i)
def famW (n : Nat) (f : Nat → va_W) : va_W := (List.range n).flatMap f
def famX (n i : Nat) (f : Nat → va_W) : va_W := ((List.range n).erase i).flatMap f
theorem fam_out {n i : Nat} (f : Nat → va_W) (h : i < n) : (famW n f).Perm (f i ++ famX n i f) := by
  unfold famW famX
  have := (List.perm_cons_erase (List.mem_range.mpr h)).flatMap_right f
  rw [List.flatMap_cons] at this; exact this
theorem famX_congr {n i : Nat} {f g : Nat → va_W} (h : ∀ j, ¬ j = i → f j = g j) : famX n i f = famX n i g := by
  unfold famX
  rw [List.flatMap_def, List.flatMap_def]
  congr 1
  apply List.map_congr_left
  intro j hj
  exact h j (fun e => by rw [e] at hj; exact absurd hj (List.Nodup.not_mem_erase List.nodup_range))
def csR (cs : Nat → List sT) (sz : Nat → Int32) (sk : Nat → Nat → Int32) (sn : Nat → Nat → Int64) (n : Nat) : Prop := ∀ i, i < n → (cs i).length ≤ 300 ∧ sz i = nI (cs i).length ∧ takeS (sk i) (sn i) 0 (cs i).length = cs i
/-- the sums, and R beside them -/
def ssP (cy : Nat → ClassId) (sa : Nat → Nat) (cs : Nat → List sT) (w : va_W) : Prop := ∃ (sz : Nat → Int32) (sk : Nat → Nat → Int32) (sn : Nat → Nat → Int64), w.Perm (famW 18 (sF cy sa sz sk sn)) ∧ csR cs sz sk sn 18
theorem ssP_open {cy : Nat → ClassId} {sa : Nat → Nat} {cs : Nat → List sT} {w : va_W} (h : ssP cy sa cs w) {i : Nat} (hi : i < 18) : ∃ (sk : Nat → Int32) (sn : Nat → Int64) (R : va_W), w.Perm (sW3 cy (sa (3 * i)) (sa (3 * i + 1)) (sa (3 * i + 2)) (nI (cs i).length) sk sn ++ R) ∧ (cs i).length ≤ 300 ∧ takeS sk sn 0 (cs i).length = cs i ∧ ∀ (S : List sT) (sk' : Nat → Int32) (sn' : Nat → Int64) (w' : va_W), S.length ≤ 300 → takeS sk' sn' 0 S.length = S → w'.Perm (sW3 cy (sa (3 * i)) (sa (3 * i + 1)) (sa (3 * i + 2)) (nI S.length) sk' sn' ++ R) → ssP cy sa (va_up cs i S) w' := by
  obtain ⟨sz, sk, sn, hw, hc⟩ := h
  obtain ⟨c1, c2, c3⟩ := hc i hi
  refine ⟨sk i, sn i, famX 18 i (sF cy sa sz sk sn), ?_, c1, c3, fun S sk' sn' w' h1 h2 hp => ?_⟩
  · have := hw.trans (fam_out (sF cy sa sz sk sn) hi)
    rw [sF, c2] at this; exact this
  · refine ⟨va_up sz i (nI S.length), va_up sk i sk', va_up sn i sn', ?_, fun j hj => ?_⟩
    · refine hp.trans ?_
      refine List.Perm.trans ?_ (fam_out (sF cy sa (va_up sz i (nI S.length)) (va_up sk i sk') (va_up sn i sn')) hi).symm
      rw [famX_congr (f := sF cy sa sz sk sn) (g := sF cy sa (va_up sz i (nI S.length)) (va_up sk i sk') (va_up sn i sn')) (fun j hj => by unfold sF; rw [va_up_ne _ _ hj, va_up_ne _ _ hj, va_up_ne _ _ hj])]
      rw [sF, va_up_self, va_up_self, va_up_self]
    · by_cases e : j = i
      · subst e; rw [va_up_self, va_up_self, va_up_self, va_up_self]; exact ⟨h1, rfl, h2⟩
      · rw [va_up_ne _ _ e, va_up_ne _ _ e, va_up_ne _ _ e, va_up_ne _ _ e]; exact hc j hj
/-- a mixer that may begin, and the sums -/
def xsP (cy : Nat → ClassId) (a0 : Nat) (sa : Nat → Nat) (cs : Nat → List sT) (w : va_W) : Prop := ∃ x s, w.Perm (x ++ s) ∧ mxC cy a0 x ∧ ssP cy sa cs s
def xsQ (cy : Nat → ClassId) (a0 : Nat) (sa : Nat → Nat) (cs : Nat → List sT) (C : List sT) (w : va_W) : Prop := ∃ x s, w.Perm (x ++ s) ∧ mxP cy a0 C x ∧ ssP cy sa cs s
theorem xsQ_P {cy : Nat → ClassId} {a0 : Nat} {sa : Nat → Nat} {cs : Nat → List sT} {C : List sT} {w : va_W} (h : xsQ cy a0 sa cs C w) : xsP cy a0 sa cs w := by
  obtain ⟨x, s, h1, h2, h3⟩ := h; exact ⟨x, s, h1, mxP_C h2, h3⟩
theorem xsP_has {cy : Nat → ClassId} {a0 : Nat} {sa : Nat → Nat} {cs : Nat → List sT} {w : va_W} (h : xsP cy a0 sa cs w) : gw_has w a0 3 := by
  obtain ⟨x, s, h1, h2, h3⟩ := h; exact ((mxC_has h2).left).perm h1
theorem xsQ_has {cy : Nat → ClassId} {a0 : Nat} {sa : Nat → Nat} {cs : Nat → List sT} {C : List sT} {w : va_W} (h : xsQ cy a0 sa cs C w) : gw_has w a0 3 := xsP_has (xsQ_P h)
theorem s_begin (l : Launch) (cy : Nat → ClassId) (a0 : Nat) (sa : Nat → Nat) (cs : Nat → List sT) (w : va_W) (h : xsP cy a0 sa cs w) : gw_M l kX4_begin cy [.ref a0] w (fun r w' => r = none ∧ xsQ cy a0 sa cs [] w') := by
  obtain ⟨x, s, h1, h2, h3⟩ := h
  exact (p_begin l cy a0 x h2).lift h1 (fun r w1 hh => ⟨hh.1, w1, s, List.Perm.refl _, hh.2, h3⟩)
theorem s_put (l : Launch) (cy : Nat → ClassId) (a0 : Nat) (sa : Nat → Nat) (cs : Nat → List sT) (C : List sT) (w : va_W) (k : Int32) (v : Int64) (h : xsQ cy a0 sa cs C w) (hl : C.length < 900) : gw_M l kX4_put cy [.ref a0, .int k, .long v] w (fun r w' => r = none ∧ xsQ cy a0 sa cs (sIns k v C) w') := by
  obtain ⟨x, s, h1, h2, h3⟩ := h
  exact (p_put l cy a0 C x k v h2 hl).lift h1 (fun r w1 hh => ⟨hh.1, w1, s, List.Perm.refl _, hh.2, h3⟩)
theorem s_pts (l : Launch) (cy : Nat → ClassId) (a0 : Nat) (sa : Nat → Nat) (cs : Nat → List sT) (C : List sT) (w : va_W) (k : Int32) (x4 : Nat) (v : Int64) (h : xsQ cy a0 sa cs C w) (hx : x4 < 4) (hl : C.length < 899) : gw_M l kX4_putTimesSine cy [.ref a0, .int k, .int (nI x4), .long v] w (fun r w' => r = none ∧ xsQ cy a0 sa cs (sPuts C (ptsP k x4 v)) w') := by
  obtain ⟨x, s, h1, h2, h3⟩ := h
  exact (p_putTimesSine l cy a0 C x k x4 v h2 hx hl).lift h1 (fun r w1 hh => ⟨hh.1, w1, s, List.Perm.refl _, hh.2, h3⟩)
theorem perm_3a {α : Type} {w x s a r : List α} (h : w.Perm (x ++ s)) (g : s.Perm (a ++ r)) : w.Perm ((a ++ x) ++ r) :=
  h.trans ((g.append_left x).trans (by rw [← List.append_assoc]; exact List.perm_append_comm.append_right r))
theorem perm_3b {α : Type} {w x s a r : List α} (h : w.Perm (x ++ s)) (g : s.Perm (a ++ r)) : w.Perm ((x ++ a) ++ r) :=
  h.trans ((g.append_left x).trans (by rw [← List.append_assoc]))
theorem s_putSum (l : Launch) (cy : Nat → ClassId) (a0 : Nat) (sa : Nat → Nat) (cs : Nat → List sT) (C : List sT) (w : va_W) (i : Nat) (ti : Int32) (h : xsQ cy a0 sa cs C w) (hi : i < 18) (hC : C.length + (cs i).length ≤ 900) : gw_M l kX4_putSum cy [.ref a0, .ref (sa (3 * i)), .int ti] w (fun r w' => r = none ∧ xsQ cy a0 sa cs (sPuts C (sScale ti.toInt64 (cs i))) w') := by
  obtain ⟨x, s, h1, h2, h3⟩ := h
  obtain ⟨sk, sn, R, g1, g2, g3, g4⟩ := ssP_open h3 hi
  refine (p_putSum l cy a0 _ _ _ C x (cs i).length sk sn ti h2 g2 hC).lift (perm_3a h1 g1) (fun r w1 hh => ?_)
  obtain ⟨hr, x', hx', rfl⟩ := hh
  rw [g3] at hx'
  refine ⟨hr, x', s, ?_, hx', h3⟩
  exact (perm_3a (List.Perm.refl _) g1).symm
theorem s_settle (l : Launch) (cy : Nat → ClassId) (a0 : Nat) (sa : Nat → Nat) (cs : Nat → List sT) (C : List sT) (w : va_W) (i : Nat) (h : xsQ cy a0 sa cs C w) (hi : i < 18) (hm : noMin C) : gw_M l kX4_settle cy [.ref a0, .ref (sa (3 * i))] w (fun r w' => r = some (.int (bI (keepS C).isSome)) ∧ xsP cy a0 sa (match keepS C with | some S => va_up cs i S | none => cs) w') := by
  obtain ⟨x, s, h1, h2, h3⟩ := h
  obtain ⟨sk, sn, R, g1, g2, g3, g4⟩ := ssP_open h3 hi
  refine (p_settle l cy a0 _ _ _ C x _ sk sn h2 hm).lift (perm_3b h1 g1) (fun r w1 hh => ?_)
  obtain ⟨hr, x', hx', z, kz, nz', rfl, q1, q2⟩ := hh
  refine ⟨hr, ?_⟩
  cases hF : keepS C with
  | none =>
    obtain ⟨e1, e2, e3⟩ := q1 hF
    subst e1; subst e2; subst e3
    refine ⟨x', _, by rw [List.append_assoc], hx', ?_⟩
    obtain ⟨sz, sk0, sn0, y1, y2⟩ := h3
    exact ⟨sz, sk0, sn0, g1.symm.trans y1, y2⟩
  | some S =>
    obtain ⟨e1, e2⟩ := q2 S hF
    refine ⟨x', _, by rw [List.append_assoc], hx', ?_⟩
    exact g4 S kz nz' _ (keepS_some hF).2 e2 (by rw [e1])
