/-! what the class's ops do -/
theorem bit1 {y : Int32} (h : ¬ y &&& nI 1 = 0) : y &&& nI 1 = nI 1 := by
  have e2 : (nI 1).toBitVec.toNat = 1 := by decide
  have h1 : (y &&& nI 1).toBitVec.toNat ≤ 1 := by
    rw [Int32.toBitVec_and, BitVec.toNat_and, e2]; exact Nat.and_le_right
  rcases Nat.lt_or_ge (y &&& nI 1).toBitVec.toNat 1 with g | g
  · refine absurd ?_ h
    refine Int32.toBitVec_inj.mp (BitVec.eq_of_toNat_eq ?_)
    rw [show (0 : Int32).toBitVec.toNat = 0 from by decide]; omega
  · refine Int32.toBitVec_inj.mp (BitVec.eq_of_toNat_eq ?_)
    rw [e2]; omega
theorem bit_lt : ∀ n, n < 5 → ∀ m, m < 16 → m < 2 ^ n → ∀ s, s < 4 → (nI m >>> (nI s &&& 31)) &&& nI 1 = nI 1 → s < n := by decide +kernel
theorem p16 {n : Nat} (h : n ≤ 4) : 2 ^ n ≤ 16 := by
  have : 2 ^ n ≤ 2 ^ 4 := Nat.pow_le_pow_right (by decide) h
  omega
theorem qS_ok {n g q : Nat} {S : List sT} (hn : n ≤ 4) (hg : g < 4 ^ n) (hS : sOK n S) : sOK n (qS n g q S) := by
  obtain ⟨S', h⟩ := quart_keep q hn hg hS
  obtain ⟨jo, jk⟩ := quartC_ok (q := q) hn hg (fun x hx => (hS.2.2 x hx).2.2)
  unfold qS
  rw [h]
  exact keepS_ok jo jk h
theorem plS_ext {n m f t : Nat} {S : List sT} (hn : n ≤ 4) (hm : m < 2 ^ n) : ∀ d, n + d ≤ 4 → plS n (nI m) f t S (n + d) = plS n (nI m) f t S n := by
  intro d
  induction d with
  | zero => intro _; rfl
  | succ d ih =>
    intro h
    rw [← Nat.add_assoc, plS, if_neg (fun e => by have := p16 hn; have := bit_lt n (by omega) m (by omega) hm (n + d) (by omega) e; omega)]
    exact ih (by omega)
theorem plS_4 {n m f t : Nat} {S : List sT} (hn : n ≤ 4) (hm : m < 2 ^ n) : plS n (nI m) f t S 4 = plS n (nI m) f t S n := by
  have := plS_ext (f := f) (t := t) (S := S) hn hm (4 - n) (by omega)
  rw [show n + (4 - n) = 4 by omega] at this
  exact this
theorem plS_ok {n m f t : Nat} {S : List sT} (hn : n ≤ 4) (hm : m < 2 ^ n) (hS : sOK n S) : ∀ s, s ≤ 4 → sOK n (plS n (nI m) f t S s) := by
  intro s
  induction s with
  | zero => intro _; exact hS
  | succ s ih =>
    intro h
    rw [plS]
    split
    · rename_i e
      have := p16 hn
      exact qS_ok hn (ax_lt4 (axF_le f) (bit_lt n (by omega) m (by omega) hm s (by omega) e)) (ih (by omega))
    · exact ih (by omega)
theorem and1 : ∀ f, f < 4 → nI f &&& nI 1 = nI (f % 2) := by decide
theorem and3 : ∀ t, t < 4 → nI (4 - t) &&& nI 3 = nI ((4 - t) % 4) := by decide
theorem cy_and {p v : Int32} : (p + v) &&& nI 3 = nI (cyF p v) := by
  have e2 : (nI 3).toBitVec.toNat = 2 ^ 2 - 1 := by decide
  have h1 : ((p + v) &&& nI 3).toBitVec.toNat = (p + v).toBitVec.toNat % 4 := by
    rw [Int32.toBitVec_and, BitVec.toNat_and, e2, Nat.and_two_pow_sub_one_eq_mod]
  have h2 : (p + v).toBitVec.toNat % 4 = cyF p v := by
    have e3 : (p + v).toInt = (p.toInt + v.toInt).bmod (2 ^ 32) := Int32.toInt_add p v
    have e4 : (p + v).toInt % 4 = (p.toInt + v.toInt) % 4 := by
      rw [e3, Int.bmod_def]
      have : ((2 ^ 32 : Nat) : Int) = 4 * 1073741824 := by decide
      rw [this]
      split <;> omega
    have e5 : (p + v).toInt = (p + v).toBitVec.toInt := rfl
    rw [BitVec.toInt_eq_toNat_cond] at e5
    unfold cyF
    rw [← e4]
    have : ((2 ^ 32 : Nat) : Int) = 4 * 1073741824 := by decide
    split at e5 <;> omega
  refine Int32.toBitVec_inj.mp (BitVec.eq_of_toNat_eq ?_)
  rw [h1, h2]
  have := cyF_lt p v
  rcases (show cyF p v = 0 ∨ cyF p v = 1 ∨ cyF p v = 2 ∨ cyF p v = 3 by omega) with e | e | e | e <;> rw [e] <;> decide
theorem va_up_eq {α : Type} {f : Nat → α} {k : Nat} : va_up f k (f k) = f := by
  funext j
  by_cases e : j = k
  · subst e; rw [va_up_self]
  · rw [va_up_ne _ _ e]
abbrev kX6_turnSpins : gw_K := (yX6_turnSpins, cX6_turnSpins, 6, { frames := 4, cells := 0, slots := 0, locals := 111 }, (some .int))
theorem okB_X6_turnSpins : gw_calB kX6_turnSpins 2 := ⟨wd_752, wd_68, by decide, by decide, by decide +kernel⟩
set_option maxHeartbeats 4000000 in
set_option maxRecDepth 100000 in
theorem c_tsp_4 (l : Launch) (cy : Nat → ClassId) (ad sa ta : Nat → Nat) (n ln bb : Nat) (nx sd lb lf : Int32) (lo : Option Nat) (pg : Nat → Option Nat) (bo : Nat → Int32) (xs T : va_W) (cs : Nat → List sT) (a : Nat) (p : Int32) (ar : Option Nat) (x y : Int32) (t f m : Nat) (c9 : Int32) (hm : (a, .inr (4, [.int (p), va_rf (ar), .int (x), .int (y), .int (nI (t))])) ∈ T) (hxs : xsP cy (ad 4) sa cs xs) (hn4 : 1 ≤ n ∧ n ≤ 4) (hS : sOK n (cs 0)) (hx : x = nI m) (hmn : m < 2 ^ n) (hf : f < 4) (ht : t < 4) : gw_M l kX6_turnSpins cy [.ref (a), .ref (ad 0), .int (nI (f))] (bW cy ad sa ta n ln bb nx sd lb lf lo pg bo ++ (xs ++ T)) (fun r w' => r = some (.int (nI 0)) ∧ ∃ x', xsP cy (ad 4) sa (va_up cs 0 (plS n x f t (cs 0) n)) x' ∧ w' = bW cy ad sa ta n ln bb nx sd lb lf lo pg bo ++ (x' ++ T)) := by
  refine gw_M.mk (lv := [some (.ref (a)), some (.ref (ad 0)), some (.int (nI (f))), none, none, none]) (by decide) (Nat.le_of_ble_eq_true rfl) rfl ?_
  generalize hpost : (fun r w' => r = some (.int (nI 0)) ∧ ∃ x', xsP cy (ad 4) sa (va_up cs 0 (plS n x f t (cs 0) n)) x' ∧ w' = bW cy ad sa ta n ln bb nx sd lb lf lo pg bo ++ (x' ++ T) : gw_Q) = post
  refine gw_W.wd (w' := ([(ad 0, .inr (9, [.int (nI (n)), .ref (ad 1), .ref (ad 2), .ref (sa (3 * 0)), .ref (ad 4), .ref (ad 5), .ref (ad 6), .int (nI (ln)), va_rf (lo), .int (nx), .int (sd), .int (lb), .ref (ad 12), .int (nI (bb)), .int (lf)])), (ad 1, .inl (cy 3, 9, .inr (.inr (.inr (.inr (fun i => some (sa (3 * i)))))))), (ad 2, .inl (cy 3, 9, .inr (.inr (.inr (.inr (fun i => some (sa (3 * (9 + i))))))))), (ad 5, .inl (cy 4, 8, .inr (.inr (.inr (.inr (fun i => some (ta (2 * i)))))))), (ad 6, .inl (cy 2, 40, .inr (.inr (.inr (.inr (pg)))))), (ad 12, .inl (cy 0, 16, .inl (bo)))] ++ (xs ++ T))) rfl ?_
  have cut37 : ∀ (fu : Nat) (s : Nat) (x1 : va_W), (s ≤ 4) → (xsP cy (ad 4) sa (va_up cs 0 (plS n x f t (cs 0) s)) x1) → (sOK n (plS n x f t (cs 0) s)) → (4 - s) < fu → gw_W l kX6_turnSpins cy (gw_R kX6_turnSpins post) ([(ad 0, .inr (9, [.int (nI (n)), .ref (ad 1), .ref (ad 2), .ref (sa (3 * 0)), .ref (ad 4), .ref (ad 5), .ref (ad 6), .int (nI (ln)), va_rf (lo), .int (nx), .int (sd), .int (lb), .ref (ad 12), .int (nI (bb)), .int (lf)])), (ad 1, .inl (cy 3, 9, .inr (.inr (.inr (.inr (fun i => some (sa (3 * i)))))))), (ad 2, .inl (cy 3, 9, .inr (.inr (.inr (.inr (fun i => some (sa (3 * (9 + i))))))))), (ad 5, .inl (cy 4, 8, .inr (.inr (.inr (.inr (fun i => some (ta (2 * i)))))))), (ad 6, .inl (cy 2, 40, .inr (.inr (.inr (.inr (pg)))))), (ad 12, .inl (cy 0, 16, .inl (bo)))] ++ (x1 ++ T)) 0 0 37 [some (.ref (a)), some (.ref (ad 0)), some (.int (nI (f))), some (.int (nI (axF f))), some (.int (nI (quF f t))), some (.int (nI (s)))] [] := by
    intro fu
    induction fu with
    | zero => intro s x1 h1 h2 h3 hfu; exact absurd hfu (Nat.not_lt_zero _)
    | succ fu ih37 =>
      intro s x1 h1 h2 h3 hfu
      refine gw_iload dX6_turnSpins_37 rfl ?_
      refine gw_iconst (v := nI (4)) dX6_turnSpins_39 (by decide) ?_
      refine gw_icmpN_ge (tgt := 79) dX6_turnSpins_40 (by decide) (by omega) (by omega) (fun c40 => ?_) (fun c40 => ?_)
      · obtain rfl : s = 4 := by omega
        refine gw_iconst (v := nI (0)) dX6_turnSpins_79 (by decide) ?_
        refine gw_iret (?_) (by decide) (by decide) rfl dX6_turnSpins_80
        subst hpost
        refine ⟨rfl, x1, ?_, rfl⟩
        rw [hx, ← plS_4 hn4.2 hmn, ← hx]
        exact h2
      · refine gw_aload_n dX6_turnSpins_43 rfl ?_
        refine gw_getM (C0 := RX6) (T := TX6) (N := 5) (ref := RX6) (List.mem_append_right _ (List.mem_append_right _ hm)) rfl inX6 2 (by decide) wd_477 (Or.inl rfl) rfl dX6_turnSpins_44 ?_
        refine gw_iload dX6_turnSpins_47 rfl ?_
        refine gw_ishr dX6_turnSpins_49 ?_
        refine gw_iconst (v := nI (1)) dX6_turnSpins_50 (by decide) ?_
        refine gw_iand dX6_turnSpins_51 ?_
        refine gw_if_eq (tgt := 73) dX6_turnSpins_52 (by decide) (fun c52 => ?_) (fun c52 => ?_)
        · have hz : plS n x f t (cs 0) (s + 1) = plS n x f t (cs 0) s := by rw [plS, if_neg (by rw [c52]; decide)]
          have hz2 : xsP cy (ad 4) sa (va_up cs 0 (plS n x f t (cs 0) (s + 1))) x1 := by rw [hz]; exact h2
          have hz3 : sOK n (plS n x f t (cs 0) (s + 1)) := by rw [hz]; exact h3
          refine gw_iinc (v := nI (s + 1)) dX6_turnSpins_73 rfl (nI_add _ 1) (by decide) rfl ?_
          refine gw_goto (tgt := 37) dX6_turnSpins_76 (by decide) ?_
          refine ih37 (s + 1) (x1) (by omega) hz2 hz3 ?_
          omega
        · have b1 := bit1 c52
          have sn : s < n := by
            have h16 := p16 hn4.2
            refine bit_lt n (by omega) m (by omega) hmn s (by omega) ?_
            rw [← hx]; exact b1
          refine gw_aload_n dX6_turnSpins_55 rfl ?_
          refine gw_iload_n dX6_turnSpins_56 rfl ?_
          refine gw_iconst (v := nI (2)) dX6_turnSpins_57 (by decide) ?_
          refine gw_iload dX6_turnSpins_58 rfl ?_
          refine gw_imulN dX6_turnSpins_60 ?_
          refine gw_ishl dX6_turnSpins_61 ?_
          refine gw_topi (y := nI (axF f * 4 ^ s)) (shl_ax (axF_le f) (by omega)) ?_
          refine gw_iload dX6_turnSpins_62 rfl ?_
          refine gw_W.wd (w' := bW cy ad sa ta n ln bb nx sd lb lf lo pg bo ++ (x1 ++ T)) rfl ?_
          refine gw_callVN 0 (As := [.int (nI (axF f * 4 ^ s)), .int (nI (quF f t))]) (st := []) (b_turnQ l cy ad sa ta n ln bb nx sd lb lf lo pg bo x1 T (va_up cs 0 (plS n x f t (cs 0) s)) (axF f * 4 ^ s) (quF f t) h2 hn4 (by rw [va_up_self]; exact h3) (ax_lt4 (axF_le f) sn) (quF_lt ht)) ok_X11_turnByQuarters rfl rfl rfl (host := "SpinBench") (by decide +kernel) rfl rfl dX6_turnSpins_64 (by decide) (by decide) (Nat.le_of_ble_eq_true rfl) (fun r64 w64 hp64 => ?_)
          obtain ⟨rfl, x2, hx2, rfl⟩ := hp64
          rw [va_up2, va_up_self] at hx2
          have hz : plS n x f t (cs 0) (s + 1) = qS n (axF f * 4 ^ s) (quF f t) (plS n x f t (cs 0) s) := by rw [plS, if_pos b1]
          have hz2 : xsP cy (ad 4) sa (va_up cs 0 (plS n x f t (cs 0) (s + 1))) x2 := by rw [hz]; exact hx2
          have hz3 : sOK n (plS n x f t (cs 0) (s + 1)) := by rw [hz]; exact qS_ok hn4.2 (ax_lt4 (axF_le f) sn) h3
          refine gw_W.norm (st' := [.int (nI (1))]) (k1 := 0) (k2 := 0) rfl rfl rfl ?_
          refine gw_W.wd (w' := ([(ad 0, .inr (9, [.int (nI (n)), .ref (ad 1), .ref (ad 2), .ref (sa (3 * 0)), .ref (ad 4), .ref (ad 5), .ref (ad 6), .int (nI (ln)), va_rf (lo), .int (nx), .int (sd), .int (lb), .ref (ad 12), .int (nI (bb)), .int (lf)])), (ad 1, .inl (cy 3, 9, .inr (.inr (.inr (.inr (fun i => some (sa (3 * i)))))))), (ad 2, .inl (cy 3, 9, .inr (.inr (.inr (.inr (fun i => some (sa (3 * (9 + i))))))))), (ad 5, .inl (cy 4, 8, .inr (.inr (.inr (.inr (fun i => some (ta (2 * i)))))))), (ad 6, .inl (cy 2, 40, .inr (.inr (.inr (.inr (pg)))))), (ad 12, .inl (cy 0, 16, .inl (bo)))] ++ (x2 ++ T))) rfl ?_
          refine gw_ifN_ne (tgt := 73) dX6_turnSpins_67 (by decide) (by omega) (fun _ => ?_) (fun h => absurd h (by decide))
          refine gw_iinc (v := nI (s + 1)) dX6_turnSpins_73 rfl (nI_add _ 1) (by decide) rfl ?_
          refine gw_goto (tgt := 37) dX6_turnSpins_76 (by decide) ?_
          refine ih37 (s + 1) (x2) (by omega) hz2 hz3 ?_
          omega
  refine gw_iload_n dX6_turnSpins_0 rfl ?_
  refine gw_iconst (v := nI (1)) dX6_turnSpins_1 (by decide) ?_
  refine gw_iand dX6_turnSpins_2 ?_
  refine gw_topi (y := nI (f % 2)) (and1 f hf) ?_
  refine gw_ifN_ne (tgt := 10) dX6_turnSpins_3 (by decide) (by omega) (fun c3 => ?_) (fun c3 => ?_)
  · refine gw_iconst (v := nI (2)) dX6_turnSpins_10 (by decide) ?_
    refine gw_topi (y := nI (axF f)) (by rw [axF, if_neg c3]) ?_
    refine gw_istore_n dX6_turnSpins_11 (by decide) rfl ?_
    refine gw_iload_n dX6_turnSpins_12 rfl ?_
    refine gw_iconst (v := nI (2)) dX6_turnSpins_13 (by decide) ?_
    refine gw_icmpN_ge (tgt := 24) dX6_turnSpins_14 (by decide) (by omega) (by omega) (fun c14 => ?_) (fun c14 => ?_)
    · refine gw_iconst (v := nI (4)) dX6_turnSpins_24 (by decide) ?_
      refine gw_aload_n dX6_turnSpins_25 rfl ?_
      refine gw_getM (C0 := RX6) (T := TX6) (N := 5) (ref := RX6) (List.mem_append_right _ (List.mem_append_right _ hm)) rfl inX6 4 (by decide) wd_482 (Or.inl rfl) rfl dX6_turnSpins_26 ?_
      refine gw_isubN dX6_turnSpins_29 (by omega) ?_
      refine gw_iconst (v := nI (3)) dX6_turnSpins_30 (by decide) ?_
      refine gw_iand dX6_turnSpins_31 ?_
      refine gw_topi (y := nI (quF f t)) (by rw [quF, if_neg (by omega)]; exact and3 t ht) ?_
      refine gw_istore dX6_turnSpins_32 (by decide) rfl ?_
      refine gw_iconst (v := nI (0)) dX6_turnSpins_34 (by decide) ?_
      refine gw_istore dX6_turnSpins_35 (by decide) rfl ?_
      refine cut37 _ (0) (xs) (Nat.zero_le _) (by rw [plS, va_up_eq]; exact hxs) hS (Nat.lt_succ_self _)
    · refine gw_aload_n dX6_turnSpins_17 rfl ?_
      refine gw_getM (C0 := RX6) (T := TX6) (N := 5) (ref := RX6) (List.mem_append_right _ (List.mem_append_right _ hm)) rfl inX6 4 (by decide) wd_482 (Or.inl rfl) rfl dX6_turnSpins_18 ?_
      refine gw_topi (y := nI (quF f t)) (by rw [quF, if_pos (by omega)]) ?_
      refine gw_goto (tgt := 32) dX6_turnSpins_21 (by decide) ?_
      refine gw_istore dX6_turnSpins_32 (by decide) rfl ?_
      refine gw_iconst (v := nI (0)) dX6_turnSpins_34 (by decide) ?_
      refine gw_istore dX6_turnSpins_35 (by decide) rfl ?_
      refine cut37 _ (0) (xs) (Nat.zero_le _) (by rw [plS, va_up_eq]; exact hxs) hS (Nat.lt_succ_self _)
  · refine gw_iconst (v := nI (1)) dX6_turnSpins_6 (by decide) ?_
    refine gw_topi (y := nI (axF f)) (by rw [axF, if_pos c3]) ?_
    refine gw_goto (tgt := 11) dX6_turnSpins_7 (by decide) ?_
    refine gw_istore_n dX6_turnSpins_11 (by decide) rfl ?_
    refine gw_iload_n dX6_turnSpins_12 rfl ?_
    refine gw_iconst (v := nI (2)) dX6_turnSpins_13 (by decide) ?_
    refine gw_icmpN_ge (tgt := 24) dX6_turnSpins_14 (by decide) (by omega) (by omega) (fun c14 => ?_) (fun c14 => ?_)
    · refine gw_iconst (v := nI (4)) dX6_turnSpins_24 (by decide) ?_
      refine gw_aload_n dX6_turnSpins_25 rfl ?_
      refine gw_getM (C0 := RX6) (T := TX6) (N := 5) (ref := RX6) (List.mem_append_right _ (List.mem_append_right _ hm)) rfl inX6 4 (by decide) wd_482 (Or.inl rfl) rfl dX6_turnSpins_26 ?_
      refine gw_isubN dX6_turnSpins_29 (by omega) ?_
      refine gw_iconst (v := nI (3)) dX6_turnSpins_30 (by decide) ?_
      refine gw_iand dX6_turnSpins_31 ?_
      refine gw_topi (y := nI (quF f t)) (by rw [quF, if_neg (by omega)]; exact and3 t ht) ?_
      refine gw_istore dX6_turnSpins_32 (by decide) rfl ?_
      refine gw_iconst (v := nI (0)) dX6_turnSpins_34 (by decide) ?_
      refine gw_istore dX6_turnSpins_35 (by decide) rfl ?_
      refine cut37 _ (0) (xs) (Nat.zero_le _) (by rw [plS, va_up_eq]; exact hxs) hS (Nat.lt_succ_self _)
    · refine gw_aload_n dX6_turnSpins_17 rfl ?_
      refine gw_getM (C0 := RX6) (T := TX6) (N := 5) (ref := RX6) (List.mem_append_right _ (List.mem_append_right _ hm)) rfl inX6 4 (by decide) wd_482 (Or.inl rfl) rfl dX6_turnSpins_18 ?_
      refine gw_topi (y := nI (quF f t)) (by rw [quF, if_pos (by omega)]) ?_
      refine gw_goto (tgt := 32) dX6_turnSpins_21 (by decide) ?_
      refine gw_istore dX6_turnSpins_32 (by decide) rfl ?_
      refine gw_iconst (v := nI (0)) dX6_turnSpins_34 (by decide) ?_
      refine gw_istore dX6_turnSpins_35 (by decide) rfl ?_
      refine cut37 _ (0) (xs) (Nat.zero_le _) (by rw [plS, va_up_eq]; exact hxs) hS (Nat.lt_succ_self _)
set_option maxHeartbeats 4000000 in
set_option maxRecDepth 100000 in
theorem c_tsp_0 (l : Launch) (cy : Nat → ClassId) (ad sa ta : Nat → Nat) (n ln bb : Nat) (nx sd lb lf : Int32) (lo : Option Nat) (pg : Nat → Option Nat) (bo : Nat → Int32) (xs T : va_W) (cs : Nat → List sT) (a : Nat) (p : Int32) (ar : Option Nat) (x y : Int32) (t f m : Nat) (c9 : Int32) (hm : (a, .inr (0, [.int (x), .int (y), .int (nI (t)), .int (p), va_rf (ar), .int (c9)])) ∈ T) (hxs : xsP cy (ad 4) sa cs xs) (hn4 : 1 ≤ n ∧ n ≤ 4) (hS : sOK n (cs 0)) (hx : x = nI m) (hmn : m < 2 ^ n) (hf : f < 4) (ht : t < 4) : gw_M l kX6_turnSpins cy [.ref (a), .ref (ad 0), .int (nI (f))] (bW cy ad sa ta n ln bb nx sd lb lf lo pg bo ++ (xs ++ T)) (fun r w' => r = some (.int (nI 0)) ∧ ∃ x', xsP cy (ad 4) sa (va_up cs 0 (plS n x f t (cs 0) n)) x' ∧ w' = bW cy ad sa ta n ln bb nx sd lb lf lo pg bo ++ (x' ++ T)) := by
  refine gw_M.mk (lv := [some (.ref (a)), some (.ref (ad 0)), some (.int (nI (f))), none, none, none]) (by decide) (Nat.le_of_ble_eq_true rfl) rfl ?_
  generalize hpost : (fun r w' => r = some (.int (nI 0)) ∧ ∃ x', xsP cy (ad 4) sa (va_up cs 0 (plS n x f t (cs 0) n)) x' ∧ w' = bW cy ad sa ta n ln bb nx sd lb lf lo pg bo ++ (x' ++ T) : gw_Q) = post
  refine gw_W.wd (w' := ([(ad 0, .inr (9, [.int (nI (n)), .ref (ad 1), .ref (ad 2), .ref (sa (3 * 0)), .ref (ad 4), .ref (ad 5), .ref (ad 6), .int (nI (ln)), va_rf (lo), .int (nx), .int (sd), .int (lb), .ref (ad 12), .int (nI (bb)), .int (lf)])), (ad 1, .inl (cy 3, 9, .inr (.inr (.inr (.inr (fun i => some (sa (3 * i)))))))), (ad 2, .inl (cy 3, 9, .inr (.inr (.inr (.inr (fun i => some (sa (3 * (9 + i))))))))), (ad 5, .inl (cy 4, 8, .inr (.inr (.inr (.inr (fun i => some (ta (2 * i)))))))), (ad 6, .inl (cy 2, 40, .inr (.inr (.inr (.inr (pg)))))), (ad 12, .inl (cy 0, 16, .inl (bo)))] ++ (xs ++ T))) rfl ?_
  have cut37 : ∀ (fu : Nat) (s : Nat) (x1 : va_W), (s ≤ 4) → (xsP cy (ad 4) sa (va_up cs 0 (plS n x f t (cs 0) s)) x1) → (sOK n (plS n x f t (cs 0) s)) → (4 - s) < fu → gw_W l kX6_turnSpins cy (gw_R kX6_turnSpins post) ([(ad 0, .inr (9, [.int (nI (n)), .ref (ad 1), .ref (ad 2), .ref (sa (3 * 0)), .ref (ad 4), .ref (ad 5), .ref (ad 6), .int (nI (ln)), va_rf (lo), .int (nx), .int (sd), .int (lb), .ref (ad 12), .int (nI (bb)), .int (lf)])), (ad 1, .inl (cy 3, 9, .inr (.inr (.inr (.inr (fun i => some (sa (3 * i)))))))), (ad 2, .inl (cy 3, 9, .inr (.inr (.inr (.inr (fun i => some (sa (3 * (9 + i))))))))), (ad 5, .inl (cy 4, 8, .inr (.inr (.inr (.inr (fun i => some (ta (2 * i)))))))), (ad 6, .inl (cy 2, 40, .inr (.inr (.inr (.inr (pg)))))), (ad 12, .inl (cy 0, 16, .inl (bo)))] ++ (x1 ++ T)) 0 0 37 [some (.ref (a)), some (.ref (ad 0)), some (.int (nI (f))), some (.int (nI (axF f))), some (.int (nI (quF f t))), some (.int (nI (s)))] [] := by
    intro fu
    induction fu with
    | zero => intro s x1 h1 h2 h3 hfu; exact absurd hfu (Nat.not_lt_zero _)
    | succ fu ih37 =>
      intro s x1 h1 h2 h3 hfu
      refine gw_iload dX6_turnSpins_37 rfl ?_
      refine gw_iconst (v := nI (4)) dX6_turnSpins_39 (by decide) ?_
      refine gw_icmpN_ge (tgt := 79) dX6_turnSpins_40 (by decide) (by omega) (by omega) (fun c40 => ?_) (fun c40 => ?_)
      · obtain rfl : s = 4 := by omega
        refine gw_iconst (v := nI (0)) dX6_turnSpins_79 (by decide) ?_
        refine gw_iret (?_) (by decide) (by decide) rfl dX6_turnSpins_80
        subst hpost
        refine ⟨rfl, x1, ?_, rfl⟩
        rw [hx, ← plS_4 hn4.2 hmn, ← hx]
        exact h2
      · refine gw_aload_n dX6_turnSpins_43 rfl ?_
        refine gw_getM (C0 := RX0) (T := TX0) (N := 6) (ref := RX6) (List.mem_append_right _ (List.mem_append_right _ hm)) rfl inX0 0 (by decide) wd_477 (Or.inl rfl) rfl dX6_turnSpins_44 ?_
        refine gw_iload dX6_turnSpins_47 rfl ?_
        refine gw_ishr dX6_turnSpins_49 ?_
        refine gw_iconst (v := nI (1)) dX6_turnSpins_50 (by decide) ?_
        refine gw_iand dX6_turnSpins_51 ?_
        refine gw_if_eq (tgt := 73) dX6_turnSpins_52 (by decide) (fun c52 => ?_) (fun c52 => ?_)
        · have hz : plS n x f t (cs 0) (s + 1) = plS n x f t (cs 0) s := by rw [plS, if_neg (by rw [c52]; decide)]
          have hz2 : xsP cy (ad 4) sa (va_up cs 0 (plS n x f t (cs 0) (s + 1))) x1 := by rw [hz]; exact h2
          have hz3 : sOK n (plS n x f t (cs 0) (s + 1)) := by rw [hz]; exact h3
          refine gw_iinc (v := nI (s + 1)) dX6_turnSpins_73 rfl (nI_add _ 1) (by decide) rfl ?_
          refine gw_goto (tgt := 37) dX6_turnSpins_76 (by decide) ?_
          refine ih37 (s + 1) (x1) (by omega) hz2 hz3 ?_
          omega
        · have b1 := bit1 c52
          have sn : s < n := by
            have h16 := p16 hn4.2
            refine bit_lt n (by omega) m (by omega) hmn s (by omega) ?_
            rw [← hx]; exact b1
          refine gw_aload_n dX6_turnSpins_55 rfl ?_
          refine gw_iload_n dX6_turnSpins_56 rfl ?_
          refine gw_iconst (v := nI (2)) dX6_turnSpins_57 (by decide) ?_
          refine gw_iload dX6_turnSpins_58 rfl ?_
          refine gw_imulN dX6_turnSpins_60 ?_
          refine gw_ishl dX6_turnSpins_61 ?_
          refine gw_topi (y := nI (axF f * 4 ^ s)) (shl_ax (axF_le f) (by omega)) ?_
          refine gw_iload dX6_turnSpins_62 rfl ?_
          refine gw_W.wd (w' := bW cy ad sa ta n ln bb nx sd lb lf lo pg bo ++ (x1 ++ T)) rfl ?_
          refine gw_callVN 0 (As := [.int (nI (axF f * 4 ^ s)), .int (nI (quF f t))]) (st := []) (b_turnQ l cy ad sa ta n ln bb nx sd lb lf lo pg bo x1 T (va_up cs 0 (plS n x f t (cs 0) s)) (axF f * 4 ^ s) (quF f t) h2 hn4 (by rw [va_up_self]; exact h3) (ax_lt4 (axF_le f) sn) (quF_lt ht)) ok_X11_turnByQuarters rfl rfl rfl (host := "SpinBench") (by decide +kernel) rfl rfl dX6_turnSpins_64 (by decide) (by decide) (Nat.le_of_ble_eq_true rfl) (fun r64 w64 hp64 => ?_)
          obtain ⟨rfl, x2, hx2, rfl⟩ := hp64
          rw [va_up2, va_up_self] at hx2
          have hz : plS n x f t (cs 0) (s + 1) = qS n (axF f * 4 ^ s) (quF f t) (plS n x f t (cs 0) s) := by rw [plS, if_pos b1]
          have hz2 : xsP cy (ad 4) sa (va_up cs 0 (plS n x f t (cs 0) (s + 1))) x2 := by rw [hz]; exact hx2
          have hz3 : sOK n (plS n x f t (cs 0) (s + 1)) := by rw [hz]; exact qS_ok hn4.2 (ax_lt4 (axF_le f) sn) h3
          refine gw_W.norm (st' := [.int (nI (1))]) (k1 := 0) (k2 := 0) rfl rfl rfl ?_
          refine gw_W.wd (w' := ([(ad 0, .inr (9, [.int (nI (n)), .ref (ad 1), .ref (ad 2), .ref (sa (3 * 0)), .ref (ad 4), .ref (ad 5), .ref (ad 6), .int (nI (ln)), va_rf (lo), .int (nx), .int (sd), .int (lb), .ref (ad 12), .int (nI (bb)), .int (lf)])), (ad 1, .inl (cy 3, 9, .inr (.inr (.inr (.inr (fun i => some (sa (3 * i)))))))), (ad 2, .inl (cy 3, 9, .inr (.inr (.inr (.inr (fun i => some (sa (3 * (9 + i))))))))), (ad 5, .inl (cy 4, 8, .inr (.inr (.inr (.inr (fun i => some (ta (2 * i)))))))), (ad 6, .inl (cy 2, 40, .inr (.inr (.inr (.inr (pg)))))), (ad 12, .inl (cy 0, 16, .inl (bo)))] ++ (x2 ++ T))) rfl ?_
          refine gw_ifN_ne (tgt := 73) dX6_turnSpins_67 (by decide) (by omega) (fun _ => ?_) (fun h => absurd h (by decide))
          refine gw_iinc (v := nI (s + 1)) dX6_turnSpins_73 rfl (nI_add _ 1) (by decide) rfl ?_
          refine gw_goto (tgt := 37) dX6_turnSpins_76 (by decide) ?_
          refine ih37 (s + 1) (x2) (by omega) hz2 hz3 ?_
          omega
  refine gw_iload_n dX6_turnSpins_0 rfl ?_
  refine gw_iconst (v := nI (1)) dX6_turnSpins_1 (by decide) ?_
  refine gw_iand dX6_turnSpins_2 ?_
  refine gw_topi (y := nI (f % 2)) (and1 f hf) ?_
  refine gw_ifN_ne (tgt := 10) dX6_turnSpins_3 (by decide) (by omega) (fun c3 => ?_) (fun c3 => ?_)
  · refine gw_iconst (v := nI (2)) dX6_turnSpins_10 (by decide) ?_
    refine gw_topi (y := nI (axF f)) (by rw [axF, if_neg c3]) ?_
    refine gw_istore_n dX6_turnSpins_11 (by decide) rfl ?_
    refine gw_iload_n dX6_turnSpins_12 rfl ?_
    refine gw_iconst (v := nI (2)) dX6_turnSpins_13 (by decide) ?_
    refine gw_icmpN_ge (tgt := 24) dX6_turnSpins_14 (by decide) (by omega) (by omega) (fun c14 => ?_) (fun c14 => ?_)
    · refine gw_iconst (v := nI (4)) dX6_turnSpins_24 (by decide) ?_
      refine gw_aload_n dX6_turnSpins_25 rfl ?_
      refine gw_getM (C0 := RX0) (T := TX0) (N := 6) (ref := RX6) (List.mem_append_right _ (List.mem_append_right _ hm)) rfl inX0 2 (by decide) wd_482 (Or.inl rfl) rfl dX6_turnSpins_26 ?_
      refine gw_isubN dX6_turnSpins_29 (by omega) ?_
      refine gw_iconst (v := nI (3)) dX6_turnSpins_30 (by decide) ?_
      refine gw_iand dX6_turnSpins_31 ?_
      refine gw_topi (y := nI (quF f t)) (by rw [quF, if_neg (by omega)]; exact and3 t ht) ?_
      refine gw_istore dX6_turnSpins_32 (by decide) rfl ?_
      refine gw_iconst (v := nI (0)) dX6_turnSpins_34 (by decide) ?_
      refine gw_istore dX6_turnSpins_35 (by decide) rfl ?_
      refine cut37 _ (0) (xs) (Nat.zero_le _) (by rw [plS, va_up_eq]; exact hxs) hS (Nat.lt_succ_self _)
    · refine gw_aload_n dX6_turnSpins_17 rfl ?_
      refine gw_getM (C0 := RX0) (T := TX0) (N := 6) (ref := RX6) (List.mem_append_right _ (List.mem_append_right _ hm)) rfl inX0 2 (by decide) wd_482 (Or.inl rfl) rfl dX6_turnSpins_18 ?_
      refine gw_topi (y := nI (quF f t)) (by rw [quF, if_pos (by omega)]) ?_
      refine gw_goto (tgt := 32) dX6_turnSpins_21 (by decide) ?_
      refine gw_istore dX6_turnSpins_32 (by decide) rfl ?_
      refine gw_iconst (v := nI (0)) dX6_turnSpins_34 (by decide) ?_
      refine gw_istore dX6_turnSpins_35 (by decide) rfl ?_
      refine cut37 _ (0) (xs) (Nat.zero_le _) (by rw [plS, va_up_eq]; exact hxs) hS (Nat.lt_succ_self _)
  · refine gw_iconst (v := nI (1)) dX6_turnSpins_6 (by decide) ?_
    refine gw_topi (y := nI (axF f)) (by rw [axF, if_pos c3]) ?_
    refine gw_goto (tgt := 11) dX6_turnSpins_7 (by decide) ?_
    refine gw_istore_n dX6_turnSpins_11 (by decide) rfl ?_
    refine gw_iload_n dX6_turnSpins_12 rfl ?_
    refine gw_iconst (v := nI (2)) dX6_turnSpins_13 (by decide) ?_
    refine gw_icmpN_ge (tgt := 24) dX6_turnSpins_14 (by decide) (by omega) (by omega) (fun c14 => ?_) (fun c14 => ?_)
    · refine gw_iconst (v := nI (4)) dX6_turnSpins_24 (by decide) ?_
      refine gw_aload_n dX6_turnSpins_25 rfl ?_
      refine gw_getM (C0 := RX0) (T := TX0) (N := 6) (ref := RX6) (List.mem_append_right _ (List.mem_append_right _ hm)) rfl inX0 2 (by decide) wd_482 (Or.inl rfl) rfl dX6_turnSpins_26 ?_
      refine gw_isubN dX6_turnSpins_29 (by omega) ?_
      refine gw_iconst (v := nI (3)) dX6_turnSpins_30 (by decide) ?_
      refine gw_iand dX6_turnSpins_31 ?_
      refine gw_topi (y := nI (quF f t)) (by rw [quF, if_neg (by omega)]; exact and3 t ht) ?_
      refine gw_istore dX6_turnSpins_32 (by decide) rfl ?_
      refine gw_iconst (v := nI (0)) dX6_turnSpins_34 (by decide) ?_
      refine gw_istore dX6_turnSpins_35 (by decide) rfl ?_
      refine cut37 _ (0) (xs) (Nat.zero_le _) (by rw [plS, va_up_eq]; exact hxs) hS (Nat.lt_succ_self _)
    · refine gw_aload_n dX6_turnSpins_17 rfl ?_
      refine gw_getM (C0 := RX0) (T := TX0) (N := 6) (ref := RX6) (List.mem_append_right _ (List.mem_append_right _ hm)) rfl inX0 2 (by decide) wd_482 (Or.inl rfl) rfl dX6_turnSpins_18 ?_
      refine gw_topi (y := nI (quF f t)) (by rw [quF, if_pos (by omega)]) ?_
      refine gw_goto (tgt := 32) dX6_turnSpins_21 (by decide) ?_
      refine gw_istore dX6_turnSpins_32 (by decide) rfl ?_
      refine gw_iconst (v := nI (0)) dX6_turnSpins_34 (by decide) ?_
      refine gw_istore dX6_turnSpins_35 (by decide) rfl ?_
      refine cut37 _ (0) (xs) (Nat.zero_le _) (by rw [plS, va_up_eq]; exact hxs) hS (Nat.lt_succ_self _)
