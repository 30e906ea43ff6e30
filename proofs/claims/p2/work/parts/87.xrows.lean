/-! products: putRows -/
theorem kn_and {n : Nat} {k : Int32} (hn : n ≤ 4) (h : keyOK n k) : kn (k &&& 1048575) = kn k % 2 ^ 20 := by
  have h3 := kn_lt h
  have h4 := pow4_le hn
  have e : k &&& 1048575 = nI (kn k % 2 ^ 20) := by
    conv => lhs; rw [kn_eq h hn]
    rw [show (1048575 : Int32) = nI (2 ^ 20 - 1) from by decide, pk_andN (k := 20) (by omega) (by decide)]
  rw [e, kn_nI (by have := Nat.mod_lt (kn k) (show 0 < 2 ^ 20 by decide); omega)]
theorem cos_m {n : Nat} {k : Int32} (hn : n ≤ 4) (h : keyOK n k) {x : Nat} (hx : x < 4) : mCos k (nI x) = mCos (k &&& 1048575) (nI x) := by
  rw [cos_kn hn h hx, cos_kn (by decide) (key_and hn h) hx, (low_fields (a := kn k) (b := kn (k &&& 1048575)) (by rw [kn_and hn h, Nat.mod_mod]) hx).1]
theorem sin_m {n : Nat} {k : Int32} (hn : n ≤ 4) (h : keyOK n k) {x : Nat} (hx : x < 4) : mSin k (nI x) = mSin (k &&& 1048575) (nI x) := by
  rw [sin_kn hn h hx, sin_kn (by decide) (key_and hn h) hx, (low_fields (a := kn k) (b := kn (k &&& 1048575)) (by rw [kn_and hn h, Nat.mod_mod]) hx).2]
theorem s2_le {a b : Int32} (ha : keyOK 0 a) (hb : keyOK 0 b) {x : Nat} (hx : x < 4) : mS2 a b x = nI 0 ∨ mS2 a b x = nI 1 ∨ mS2 a b x = nI 2 := by
  unfold mS2
  rw [sin_kn (by decide) ha hx, sin_kn (by decide) hb hx, nI_add]
  have h1 := Nat.mod_lt (kn a / 2 ^ (15 - 5 * x)) (show 0 < 2 by decide)
  have h2 := Nat.mod_lt (kn b / 2 ^ (15 - 5 * x)) (show 0 < 2 by decide)
  rcases (show kn a / 2 ^ (15 - 5 * x) % 2 + kn b / 2 ^ (15 - 5 * x) % 2 = 0 ∨ kn a / 2 ^ (15 - 5 * x) % 2 + kn b / 2 ^ (15 - 5 * x) % 2 = 1 ∨ kn a / 2 ^ (15 - 5 * x) % 2 + kn b / 2 ^ (15 - 5 * x) % 2 = 2 by omega) with e | e | e <;> rw [e] <;> simp
theorem both_c {a b : Int32} {x : Nat} (h : mS2 a b x = nI 0 ∨ mS2 a b x = nI 1 ∨ mS2 a b x = nI 2) : mS2 a b x &&& nI 2 = cond (mBoth a b x) (nI 2) (nI 0) ∧ (mS2 a b x >>> (nI 1 &&& 31)) = cond (mBoth a b x) (nI 1) (nI 0) := by
  unfold mBoth
  rcases h with h | h | h <;> rw [h] <;> decide
theorem one_c {a b s : Int32} {x : Nat} (h : mS2 a b x = nI 0 ∨ mS2 a b x = nI 1 ∨ mS2 a b x = nI 2) : (mS2 a b x &&& nI 1) * s = if mS2 a b x = nI 1 then s else nI 0 := by
  rcases h with h | h | h
  · rw [h, if_neg (by decide), show nI 0 &&& nI 1 = 0 from by decide]; exact Int32.zero_mul
  · rw [h, if_pos rfl, show nI 1 &&& nI 1 = 1 from by decide]; exact Int32.one_mul _
  · rw [h, if_neg (by decide), show nI 2 &&& nI 1 = 0 from by decide]; exact Int32.zero_mul
theorem tw_sh (c : Bool) (x : Nat) : cond c (nI 1) (nI 0) <<< (nI x &&& 31) = cond c (nI 1 <<< (nI x &&& 31)) (nI 0) := by
  cases c
  · show nI 0 <<< _ = nI 0
    exact Int32.zero_shiftLeft
  · rfl
theorem tw_nat (a b : Int32) : ∃ t : Nat, t < 16 ∧ mTwice a b 4 = nI t := by
  rw [mTwice, mTwice, mTwice, mTwice, mTwice]
  cases mBoth a b 0 <;> cases mBoth a b 1 <;> cases mBoth a b 2 <;> cases mBoth a b 3 <;> first | exact ⟨0, by decide, by decide⟩ | exact ⟨1, by decide, by decide⟩ | exact ⟨2, by decide, by decide⟩ | exact ⟨3, by decide, by decide⟩ | exact ⟨4, by decide, by decide⟩ | exact ⟨5, by decide, by decide⟩ | exact ⟨6, by decide, by decide⟩ | exact ⟨7, by decide, by decide⟩ | exact ⟨8, by decide, by decide⟩ | exact ⟨9, by decide, by decide⟩ | exact ⟨10, by decide, by decide⟩ | exact ⟨11, by decide, by decide⟩ | exact ⟨12, by decide, by decide⟩ | exact ⟨13, by decide, by decide⟩ | exact ⟨14, by decide, by decide⟩ | exact ⟨15, by decide, by decide⟩
theorem sub_c : ∀ t, t < 16 → ∀ so, so < 16 → (nI so &&& nI t = nI so ↔ nI so &&& (nI t ^^^ (-1)) = 0) := by decide
def cntB (so : Nat) : Nat → Nat
  | 0 => 0
  | x + 1 => cntB so x + (if (nI so >>> (nI x &&& 31)) &&& nI 1 = nI 1 then 1 else 0)
theorem mNum_c (v : Int64) (so x : Nat) : mNum v so x = if cntB so x % 2 = 0 then v else -v := by
  induction x with
  | zero => rfl
  | succ x ih =>
    rw [mNum, cntB, ih]
    by_cases hb : (nI so >>> (nI x &&& 31)) &&& nI 1 = nI 1
    · rw [if_pos hb, if_pos hb]
      by_cases h : cntB so x % 2 = 0
      · rw [if_pos h, if_neg (by omega)]
      · rw [if_neg h, if_pos (by omega), Int64.neg_neg]
    · rw [if_neg hb, if_neg hb, Nat.add_zero]
theorem cntB_4 : ∀ so, so < 16 → cntB so 4 = pc16 so := by decide
theorem mRows_le (pl tw : Int32) (v : Int64) (j : Nat) : (mRows pl tw v j).length ≤ j := by
  unfold mRows
  rw [List.length_map]
  exact Nat.le_trans (List.length_filter_le _ _) (Nat.le_of_eq List.length_range)
abbrev kX4_putRows : gw_K := (yX4_putRows, cX4_putRows, 10, { frames := 3, cells := 0, slots := 0, locals := 62 }, (some .boolean))
theorem ok_X4_putRows : gw_calV kX4_putRows 3 := ⟨⟨wd_440, wd_58, by decide, by decide, by decide +kernel⟩, wd_439, wd_24⟩
set_option maxHeartbeats 4000000 in
set_option maxRecDepth 100000 in
theorem p_putRows (l : Launch) (cy : Nat → ClassId) (a0 : Nat) (C : List sT) (w : va_W) (n : Nat) (a b : Int32) (v : Int64) (hn : n ≤ 4) (ha : keyOK n a) (hb : keyOK n b) (hx : mxP cy a0 C w) (hC : C.length ≤ 300) : gw_M l kX4_putRows cy [.ref (a0), .int (a), .int (b), .long (v)] w (fun r w' => r = some (.int (bI (mulOk (a &&& 1048575) (b &&& 1048575) v C))) ∧ (mulOk (a &&& 1048575) (b &&& 1048575) v C = true → mxP cy a0 (sPuts C (mulP (a &&& 1048575) (b &&& 1048575) v)) w') ∧ mxC cy a0 w') := by
  refine gw_M.mk (lv := [some (.ref (a0)), some (.int (a)), some (.int (b)), some (.long (v)), none, none, none, none, none, none]) (by decide) (Nat.le_of_ble_eq_true rfl) rfl ?_
  generalize hpost : (fun r w' => r = some (.int (bI (mulOk (a &&& 1048575) (b &&& 1048575) v C))) ∧ (mulOk (a &&& 1048575) (b &&& 1048575) v C = true → mxP cy a0 (sPuts C (mulP (a &&& 1048575) (b &&& 1048575) v)) w') ∧ mxC cy a0 w' : gw_Q) = post
  refine gw_iconst (v := nI (0)) dX4_putRows_0 (by decide) ?_
  refine gw_topi (y := mPlain (a &&& 1048575) (b &&& 1048575) 0) (by rw [mPlain]) ?_
  refine gw_istore dX4_putRows_1 (by decide) rfl ?_
  refine gw_iconst (v := nI (0)) dX4_putRows_3 (by decide) ?_
  refine gw_topi (y := mTwice (a &&& 1048575) (b &&& 1048575) 0) (by rw [mTwice]) ?_
  refine gw_istore dX4_putRows_4 (by decide) rfl ?_
  refine gw_iconst (v := nI (0)) dX4_putRows_6 (by decide) ?_
  refine gw_istore dX4_putRows_7 (by decide) rfl ?_
  have cut9 : ∀ (fu : Nat) (x : Nat), (x ≤ 4) → (∀ y, y < x → mOk (a &&& 1048575) (b &&& 1048575) y = true) → (4 - x) < fu → gw_W l kX4_putRows cy (gw_R kX4_putRows post) w 0 0 9 [some (.ref (a0)), some (.int (a)), some (.int (b)), some (.long (v)), none, some (.int (mPlain (a &&& 1048575) (b &&& 1048575) x)), some (.int (mTwice (a &&& 1048575) (b &&& 1048575) x)), some (.int (nI (x))), none, none] [] := by
    intro fu
    induction fu with
    | zero => intro x x1 x2 hfu; exact absurd hfu (Nat.not_lt_zero _)
    | succ fu ih9 =>
      intro x x1 x2 hfu
      refine gw_iload dX4_putRows_9 rfl ?_
      refine gw_iconst (v := nI (4)) dX4_putRows_11 (by decide) ?_
      refine gw_icmpN_ge (tgt := 101) dX4_putRows_12 (by decide) (by omega) (by omega) (fun c12 => ?_) (fun c12 => ?_)
      · have e1 : x = 4 := by omega
        subst e1
        obtain ⟨tw, tw1, tw2⟩ := tw_nat (a &&& 1048575) (b &&& 1048575)
        refine gw_iconst (v := nI (0)) dX4_putRows_101 (by decide) ?_
        refine gw_istore dX4_putRows_102 (by decide) rfl ?_
        have cut104 : ∀ (fu : Nat) (so : Nat) (w1 : va_W), (so ≤ 16) → (mxP cy a0 (sPuts C (mRows (mPlain (a &&& 1048575) (b &&& 1048575) 4) (mTwice (a &&& 1048575) (b &&& 1048575) 4) v so)) w1) → (16 - so) < fu → gw_W l kX4_putRows cy (gw_R kX4_putRows post) w1 0 0 104 [some (.ref (a0)), some (.int (a)), some (.int (b)), some (.long (v)), none, some (.int (mPlain (a &&& 1048575) (b &&& 1048575) 4)), some (.int (mTwice (a &&& 1048575) (b &&& 1048575) 4)), some (.int (nI (so))), none, none] [] := by
          intro fu
          induction fu with
          | zero => intro so w1 s1 s2 hfu; exact absurd hfu (Nat.not_lt_zero _)
          | succ fu ih104 =>
            intro so w1 s1 s2 hfu
            refine gw_iload dX4_putRows_104 rfl ?_
            refine gw_bipush (v := nI (16)) dX4_putRows_106 (by decide) ?_
            refine gw_icmpN_ge (tgt := 155) dX4_putRows_108 (by decide) (by omega) (by omega) (fun c108 => ?_) (fun c108 => ?_)
            · have e2 : so = 16 := by omega
              subst e2
              refine gw_aload_n dX4_putRows_155 rfl ?_
              obtain ⟨ho9, E, a1, a2, a3, a4, a5, a6, kk, nn, k2, n2, sl, su, hp9, hw9, hE9⟩ := id s2
              have hl9 := hp9.length_eq
              have hm9 := hE9.1
              subst hw9
              refine gw_get (C0 := RX4) (T := TX4) (N := 8) (ref := RX4) (fs := [.ref a1, .ref a2, .ref a3, .ref a4, .int (nI E.length), .ref a5, .ref a6, .int (nI E.length)]) 0 rfl rfl inX4 4 (by decide) wd_94 (Or.inl rfl) rfl dX4_putRows_156 ?_
              refine gw_sipush (v := nI (300)) dX4_putRows_159 (by decide) ?_
              refine gw_icmpN_gt (tgt := 169) dX4_putRows_162 (by decide) (by omega) (by omega) (fun c162 => ?_) (fun c162 => ?_)
              · refine gw_iconst (v := nI (0)) dX4_putRows_169 (by decide) ?_
                refine gw_zret (?_) (by decide) (by decide) rfl (by decide) dX4_putRows_170
                subst hpost
                first
                  | (have e9 : mulOk (a &&& 1048575) (b &&& 1048575) v C = true := mulOk_good x2 (show (sPuts C (mRows (mPlain (a &&& 1048575) (b &&& 1048575) 4) (mTwice (a &&& 1048575) (b &&& 1048575) 4) v 16)).length ≤ 300 by omega)
                     rw [e9]; exact ⟨rfl, fun _ => s2, mxP_C s2⟩)
                  | (have e9 : mulOk (a &&& 1048575) (b &&& 1048575) v C = false := mulOk_bad2 (so := 16) (by decide) (by omega)
                     rw [e9]; exact ⟨rfl, (fun h => by cases h), mxP_C s2⟩)
              · refine gw_iconst (v := nI (1)) dX4_putRows_165 (by decide) ?_
                refine gw_goto (tgt := 170) dX4_putRows_166 (by decide) ?_
                refine gw_zret (?_) (by decide) (by decide) rfl (by decide) dX4_putRows_170
                subst hpost
                first
                  | (have e9 : mulOk (a &&& 1048575) (b &&& 1048575) v C = true := mulOk_good x2 (show (sPuts C (mRows (mPlain (a &&& 1048575) (b &&& 1048575) 4) (mTwice (a &&& 1048575) (b &&& 1048575) 4) v 16)).length ≤ 300 by omega)
                     rw [e9]; exact ⟨rfl, fun _ => s2, mxP_C s2⟩)
                  | (have e9 : mulOk (a &&& 1048575) (b &&& 1048575) v C = false := mulOk_bad2 (so := 16) (by decide) (by omega)
                     rw [e9]; exact ⟨rfl, (fun h => by cases h), mxP_C s2⟩)
            · refine gw_iload dX4_putRows_111 rfl ?_
              refine gw_iload dX4_putRows_113 rfl ?_
              refine gw_iand dX4_putRows_115 ?_
              refine gw_iload dX4_putRows_116 rfl ?_
              refine gw_icmp_ne (tgt := 149) dX4_putRows_118 (by decide) (fun c118 => ?_) (fun c118 => ?_)
              · rw [tw2, sub_c tw tw1 so (by omega), ← tw2] at c118
                refine gw_iinc (v := nI (so + 1)) dX4_putRows_149 rfl (nI_add _ 1) (by decide) rfl ?_
                refine gw_goto (tgt := 104) dX4_putRows_152 (by decide) ?_
                refine ih104 (so + 1) (w1) (by omega) ?_ ?_
                · first
                  | (rw [mRows_f c118]; exact s2)
                  | (rw [mRows_t c118, sPuts_snoc]; exact hx146)
                · omega
              · rw [tw2, sub_c tw tw1 so (by omega), ← tw2] at c118
                refine gw_aload_n dX4_putRows_121 rfl ?_
                refine gw_iload dX4_putRows_122 rfl ?_
                refine gw_iload dX4_putRows_124 rfl ?_
                refine gw_callS (As := [.int (nI (so))]) (st := [.int (mPlain (a &&& 1048575) (b &&& 1048575) 4), .ref (a0)]) (c_squaredCosines l cy (so) (by omega) w1) ok_X4_squaredCosines wd_442 rfl rfl dX4_putRows_126 (by decide) (by decide) (Nat.le_of_ble_eq_true rfl) (fun r126 w126 hp126 => ?_)
                obtain ⟨rfl, hw126⟩ := hp126
                rw [hw126]
                clear hw126 w126
                refine gw_W.norm (st' := [.int (mRow (nI 0) (so) 4), .int (mPlain (a &&& 1048575) (b &&& 1048575) 4), .ref (a0)]) (k1 := 0) (k2 := 0) rfl rfl rfl ?_
                refine gw_iadd dX4_putRows_129 ?_
                refine gw_topi (y := mRow (mPlain (a &&& 1048575) (b &&& 1048575) 4) so 4) ((mRow_0 _ _ _).symm) ?_
                refine gw_iload dX4_putRows_130 rfl ?_
                refine gw_callS (As := [.int (nI (so))]) (st := [.int (mRow (mPlain (a &&& 1048575) (b &&& 1048575) 4) so 4), .ref (a0)]) (c_bitCount l cy (so) (by omega) w1) ok_J6_bitCount_0f7a4 wd_445 rfl rfl dX4_putRows_132 (by decide) (by decide) (Nat.le_of_ble_eq_true rfl) (fun r132 w132 hp132 => ?_)
                obtain ⟨rfl, hw132⟩ := hp132
                rw [hw132]
                clear hw132 w132
                refine gw_W.norm (st' := [.int (nI (pc16 (so))), .int (mRow (mPlain (a &&& 1048575) (b &&& 1048575) 4) so 4), .ref (a0)]) (k1 := 0) (k2 := 0) rfl rfl rfl ?_
                refine gw_iconst (v := nI (1)) dX4_putRows_135 (by decide) ?_
                refine gw_iand dX4_putRows_136 ?_
                refine gw_topi (y := nI (pc16 so % 2)) (pk_andN (k := 1) (by unfold pc16; omega) (by decide)) ?_
                refine gw_ifN_ne (tgt := 144) dX4_putRows_137 (by decide) (by omega) (fun c137 => ?_) (fun c137 => ?_)
                · refine gw_lload_n dX4_putRows_144 rfl ?_
                  refine gw_lneg dX4_putRows_145 ?_
                  refine gw_topl (y := mNum v so 4) (by rw [mNum_c, cntB_4 so (by omega), if_neg c137]) ?_
                  refine gw_callH (As := [.int (mRow (mPlain (a &&& 1048575) (b &&& 1048575) 4) so 4), .long (mNum v so 4)]) (st := []) (p_put l cy a0 (sPuts C (mRows (mPlain (a &&& 1048575) (b &&& 1048575) 4) (mTwice (a &&& 1048575) (b &&& 1048575) 4) v so)) w1 (mRow (mPlain (a &&& 1048575) (b &&& 1048575) 4) so 4) (mNum v so 4) s2 (by
                    have q1 := sPuts_len C (mRows (mPlain (a &&& 1048575) (b &&& 1048575) 4) (mTwice (a &&& 1048575) (b &&& 1048575) 4) v so)
                    have q2 := mRows_le (mPlain (a &&& 1048575) (b &&& 1048575) 4) (mTwice (a &&& 1048575) (b &&& 1048575) 4) v so
                    omega)) ok_X4_put (mxP_has s2) rfl rfl wd_297 rfl rfl dX4_putRows_146 (by decide) (by decide) (Nat.le_of_ble_eq_true rfl) (fun r146 w146 hp146 => ?_)
                  obtain ⟨rfl, hx146⟩ := hp146
                  refine gw_W.norm (st' := []) (k1 := 0) (k2 := 0) rfl rfl rfl ?_
                  refine gw_iinc (v := nI (so + 1)) dX4_putRows_149 rfl (nI_add _ 1) (by decide) rfl ?_
                  refine gw_goto (tgt := 104) dX4_putRows_152 (by decide) ?_
                  refine ih104 (so + 1) (w146) (by omega) ?_ ?_
                  · first
                    | (rw [mRows_f c118]; exact s2)
                    | (rw [mRows_t c118, sPuts_snoc]; exact hx146)
                  · omega
                · refine gw_lload_n dX4_putRows_140 rfl ?_
                  refine gw_topl (y := mNum v so 4) (by rw [mNum_c, cntB_4 so (by omega), if_pos c137]) ?_
                  refine gw_goto (tgt := 146) dX4_putRows_141 (by decide) ?_
                  refine gw_callH (As := [.int (mRow (mPlain (a &&& 1048575) (b &&& 1048575) 4) so 4), .long (mNum v so 4)]) (st := []) (p_put l cy a0 (sPuts C (mRows (mPlain (a &&& 1048575) (b &&& 1048575) 4) (mTwice (a &&& 1048575) (b &&& 1048575) 4) v so)) w1 (mRow (mPlain (a &&& 1048575) (b &&& 1048575) 4) so 4) (mNum v so 4) s2 (by
                    have q1 := sPuts_len C (mRows (mPlain (a &&& 1048575) (b &&& 1048575) 4) (mTwice (a &&& 1048575) (b &&& 1048575) 4) v so)
                    have q2 := mRows_le (mPlain (a &&& 1048575) (b &&& 1048575) 4) (mTwice (a &&& 1048575) (b &&& 1048575) 4) v so
                    omega)) ok_X4_put (mxP_has s2) rfl rfl wd_297 rfl rfl dX4_putRows_146 (by decide) (by decide) (Nat.le_of_ble_eq_true rfl) (fun r146 w146 hp146 => ?_)
                  obtain ⟨rfl, hx146⟩ := hp146
                  refine gw_W.norm (st' := []) (k1 := 0) (k2 := 0) rfl rfl rfl ?_
                  refine gw_iinc (v := nI (so + 1)) dX4_putRows_149 rfl (nI_add _ 1) (by decide) rfl ?_
                  refine gw_goto (tgt := 104) dX4_putRows_152 (by decide) ?_
                  refine ih104 (so + 1) (w146) (by omega) ?_ ?_
                  · first
                    | (rw [mRows_f c118]; exact s2)
                    | (rw [mRows_t c118, sPuts_snoc]; exact hx146)
                  · omega
        refine cut104 _ (0) (w) (Nat.zero_le _) hx (Nat.lt_succ_self _)
      · have hs2 := s2_le (key_and hn ha) (key_and hn hb) (x := x) (by omega)
        refine gw_iload_n dX4_putRows_15 rfl ?_
        refine gw_iload dX4_putRows_16 rfl ?_
        refine gw_callSN (As := [.int (a), .int (nI (x))]) (st := []) (c_cosinesOf l cy (a) (x) (by omega) w) ok_X11_cosinesOf (host := "SpinBench") (by decide +kernel) rfl rfl dX4_putRows_18 (by decide) (by decide) (Nat.le_of_ble_eq_true rfl) (fun r18 w18 hp18 => ?_)
        obtain ⟨rfl, hw18⟩ := hp18
        rw [hw18]
        clear hw18 w18
        refine gw_W.norm (st' := [.int (mCos (a) (nI (x)))]) (k1 := 0) (k2 := 0) rfl rfl rfl ?_
        refine gw_iload_n dX4_putRows_21 rfl ?_
        refine gw_iload dX4_putRows_22 rfl ?_
        refine gw_callSN (As := [.int (b), .int (nI (x))]) (st := [.int (mCos (a) (nI (x)))]) (c_cosinesOf l cy (b) (x) (by omega) w) ok_X11_cosinesOf (host := "SpinBench") (by decide +kernel) rfl rfl dX4_putRows_24 (by decide) (by decide) (Nat.le_of_ble_eq_true rfl) (fun r24 w24 hp24 => ?_)
        obtain ⟨rfl, hw24⟩ := hp24
        rw [hw24]
        clear hw24 w24
        refine gw_W.norm (st' := [.int (mCos (b) (nI (x))), .int (mCos (a) (nI (x)))]) (k1 := 0) (k2 := 0) rfl rfl rfl ?_
        refine gw_iadd dX4_putRows_27 ?_
        refine gw_topi (y := mC2 (a &&& 1048575) (b &&& 1048575) x) (by rw [cos_m hn ha (by omega), cos_m hn hb (by omega)]; rfl) ?_
        refine gw_istore dX4_putRows_28 (by decide) rfl ?_
        refine gw_iload_n dX4_putRows_30 rfl ?_
        refine gw_iload dX4_putRows_31 rfl ?_
        refine gw_callSN (As := [.int (a), .int (nI (x))]) (st := []) (c_sinesOf l cy (a) (x) (by omega) w) ok_X11_sinesOf (host := "SpinBench") (by decide +kernel) rfl rfl dX4_putRows_33 (by decide) (by decide) (Nat.le_of_ble_eq_true rfl) (fun r33 w33 hp33 => ?_)
        obtain ⟨rfl, hw33⟩ := hp33
        rw [hw33]
        clear hw33 w33
        refine gw_W.norm (st' := [.int (mSin (a) (nI (x)))]) (k1 := 0) (k2 := 0) rfl rfl rfl ?_
        refine gw_iload_n dX4_putRows_36 rfl ?_
        refine gw_iload dX4_putRows_37 rfl ?_
        refine gw_callSN (As := [.int (b), .int (nI (x))]) (st := [.int (mSin (a) (nI (x)))]) (c_sinesOf l cy (b) (x) (by omega) w) ok_X11_sinesOf (host := "SpinBench") (by decide +kernel) rfl rfl dX4_putRows_39 (by decide) (by decide) (Nat.le_of_ble_eq_true rfl) (fun r39 w39 hp39 => ?_)
        obtain ⟨rfl, hw39⟩ := hp39
        rw [hw39]
        clear hw39 w39
        refine gw_W.norm (st' := [.int (mSin (b) (nI (x))), .int (mSin (a) (nI (x)))]) (k1 := 0) (k2 := 0) rfl rfl rfl ?_
        refine gw_iadd dX4_putRows_42 ?_
        refine gw_topi (y := mS2 (a &&& 1048575) (b &&& 1048575) x) (by rw [sin_m hn ha (by omega), sin_m hn hb (by omega)]; rfl) ?_
        refine gw_istore dX4_putRows_43 (by decide) rfl ?_
        refine gw_iload dX4_putRows_45 rfl ?_
        refine gw_iload dX4_putRows_47 rfl ?_
        refine gw_iconst (v := nI (2)) dX4_putRows_49 (by decide) ?_
        refine gw_iand dX4_putRows_50 ?_
        refine gw_topi (y := cond (mBoth (a &&& 1048575) (b &&& 1048575) x) (nI 2) (nI 0)) ((both_c hs2).1) ?_
        refine gw_iadd dX4_putRows_51 ?_
        refine gw_bipush (v := nI (12)) dX4_putRows_52 (by decide) ?_
        refine gw_icmp_le (tgt := 59) dX4_putRows_54 (by decide) (fun c54 => ?_) (fun c54 => ?_)
        · refine gw_iload dX4_putRows_59 rfl ?_
          refine gw_iload dX4_putRows_61 rfl ?_
          refine gw_iload dX4_putRows_63 rfl ?_
          refine gw_callSN (As := [.int (nI (x))]) (st := [.int (mC2 (a &&& 1048575) (b &&& 1048575) x), .int (mPlain (a &&& 1048575) (b &&& 1048575) x)]) (c_oneCosine l cy (x) (by omega) w) ok_X11_oneCosine (host := "SpinBench") (by decide +kernel) rfl rfl dX4_putRows_65 (by decide) (by decide) (Nat.le_of_ble_eq_true rfl) (fun r65 w65 hp65 => ?_)
          obtain ⟨rfl, hw65⟩ := hp65
          rw [hw65]
          clear hw65 w65
          refine gw_W.norm (st' := [.int (mOneC (nI (x))), .int (mC2 (a &&& 1048575) (b &&& 1048575) x), .int (mPlain (a &&& 1048575) (b &&& 1048575) x)]) (k1 := 0) (k2 := 0) rfl rfl rfl ?_
          refine gw_imul dX4_putRows_68 ?_
          refine gw_iload dX4_putRows_69 rfl ?_
          refine gw_iconst (v := nI (1)) dX4_putRows_71 (by decide) ?_
          refine gw_iand dX4_putRows_72 ?_
          refine gw_iload dX4_putRows_73 rfl ?_
          refine gw_callSN (As := [.int (nI (x))]) (st := [.int ((mS2 (a &&& 1048575) (b &&& 1048575) x) &&& (nI (1))), .int ((mC2 (a &&& 1048575) (b &&& 1048575) x) * (mOneC (nI (x)))), .int (mPlain (a &&& 1048575) (b &&& 1048575) x)]) (c_oneSine l cy (x) (by omega) w) ok_X11_oneSine (host := "SpinBench") (by decide +kernel) rfl rfl dX4_putRows_75 (by decide) (by decide) (Nat.le_of_ble_eq_true rfl) (fun r75 w75 hp75 => ?_)
          obtain ⟨rfl, hw75⟩ := hp75
          rw [hw75]
          clear hw75 w75
          refine gw_W.norm (st' := [.int (mOneS (nI (x))), .int ((mS2 (a &&& 1048575) (b &&& 1048575) x) &&& (nI (1))), .int ((mC2 (a &&& 1048575) (b &&& 1048575) x) * (mOneC (nI (x)))), .int (mPlain (a &&& 1048575) (b &&& 1048575) x)]) (k1 := 0) (k2 := 0) rfl rfl rfl ?_
          refine gw_imul dX4_putRows_78 ?_
          refine gw_topi (y := if mS2 (a &&& 1048575) (b &&& 1048575) x = nI 1 then mOneS (nI x) else nI 0) (one_c hs2) ?_
          refine gw_iadd dX4_putRows_79 ?_
          refine gw_iadd dX4_putRows_80 ?_
          refine gw_topi (y := mPlain (a &&& 1048575) (b &&& 1048575) (x + 1)) (by rw [mPlain]) ?_
          refine gw_istore dX4_putRows_81 (by decide) rfl ?_
          refine gw_iload dX4_putRows_83 rfl ?_
          refine gw_iload dX4_putRows_85 rfl ?_
          refine gw_iconst (v := nI (1)) dX4_putRows_87 (by decide) ?_
          refine gw_ishr dX4_putRows_88 ?_
          refine gw_topi (y := cond (mBoth (a &&& 1048575) (b &&& 1048575) x) (nI 1) (nI 0)) ((both_c hs2).2) ?_
          refine gw_iload dX4_putRows_89 rfl ?_
          refine gw_ishl dX4_putRows_91 ?_
          refine gw_ior dX4_putRows_92 ?_
          refine gw_topi (y := mTwice (a &&& 1048575) (b &&& 1048575) (x + 1)) (by rw [mTwice, tw_sh]) ?_
          refine gw_istore dX4_putRows_93 (by decide) rfl ?_
          refine gw_iinc (v := nI (x + 1)) dX4_putRows_95 rfl (nI_add _ 1) (by decide) rfl ?_
          refine gw_goto (tgt := 9) dX4_putRows_98 (by decide) ?_
          refine gw_W.forget 8 ?_
          refine gw_W.forget 9 ?_
          refine ih9 (x + 1) (by omega) ?_ ?_
          · intro y hy
            rcases Nat.lt_or_ge y x with g | g
            · exact x2 y g
            · have e3 : y = x := by omega
              rw [e3]; exact decide_eq_true c54
          · omega
        · refine gw_iconst (v := nI (0)) dX4_putRows_57 (by decide) ?_
          refine gw_zret (?_) (by decide) (by decide) rfl (by decide) dX4_putRows_58
          subst hpost
          have e9 := mulOk_bad1 (v := v) (C := C) (a := (a &&& 1048575)) (b := (b &&& 1048575)) (x := x) (by omega) (decide_eq_false c54)
          rw [e9]
          exact ⟨rfl, (fun h => by cases h), mxP_C hx⟩
  refine cut9 _ (0) (Nat.zero_le _) (fun y h => absurd h (Nat.not_lt_zero _)) (Nat.lt_succ_self _)
