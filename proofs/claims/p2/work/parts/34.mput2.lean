theorem sScale_snoc (v : Int64) (S : List sT) (q : sT) : sScale v (S ++ [q]) = sScale v S ++ [(q.1, v * q.2)] := by simp [sScale]
def qm_putAll (cy : Nat → ClassId) (ad : Nat → Nat) (iv : Nat → Int32) (ia : Nat → Nat → Int32) (la : Nat → Nat → Int64) (P : List sT) : gw_Q := fun r w' => r = none ∧ ∃ (m : Nat) (kk : Nat → Int32) (nn : Nat → Int64), w' = mW cy ad (va_up iv 9 (nI m)) (va_up ia 10 kk) (va_up la 11 nn) ∧ takeS kk nn 0 m = P
abbrev kX12_putAll : gw_K := (yX12_putAll, cX12_putAll, 5, { frames := 1, cells := 0, slots := 0, locals := 26 }, none)
theorem ok_X12_putAll : gw_calV kX12_putAll 2 := ⟨⟨wd_947, wd_62, by decide, by decide, by decide +kernel⟩, wd_946, wd_35⟩
set_option maxHeartbeats 4000000 in
set_option maxRecDepth 100000 in
theorem c_mputAll (l : Launch) (cy : Nat → ClassId) (ad : Nat → Nat) (iv : Nat → Int32) (ia : Nat → Nat → Int32) (la : Nat → Nat → Int64) (n f c : Nat) (v : Int64) (hn : iv 9 = nI n) (hc : ia 6 f = nI c) (hf : f < 18) (hc3 : c ≤ 300) (hnc : n + c ≤ 1000) (hso : sOrd (takeS (ia 10) (la 11) 0 n)) : gw_M l kX12_putAll cy [.ref (ad 0), .int (nI (f)), .long (v)] (mW cy ad iv ia la) (qm_putAll cy ad iv ia la (sPuts (takeS (ia 10) (la 11) 0 n) (sScale v (takeS (ia 7) (la 8) (300 * f) c)))) := by
  refine gw_M.mk (lv := [some (.ref (ad 0)), some (.int (nI (f))), some (.long (v)), none, none]) (by decide) (Nat.le_of_ble_eq_true rfl) rfl ?_
  generalize hpost : (qm_putAll cy ad iv ia la (sPuts (takeS (ia 10) (la 11) 0 n) (sScale v (takeS (ia 7) (la 8) (300 * f) c))) : gw_Q) = post
  refine gw_iconst (v := nI (0)) dX12_putAll_0 (by decide) ?_
  refine gw_istore dX12_putAll_1 (by decide) rfl ?_
  have cut3 : ∀ (fu : Nat) (i : Nat) (m : Nat) (kk : Nat → Int32) (nn : Nat → Int64), (i ≤ c) → (takeS kk nn 0 m = sPuts (takeS (ia 10) (la 11) 0 n) (sScale v (takeS (ia 7) (la 8) (300 * f) i))) → (m ≤ n + i) → (sOrd (takeS kk nn 0 m)) → (c - i) < fu → gw_W l kX12_putAll cy (gw_R kX12_putAll post) (mW cy ad (va_up iv 9 (nI (m))) (va_up ia 10 (kk)) (va_up la 11 (nn))) 0 0 3 [some (.ref (ad 0)), some (.int (nI (f))), some (.long (v)), none, some (.int (nI (i)))] [] := by
    intro fu
    induction fu with
    | zero => intro i m kk nn h1 h2 h3 h4 hfu; exact absurd hfu (Nat.not_lt_zero _)
    | succ fu ih3 =>
      intro i m kk nn h1 h2 h3 h4 hfu
      refine gw_iload dX12_putAll_3 rfl ?_
      refine gw_aload_n dX12_putAll_5 rfl ?_
      refine gm_get_many rfl dX12_putAll_6 ?_
      refine gw_iload_n dX12_putAll_9 rfl ?_
      refine gm_ld_many (j := f) (rfl) (by omega) dX12_putAll_10 ?_
      refine gw_topi (y := (ia 6) (f)) rfl ?_
      refine gw_topi (y := nI (c)) (hc) ?_
      refine gw_icmpN_ge (tgt := 52) dX12_putAll_11 (by decide) (by omega) (by omega) (fun c11 => ?_) (fun c11 => ?_)
      · have e1 : i = c := by omega
        subst e1
        refine gw_vret (?_) (by decide) (by decide) rfl dX12_putAll_52
        subst hpost
        exact ⟨rfl, m, kk, nn, rfl, h2⟩
      · refine gw_aload_n dX12_putAll_14 rfl ?_
        refine gw_aload_n dX12_putAll_15 rfl ?_
        refine gm_get_key rfl dX12_putAll_16 ?_
        refine gw_sipush (v := nI (300)) dX12_putAll_19 (by decide) ?_
        refine gw_iload_n dX12_putAll_22 rfl ?_
        refine gw_imulN dX12_putAll_23 ?_
        refine gw_iload dX12_putAll_24 rfl ?_
        refine gw_iaddN dX12_putAll_26 ?_
        refine gm_ld_key (j := (300 * f) + i) (rfl) (by omega) dX12_putAll_27 ?_
        refine gw_topi (y := (ia 7) ((300 * f) + i)) rfl ?_
        refine gw_lload_n dX12_putAll_28 rfl ?_
        refine gw_aload_n dX12_putAll_29 rfl ?_
        refine gm_get_number rfl dX12_putAll_30 ?_
        refine gw_sipush (v := nI (300)) dX12_putAll_33 (by decide) ?_
        refine gw_iload_n dX12_putAll_36 rfl ?_
        refine gw_imulN dX12_putAll_37 ?_
        refine gw_iload dX12_putAll_38 rfl ?_
        refine gw_iaddN dX12_putAll_40 ?_
        refine gm_ld_number (j := (300 * f) + i) (rfl) (by omega) dX12_putAll_41 ?_
        refine gw_topl (y := (la 8) ((300 * f) + i)) rfl ?_
        refine gw_lmul dX12_putAll_42 ?_
        refine gw_callV 0 (As := [.int ((ia 7) ((300 * f) + i)), .long ((v) * ((la 8) ((300 * f) + i)))]) (st := []) (c_mput l cy ad (va_up iv 9 (nI (m))) (va_up ia 10 (kk)) (va_up la 11 (nn)) (m) ((ia 7) ((300 * f) + i)) ((v) * ((la 8) ((300 * f) + i))) rfl (by omega) (h4)) ok_X12_put rfl rfl rfl wd_948 rfl rfl dX12_putAll_43 (by decide) (by decide) (Nat.le_of_ble_eq_true rfl) (fun r43 w43 hp43 => ?_)
        obtain ⟨rfl, n43, kk43, nn43, rfl, hT43⟩ := hp43
        have hT43 : takeS kk43 nn43 0 n43 = sIns ((ia 7) ((300 * f) + i)) ((v) * ((la 8) ((300 * f) + i))) (takeS (kk) (nn) 0 m) := hT43
        refine gw_W.wd (w' := (mW cy ad (va_up iv 9 (nI (n43))) (va_up ia 10 (kk43)) (va_up la 11 (nn43)))) rfl ?_
        refine gw_W.norm (st' := []) (k1 := 0) (k2 := 0) rfl rfl rfl ?_
        refine gw_iinc (v := nI (i + 1)) dX12_putAll_46 rfl (nI_add _ 1) (by decide) rfl ?_
        refine gw_goto (tgt := 3) dX12_putAll_49 (by decide) ?_
        refine gw_W.wd (w' := (mW cy ad (va_up iv 9 (nI ((n43)))) (va_up ia 10 (((kk43)))) (va_up la 11 (((nn43)))))) rfl ?_
        refine ih3 (i + 1) (n43) ((kk43)) ((nn43)) ?_ ?_ ?_ ?_ ?_
        · omega
        · rw [hT43, h2, takeS_snoc, sScale_snoc, sPuts_snoc]
        · have q1 := congrArg List.length hT43
          have q2 := sIns_len (ia 7 (300 * f + i)) (v * la 8 (300 * f + i)) (takeS kk nn 0 m)
          rw [takeS_len] at q1 q2; omega
        · rw [hT43]; exact sIns_ord h4
        · omega
  refine gw_W.wd (w' := mW cy ad (va_up iv 9 (nI (n))) ia la) (by rw [← hn, va_up_id]) ?_
  refine gw_W.wd (w' := (mW cy ad (va_up iv 9 (nI ((n)))) (va_up ia 10 (((ia 10)))) (va_up la 11 (((la 11)))))) rfl ?_
  refine cut3 _ (0) (n) ((ia 10)) ((la 11)) (Nat.zero_le _) rfl (Nat.le_refl _) hso (Nat.lt_succ_self _)
def qm_copy (cy : Nat → ClassId) (ad : Nat → Nat) (iv : Nat → Int32) (ia : Nat → Nat → Int32) (la : Nat → Nat → Int64) (t f c : Nat) : gw_Q := fun r w' => r = none ∧ ∃ (kk : Nat → Int32) (nn : Nat → Int64), w' = mW cy ad iv (va_up (va_up ia 6 (upd (ia 6) t (nI c))) 7 kk) (va_up la 8 nn) ∧ takeS kk nn (300 * t) c = takeS (ia 7) (la 8) (300 * f) c ∧ ∀ j, (j < 300 * t ∨ 300 * t + 300 ≤ j) → kk j = ia 7 j ∧ nn j = la 8 j
abbrev kX12_copySum : gw_K := (yX12_copySum, cX12_copySum, 4, { frames := 0, cells := 0, slots := 0, locals := 0 }, none)
theorem ok_X12_copySum : gw_calV kX12_copySum 2 := ⟨⟨wd_973, wd_62, by decide, by decide, by decide +kernel⟩, wd_972, wd_39⟩
set_option maxHeartbeats 4000000 in
set_option maxRecDepth 100000 in
theorem c_mcopySum (l : Launch) (cy : Nat → ClassId) (ad : Nat → Nat) (iv : Nat → Int32) (ia : Nat → Nat → Int32) (la : Nat → Nat → Int64) (t f c : Nat) (hc : ia 6 f = nI c) (ht : t < 18) (hf : f < 18) (hc3 : c ≤ 300) : gw_M l kX12_copySum cy [.ref (ad 0), .int (nI (t)), .int (nI (f))] (mW cy ad iv ia la) (qm_copy cy ad iv ia la t f c) := by
  refine gw_M.mk (lv := [some (.ref (ad 0)), some (.int (nI (t))), some (.int (nI (f))), none]) (by decide) (Nat.le_of_ble_eq_true rfl) rfl ?_
  generalize hpost : (qm_copy cy ad iv ia la t f c : gw_Q) = post
  have hcf : upd (ia 6) t (nI c) f = nI c := by
    by_cases e : f = t
    · subst e; exact pk_us
    · rw [pk_un e]; exact hc
  refine gw_aload_n dX12_copySum_0 rfl ?_
  refine gm_get_many rfl dX12_copySum_1 ?_
  refine gw_iload_n dX12_copySum_4 rfl ?_
  refine gw_aload_n dX12_copySum_5 rfl ?_
  refine gm_get_many rfl dX12_copySum_6 ?_
  refine gw_iload_n dX12_copySum_9 rfl ?_
  refine gm_ld_many (j := f) (rfl) (by omega) dX12_copySum_10 ?_
  refine gw_topi (y := nI (c)) (hc) ?_
  refine gm_st_many (j := t) (rfl) (by omega) dX12_copySum_11 ?_
  refine gw_W.wd (w' := (mW cy ad iv (va_up ia 6 (upd (ia 6) (t) (nI (c)))) la)) rfl ?_
  refine gw_iconst (v := nI (0)) dX12_copySum_12 (by decide) ?_
  refine gw_istore_n dX12_copySum_13 (by decide) rfl ?_
  have cut14 : ∀ (fu : Nat) (i : Nat) (kk : Nat → Int32) (nn : Nat → Int64), (i ≤ c) → (∀ j, j < i → kk (300 * t + j) = ia 7 (300 * f + j) ∧ nn (300 * t + j) = la 8 (300 * f + j)) → (∀ j, (j < 300 * t ∨ 300 * t + i ≤ j) → kk j = ia 7 j ∧ nn j = la 8 j) → (c - i) < fu → gw_W l kX12_copySum cy (gw_R kX12_copySum post) (mW cy ad iv (va_up (va_up ia 6 (upd (ia 6) (t) (nI (c)))) 7 (kk)) (va_up la 8 (nn))) 0 0 14 [some (.ref (ad 0)), some (.int (nI (t))), some (.int (nI (f))), some (.int (nI (i)))] [] := by
    intro fu
    induction fu with
    | zero => intro i kk nn h1 h2 h3 hfu; exact absurd hfu (Nat.not_lt_zero _)
    | succ fu ih14 =>
      intro i kk nn h1 h2 h3 hfu
      refine gw_iload_n dX12_copySum_14 rfl ?_
      refine gw_aload_n dX12_copySum_15 rfl ?_
      refine gm_get_many rfl dX12_copySum_16 ?_
      refine gw_iload_n dX12_copySum_19 rfl ?_
      refine gm_ld_many (j := f) (rfl) (by omega) dX12_copySum_20 ?_
      refine gw_topi (y := (upd (ia 6) (t) (nI (c))) (f)) rfl ?_
      refine gw_topi (y := nI (c)) (hcf) ?_
      refine gw_icmpN_ge (tgt := 78) dX12_copySum_21 (by decide) (by omega) (by omega) (fun c21 => ?_) (fun c21 => ?_)
      · have e1 : i = c := by omega
        subst e1
        refine gw_vret (?_) (by decide) (by decide) rfl dX12_copySum_78
        subst hpost
        exact ⟨rfl, kk, nn, rfl, takeS_congr h2, fun j hj => h3 j (by omega)⟩
      · have q7 : kk (300 * f + i) = ia 7 (300 * f + i) ∧ nn (300 * f + i) = la 8 (300 * f + i) := h3 _ (by omega)
        refine gw_aload_n dX12_copySum_24 rfl ?_
        refine gm_get_key rfl dX12_copySum_25 ?_
        refine gw_sipush (v := nI (300)) dX12_copySum_28 (by decide) ?_
        refine gw_iload_n dX12_copySum_31 rfl ?_
        refine gw_imulN dX12_copySum_32 ?_
        refine gw_iload_n dX12_copySum_33 rfl ?_
        refine gw_iaddN dX12_copySum_34 ?_
        refine gw_aload_n dX12_copySum_35 rfl ?_
        refine gm_get_key rfl dX12_copySum_36 ?_
        refine gw_sipush (v := nI (300)) dX12_copySum_39 (by decide) ?_
        refine gw_iload_n dX12_copySum_42 rfl ?_
        refine gw_imulN dX12_copySum_43 ?_
        refine gw_iload_n dX12_copySum_44 rfl ?_
        refine gw_iaddN dX12_copySum_45 ?_
        refine gm_ld_key (j := (300 * f) + i) (rfl) (by omega) dX12_copySum_46 ?_
        refine gw_topi (y := (kk) ((300 * f) + i)) rfl ?_
        refine gw_topi (y := ia 7 (300 * f + i)) (q7.1) ?_
        refine gm_st_key (j := (300 * t) + i) (rfl) (by omega) dX12_copySum_47 ?_
        refine gw_W.wd (w' := (mW cy ad iv (va_up (va_up ia 6 (upd (ia 6) (t) (nI (c)))) 7 (upd (kk) ((300 * t) + i) (ia 7 (300 * f + i)))) (va_up la 8 (nn)))) rfl ?_
        refine gw_aload_n dX12_copySum_48 rfl ?_
        refine gm_get_number rfl dX12_copySum_49 ?_
        refine gw_sipush (v := nI (300)) dX12_copySum_52 (by decide) ?_
        refine gw_iload_n dX12_copySum_55 rfl ?_
        refine gw_imulN dX12_copySum_56 ?_
        refine gw_iload_n dX12_copySum_57 rfl ?_
        refine gw_iaddN dX12_copySum_58 ?_
        refine gw_aload_n dX12_copySum_59 rfl ?_
        refine gm_get_number rfl dX12_copySum_60 ?_
        refine gw_sipush (v := nI (300)) dX12_copySum_63 (by decide) ?_
        refine gw_iload_n dX12_copySum_66 rfl ?_
        refine gw_imulN dX12_copySum_67 ?_
        refine gw_iload_n dX12_copySum_68 rfl ?_
        refine gw_iaddN dX12_copySum_69 ?_
        refine gm_ld_number (j := (300 * f) + i) (rfl) (by omega) dX12_copySum_70 ?_
        refine gw_topl (y := (nn) ((300 * f) + i)) rfl ?_
        refine gw_topl (y := la 8 (300 * f + i)) (q7.2) ?_
        refine gm_st_number (j := (300 * t) + i) (rfl) (by omega) dX12_copySum_71 ?_
        refine gw_W.wd (w' := (mW cy ad iv (va_up (va_up ia 6 (upd (ia 6) (t) (nI (c)))) 7 (upd (kk) ((300 * t) + i) (ia 7 (300 * f + i)))) (va_up la 8 (vp_updL (nn) ((300 * t) + i) (la 8 (300 * f + i)))))) rfl ?_
        refine gw_iinc (v := nI (i + 1)) dX12_copySum_72 rfl (nI_add _ 1) (by decide) rfl ?_
        refine gw_goto (tgt := 14) dX12_copySum_75 (by decide) ?_
        refine gw_W.wd (w' := (mW cy ad iv (va_up (va_up ia 6 (upd (ia 6) (t) (nI (c)))) 7 (((upd (kk) ((300 * t) + i) (ia 7 (300 * f + i)))))) (va_up la 8 (((vp_updL (nn) ((300 * t) + i) (la 8 (300 * f + i)))))))) rfl ?_
        refine ih14 (i + 1) ((upd (kk) ((300 * t) + i) (ia 7 (300 * f + i)))) ((vp_updL (nn) ((300 * t) + i) (la 8 (300 * f + i)))) ?_ ?_ ?_ ?_
        · omega
        · intro j hj
          rcases Nat.lt_or_ge j i with g | g
          · rw [pk_un (by omega), pk_uLn (by omega)]; exact h2 j g
          · have e3 : j = i := by omega
            subst e3; exact ⟨pk_us, pk_uLs⟩
        · intro j hj; rw [pk_un (by omega), pk_uLn (by omega)]; exact h3 j (by omega)
        · omega
  refine gw_W.wd (w' := (mW cy ad iv (va_up (va_up ia 6 (upd (ia 6) (t) (nI (c)))) 7 (((ia 7)))) (va_up la 8 (((la 8)))))) rfl ?_
  refine cut14 _ (0) ((ia 7)) ((la 8)) (Nat.zero_le _) (fun j h => absurd h (Nat.not_lt_zero _)) (fun _ _ => ⟨rfl, rfl⟩) (Nat.lt_succ_self _)
