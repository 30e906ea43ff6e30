/-! the mixer: enter, put, begin -/
abbrev kX4_enter : gw_K := (yX4_enter, cX4_enter, 5, { frames := 0, cells := 0, slots := 0, locals := 0 }, none)
theorem ok_X4_enter : gw_calV kX4_enter 3 := ⟨⟨wd_305, wd_58, by decide, by decide, by decide +kernel⟩, wd_304, wd_11⟩
set_option maxHeartbeats 4000000 in
set_option maxRecDepth 100000 in
theorem c_xenter (l : Launch) (cy : Nat → ClassId) (a0 a1 a2 a3 a4 a5 a6 : Nat) (kk : Nat → Int32) (nn : Nat → Int64) (k2 : Nat → Int32) (n2 : Nat → Int64) (sl su : Nat → Int32) (n s : Nat) (k : Int32) (v : Int64) (hn : n < 900) (hs : s < 2048) : gw_M l kX4_enter cy [.ref (a0), .int (nI (s)), .int (k), .long (v)] (xW cy a0 a1 a2 a3 a4 a5 a6 (nI n) (nI n) kk nn k2 n2 sl su) (fun r w' => r = none ∧ w' = (xW cy a0 a1 a2 a3 a4 a5 a6 (nI (n + 1)) (nI (n + 1)) (upd kk n k) (vp_updL nn n v) k2 n2 (upd sl s (nI (n + 1))) (upd su n (nI s)))) := by
  refine gw_M.mk (lv := [some (.ref (a0)), some (.int (nI (s))), some (.int (k)), some (.long (v)), none]) (by decide) (Nat.le_of_ble_eq_true rfl) rfl ?_
  generalize hpost : (fun r w' => r = none ∧ w' = (xW cy a0 a1 a2 a3 a4 a5 a6 (nI (n + 1)) (nI (n + 1)) (upd kk n k) (vp_updL nn n v) k2 n2 (upd sl s (nI (n + 1))) (upd su n (nI s))) : gw_Q) = post
  refine gw_W.wd (w' := [(a0, .inr (3, [.ref (a1), .ref (a2), .ref (a3), .ref (a4), .int (nI (n)), .ref (a5), .ref (a6), .int (nI (n))])), (a1, .inl (cy 0, 900, .inl (kk))), (a2, .inl (cy 1, 900, .inr (.inl (nn)))), (a3, .inl (cy 0, 900, .inl (k2))), (a4, .inl (cy 1, 900, .inr (.inl (n2)))), (a5, .inl (cy 0, 2048, .inl (sl))), (a6, .inl (cy 0, 900, .inl (su)))]) rfl ?_
  refine gw_aload_n dX4_enter_0 rfl ?_
  refine gw_get (C0 := RX4) (T := TX4) (N := 8) (ref := RX4) 0 rfl rfl inX4 4 (by decide) wd_94 (Or.inl rfl) rfl dX4_enter_1 ?_
  refine gw_sipush (v := nI (900)) dX4_enter_4 (by decide) ?_
  refine gw_icmpN_ge (tgt := 20) dX4_enter_7 (by decide) (by omega) (by omega) (fun c7 => ?_) (fun c7 => ?_)
  · exfalso; omega
  · refine gw_aload_n dX4_enter_10 rfl ?_
    refine gw_get (C0 := RX4) (T := TX4) (N := 8) (ref := RX4) 0 rfl rfl inX4 7 (by decide) wd_97 (Or.inl rfl) rfl dX4_enter_11 ?_
    refine gw_sipush (v := nI (900)) dX4_enter_14 (by decide) ?_
    refine gw_icmpN_lt (tgt := 21) dX4_enter_17 (by decide) (by omega) (by omega) (fun c17 => ?_) (fun c17 => ?_)
    · refine gw_aload_n dX4_enter_21 rfl ?_
      refine gw_get (C0 := RX4) (T := TX4) (N := 8) (ref := RX4) 0 rfl rfl inX4 6 (by decide) wd_96 (Or.inl rfl) rfl dX4_enter_22 ?_
      refine gw_aload_n dX4_enter_25 rfl ?_
      refine gw_get (C0 := RX4) (T := TX4) (N := 8) (ref := RX4) 0 rfl rfl inX4 7 (by decide) wd_97 (Or.inl rfl) rfl dX4_enter_26 ?_
      refine gw_iload_n dX4_enter_29 rfl ?_
      refine gw_iast 6 rfl (rfl) (by omega) (by decide) dX4_enter_30 ?_
      refine gw_W.wd (w' := [(a0, .inr (3, [.ref (a1), .ref (a2), .ref (a3), .ref (a4), .int (nI (n)), .ref (a5), .ref (a6), .int (nI (n))])), (a1, .inl (cy 0, 900, .inl (kk))), (a2, .inl (cy 1, 900, .inr (.inl (nn)))), (a3, .inl (cy 0, 900, .inl (k2))), (a4, .inl (cy 1, 900, .inr (.inl (n2)))), (a5, .inl (cy 0, 2048, .inl (sl))), (a6, .inl (cy 0, 900, .inl (upd su (n) (nI (s)))))]) rfl ?_
      refine gw_aload_n dX4_enter_31 rfl ?_
      refine gw_dup dX4_enter_32 rfl ?_
      refine gw_get (C0 := RX4) (T := TX4) (N := 8) (ref := RX4) 0 rfl rfl inX4 7 (by decide) wd_97 (Or.inl rfl) rfl dX4_enter_33 ?_
      refine gw_iconst (v := nI (1)) dX4_enter_36 (by decide) ?_
      refine gw_iaddN dX4_enter_37 ?_
      refine gw_put (C0 := RX4) (T := TX4) (N := 8) (ref := RX4) (ty := tyX4 7) 0 rfl rfl inX4 7 (by decide) tyX4 tyX4_ok nmX4 wd_97 (Or.inl rfl) rfl (tyX4_ok 7 (by decide)) (rfl) rfl (Nat.le_of_ble_eq_true rfl) dX4_enter_38 ?_
      refine gw_W.wd (w' := [(a0, .inr (3, [.ref (a1), .ref (a2), .ref (a3), .ref (a4), .int (nI (n)), .ref (a5), .ref (a6), .int (nI (n + 1))])), (a1, .inl (cy 0, 900, .inl (kk))), (a2, .inl (cy 1, 900, .inr (.inl (nn)))), (a3, .inl (cy 0, 900, .inl (k2))), (a4, .inl (cy 1, 900, .inr (.inl (n2)))), (a5, .inl (cy 0, 2048, .inl (sl))), (a6, .inl (cy 0, 900, .inl (upd su (n) (nI (s)))))]) rfl ?_
      refine gw_aload_n dX4_enter_41 rfl ?_
      refine gw_get (C0 := RX4) (T := TX4) (N := 8) (ref := RX4) 0 rfl rfl inX4 0 (by decide) wd_90 (Or.inl rfl) rfl dX4_enter_42 ?_
      refine gw_aload_n dX4_enter_45 rfl ?_
      refine gw_get (C0 := RX4) (T := TX4) (N := 8) (ref := RX4) 0 rfl rfl inX4 4 (by decide) wd_94 (Or.inl rfl) rfl dX4_enter_46 ?_
      refine gw_iload_n dX4_enter_49 rfl ?_
      refine gw_iast 1 rfl (rfl) (by omega) (by decide) dX4_enter_50 ?_
      refine gw_W.wd (w' := [(a0, .inr (3, [.ref (a1), .ref (a2), .ref (a3), .ref (a4), .int (nI (n)), .ref (a5), .ref (a6), .int (nI (n + 1))])), (a1, .inl (cy 0, 900, .inl (upd kk (n) (k)))), (a2, .inl (cy 1, 900, .inr (.inl (nn)))), (a3, .inl (cy 0, 900, .inl (k2))), (a4, .inl (cy 1, 900, .inr (.inl (n2)))), (a5, .inl (cy 0, 2048, .inl (sl))), (a6, .inl (cy 0, 900, .inl (upd su (n) (nI (s)))))]) rfl ?_
      refine gw_aload_n dX4_enter_51 rfl ?_
      refine gw_get (C0 := RX4) (T := TX4) (N := 8) (ref := RX4) 0 rfl rfl inX4 1 (by decide) wd_91 (Or.inl rfl) rfl dX4_enter_52 ?_
      refine gw_aload_n dX4_enter_55 rfl ?_
      refine gw_get (C0 := RX4) (T := TX4) (N := 8) (ref := RX4) 0 rfl rfl inX4 4 (by decide) wd_94 (Or.inl rfl) rfl dX4_enter_56 ?_
      refine gw_lload_n dX4_enter_59 rfl ?_
      refine gw_last 2 rfl (rfl) (by omega) (by decide) dX4_enter_60 ?_
      refine gw_W.wd (w' := [(a0, .inr (3, [.ref (a1), .ref (a2), .ref (a3), .ref (a4), .int (nI (n)), .ref (a5), .ref (a6), .int (nI (n + 1))])), (a1, .inl (cy 0, 900, .inl (upd kk (n) (k)))), (a2, .inl (cy 1, 900, .inr (.inl (vp_updL nn (n) (v))))), (a3, .inl (cy 0, 900, .inl (k2))), (a4, .inl (cy 1, 900, .inr (.inl (n2)))), (a5, .inl (cy 0, 2048, .inl (sl))), (a6, .inl (cy 0, 900, .inl (upd su (n) (nI (s)))))]) rfl ?_
      refine gw_aload_n dX4_enter_61 rfl ?_
      refine gw_dup dX4_enter_62 rfl ?_
      refine gw_get (C0 := RX4) (T := TX4) (N := 8) (ref := RX4) 0 rfl rfl inX4 4 (by decide) wd_94 (Or.inl rfl) rfl dX4_enter_63 ?_
      refine gw_iconst (v := nI (1)) dX4_enter_66 (by decide) ?_
      refine gw_iaddN dX4_enter_67 ?_
      refine gw_put (C0 := RX4) (T := TX4) (N := 8) (ref := RX4) (ty := tyX4 4) 0 rfl rfl inX4 4 (by decide) tyX4 tyX4_ok nmX4 wd_94 (Or.inl rfl) rfl (tyX4_ok 4 (by decide)) (rfl) rfl (Nat.le_of_ble_eq_true rfl) dX4_enter_68 ?_
      refine gw_W.wd (w' := [(a0, .inr (3, [.ref (a1), .ref (a2), .ref (a3), .ref (a4), .int (nI (n + 1)), .ref (a5), .ref (a6), .int (nI (n + 1))])), (a1, .inl (cy 0, 900, .inl (upd kk (n) (k)))), (a2, .inl (cy 1, 900, .inr (.inl (vp_updL nn (n) (v))))), (a3, .inl (cy 0, 900, .inl (k2))), (a4, .inl (cy 1, 900, .inr (.inl (n2)))), (a5, .inl (cy 0, 2048, .inl (sl))), (a6, .inl (cy 0, 900, .inl (upd su (n) (nI (s)))))]) rfl ?_
      refine gw_aload_n dX4_enter_71 rfl ?_
      refine gw_get (C0 := RX4) (T := TX4) (N := 8) (ref := RX4) 0 rfl rfl inX4 5 (by decide) wd_95 (Or.inl rfl) rfl dX4_enter_72 ?_
      refine gw_iload_n dX4_enter_75 rfl ?_
      refine gw_aload_n dX4_enter_76 rfl ?_
      refine gw_get (C0 := RX4) (T := TX4) (N := 8) (ref := RX4) 0 rfl rfl inX4 4 (by decide) wd_94 (Or.inl rfl) rfl dX4_enter_77 ?_
      refine gw_iast 5 rfl (rfl) (by omega) (by decide) dX4_enter_80 ?_
      refine gw_W.wd (w' := [(a0, .inr (3, [.ref (a1), .ref (a2), .ref (a3), .ref (a4), .int (nI (n + 1)), .ref (a5), .ref (a6), .int (nI (n + 1))])), (a1, .inl (cy 0, 900, .inl (upd kk (n) (k)))), (a2, .inl (cy 1, 900, .inr (.inl (vp_updL nn (n) (v))))), (a3, .inl (cy 0, 900, .inl (k2))), (a4, .inl (cy 1, 900, .inr (.inl (n2)))), (a5, .inl (cy 0, 2048, .inl (upd sl (s) (nI (n + 1))))), (a6, .inl (cy 0, 900, .inl (upd su (n) (nI (s)))))]) rfl ?_
      refine gw_vret (?_) (by decide) (by decide) rfl dX4_enter_81
      subst hpost
      exact ⟨rfl, rfl⟩
    · exfalso; omega
def qx (cy : Nat → ClassId) (a0 a1 a2 a3 a4 a5 a6 : Nat) (k2 : Nat → Int32) (n2 : Nat → Int64) (r0 : Option Value) (E : List sT) : gw_Q := fun r w' => r = r0 ∧ ∃ (kk : Nat → Int32) (nn : Nat → Int64) (sl su : Nat → Int32), w' = xW cy a0 a1 a2 a3 a4 a5 a6 (nI E.length) (nI E.length) kk nn k2 n2 sl su ∧ mxE E kk nn sl su
abbrev kX4_put : gw_K := (yX4_put, cX4_put, 7, { frames := 1, cells := 0, slots := 0, locals := 24 }, none)
theorem ok_X4_put : gw_calV kX4_put 2 := ⟨⟨wd_300, wd_58, by decide, by decide, by decide +kernel⟩, wd_299, wd_10⟩
set_option maxHeartbeats 4000000 in
set_option maxRecDepth 100000 in
theorem c_xput (l : Launch) (cy : Nat → ClassId) (a0 a1 a2 a3 a4 a5 a6 : Nat) (kk : Nat → Int32) (nn : Nat → Int64) (k2 : Nat → Int32) (n2 : Nat → Int64) (sl su : Nat → Int32) (E : List sT) (k : Int32) (v : Int64) (hE : mxE E kk nn sl su) (hl : E.length < 900) : gw_M l kX4_put cy [.ref (a0), .int (k), .long (v)] (xW cy a0 a1 a2 a3 a4 a5 a6 (nI E.length) (nI E.length) kk nn k2 n2 sl su) (qx cy a0 a1 a2 a3 a4 a5 a6 k2 n2 none (xPut k v E)) := by
  refine gw_M.mk (lv := [some (.ref (a0)), some (.int (k)), some (.long (v)), none, none, none, none]) (by decide) (Nat.le_of_ble_eq_true rfl) rfl ?_
  generalize hpost : (qx cy a0 a1 a2 a3 a4 a5 a6 k2 n2 none (xPut k v E) : gw_Q) = post
  refine gw_W.wd (w' := [(a0, .inr (3, [.ref (a1), .ref (a2), .ref (a3), .ref (a4), .int (nI (E.length)), .ref (a5), .ref (a6), .int (nI (E.length))])), (a1, .inl (cy 0, 900, .inl (kk))), (a2, .inl (cy 1, 900, .inr (.inl (nn)))), (a3, .inl (cy 0, 900, .inl (k2))), (a4, .inl (cy 1, 900, .inr (.inl (n2)))), (a5, .inl (cy 0, 2048, .inl (sl))), (a6, .inl (cy 0, 900, .inl (su)))]) rfl ?_
  refine gw_iload_n dX4_put_0 rfl ?_
  refine gw_ldc dX4_put_1 wd_301 ?_
  refine gw_imul dX4_put_3 ?_
  refine gw_bipush (v := nI (21)) dX4_put_4 (by decide) ?_
  refine gw_iushr (v := nI ((xH k + 0) % 2048)) dX4_put_6 (xH_eq k) ?_
  refine gw_istore dX4_put_7 (by decide) rfl ?_
  refine gw_iconst (v := nI (0)) dX4_put_9 (by decide) ?_
  refine gw_istore dX4_put_10 (by decide) rfl ?_
  have cut12 : ∀ (fu : Nat) (t : Nat), (t ≤ 2048) → (∀ u, u < t → ∃ i, i < E.length ∧ sl ((xH k + u) % 2048) = nI (i + 1) ∧ ¬ kk i = k) → (2048 - t) < fu → gw_W l kX4_put cy (gw_R kX4_put post) [(a0, .inr (3, [.ref (a1), .ref (a2), .ref (a3), .ref (a4), .int (nI (E.length)), .ref (a5), .ref (a6), .int (nI (E.length))])), (a1, .inl (cy 0, 900, .inl (kk))), (a2, .inl (cy 1, 900, .inr (.inl (nn)))), (a3, .inl (cy 0, 900, .inl (k2))), (a4, .inl (cy 1, 900, .inr (.inl (n2)))), (a5, .inl (cy 0, 2048, .inl (sl))), (a6, .inl (cy 0, 900, .inl (su)))] 0 0 12 [some (.ref (a0)), some (.int (k)), some (.long (v)), none, some (.int (nI ((xH k + t) % 2048))), some (.int (nI (t))), none] [] := by
    intro fu
    induction fu with
    | zero => intro t t1 t2 hfu; exact absurd hfu (Nat.not_lt_zero _)
    | succ fu ih12 =>
      intro t t1 t2 hfu
      refine gw_iload dX4_put_12 rfl ?_
      refine gw_sipush (v := nI (2048)) dX4_put_14 (by decide) ?_
      refine gw_icmpN_ge (tgt := 84) dX4_put_17 (by decide) (by omega) (by omega) (fun c17 => ?_) (fun c17 => ?_)
      · have e1 : t = 2048 := by omega
        subst e1
        refine gw_vret (?_) (by decide) (by decide) rfl dX4_put_84
        exact (hsh_full hE.1 hE.2.2.1 t2).elim
      · refine gw_aload_n dX4_put_20 rfl ?_
        refine gw_get (C0 := RX4) (T := TX4) (N := 8) (ref := RX4) 0 rfl rfl inX4 5 (by decide) wd_95 (Or.inl rfl) rfl dX4_put_21 ?_
        refine gw_iload dX4_put_24 rfl ?_
        refine gw_iald 5 rfl (rfl) (Nat.mod_lt _ (by decide)) (by decide) dX4_put_26 ?_
        refine gw_topi (y := sl ((xH k + t) % 2048)) (rfl) ?_
        refine gw_iconst (v := nI (1)) dX4_put_27 (by decide) ?_
        refine gw_isub dX4_put_28 ?_
        refine gw_istore dX4_put_29 (by decide) rfl ?_
        refine gw_iload dX4_put_31 rfl ?_
        refine gw_if_ge (tgt := 45) dX4_put_33 (by decide) (fun c33 => ?_) (fun c33 => ?_)
        · obtain ⟨i, g1, g2, g3⟩ : ∃ i, i < E.length ∧ sl ((xH k + t) % 2048) = nI (i + 1) ∧ su i = nI ((xH k + t) % 2048) := by
            rcases hE.2.2.1.2 ((xH k + t) % 2048) (Nat.mod_lt _ (by decide)) with g | g
            · rw [g] at c33; exact absurd c33 (by decide)
            · exact g
          have g4 : sl ((xH k + t) % 2048) - nI 1 = nI i := by rw [g2]; exact pk_sub (by omega)
          have g5 := hE.1
          refine gw_aload_n dX4_put_45 rfl ?_
          refine gw_get (C0 := RX4) (T := TX4) (N := 8) (ref := RX4) 0 rfl rfl inX4 0 (by decide) wd_90 (Or.inl rfl) rfl dX4_put_46 ?_
          refine gw_iload dX4_put_49 rfl ?_
          refine gw_topi (y := nI (i)) (g4) ?_
          refine gw_iald 1 rfl (rfl) (by omega) (by decide) dX4_put_51 ?_
          refine gw_topi (y := kk (i)) (rfl) ?_
          refine gw_iload_n dX4_put_52 rfl ?_
          refine gw_icmp_ne (tgt := 68) dX4_put_53 (by decide) (fun c53 => ?_) (fun c53 => ?_)
          · refine gw_iload dX4_put_68 rfl ?_
            refine gw_iconst (v := nI (1)) dX4_put_70 (by decide) ?_
            refine gw_iaddN dX4_put_71 ?_
            refine gw_sipush (v := nI (2047)) dX4_put_72 (by decide) ?_
            refine gw_iand dX4_put_75 ?_
            refine gw_topi (y := nI ((xH k + (t + 1)) % 2048)) (slot_next _ _) ?_
            refine gw_istore dX4_put_76 (by decide) rfl ?_
            refine gw_iinc (v := nI (t + 1)) dX4_put_78 rfl (nI_add _ 1) (by decide) rfl ?_
            refine gw_goto (tgt := 12) dX4_put_81 (by decide) ?_
            refine gw_W.forget 6 ?_
            refine ih12 (t + 1) (by omega) ?_ ?_
            · intro u hu
              rcases Nat.lt_or_ge u t with g | g
              · exact t2 u g
              · have e2 : u = t := by omega
                rw [e2]; exact ⟨i, g1, g2, c53⟩
            · omega
          · refine gw_aload_n dX4_put_56 rfl ?_
            refine gw_get (C0 := RX4) (T := TX4) (N := 8) (ref := RX4) 0 rfl rfl inX4 1 (by decide) wd_91 (Or.inl rfl) rfl dX4_put_57 ?_
            refine gw_iload dX4_put_60 rfl ?_
            refine gw_topi (y := nI (i)) (g4) ?_
            refine gw_dup2 dX4_put_62 rfl rfl ?_
            refine gw_lald 2 rfl (rfl) (by omega) (by decide) dX4_put_63 ?_
            refine gw_topl (y := nn (i)) (rfl) ?_
            refine gw_lload_n dX4_put_64 rfl ?_
            refine gw_ladd dX4_put_65 ?_
            refine gw_last 2 rfl (rfl) (by omega) (by decide) dX4_put_66 ?_
            refine gw_W.wd (w' := [(a0, .inr (3, [.ref (a1), .ref (a2), .ref (a3), .ref (a4), .int (nI (E.length)), .ref (a5), .ref (a6), .int (nI (E.length))])), (a1, .inl (cy 0, 900, .inl (kk))), (a2, .inl (cy 1, 900, .inr (.inl (vp_updL nn (i) ((nn (i)) + (v)))))), (a3, .inl (cy 0, 900, .inl (k2))), (a4, .inl (cy 1, 900, .inr (.inl (n2)))), (a5, .inl (cy 0, 2048, .inl (sl))), (a6, .inl (cy 0, 900, .inl (su)))]) rfl ?_
            refine gw_vret (?_) (by decide) (by decide) rfl dX4_put_67
            subst hpost
            obtain ⟨m1, m2⟩ := mxE_old (v := v) hE g1
            rw [c53] at m1 m2
            exact ⟨rfl, _, _, _, _, by rw [m2]; rfl, m1⟩
        · have g0 : sl ((xH k + t) % 2048) = 0 := by
            rcases hE.2.2.1.2 ((xH k + t) % 2048) (Nat.mod_lt _ (by decide)) with g | ⟨i, g1, g2, g3⟩
            · exact g
            · exfalso; apply c33
              rw [g2, pk_sub (by omega), i32_le, nI_toInt (by have := hE.1; omega)]
              exact Int.natCast_nonneg i
          refine gw_aload_n dX4_put_36 rfl ?_
          refine gw_iload dX4_put_37 rfl ?_
          refine gw_iload_n dX4_put_39 rfl ?_
          refine gw_lload_n dX4_put_40 rfl ?_
          refine gw_W.wd (w' := (xW cy a0 a1 a2 a3 a4 a5 a6 (nI E.length) (nI E.length) kk nn k2 n2 sl su)) rfl ?_
          refine gw_callV 0 (As := [.int (nI ((xH k + t) % 2048)), .int (k), .long (v)]) (st := []) (c_xenter l cy a0 a1 a2 a3 a4 a5 a6 kk nn k2 n2 sl su E.length ((xH k + t) % 2048) (k) (v) hl (Nat.mod_lt _ (by decide))) ok_X4_enter rfl rfl rfl wd_302 rfl rfl dX4_put_41 (by decide) (by decide) (Nat.le_of_ble_eq_true rfl) (fun r41 w41 hp41 => ?_)
          obtain ⟨rfl, rfl⟩ := hp41
          refine gw_W.norm (st' := []) (k1 := 0) (k2 := 0) rfl rfl rfl ?_
          refine gw_W.wd (w' := [(a0, .inr (3, [.ref (a1), .ref (a2), .ref (a3), .ref (a4), .int (nI (E.length + 1)), .ref (a5), .ref (a6), .int (nI (E.length + 1))])), (a1, .inl (cy 0, 900, .inl (upd kk E.length k))), (a2, .inl (cy 1, 900, .inr (.inl (vp_updL nn E.length v)))), (a3, .inl (cy 0, 900, .inl (k2))), (a4, .inl (cy 1, 900, .inr (.inl (n2)))), (a5, .inl (cy 0, 2048, .inl (upd sl ((xH k + t) % 2048) (nI (E.length + 1))))), (a6, .inl (cy 0, 900, .inl (upd su E.length (nI ((xH k + t) % 2048)))))]) rfl ?_
          refine gw_vret (?_) (by decide) (by decide) rfl dX4_put_44
          subst hpost
          obtain ⟨m1, m2⟩ := mxE_new (v := v) hE hl (by omega) g0 t2
          exact ⟨rfl, _, _, _, _, by rw [m2]; rfl, m1⟩
  refine cut12 _ (0) (Nat.zero_le _) (fun u h => absurd h (Nat.not_lt_zero _)) (Nat.lt_succ_self _)
abbrev kX4_begin : gw_K := (yX4_begin, cX4_begin, 2, { frames := 0, cells := 0, slots := 0, locals := 0 }, none)
theorem ok_X4_begin : gw_calV kX4_begin 0 := ⟨⟨wd_292, wd_58, by decide, by decide, by decide +kernel⟩, wd_291, wd_8⟩
set_option maxHeartbeats 4000000 in
set_option maxRecDepth 100000 in
theorem c_xbegin (l : Launch) (cy : Nat → ClassId) (a0 a1 a2 a3 a4 a5 a6 : Nat) (kk : Nat → Int32) (nn : Nat → Int64) (k2 : Nat → Int32) (n2 : Nat → Int64) (sl su : Nat → Int32) (sz : Int32) (n : Nat) (hc : hcl n sl su) : gw_M l kX4_begin cy [.ref (a0)] (xW cy a0 a1 a2 a3 a4 a5 a6 (sz) (nI n) kk nn k2 n2 sl su) (qx cy a0 a1 a2 a3 a4 a5 a6 k2 n2 none []) := by
  refine gw_M.mk (lv := [some (.ref (a0)), none]) (by decide) (Nat.le_of_ble_eq_true rfl) rfl ?_
  generalize hpost : (qx cy a0 a1 a2 a3 a4 a5 a6 k2 n2 none [] : gw_Q) = post
  refine gw_W.wd (w' := [(a0, .inr (3, [.ref (a1), .ref (a2), .ref (a3), .ref (a4), .int (sz), .ref (a5), .ref (a6), .int (nI (n))])), (a1, .inl (cy 0, 900, .inl (kk))), (a2, .inl (cy 1, 900, .inr (.inl (nn)))), (a3, .inl (cy 0, 900, .inl (k2))), (a4, .inl (cy 1, 900, .inr (.inl (n2)))), (a5, .inl (cy 0, 2048, .inl (sl))), (a6, .inl (cy 0, 900, .inl (su)))]) rfl ?_
  refine gw_iconst (v := nI (0)) dX4_begin_0 (by decide) ?_
  refine gw_istore_n dX4_begin_1 (by decide) rfl ?_
  have cut2 : ∀ (fu : Nat) (i : Nat) (s2 : Nat → Int32), (i ≤ n) → (∀ s, s < 2048 → s2 s = 0 ∨ ∃ j, i ≤ j ∧ j < n ∧ su j = nI s) → (n - i) < fu → gw_W l kX4_begin cy (gw_R kX4_begin post) [(a0, .inr (3, [.ref (a1), .ref (a2), .ref (a3), .ref (a4), .int (sz), .ref (a5), .ref (a6), .int (nI (n))])), (a1, .inl (cy 0, 900, .inl (kk))), (a2, .inl (cy 1, 900, .inr (.inl (nn)))), (a3, .inl (cy 0, 900, .inl (k2))), (a4, .inl (cy 1, 900, .inr (.inl (n2)))), (a5, .inl (cy 0, 2048, .inl (s2))), (a6, .inl (cy 0, 900, .inl (su)))] 0 0 2 [some (.ref (a0)), some (.int (nI (i)))] [] := by
    intro fu
    induction fu with
    | zero => intro i s2 h1 h2 hfu; exact absurd hfu (Nat.not_lt_zero _)
    | succ fu ih2 =>
      intro i s2 h1 h2 hfu
      refine gw_iload_n dX4_begin_2 rfl ?_
      refine gw_aload_n dX4_begin_3 rfl ?_
      refine gw_get (C0 := RX4) (T := TX4) (N := 8) (ref := RX4) 0 rfl rfl inX4 7 (by decide) wd_97 (Or.inl rfl) rfl dX4_begin_4 ?_
      refine gw_icmpN_ge (tgt := 28) dX4_begin_7 (by decide) (by have := hc.1; omega) (by have := hc.1; omega) (fun c7 => ?_) (fun c7 => ?_)
      · have e1 : i = n := by omega
        refine gw_aload_n dX4_begin_28 rfl ?_
        refine gw_iconst (v := nI (0)) dX4_begin_29 (by decide) ?_
        refine gw_put (C0 := RX4) (T := TX4) (N := 8) (ref := RX4) (ty := tyX4 7) 0 rfl rfl inX4 7 (by decide) tyX4 tyX4_ok nmX4 wd_97 (Or.inl rfl) rfl (tyX4_ok 7 (by decide)) (rfl) rfl (Nat.le_of_ble_eq_true rfl) dX4_begin_30 ?_
        refine gw_W.wd (w' := [(a0, .inr (3, [.ref (a1), .ref (a2), .ref (a3), .ref (a4), .int (sz), .ref (a5), .ref (a6), .int (nI (0))])), (a1, .inl (cy 0, 900, .inl (kk))), (a2, .inl (cy 1, 900, .inr (.inl (nn)))), (a3, .inl (cy 0, 900, .inl (k2))), (a4, .inl (cy 1, 900, .inr (.inl (n2)))), (a5, .inl (cy 0, 2048, .inl (s2))), (a6, .inl (cy 0, 900, .inl (su)))]) rfl ?_
        refine gw_aload_n dX4_begin_33 rfl ?_
        refine gw_iconst (v := nI (0)) dX4_begin_34 (by decide) ?_
        refine gw_put (C0 := RX4) (T := TX4) (N := 8) (ref := RX4) (ty := tyX4 4) 0 rfl rfl inX4 4 (by decide) tyX4 tyX4_ok nmX4 wd_94 (Or.inl rfl) rfl (tyX4_ok 4 (by decide)) (rfl) rfl (Nat.le_of_ble_eq_true rfl) dX4_begin_35 ?_
        refine gw_W.wd (w' := [(a0, .inr (3, [.ref (a1), .ref (a2), .ref (a3), .ref (a4), .int (nI (0)), .ref (a5), .ref (a6), .int (nI (0))])), (a1, .inl (cy 0, 900, .inl (kk))), (a2, .inl (cy 1, 900, .inr (.inl (nn)))), (a3, .inl (cy 0, 900, .inl (k2))), (a4, .inl (cy 1, 900, .inr (.inl (n2)))), (a5, .inl (cy 0, 2048, .inl (s2))), (a6, .inl (cy 0, 900, .inl (su)))]) rfl ?_
        refine gw_vret (?_) (by decide) (by decide) rfl dX4_begin_38
        subst hpost
        refine ⟨rfl, kk, nn, s2, su, rfl, Nat.zero_le _, rfl, hsh_nil (fun s hs => ?_), fun i j hij hj => absurd hj (Nat.not_lt_zero _)⟩
        rcases h2 s hs with g | ⟨j, g1, g2, g3⟩
        · exact g
        · exfalso; omega
      · obtain ⟨s, q1, q2⟩ := hc.2.1 i (by omega)
        have q3 := hc.1
        refine gw_aload_n dX4_begin_10 rfl ?_
        refine gw_get (C0 := RX4) (T := TX4) (N := 8) (ref := RX4) 0 rfl rfl inX4 5 (by decide) wd_95 (Or.inl rfl) rfl dX4_begin_11 ?_
        refine gw_aload_n dX4_begin_14 rfl ?_
        refine gw_get (C0 := RX4) (T := TX4) (N := 8) (ref := RX4) 0 rfl rfl inX4 6 (by decide) wd_96 (Or.inl rfl) rfl dX4_begin_15 ?_
        refine gw_iload_n dX4_begin_18 rfl ?_
        refine gw_iald 6 rfl (rfl) (by omega) (by decide) dX4_begin_19 ?_
        refine gw_topi (y := nI (s)) (q2) ?_
        refine gw_iconst (v := nI (0)) dX4_begin_20 (by decide) ?_
        refine gw_iast 5 rfl (rfl) (q1) (by decide) dX4_begin_21 ?_
        refine gw_W.wd (w' := [(a0, .inr (3, [.ref (a1), .ref (a2), .ref (a3), .ref (a4), .int (sz), .ref (a5), .ref (a6), .int (nI (n))])), (a1, .inl (cy 0, 900, .inl (kk))), (a2, .inl (cy 1, 900, .inr (.inl (nn)))), (a3, .inl (cy 0, 900, .inl (k2))), (a4, .inl (cy 1, 900, .inr (.inl (n2)))), (a5, .inl (cy 0, 2048, .inl (upd s2 (s) (nI (0))))), (a6, .inl (cy 0, 900, .inl (su)))]) rfl ?_
        refine gw_iinc (v := nI (i + 1)) dX4_begin_22 rfl (nI_add _ 1) (by decide) rfl ?_
        refine gw_goto (tgt := 2) dX4_begin_25 (by decide) ?_
        refine ih2 (i + 1) (upd s2 (s) (nI (0))) (by omega) ?_ ?_
        · intro u hu
          by_cases e : u = s
          · subst e; exact Or.inl pk_us
          · rw [pk_un e]
            rcases h2 u hu with g | ⟨j, g1, g2, g3⟩
            · exact Or.inl g
            · refine Or.inr ⟨j, ?_, g2, g3⟩
              rcases Nat.lt_or_ge i j with g4 | g4
              · exact g4
              · have e2 : j = i := by omega
                rw [e2, q2] at g3
                exact absurd (nI_inj (by omega) (by omega) g3).symm e
        · omega
  refine cut2 _ (0) (sl) (Nat.zero_le _) ?_ (Nat.lt_succ_self _)
  · intro s hs
    rcases hc.2.2 s hs with g | ⟨j, g1, g2⟩
    · exact Or.inl g
    · exact Or.inr ⟨j, Nat.zero_le _, g1, g2⟩
