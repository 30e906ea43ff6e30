abbrev kX12_fits : gw_K := (yX12_fits, cX12_fits, 7, { frames := 0, cells := 0, slots := 0, locals := 0 }, (some .boolean))
theorem ok_X12_fits : gw_calV kX12_fits 2 := ⟨⟨wd_998, wd_62, by decide, by decide, by decide +kernel⟩, wd_997, wd_42⟩
set_option maxHeartbeats 4000000 in
set_option maxRecDepth 100000 in
theorem c_mfits (l : Launch) (cy : Nat → ClassId) (ad : Nat → Nat) (iv : Nat → Int32) (ia : Nat → Nat → Int32) (la : Nat → Nat → Int64) (n g p : Nat) (hn : iv 0 = nI n) (hn4 : n ≤ 4) (hg : g < 256) (hp : p < 256) : gw_M l kX12_fits cy [.ref (ad 0), .int (nI (g)), .int (nI (p))] (mW cy ad iv ia la) (fun r w' => r = some (.int (bI (fitN n g p))) ∧ w' = mW cy ad iv ia la) := by
  refine gw_M.mk (lv := [some (.ref (ad 0)), some (.int (nI (g))), some (.int (nI (p))), none, none, none, none]) (by decide) (Nat.le_of_ble_eq_true rfl) rfl ?_
  generalize hpost : (fun r w' => r = some (.int (bI (fitN n g p))) ∧ w' = mW cy ad iv ia la : gw_Q) = post
  refine gw_iconst (v := nI (0)) dX12_fits_0 (by decide) ?_
  refine gw_istore_n dX12_fits_1 (by decide) rfl ?_
  refine gw_iconst (v := nI (0)) dX12_fits_2 (by decide) ?_
  refine gw_istore dX12_fits_3 (by decide) rfl ?_
  have cut5 : ∀ (fu : Nat) (c : Nat) (s : Nat), (s ≤ n) → (c = cntN g p s) → (n - s) < fu → gw_W l kX12_fits cy (gw_R kX12_fits post) (mW cy ad iv ia la) 0 0 5 [some (.ref (ad 0)), some (.int (nI (g))), some (.int (nI (p))), some (.int (nI (c))), some (.int (nI (s))), none, none] [] := by
    intro fu
    induction fu with
    | zero => intro c s h1 h2 hfu; exact absurd hfu (Nat.not_lt_zero _)
    | succ fu ih5 =>
      intro c s h1 h2 hfu
      have hcs := cnt_le g p s
      rw [← h2] at hcs
      refine gw_iload dX12_fits_5 rfl ?_
      refine gw_aload_n dX12_fits_7 rfl ?_
      refine gm_get_spins rfl dX12_fits_8 ?_
      refine gw_topi (y := nI (n)) (hn) ?_
      refine gw_icmpN_ge (tgt := 65) dX12_fits_11 (by decide) (by omega) (by omega) (fun c11 => ?_) (fun c11 => ?_)
      · have e1 : s = n := by omega
        rw [e1] at h2
        refine gw_iload_n dX12_fits_65 rfl ?_
        refine gw_iconst (v := nI (2)) dX12_fits_66 (by decide) ?_
        refine gw_iremN dX12_fits_67 (by omega) (by omega) (by omega) ?_
        refine gw_ifN_ne (tgt := 75) dX12_fits_68 (by decide) (by omega) (fun c68 => ?_) (fun c68 => ?_)
        · refine gw_iconst (v := nI (0)) dX12_fits_75 (by decide) ?_
          refine gw_zret (?_) (by decide) (by decide) rfl (by decide) dX12_fits_76
          subst hpost
          exact ⟨by first | (rw [show fitN n g p = true from decide_eq_true (by rw [← h2]; exact c68)]; rfl) | (rw [show fitN n g p = false from decide_eq_false (by rw [← h2]; exact c68)]; rfl), rfl⟩
        · refine gw_iconst (v := nI (1)) dX12_fits_71 (by decide) ?_
          refine gw_goto (tgt := 76) dX12_fits_72 (by decide) ?_
          refine gw_zret (?_) (by decide) (by decide) rfl (by decide) dX12_fits_76
          subst hpost
          exact ⟨by first | (rw [show fitN n g p = true from decide_eq_true (by rw [← h2]; exact c68)]; rfl) | (rw [show fitN n g p = false from decide_eq_false (by rw [← h2]; exact c68)]; rfl), rfl⟩
      · refine gw_iload_n dX12_fits_14 rfl ?_
        refine gw_iconst (v := nI (2)) dX12_fits_15 (by decide) ?_
        refine gw_iload dX12_fits_16 rfl ?_
        refine gw_imulN dX12_fits_18 ?_
        refine gw_ishr dX12_fits_19 ?_
        refine gw_iconst (v := nI (3)) dX12_fits_20 (by decide) ?_
        refine gw_iand dX12_fits_21 ?_
        refine gw_topi (y := nI (axN g s)) (ax_eq (by omega) (by omega)) ?_
        refine gw_istore dX12_fits_22 (by decide) rfl ?_
        refine gw_iload_n dX12_fits_24 rfl ?_
        refine gw_iconst (v := nI (2)) dX12_fits_25 (by decide) ?_
        refine gw_iload dX12_fits_26 rfl ?_
        refine gw_imulN dX12_fits_28 ?_
        refine gw_ishr dX12_fits_29 ?_
        refine gw_iconst (v := nI (3)) dX12_fits_30 (by decide) ?_
        refine gw_iand dX12_fits_31 ?_
        refine gw_topi (y := nI (axN p s)) (ax_eq (by omega) (by omega)) ?_
        refine gw_istore dX12_fits_32 (by decide) rfl ?_
        refine gw_iload_n dX12_fits_34 rfl ?_
        refine gw_iload dX12_fits_35 rfl ?_
        refine gw_ifN_eq (tgt := 56) dX12_fits_37 (by decide) (by have := ax_lt g s; omega) (fun c37 => ?_) (fun c37 => ?_)
        · refine gw_iconst (v := nI (0)) dX12_fits_56 (by decide) ?_
          refine gw_iaddN dX12_fits_57 ?_
          refine gw_istore_n dX12_fits_58 (by decide) rfl ?_
          refine gw_iinc (v := nI (s + 1)) dX12_fits_59 rfl (nI_add _ 1) (by decide) rfl ?_
          refine gw_goto (tgt := 5) dX12_fits_62 (by decide) ?_
          refine gw_W.forget 5 ?_
          refine gw_W.forget 6 ?_
          refine ih5 (c + 0) (s + 1) ?_ ?_ ?_
          · omega
          · rw [cntN, h2]
            first
            | (rw [clash_f1 c37]; rfl)
            | (rw [clash_f2 c42]; rfl)
            | (rw [clash_f3 c49]; rfl)
            | (rw [clash_t c37 c42 c49]; rfl)
          · omega
        · refine gw_iload dX12_fits_40 rfl ?_
          refine gw_ifN_eq (tgt := 56) dX12_fits_42 (by decide) (by have := ax_lt p s; omega) (fun c42 => ?_) (fun c42 => ?_)
          · refine gw_iconst (v := nI (0)) dX12_fits_56 (by decide) ?_
            refine gw_iaddN dX12_fits_57 ?_
            refine gw_istore_n dX12_fits_58 (by decide) rfl ?_
            refine gw_iinc (v := nI (s + 1)) dX12_fits_59 rfl (nI_add _ 1) (by decide) rfl ?_
            refine gw_goto (tgt := 5) dX12_fits_62 (by decide) ?_
            refine gw_W.forget 5 ?_
            refine gw_W.forget 6 ?_
            refine ih5 (c + 0) (s + 1) ?_ ?_ ?_
            · omega
            · rw [cntN, h2]
              first
              | (rw [clash_f1 c37]; rfl)
              | (rw [clash_f2 c42]; rfl)
              | (rw [clash_f3 c49]; rfl)
              | (rw [clash_t c37 c42 c49]; rfl)
            · omega
          · refine gw_iload dX12_fits_45 rfl ?_
            refine gw_iload dX12_fits_47 rfl ?_
            refine gw_icmpN_eq (tgt := 56) dX12_fits_49 (by decide) (by have := ax_lt g s; omega) (by have := ax_lt p s; omega) (fun c49 => ?_) (fun c49 => ?_)
            · refine gw_iconst (v := nI (0)) dX12_fits_56 (by decide) ?_
              refine gw_iaddN dX12_fits_57 ?_
              refine gw_istore_n dX12_fits_58 (by decide) rfl ?_
              refine gw_iinc (v := nI (s + 1)) dX12_fits_59 rfl (nI_add _ 1) (by decide) rfl ?_
              refine gw_goto (tgt := 5) dX12_fits_62 (by decide) ?_
              refine gw_W.forget 5 ?_
              refine gw_W.forget 6 ?_
              refine ih5 (c + 0) (s + 1) ?_ ?_ ?_
              · omega
              · rw [cntN, h2]
                first
                | (rw [clash_f1 c37]; rfl)
                | (rw [clash_f2 c42]; rfl)
                | (rw [clash_f3 c49]; rfl)
                | (rw [clash_t c37 c42 c49]; rfl)
              · omega
            · refine gw_iconst (v := nI (1)) dX12_fits_52 (by decide) ?_
              refine gw_goto (tgt := 57) dX12_fits_53 (by decide) ?_
              refine gw_iaddN dX12_fits_57 ?_
              refine gw_istore_n dX12_fits_58 (by decide) rfl ?_
              refine gw_iinc (v := nI (s + 1)) dX12_fits_59 rfl (nI_add _ 1) (by decide) rfl ?_
              refine gw_goto (tgt := 5) dX12_fits_62 (by decide) ?_
              refine gw_W.forget 5 ?_
              refine gw_W.forget 6 ?_
              refine ih5 (c + 1) (s + 1) ?_ ?_ ?_
              · omega
              · rw [cntN, h2]
                first
                | (rw [clash_f1 c37]; rfl)
                | (rw [clash_f2 c42]; rfl)
                | (rw [clash_f3 c49]; rfl)
                | (rw [clash_t c37 c42 c49]; rfl)
              · omega
  refine cut5 _ (0) (0) (Nat.zero_le _) rfl (Nat.lt_succ_self _)
theorem qv_up (u d : Nat) : (nI u - nI (d + 1)) + nI 1 = nI (u + cond (true && true) 1 0) - nI (d + cond (true && !true) 1 0 + 1) := by
  simp only [Bool.and_self, Bool.not_true, Bool.and_false, cond_true, cond_false, Nat.add_zero, nI_succ]
  rw [nI_0, Int32.zero_add, Int32.sub_eq_add_neg, Int32.sub_eq_add_neg, Int32.add_assoc, Int32.add_assoc, Int32.add_comm 1]
theorem qv_dn (u d : Nat) : (nI u - nI (d + 1)) + (-1) = nI (u + cond (true && false) 1 0) - nI (d + cond (true && !false) 1 0 + 1) := by
  simp only [Bool.and_self, Bool.not_false, Bool.and_false, cond_true, cond_false, Nat.add_zero, nI_succ]
  rw [Int32.sub_eq_add_neg, Int32.sub_eq_add_neg, Int32.add_assoc, Int32.neg_add (a := nI d + 1) (b := 1), Int32.sub_eq_add_neg]
theorem xor_lt4 {n g p : Nat} (hg : g < 4 ^ n) (hp : p < 4 ^ n) : g ^^^ p < 4 ^ n := by
  rw [show (4 : Nat) = 2 ^ 2 from rfl, ← Nat.pow_mul] at hg hp ⊢
  exact Nat.xor_lt_two_pow hg hp
abbrev kX12_with : gw_K := (yX12_with, cX12_with, 9, { frames := 0, cells := 0, slots := 0, locals := 0 }, (some .int))
theorem ok_X12_with : gw_calV kX12_with 2 := ⟨⟨wd_1002, wd_62, by decide, by decide, by decide +kernel⟩, wd_1001, wd_43⟩
set_option maxHeartbeats 4000000 in
set_option maxRecDepth 100000 in
theorem c_mwith (l : Launch) (cy : Nat → ClassId) (ad : Nat → Nat) (iv : Nat → Int32) (ia : Nat → Nat → Int32) (la : Nat → Nat → Int64) (n g p : Nat) (hn : iv 0 = nI n) (hn4 : n ≤ 4) (hg : g < 4 ^ n) (hp : p < 4 ^ n) (hg2 : g < 256) (hp2 : p < 256) : gw_M l kX12_with cy [.ref (ad 0), .int (nI (g)), .int (nI (p))] (mW cy ad iv ia la) (fun r w' => r = some (.int (nI (g ^^^ p))) ∧ w' = mW cy ad (va_up iv 24 (sgN n g p)) ia la) := by
  refine gw_M.mk (lv := [some (.ref (ad 0)), some (.int (nI (g))), some (.int (nI (p))), none, none, none, none, none, none]) (by decide) (Nat.le_of_ble_eq_true rfl) rfl ?_
  generalize hpost : (fun r w' => r = some (.int (nI (g ^^^ p))) ∧ w' = mW cy ad (va_up iv 24 (sgN n g p)) ia la : gw_Q) = post
  refine gw_iconst (v := nI (0)) dX12_with_0 (by decide) ?_
  refine gw_istore_n dX12_with_1 (by decide) rfl ?_
  refine gw_iconst (v := (-1 : Int32)) dX12_with_2 (by decide) ?_
  refine gw_istore dX12_with_3 (by decide) rfl ?_
  refine gw_iconst (v := nI (0)) dX12_with_5 (by decide) ?_
  refine gw_istore dX12_with_6 (by decide) rfl ?_
  have cut8 : ∀ (fu : Nat) (qv : Int32) (s : Nat), (s ≤ n) → (qv = nI (uN4 g p s) - nI (dN4 g p s + 1)) → (n - s) < fu → gw_W l kX12_with cy (gw_R kX12_with post) (mW cy ad iv ia la) 0 0 8 [some (.ref (ad 0)), some (.int (nI (g))), some (.int (nI (p))), some (.int (nI ((g ^^^ p) % 4 ^ s))), some (.int (qv)), some (.int (nI (s))), none, none, none] [] := by
    intro fu
    induction fu with
    | zero => intro qv s h1 h2 hfu; exact absurd hfu (Nat.not_lt_zero _)
    | succ fu ih8 =>
      intro qv s h1 h2 hfu
      refine gw_iload dX12_with_8 rfl ?_
      refine gw_aload_n dX12_with_10 rfl ?_
      refine gm_get_spins rfl dX12_with_11 ?_
      refine gw_topi (y := nI (n)) (hn) ?_
      refine gw_icmpN_ge (tgt := 134) dX12_with_14 (by decide) (by omega) (by omega) (fun c14 => ?_) (fun c14 => ?_)
      · have e1 : s = n := by omega
        rw [e1] at h2
        have q4 := ud_le g p n
        have q5 := cnt_le g p n
        refine gw_aload_n dX12_with_134 rfl ?_
        refine gw_iload dX12_with_135 rfl ?_
        refine gw_iconst (v := nI (4)) dX12_with_137 (by decide) ?_
        refine gw_irem dX12_with_138 (by decide) ?_
        refine gw_iconst (v := nI (4)) dX12_with_139 (by decide) ?_
        refine gw_iadd dX12_with_140 ?_
        refine gw_iconst (v := nI (4)) dX12_with_141 (by decide) ?_
        refine gw_irem dX12_with_142 (by decide) ?_
        refine gw_if_ne (tgt := 150) dX12_with_143 (by decide) (fun c143 => ?_) (fun c143 => ?_)
        · have c144 : ¬ (uN4 g p n + 7 - dN4 g p n) % 4 = 0 := fun e => c143 (by rw [h2]; exact (sg_eq _ (by omega) _ (by omega) (by omega)).mpr e)
          refine gw_iconst (v := (-1 : Int32)) dX12_with_150 (by decide) ?_
          refine gm_put_sign rfl dX12_with_151 ?_
          refine gw_W.wd (w' := (mW cy ad (va_up iv 24 ((-1 : Int32))) ia la)) rfl ?_
          refine gw_iload_n dX12_with_154 rfl ?_
          refine gw_iret (?_) (by decide) (by decide) rfl dX12_with_155
          subst hpost
          refine ⟨?_, ?_⟩
          · rw [e1, Nat.mod_eq_of_lt (xor_lt4 hg hp)]
          · first
            | exact congrArg (fun z => mW cy ad (va_up iv 24 z) ia la) (show nI 1 = sgN n g p from (if_pos c144).symm)
            | exact congrArg (fun z => mW cy ad (va_up iv 24 z) ia la) (show (-1 : Int32) = sgN n g p from (if_neg c144).symm)
        · have c144 : (uN4 g p n + 7 - dN4 g p n) % 4 = 0 := (sg_eq _ (by omega) _ (by omega) (by omega)).mp (by rw [← h2]; exact c143)
          refine gw_iconst (v := nI (1)) dX12_with_146 (by decide) ?_
          refine gw_goto (tgt := 151) dX12_with_147 (by decide) ?_
          refine gm_put_sign rfl dX12_with_151 ?_
          refine gw_W.wd (w' := (mW cy ad (va_up iv 24 (nI (1))) ia la)) rfl ?_
          refine gw_iload_n dX12_with_154 rfl ?_
          refine gw_iret (?_) (by decide) (by decide) rfl dX12_with_155
          subst hpost
          refine ⟨?_, ?_⟩
          · rw [e1, Nat.mod_eq_of_lt (xor_lt4 hg hp)]
          · first
            | exact congrArg (fun z => mW cy ad (va_up iv 24 z) ia la) (show nI 1 = sgN n g p from (if_pos c144).symm)
            | exact congrArg (fun z => mW cy ad (va_up iv 24 z) ia la) (show (-1 : Int32) = sgN n g p from (if_neg c144).symm)
      · refine gw_iload_n dX12_with_17 rfl ?_
        refine gw_iconst (v := nI (2)) dX12_with_18 (by decide) ?_
        refine gw_iload dX12_with_19 rfl ?_
        refine gw_imulN dX12_with_21 ?_
        refine gw_ishr dX12_with_22 ?_
        refine gw_iconst (v := nI (3)) dX12_with_23 (by decide) ?_
        refine gw_iand dX12_with_24 ?_
        refine gw_topi (y := nI (axN g s)) (ax_eq (by omega) (by omega)) ?_
        refine gw_istore dX12_with_25 (by decide) rfl ?_
        refine gw_iload_n dX12_with_27 rfl ?_
        refine gw_iconst (v := nI (2)) dX12_with_28 (by decide) ?_
        refine gw_iload dX12_with_29 rfl ?_
        refine gw_imulN dX12_with_31 ?_
        refine gw_ishr dX12_with_32 ?_
        refine gw_iconst (v := nI (3)) dX12_with_33 (by decide) ?_
        refine gw_iand dX12_with_34 ?_
        refine gw_topi (y := nI (axN p s)) (ax_eq (by omega) (by omega)) ?_
        refine gw_istore dX12_with_35 (by decide) rfl ?_
        have q1 := ax_lt g s
        have q2 := ax_lt p s
        have q3 := ax_lt (g ^^^ p) s
        have cut78 : ∀ (cc : Nat), (cc = axN (g ^^^ p) s) → gw_W l kX12_with cy (gw_R kX12_with post) (mW cy ad iv ia la) 0 0 78 [some (.ref (ad 0)), some (.int (nI (g))), some (.int (nI (p))), some (.int (nI ((g ^^^ p) % 4 ^ s))), some (.int (qv)), some (.int (nI (s))), some (.int (nI (axN g s))), some (.int (nI (axN p s))), some (.int (nI (cc)))] [] := by
          intro cc h3
          refine gw_iload_n dX12_with_78 rfl ?_
          refine gw_iload dX12_with_79 rfl ?_
          refine gw_iconst (v := nI (2)) dX12_with_81 (by decide) ?_
          refine gw_iload dX12_with_82 rfl ?_
          refine gw_imulN dX12_with_84 ?_
          refine gw_ishl dX12_with_85 ?_
          refine gw_ior dX12_with_86 ?_
          refine gw_topi (y := nI ((g ^^^ p) % 4 ^ (s + 1))) (by rw [h3]; exact or_ax (by omega)) ?_
          refine gw_istore_n dX12_with_87 (by decide) rfl ?_
          refine gw_iload dX12_with_88 rfl ?_
          refine gw_ifN_eq (tgt := 128) dX12_with_90 (by decide) (by omega) (fun c90 => ?_) (fun c90 => ?_)
          · refine gw_iinc (v := nI (s + 1)) dX12_with_128 rfl (nI_add _ 1) (by decide) rfl ?_
            refine gw_goto (tgt := 8) dX12_with_131 (by decide) ?_
            refine gw_W.forget 6 ?_
            refine gw_W.forget 7 ?_
            refine gw_W.forget 8 ?_
            refine ih8 (qv) (s + 1) ?_ ?_ ?_
            · omega
            · rw [uN4, dN4]
              first
              | (rw [clash_f1 c90]; exact h2)
              | (rw [clash_f2 c95]; exact h2)
              | (rw [clash_f3 c102]; exact h2)
              | (rw [clash_t c90 c95 c102, c118, h2]; exact qv_up _ _)
              | (rw [clash_t c90 c95 c102, show upw (axN g s) (axN p s) = false from by simpa using c118, h2]; exact qv_dn _ _)
            · omega
          · refine gw_iload dX12_with_93 rfl ?_
            refine gw_ifN_eq (tgt := 128) dX12_with_95 (by decide) (by omega) (fun c95 => ?_) (fun c95 => ?_)
            · refine gw_iinc (v := nI (s + 1)) dX12_with_128 rfl (nI_add _ 1) (by decide) rfl ?_
              refine gw_goto (tgt := 8) dX12_with_131 (by decide) ?_
              refine gw_W.forget 6 ?_
              refine gw_W.forget 7 ?_
              refine gw_W.forget 8 ?_
              refine ih8 (qv) (s + 1) ?_ ?_ ?_
              · omega
              · rw [uN4, dN4]
                first
                | (rw [clash_f1 c90]; exact h2)
                | (rw [clash_f2 c95]; exact h2)
                | (rw [clash_f3 c102]; exact h2)
                | (rw [clash_t c90 c95 c102, c118, h2]; exact qv_up _ _)
                | (rw [clash_t c90 c95 c102, show upw (axN g s) (axN p s) = false from by simpa using c118, h2]; exact qv_dn _ _)
              · omega
            · refine gw_iload dX12_with_98 rfl ?_
              refine gw_iload dX12_with_100 rfl ?_
              refine gw_icmpN_eq (tgt := 128) dX12_with_102 (by decide) (by omega) (by omega) (fun c102 => ?_) (fun c102 => ?_)
              · refine gw_iinc (v := nI (s + 1)) dX12_with_128 rfl (nI_add _ 1) (by decide) rfl ?_
                refine gw_goto (tgt := 8) dX12_with_131 (by decide) ?_
                refine gw_W.forget 6 ?_
                refine gw_W.forget 7 ?_
                refine gw_W.forget 8 ?_
                refine ih8 (qv) (s + 1) ?_ ?_ ?_
                · omega
                · rw [uN4, dN4]
                  first
                  | (rw [clash_f1 c90]; exact h2)
                  | (rw [clash_f2 c95]; exact h2)
                  | (rw [clash_f3 c102]; exact h2)
                  | (rw [clash_t c90 c95 c102, c118, h2]; exact qv_up _ _)
                  | (rw [clash_t c90 c95 c102, show upw (axN g s) (axN p s) = false from by simpa using c118, h2]; exact qv_dn _ _)
                · omega
              · refine gw_iload dX12_with_105 rfl ?_
                refine gw_iload dX12_with_107 rfl ?_
                refine gw_iload dX12_with_109 rfl ?_
                refine gw_isub dX12_with_111 ?_
                refine gw_iconst (v := nI (3)) dX12_with_112 (by decide) ?_
                refine gw_iadd dX12_with_113 ?_
                refine gw_iconst (v := nI (3)) dX12_with_114 (by decide) ?_
                refine gw_irem dX12_with_115 (by decide) ?_
                refine gw_iconst (v := nI (1)) dX12_with_116 (by decide) ?_
                refine gw_icmp_ne (tgt := 124) dX12_with_117 (by decide) (fun c117 => ?_) (fun c117 => ?_)
                · have c118 : ¬ upw (axN g s) (axN p s) = true := fun e => c117 ((up_eq _ (ax_lt g s) _ (ax_lt p s) ⟨c90, c95⟩).mpr e)
                  refine gw_iconst (v := (-1 : Int32)) dX12_with_124 (by decide) ?_
                  refine gw_iadd dX12_with_125 ?_
                  refine gw_istore dX12_with_126 (by decide) rfl ?_
                  refine gw_iinc (v := nI (s + 1)) dX12_with_128 rfl (nI_add _ 1) (by decide) rfl ?_
                  refine gw_goto (tgt := 8) dX12_with_131 (by decide) ?_
                  refine gw_W.forget 6 ?_
                  refine gw_W.forget 7 ?_
                  refine gw_W.forget 8 ?_
                  refine ih8 ((qv) + ((-1 : Int32))) (s + 1) ?_ ?_ ?_
                  · omega
                  · rw [uN4, dN4]
                    first
                    | (rw [clash_f1 c90]; exact h2)
                    | (rw [clash_f2 c95]; exact h2)
                    | (rw [clash_f3 c102]; exact h2)
                    | (rw [clash_t c90 c95 c102, c118, h2]; exact qv_up _ _)
                    | (rw [clash_t c90 c95 c102, show upw (axN g s) (axN p s) = false from by simpa using c118, h2]; exact qv_dn _ _)
                  · omega
                · have c118 : upw (axN g s) (axN p s) = true := (up_eq _ (ax_lt g s) _ (ax_lt p s) ⟨c90, c95⟩).mp c117
                  refine gw_iconst (v := nI (1)) dX12_with_120 (by decide) ?_
                  refine gw_goto (tgt := 125) dX12_with_121 (by decide) ?_
                  refine gw_iadd dX12_with_125 ?_
                  refine gw_istore dX12_with_126 (by decide) rfl ?_
                  refine gw_iinc (v := nI (s + 1)) dX12_with_128 rfl (nI_add _ 1) (by decide) rfl ?_
                  refine gw_goto (tgt := 8) dX12_with_131 (by decide) ?_
                  refine gw_W.forget 6 ?_
                  refine gw_W.forget 7 ?_
                  refine gw_W.forget 8 ?_
                  refine ih8 ((qv) + (nI (1))) (s + 1) ?_ ?_ ?_
                  · omega
                  · rw [uN4, dN4]
                    first
                    | (rw [clash_f1 c90]; exact h2)
                    | (rw [clash_f2 c95]; exact h2)
                    | (rw [clash_f3 c102]; exact h2)
                    | (rw [clash_t c90 c95 c102, c118, h2]; exact qv_up _ _)
                    | (rw [clash_t c90 c95 c102, show upw (axN g s) (axN p s) = false from by simpa using c118, h2]; exact qv_dn _ _)
                  · omega
        refine gw_iload dX12_with_37 rfl ?_
        refine gw_ifN_ne (tgt := 47) dX12_with_39 (by decide) (by omega) (fun c39 => ?_) (fun c39 => ?_)
        · refine gw_iload dX12_with_47 rfl ?_
          refine gw_ifN_ne (tgt := 57) dX12_with_49 (by decide) (by omega) (fun c49 => ?_) (fun c49 => ?_)
          · refine gw_iload dX12_with_57 rfl ?_
            refine gw_iload dX12_with_59 rfl ?_
            refine gw_icmpN_ne (tgt := 68) dX12_with_61 (by decide) (by omega) (by omega) (fun c61 => ?_) (fun c61 => ?_)
            · refine gw_bipush (v := nI (6)) dX12_with_68 (by decide) ?_
              refine gw_iload dX12_with_70 rfl ?_
              refine gw_isubN dX12_with_72 (by omega) ?_
              refine gw_iload dX12_with_73 rfl ?_
              refine gw_isubN dX12_with_75 (by omega) ?_
              refine gw_istore dX12_with_76 (by decide) rfl ?_
              refine cut78 (((6) - (axN g s)) - (axN p s)) ?_
              rw [ax_xor, xor4 _ (ax_lt g s) _ (ax_lt p s)]
              first
                | rw [if_pos c39]
                | rw [if_neg c39, if_pos c49]
                | rw [if_neg c39, if_neg c49, if_pos c61]
                | rw [if_neg c39, if_neg c49, if_neg c61]
            · refine gw_iconst (v := nI (0)) dX12_with_64 (by decide) ?_
              refine gw_goto (tgt := 76) dX12_with_65 (by decide) ?_
              refine gw_istore dX12_with_76 (by decide) rfl ?_
              refine cut78 (0) ?_
              rw [ax_xor, xor4 _ (ax_lt g s) _ (ax_lt p s)]
              first
                | rw [if_pos c39]
                | rw [if_neg c39, if_pos c49]
                | rw [if_neg c39, if_neg c49, if_pos c61]
                | rw [if_neg c39, if_neg c49, if_neg c61]
          · refine gw_iload dX12_with_52 rfl ?_
            refine gw_goto (tgt := 76) dX12_with_54 (by decide) ?_
            refine gw_istore dX12_with_76 (by decide) rfl ?_
            refine cut78 (axN g s) ?_
            rw [ax_xor, xor4 _ (ax_lt g s) _ (ax_lt p s)]
            first
              | rw [if_pos c39]
              | rw [if_neg c39, if_pos c49]
              | rw [if_neg c39, if_neg c49, if_pos c61]
              | rw [if_neg c39, if_neg c49, if_neg c61]
        · refine gw_iload dX12_with_42 rfl ?_
          refine gw_goto (tgt := 76) dX12_with_44 (by decide) ?_
          refine gw_istore dX12_with_76 (by decide) rfl ?_
          refine cut78 (axN p s) ?_
          rw [ax_xor, xor4 _ (ax_lt g s) _ (ax_lt p s)]
          first
            | rw [if_pos c39]
            | rw [if_neg c39, if_pos c49]
            | rw [if_neg c39, if_neg c49, if_pos c61]
            | rw [if_neg c39, if_neg c49, if_neg c61]
  refine gw_W.rlv (lv' := [some (.ref (ad 0)), some (.int (nI (g))), some (.int (nI (p))), some (.int (nI ((g ^^^ p) % 4 ^ 0))), some (.int ((-1 : Int32))), some (.int (nI (0))), none, none, none]) (by rw [Nat.pow_zero, Nat.mod_one]; rfl) ?_
  refine cut8 _ ((-1 : Int32)) (0) (Nat.zero_le _) (show (-1 : Int32) = nI 0 - nI (0 + 1) by decide) (Nat.lt_succ_self _)
