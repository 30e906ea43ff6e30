abbrev kX12_keep : gw_K := (yX12_keep, cX12_keep, 6, { frames := 1, cells := 0, slots := 0, locals := 25 }, (some .boolean))
theorem ok_X12_keep : gw_calV kX12_keep 1 := ⟨⟨wd_959, wd_62, by decide, by decide, by decide +kernel⟩, wd_958, wd_38⟩
set_option maxHeartbeats 4000000 in
set_option maxRecDepth 100000 in
theorem c_mkeep (l : Launch) (cy : Nat → ClassId) (ad : Nat → Nat) (iv : Nat → Int32) (ia : Nat → Nat → Int32) (la : Nat → Nat → Int64) (n t : Nat) (hn : iv 9 = nI n) (hlt : n ≤ 1000) (ht : t < 18) : gw_M l kX12_keep cy [.ref (ad 0), .int (nI (t))] (mW cy ad iv ia la) (fun r w' => ∃ F : Option (List sT), F = keepS (takeS (ia 10) (la 11) 0 n) ∧ r = some (.int (bI F.isSome)) ∧ (F = none → w' = mW cy ad iv ia la) ∧ ∀ S, F = some S → ∃ (kk : Nat → Int32) (nn : Nat → Int64), w' = mW cy ad iv (va_up (va_up ia 6 (upd (ia 6) t (nI S.length))) 7 kk) (va_up la 8 nn) ∧ takeS kk nn (300 * t) S.length = S ∧ ∀ j, (j < 300 * t ∨ 300 * t + 300 ≤ j) → kk j = ia 7 j ∧ nn j = la 8 j) := by
  refine gw_M.mk (lv := [some (.ref (ad 0)), some (.int (nI (t))), none, none, none, none]) (by decide) (Nat.le_of_ble_eq_true rfl) rfl ?_
  generalize hpost : (fun r w' => ∃ F : Option (List sT), F = keepS (takeS (ia 10) (la 11) 0 n) ∧ r = some (.int (bI F.isSome)) ∧ (F = none → w' = mW cy ad iv ia la) ∧ ∀ S, F = some S → ∃ (kk : Nat → Int32) (nn : Nat → Int64), w' = mW cy ad iv (va_up (va_up ia 6 (upd (ia 6) t (nI S.length))) 7 kk) (va_up la 8 nn) ∧ takeS kk nn (300 * t) S.length = S ∧ ∀ j, (j < 300 * t ∨ 300 * t + 300 ≤ j) → kk j = ia 7 j ∧ nn j = la 8 j : gw_Q) = post
  refine gw_iconst (v := nI (0)) dX12_keep_0 (by decide) ?_
  refine gw_istore_n dX12_keep_1 (by decide) rfl ?_
  refine gw_iconst (v := nI (0)) dX12_keep_2 (by decide) ?_
  refine gw_istore_n dX12_keep_3 (by decide) rfl ?_
  have cut4 : ∀ (fu : Nat) (c : Nat) (i : Nat), (i ≤ n) → (c = ((takeS (ia 10) (la 11) 0 i).filter nz).length) → (∀ q ∈ ((takeS (ia 10) (la 11) 0 i).filter nz), sG q 4 = true) → (n - i) < fu → gw_W l kX12_keep cy (gw_R kX12_keep post) (mW cy ad iv ia la) 0 0 4 [some (.ref (ad 0)), some (.int (nI (t))), some (.int (nI (c))), some (.int (nI (i))), none, none] [] := by
    intro fu
    induction fu with
    | zero => intro c i h1 h2 h3 hfu; exact absurd hfu (Nat.not_lt_zero _)
    | succ fu ih4 =>
      intro c i h1 h2 h3 hfu
      refine gw_iload_n dX12_keep_4 rfl ?_
      refine gw_aload_n dX12_keep_5 rfl ?_
      refine gm_get_made rfl dX12_keep_6 ?_
      refine gw_topi (y := nI (n)) (hn) ?_
      refine gw_icmpN_ge (tgt := 99) dX12_keep_9 (by decide) (by omega) (by omega) (fun c9 => ?_) (fun c9 => ?_)
      · have e1 : i = n := by omega
        rw [e1] at h2 h3
        refine gw_iload_n dX12_keep_99 rfl ?_
        refine gw_sipush (v := nI (300)) dX12_keep_100 (by decide) ?_
        refine gw_icmpN_le (tgt := 108) dX12_keep_103 (by decide) (by have := nz_len (ks := ia 10) (ns := la 11) (i := n); omega) (by omega) (fun c103 => ?_) (fun c103 => ?_)
        · have hle : ((takeS (ia 10) (la 11) 0 n).filter nz).length ≤ 300 := by omega
          have hgd := h3
          refine gw_iconst (v := nI (0)) dX12_keep_108 (by decide) ?_
          refine gw_istore_n dX12_keep_109 (by decide) rfl ?_
          refine gw_iconst (v := nI (0)) dX12_keep_110 (by decide) ?_
          refine gw_istore_n dX12_keep_111 (by decide) rfl ?_
          have cut112 : ∀ (fu : Nat) (c : Nat) (i : Nat) (kk : Nat → Int32) (nn : Nat → Int64), (i ≤ n) → (c = ((takeS (ia 10) (la 11) 0 i).filter nz).length) → (takeS kk nn (300 * t) c = ((takeS (ia 10) (la 11) 0 i).filter nz)) → (∀ j, (j < 300 * t ∨ 300 * t + 300 ≤ j) → kk j = ia 7 j ∧ nn j = la 8 j) → (n - i) < fu → gw_W l kX12_keep cy (gw_R kX12_keep post) (mW cy ad iv (va_up ia 7 (kk)) (va_up la 8 (nn))) 0 0 112 [some (.ref (ad 0)), some (.int (nI (t))), some (.int (nI (c))), some (.int (nI (i))), none, none] [] := by
            intro fu
            induction fu with
            | zero => intro c i kk nn h1 h2 h3 h4 hfu; exact absurd hfu (Nat.not_lt_zero _)
            | succ fu ih112 =>
              intro c i kk nn h1 h2 h3 h4 hfu
              refine gw_iload_n dX12_keep_112 rfl ?_
              refine gw_aload_n dX12_keep_113 rfl ?_
              refine gm_get_made rfl dX12_keep_114 ?_
              refine gw_topi (y := nI (n)) (hn) ?_
              refine gw_icmpN_ge (tgt := 176) dX12_keep_117 (by decide) (by omega) (by omega) (fun c117 => ?_) (fun c117 => ?_)
              · have e2 : i = n := by omega
                rw [e2] at h2 h3
                refine gw_aload_n dX12_keep_176 rfl ?_
                refine gm_get_many rfl dX12_keep_177 ?_
                refine gw_iload_n dX12_keep_180 rfl ?_
                refine gw_iload_n dX12_keep_181 rfl ?_
                refine gm_st_many (j := t) (rfl) (by omega) dX12_keep_182 ?_
                refine gw_W.wd (w' := (mW cy ad iv (va_up (va_up ia 6 (upd (ia 6) (t) (nI (c)))) 7 (kk)) (va_up la 8 (nn)))) rfl ?_
                refine gw_iconst (v := nI (1)) dX12_keep_183 (by decide) ?_
                refine gw_zret (?_) (by decide) (by decide) rfl (by decide) dX12_keep_184
                subst hpost
                exact ⟨_, rfl, by rw [keepS_good hle hgd]; rfl, fun h => (by rw [keepS_good hle hgd] at h; cases h), fun S hS => (by
                  rw [keepS_good hle hgd] at hS
                  cases hS
                  refine ⟨kk, nn, ?_, ?_, h4⟩
                  · rw [h2]
                  · rw [← h2]; exact h3)⟩
              · refine gw_aload_n dX12_keep_120 rfl ?_
                refine gm_get_madeNumber rfl dX12_keep_121 ?_
                refine gw_iload_n dX12_keep_124 rfl ?_
                refine gm_ld_madeNumber (j := i) (rfl) (by omega) dX12_keep_125 ?_
                refine gw_topl (y := (la 11) (i)) rfl ?_
                refine gw_lconst (v := (0 : Int64)) dX12_keep_126 (by decide) ?_
                refine gw_lcmp dX12_keep_127 ?_
                refine gw_if_eq (tgt := 170) dX12_keep_128 (by decide) (fun c128 => ?_) (fun c128 => ?_)
                · rw [lg_cmp_eq] at c128
                  refine gw_iinc (v := nI (i + 1)) dX12_keep_170 rfl (nI_add _ 1) (by decide) rfl ?_
                  refine gw_goto (tgt := 112) dX12_keep_173 (by decide) ?_
                  refine gw_W.wd (w' := (mW cy ad iv (va_up ia 7 ((kk))) (va_up la 8 ((nn))))) rfl ?_
                  refine ih112 (c) (i + 1) ((kk)) ((nn)) ?_ ?_ ?_ ?_ ?_
                  · omega
                  · first | (rw [nz_f c128]; exact h2) | (rw [nz_t c128, List.length_append, h2]; rfl)
                  · first
                    | (rw [nz_f c128]; exact h3)
                    | (rw [nz_t c128, takeS_snoc, pk_us, pk_uLs, ← h3]
                       congr 1
                       exact takeS_congr (fun j hj => ⟨pk_un (by omega), pk_uLn (by omega)⟩))
                  · intro j hj
                    first
                    | exact h4 j hj
                    | (rw [pk_un (by omega), pk_uLn (by omega)]; exact h4 j hj)
                  · omega
                · rw [lg_cmp_eq] at c128
                  have hc9 : c + 1 ≤ 300 := by
                    have q1 := nz_mono (ks := ia 10) (ns := la 11) (i := i + 1) (n := n) (by omega)
                    rw [nz_t c128, List.length_append] at q1
                    simp only [List.length_singleton] at q1; omega
                  refine gw_aload_n dX12_keep_131 rfl ?_
                  refine gm_get_key rfl dX12_keep_132 ?_
                  refine gw_sipush (v := nI (300)) dX12_keep_135 (by decide) ?_
                  refine gw_iload_n dX12_keep_138 rfl ?_
                  refine gw_imulN dX12_keep_139 ?_
                  refine gw_iload_n dX12_keep_140 rfl ?_
                  refine gw_iaddN dX12_keep_141 ?_
                  refine gw_aload_n dX12_keep_142 rfl ?_
                  refine gm_get_madeKey rfl dX12_keep_143 ?_
                  refine gw_iload_n dX12_keep_146 rfl ?_
                  refine gm_ld_madeKey (j := i) (rfl) (by omega) dX12_keep_147 ?_
                  refine gw_topi (y := (ia 10) (i)) rfl ?_
                  refine gm_st_key (j := (300 * t) + c) (rfl) (by omega) dX12_keep_148 ?_
                  refine gw_W.wd (w' := (mW cy ad iv (va_up ia 7 (upd (kk) ((300 * t) + c) ((ia 10) (i)))) (va_up la 8 (nn)))) rfl ?_
                  refine gw_aload_n dX12_keep_149 rfl ?_
                  refine gm_get_number rfl dX12_keep_150 ?_
                  refine gw_sipush (v := nI (300)) dX12_keep_153 (by decide) ?_
                  refine gw_iload_n dX12_keep_156 rfl ?_
                  refine gw_imulN dX12_keep_157 ?_
                  refine gw_iload_n dX12_keep_158 rfl ?_
                  refine gw_iaddN dX12_keep_159 ?_
                  refine gw_aload_n dX12_keep_160 rfl ?_
                  refine gm_get_madeNumber rfl dX12_keep_161 ?_
                  refine gw_iload_n dX12_keep_164 rfl ?_
                  refine gm_ld_madeNumber (j := i) (rfl) (by omega) dX12_keep_165 ?_
                  refine gw_topl (y := (la 11) (i)) rfl ?_
                  refine gm_st_number (j := (300 * t) + c) (rfl) (by omega) dX12_keep_166 ?_
                  refine gw_W.wd (w' := (mW cy ad iv (va_up ia 7 (upd (kk) ((300 * t) + c) ((ia 10) (i)))) (va_up la 8 (vp_updL (nn) ((300 * t) + c) ((la 11) (i)))))) rfl ?_
                  refine gw_iinc (v := nI (c + 1)) dX12_keep_167 rfl (nI_add _ 1) (by decide) rfl ?_
                  refine gw_iinc (v := nI (i + 1)) dX12_keep_170 rfl (nI_add _ 1) (by decide) rfl ?_
                  refine gw_goto (tgt := 112) dX12_keep_173 (by decide) ?_
                  refine gw_W.wd (w' := (mW cy ad iv (va_up ia 7 ((upd (kk) ((300 * t) + c) ((ia 10) (i))))) (va_up la 8 ((vp_updL (nn) ((300 * t) + c) ((la 11) (i))))))) rfl ?_
                  refine ih112 (c + 1) (i + 1) ((upd (kk) ((300 * t) + c) ((ia 10) (i)))) ((vp_updL (nn) ((300 * t) + c) ((la 11) (i)))) ?_ ?_ ?_ ?_ ?_
                  · omega
                  · first | (rw [nz_f c128]; exact h2) | (rw [nz_t c128, List.length_append, h2]; rfl)
                  · first
                    | (rw [nz_f c128]; exact h3)
                    | (rw [nz_t c128, takeS_snoc, pk_us, pk_uLs, ← h3]
                       congr 1
                       exact takeS_congr (fun j hj => ⟨pk_un (by omega), pk_uLn (by omega)⟩))
                  · intro j hj
                    first
                    | exact h4 j hj
                    | (rw [pk_un (by omega), pk_uLn (by omega)]; exact h4 j hj)
                  · omega
          refine gw_W.wd (w' := (mW cy ad iv (va_up ia 7 ((ia 7))) (va_up la 8 ((la 8))))) rfl ?_
          refine cut112 _ (0) (0) ((ia 7)) ((la 8)) (Nat.zero_le _) rfl rfl (fun _ _ => ⟨rfl, rfl⟩) (Nat.lt_succ_self _)
        · refine gw_iconst (v := nI (0)) dX12_keep_106 (by decide) ?_
          refine gw_zret (?_) (by decide) (by decide) rfl (by decide) dX12_keep_107
          subst hpost
          exact ⟨none, (keepS_many (by omega)).symm, rfl, fun _ => rfl, fun _ h => by cases h⟩
      · refine gw_aload_n dX12_keep_12 rfl ?_
        refine gm_get_madeNumber rfl dX12_keep_13 ?_
        refine gw_iload_n dX12_keep_16 rfl ?_
        refine gm_ld_madeNumber (j := i) (rfl) (by omega) dX12_keep_17 ?_
        refine gw_lconst (v := (0 : Int64)) dX12_keep_18 (by decide) ?_
        refine gw_lcmp dX12_keep_19 ?_
        refine gw_if_eq (tgt := 93) dX12_keep_20 (by decide) (fun c20 => ?_) (fun c20 => ?_)
        · rw [lg_cmp_eq] at c20
          refine gw_iinc (v := nI (i + 1)) dX12_keep_93 rfl (nI_add _ 1) (by decide) rfl ?_
          refine gw_goto (tgt := 4) dX12_keep_96 (by decide) ?_
          refine ih4 (c) (i + 1) ?_ ?_ ?_ ?_
          · omega
          · first | (rw [nz_f c20]; exact h2) | (rw [nz_t c20, List.length_append, h2]; rfl)
          · first
            | (rw [nz_f c20]; exact h3)
            | (intro q hq
               rw [nz_t c20] at hq
               rcases List.mem_append.mp hq with hq | hq
               · exact h3 q hq
               · rw [List.mem_singleton] at hq; rw [hq]; exact c85)
          · omega
        · rw [lg_cmp_eq] at c20
          refine gw_aload_n dX12_keep_23 rfl ?_
          refine gm_get_madeNumber rfl dX12_keep_24 ?_
          refine gw_iload_n dX12_keep_27 rfl ?_
          refine gm_ld_madeNumber (j := i) (rfl) (by omega) dX12_keep_28 ?_
          refine gw_ldc2 dX12_keep_29 wd_960 ?_
          refine gw_ldc2 dX12_keep_32 wd_961 ?_
          refine gw_callS (As := [.long ((la 11) (i)), .long (((-1000000000000) : Int64)), .long ((1000000000000 : Int64))]) (st := []) (c_min l cy ((la 11) (i)) (((-1000000000000) : Int64)) ((1000000000000 : Int64)) (mW cy ad iv ia la)) ok_X12_in wd_899 rfl rfl dX12_keep_35 (by decide) (by decide) (Nat.le_of_ble_eq_true rfl) (fun r35 w35 hp35 => ?_)
          obtain ⟨rfl, rfl⟩ := hp35
          refine gw_W.norm (st' := [.int (bI (inZ ((la 11) (i)).toInt (((-1000000000000) : Int64)).toInt ((1000000000000 : Int64)).toInt))]) (k1 := 0) (k2 := 0) rfl rfl rfl ?_
          refine gw_istore dX12_keep_38 (by decide) rfl ?_
          refine gw_iconst (v := nI (0)) dX12_keep_40 (by decide) ?_
          refine gw_istore dX12_keep_41 (by decide) rfl ?_
          have cut43 : ∀ (fu : Nat) (gv : Int32) (x : Nat), (x ≤ 4) → (gv = bI (sG (ia 10 i, la 11 i) x)) → (4 - x) < fu → gw_W l kX12_keep cy (gw_R kX12_keep post) (mW cy ad iv ia la) 0 0 43 [some (.ref (ad 0)), some (.int (nI (t))), some (.int (nI (c))), some (.int (nI (i))), some (.int (gv)), some (.int (nI (x)))] [] := by
            intro fu
            induction fu with
            | zero => intro gv x g1 g2 hfu; exact absurd hfu (Nat.not_lt_zero _)
            | succ fu ih43 =>
              intro gv x g1 g2 hfu
              refine gw_iload dX12_keep_43 rfl ?_
              refine gw_iconst (v := nI (4)) dX12_keep_45 (by decide) ?_
              refine gw_icmpN_ge (tgt := 83) dX12_keep_46 (by decide) (by omega) (by omega) (fun c46 => ?_) (fun c46 => ?_)
              · have e1 : x = 4 := by omega
                rw [e1] at g2
                refine gw_iload dX12_keep_83 rfl ?_
                refine gw_if_ne (tgt := 90) dX12_keep_85 (by decide) (fun c85 => ?_) (fun c85 => ?_)
                · rw [g2, bI_n0] at c85
                  refine gw_iinc (v := nI (c + 1)) dX12_keep_90 rfl (nI_add _ 1) (by decide) rfl ?_
                  refine gw_iinc (v := nI (i + 1)) dX12_keep_93 rfl (nI_add _ 1) (by decide) rfl ?_
                  refine gw_goto (tgt := 4) dX12_keep_96 (by decide) ?_
                  refine gw_W.forget 4 ?_
                  refine gw_W.forget 5 ?_
                  refine ih4 (c + 1) (i + 1) ?_ ?_ ?_ ?_
                  · omega
                  · first | (rw [nz_f c20]; exact h2) | (rw [nz_t c20, List.length_append, h2]; rfl)
                  · first
                    | (rw [nz_f c20]; exact h3)
                    | (intro q hq
                       rw [nz_t c20] at hq
                       rcases List.mem_append.mp hq with hq | hq
                       · exact h3 q hq
                       · rw [List.mem_singleton] at hq; rw [hq]; exact c85)
                  · omega
                · rw [g2, bI_0] at c85
                  refine gw_iconst (v := nI (0)) dX12_keep_88 (by decide) ?_
                  refine gw_zret (?_) (by decide) (by decide) rfl (by decide) dX12_keep_89
                  subst hpost
                  exact ⟨none, (keepS_bad (i := i) (by omega) c20 c85).symm, rfl, fun _ => rfl, fun _ h => by cases h⟩
              · refine gw_iload dX12_keep_49 rfl ?_
                refine gw_if_eq (tgt := 74) dX12_keep_51 (by decide) (fun c51 => ?_) (fun c51 => ?_)
                · rw [g2, bI_0] at c51
                  refine gw_iconst (v := nI (0)) dX12_keep_74 (by decide) ?_
                  refine gw_istore dX12_keep_75 (by decide) rfl ?_
                  refine gw_iinc (v := nI (x + 1)) dX12_keep_77 rfl (nI_add _ 1) (by decide) rfl ?_
                  refine gw_goto (tgt := 43) dX12_keep_80 (by decide) ?_
                  refine ih43 (nI (0)) (x + 1) ?_ ?_ ?_
                  · omega
                  · have e13 : (nI 13).toInt = (13 : Int32).toInt := by decide
                    rw [sG_succ]
                    first
                    | (rw [c51]; rfl)
                    | (rw [c51, show decide (mCos (ia 10 i, la 11 i).1 (nI x) < 13) = true from decide_eq_true (by rw [i32_lt]; simp only; omega)]; rfl)
                    | (rw [c51, show decide (mCos (ia 10 i, la 11 i).1 (nI x) < 13) = false from decide_eq_false (by rw [i32_lt]; simp only; omega)]; rfl)
                  · omega
                · rw [g2, bI_n0] at c51
                  refine gw_aload_n dX12_keep_54 rfl ?_
                  refine gm_get_madeKey rfl dX12_keep_55 ?_
                  refine gw_iload_n dX12_keep_58 rfl ?_
                  refine gm_ld_madeKey (j := i) (rfl) (by omega) dX12_keep_59 ?_
                  refine gw_iload dX12_keep_60 rfl ?_
                  refine gw_callS (As := [.int ((ia 10) (i)), .int (nI (x))]) (st := []) (c_mcosine l cy ((ia 10) (i)) (nI (x)) (mW cy ad iv ia la)) ok_X12_cosine wd_962 rfl rfl dX12_keep_62 (by decide) (by decide) (Nat.le_of_ble_eq_true rfl) (fun r62 w62 hp62 => ?_)
                  obtain ⟨rfl, rfl⟩ := hp62
                  refine gw_W.norm (st' := [.int (mCos ((ia 10) (i)) (nI (x)))]) (k1 := 0) (k2 := 0) rfl rfl rfl ?_
                  refine gw_bipush (v := nI (13)) dX12_keep_65 (by decide) ?_
                  refine gw_icmp_ge (tgt := 74) dX12_keep_67 (by decide) (fun c67 => ?_) (fun c67 => ?_)
                  · rw [i32_le] at c67
                    refine gw_iconst (v := nI (0)) dX12_keep_74 (by decide) ?_
                    refine gw_istore dX12_keep_75 (by decide) rfl ?_
                    refine gw_iinc (v := nI (x + 1)) dX12_keep_77 rfl (nI_add _ 1) (by decide) rfl ?_
                    refine gw_goto (tgt := 43) dX12_keep_80 (by decide) ?_
                    refine ih43 (nI (0)) (x + 1) ?_ ?_ ?_
                    · omega
                    · have e13 : (nI 13).toInt = (13 : Int32).toInt := by decide
                      rw [sG_succ]
                      first
                      | (rw [c51]; rfl)
                      | (rw [c51, show decide (mCos (ia 10 i, la 11 i).1 (nI x) < 13) = true from decide_eq_true (by rw [i32_lt]; simp only; omega)]; rfl)
                      | (rw [c51, show decide (mCos (ia 10 i, la 11 i).1 (nI x) < 13) = false from decide_eq_false (by rw [i32_lt]; simp only; omega)]; rfl)
                    · omega
                  · rw [i32_le] at c67
                    refine gw_iconst (v := nI (1)) dX12_keep_70 (by decide) ?_
                    refine gw_goto (tgt := 75) dX12_keep_71 (by decide) ?_
                    refine gw_istore dX12_keep_75 (by decide) rfl ?_
                    refine gw_iinc (v := nI (x + 1)) dX12_keep_77 rfl (nI_add _ 1) (by decide) rfl ?_
                    refine gw_goto (tgt := 43) dX12_keep_80 (by decide) ?_
                    refine ih43 (nI (1)) (x + 1) ?_ ?_ ?_
                    · omega
                    · have e13 : (nI 13).toInt = (13 : Int32).toInt := by decide
                      rw [sG_succ]
                      first
                      | (rw [c51]; rfl)
                      | (rw [c51, show decide (mCos (ia 10 i, la 11 i).1 (nI x) < 13) = true from decide_eq_true (by rw [i32_lt]; simp only; omega)]; rfl)
                      | (rw [c51, show decide (mCos (ia 10 i, la 11 i).1 (nI x) < 13) = false from decide_eq_false (by rw [i32_lt]; simp only; omega)]; rfl)
                    · omega
          refine cut43 _ (bI (inZ ((la 11) (i)).toInt (((-1000000000000) : Int64)).toInt ((1000000000000 : Int64)).toInt)) (0) (Nat.zero_le _) (by rw [show sG (ia 10 i, la 11 i) 0 = inZ (la 11 i).toInt (-1000000000000) 1000000000000 from by simp [sG]]; rfl) (Nat.lt_succ_self _)
  refine cut4 _ (0) (0) (Nat.zero_le _) rfl (fun q hq => by simp [takeS_zero] at hq) (Nat.lt_succ_self _)
