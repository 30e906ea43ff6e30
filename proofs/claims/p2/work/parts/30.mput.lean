abbrev kX12_put : gw_K := (yX12_put, cX12_put, 7, { frames := 0, cells := 0, slots := 0, locals := 0 }, none)
theorem ok_X12_put : gw_calV kX12_put 2 := ⟨⟨wd_951, wd_62, by decide, by decide, by decide +kernel⟩, wd_950, wd_36⟩
def qm_put (cy : Nat → ClassId) (ad : Nat → Nat) (iv : Nat → Int32) (ia : Nat → Nat → Int32) (la : Nat → Nat → Int64) (n : Nat) (k : Int32) (v : Int64) : gw_Q := fun r w' => r = none ∧ ∃ (n' : Nat) (kk : Nat → Int32) (nn : Nat → Int64), w' = mW cy ad (va_up iv 9 (nI n')) (va_up ia 10 kk) (va_up la 11 nn) ∧ takeS kk nn 0 n' = sIns k v (takeS (ia 10) (la 11) 0 n)
theorem va_up_id {α : Type} (f : Nat → α) (k : Nat) : va_up f k (f k) = f := by
  funext j
  unfold va_up
  split
  · rename_i h; rw [h]
  · rfl
set_option maxHeartbeats 4000000 in
set_option maxRecDepth 100000 in
theorem c_mput (l : Launch) (cy : Nat → ClassId) (ad : Nat → Nat) (iv : Nat → Int32) (ia : Nat → Nat → Int32) (la : Nat → Nat → Int64) (n : Nat) (k : Int32) (v : Int64) (hn : iv 9 = nI n) (hlt : n < 1000) (hso : sOrd (takeS (ia 10) (la 11) 0 n)) : gw_M l kX12_put cy [.ref (ad 0), .int (k), .long (v)] (mW cy ad iv ia la) (qm_put cy ad iv ia la n k v) := by
  refine gw_M.mk (lv := [some (.ref (ad 0)), some (.int (k)), some (.long (v)), none, none, none, none]) (by decide) (Nat.le_of_ble_eq_true rfl) rfl ?_
  generalize hpost : (qm_put cy ad iv ia la n k v : gw_Q) = post
  have ord := sOrd_iff.mp hso
  simp only [Nat.zero_add] at ord
  refine gw_iconst (v := nI (0)) dX12_put_0 (by decide) ?_
  refine gw_istore dX12_put_1 (by decide) rfl ?_
  refine gw_aload_n dX12_put_3 rfl ?_
  refine gm_get_made rfl dX12_put_4 ?_
  refine gw_topi (y := nI (n)) (hn) ?_
  refine gw_istore dX12_put_7 (by decide) rfl ?_
  have cut9 : ∀ (fu : Nat) (low : Nat) (high : Nat), (low ≤ high) → (high ≤ n) → (∀ j, j < low → ia 10 j < k) → (∀ j, high ≤ j → j < n → ¬ ia 10 j < k) → (high - low) < fu → gw_W l kX12_put cy (gw_R kX12_put post) (mW cy ad iv ia la) 0 0 9 [some (.ref (ad 0)), some (.int (k)), some (.long (v)), none, some (.int (nI (low))), some (.int (nI (high))), none] [] := by
    intro fu
    induction fu with
    | zero => intro low high h1 h2 h3 h4 hfu; exact absurd hfu (Nat.not_lt_zero _)
    | succ fu ih9 =>
      intro low high h1 h2 h3 h4 hfu
      refine gw_iload dX12_put_9 rfl ?_
      refine gw_iload dX12_put_11 rfl ?_
      refine gw_icmpN_ge (tgt := 52) dX12_put_13 (by decide) (by omega) (by omega) (fun c13 => ?_) (fun c13 => ?_)
      · have e1 : low = high := by omega
        have h4 : ∀ j, low ≤ j → j < n → ¬ ia 10 j < k := by rw [e1]; exact h4
        have cut72 : (low = n ∨ ¬ ia 10 low = k) → gw_W l kX12_put cy (gw_R kX12_put post) (mW cy ad iv ia la) 0 0 72 [some (.ref (ad 0)), some (.int (k)), some (.long (v)), none, some (.int (nI (low))), none, none] [] := by
          intro h5
          refine gw_aload_n dX12_put_72 rfl ?_
          refine gm_get_made rfl dX12_put_73 ?_
          refine gw_topi (y := nI (n)) (hn) ?_
          refine gw_istore dX12_put_76 (by decide) rfl ?_
          have cut78 : ∀ (fu : Nat) (i : Nat) (kk : Nat → Int32) (nn : Nat → Int64), (low ≤ i) → (i ≤ n) → (∀ j, j ≤ i → kk j = ia 10 j ∧ nn j = la 11 j) → (∀ j, i < j → j ≤ n → kk j = ia 10 (j - 1) ∧ nn j = la 11 (j - 1)) → (i) < fu → gw_W l kX12_put cy (gw_R kX12_put post) (mW cy ad iv (va_up ia 10 (kk)) (va_up la 11 (nn))) 0 0 78 [some (.ref (ad 0)), some (.int (k)), some (.long (v)), none, some (.int (nI (low))), none, some (.int (nI (i)))] [] := by
            intro fu
            induction fu with
            | zero => intro i kk nn g1 g2 g3 g4 hfu; exact absurd hfu (Nat.not_lt_zero _)
            | succ fu ih78 =>
              intro i kk nn g1 g2 g3 g4 hfu
              refine gw_iload dX12_put_78 rfl ?_
              refine gw_iload dX12_put_80 rfl ?_
              refine gw_icmpN_le (tgt := 123) dX12_put_82 (by decide) (by omega) (by omega) (fun c82 => ?_) (fun c82 => ?_)
              · have e2 : low = i := by omega
                subst e2
                refine gw_aload_n dX12_put_123 rfl ?_
                refine gm_get_madeKey rfl dX12_put_124 ?_
                refine gw_iload dX12_put_127 rfl ?_
                refine gw_iload_n dX12_put_129 rfl ?_
                refine gm_st_madeKey (j := low) (rfl) (by omega) dX12_put_130 ?_
                refine gw_W.wd (w' := (mW cy ad iv (va_up ia 10 (upd (kk) (low) (k))) (va_up la 11 (nn)))) rfl ?_
                refine gw_aload_n dX12_put_131 rfl ?_
                refine gm_get_madeNumber rfl dX12_put_132 ?_
                refine gw_iload dX12_put_135 rfl ?_
                refine gw_lconst (v := (0 : Int64)) dX12_put_137 (by decide) ?_
                refine gm_st_madeNumber (j := low) (rfl) (by omega) dX12_put_138 ?_
                refine gw_W.wd (w' := (mW cy ad iv (va_up ia 10 (upd (kk) (low) (k))) (va_up la 11 (vp_updL (nn) (low) ((0 : Int64)))))) rfl ?_
                refine gw_aload_n dX12_put_139 rfl ?_
                refine gw_dup dX12_put_140 rfl ?_
                refine gm_get_made rfl dX12_put_141 ?_
                refine gw_topi (y := nI (n)) (hn) ?_
                refine gw_iconst (v := nI (1)) dX12_put_144 (by decide) ?_
                refine gw_iaddN dX12_put_145 ?_
                refine gm_put_made rfl dX12_put_146 ?_
                refine gw_W.wd (w' := (mW cy ad (va_up iv 9 (nI (n + 1))) (va_up ia 10 (upd (kk) (low) (k))) (va_up la 11 (vp_updL (nn) (low) ((0 : Int64)))))) rfl ?_
                refine gw_aload_n dX12_put_149 rfl ?_
                refine gm_get_madeNumber rfl dX12_put_150 ?_
                refine gw_iload dX12_put_153 rfl ?_
                refine gw_dup2 dX12_put_155 rfl rfl ?_
                refine gm_ld_madeNumber (j := low) (rfl) (by omega) dX12_put_156 ?_
                refine gw_topl (y := (vp_updL (nn) (low) ((0 : Int64))) (low)) rfl ?_
                refine gw_lload_n dX12_put_157 rfl ?_
                refine gw_ladd dX12_put_158 ?_
                refine gm_st_madeNumber (j := low) (rfl) (by omega) dX12_put_159 ?_
                refine gw_W.wd (w' := (mW cy ad (va_up iv 9 (nI (n + 1))) (va_up ia 10 (upd (kk) (low) (k))) (va_up la 11 (vp_updL (vp_updL (nn) (low) ((0 : Int64))) (low) (((vp_updL (nn) (low) ((0 : Int64))) (low)) + (v)))))) rfl ?_
                refine gw_vret (?_) (by decide) (by decide) rfl dX12_put_160
                subst hpost
                first
                  | exact ⟨rfl, n, ia 10, _, by rw [← hn, va_up_id, va_up_id], sIns_old (low := low) (by omega) h3 c69 (fun j hj => pk_uLn hj) pk_uLs⟩
                  | exact ⟨rfl, n + 1, _, _, rfl, sIns_new (low := low) g2 h3 (by
                      rcases h5 with h5 | h5
                      · exact Or.inl h5
                      · rcases Nat.lt_or_ge low n with g | g
                        · have g9 := h4 low (Nat.le_refl _) g
                          refine Or.inr ?_
                          rw [i32_eq] at h5; rw [i32_lt] at g9 ⊢; omega
                        · exact Or.inl (by omega)) (fun j hj => ⟨by rw [pk_un (by omega)]; exact (g3 j (by omega)).1, by rw [pk_uLn (by omega), pk_uLn (by omega)]; exact (g3 j (by omega)).2⟩) ⟨pk_us, by rw [pk_uLs, pk_uLs]; exact Int64.zero_add v⟩ (fun j hj hn0 => ⟨by rw [pk_un (by omega)]; exact (g4 j hj hn0).1, by rw [pk_uLn (by omega), pk_uLn (by omega)]; exact (g4 j hj hn0).2⟩)⟩
              · refine gw_aload_n dX12_put_85 rfl ?_
                refine gm_get_madeKey rfl dX12_put_86 ?_
                refine gw_iload dX12_put_89 rfl ?_
                refine gw_aload_n dX12_put_91 rfl ?_
                refine gm_get_madeKey rfl dX12_put_92 ?_
                refine gw_iload dX12_put_95 rfl ?_
                refine gw_iconst (v := nI (1)) dX12_put_97 (by decide) ?_
                refine gw_isubN dX12_put_98 (by omega) ?_
                refine gm_ld_madeKey (j := (i) - (1)) (rfl) (by omega) dX12_put_99 ?_
                refine gw_topi (y := (kk) ((i) - (1))) rfl ?_
                refine gm_st_madeKey (j := i) (rfl) (by omega) dX12_put_100 ?_
                refine gw_W.wd (w' := (mW cy ad iv (va_up ia 10 (upd (kk) (i) ((kk) ((i) - (1))))) (va_up la 11 (nn)))) rfl ?_
                refine gw_aload_n dX12_put_101 rfl ?_
                refine gm_get_madeNumber rfl dX12_put_102 ?_
                refine gw_iload dX12_put_105 rfl ?_
                refine gw_aload_n dX12_put_107 rfl ?_
                refine gm_get_madeNumber rfl dX12_put_108 ?_
                refine gw_iload dX12_put_111 rfl ?_
                refine gw_iconst (v := nI (1)) dX12_put_113 (by decide) ?_
                refine gw_isubN dX12_put_114 (by omega) ?_
                refine gm_ld_madeNumber (j := (i) - (1)) (rfl) (by omega) dX12_put_115 ?_
                refine gw_topl (y := (nn) ((i) - (1))) rfl ?_
                refine gm_st_madeNumber (j := i) (rfl) (by omega) dX12_put_116 ?_
                refine gw_W.wd (w' := (mW cy ad iv (va_up ia 10 (upd (kk) (i) ((kk) ((i) - (1))))) (va_up la 11 (vp_updL (nn) (i) ((nn) ((i) - (1))))))) rfl ?_
                refine gw_iinc (v := nI (i - 1)) dX12_put_117 rfl ((show nI (i) + Int32.ofInt (-1) = nI (i - 1) from by rw [show Int32.ofInt (-1) = -(nI 1) from by decide, ← Int32.sub_eq_add_neg]; exact pk_sub (by omega))) (by decide) rfl ?_
                refine gw_goto (tgt := 78) dX12_put_120 (by decide) ?_
                refine gw_W.wd (w' := (mW cy ad iv (va_up ia 10 ((upd (kk) (i) ((kk) ((i) - (1)))))) (va_up la 11 ((vp_updL (nn) (i) ((nn) ((i) - (1)))))))) rfl ?_
                refine ih78 (i - 1) ((upd (kk) (i) ((kk) ((i) - (1))))) ((vp_updL (nn) (i) ((nn) ((i) - (1))))) ?_ ?_ ?_ ?_ ?_
                · omega
                · omega
                · intro j hj; rw [pk_un (by omega), pk_uLn (by omega)]; exact g3 j (by omega)
                · intro j hj hn0
                  rcases Nat.lt_or_ge i j with g | g
                  · rw [pk_un (by omega), pk_uLn (by omega)]; exact g4 j g hn0
                  · have e3 : j = i := by omega
                    subst e3; rw [pk_us, pk_uLs]; exact g3 (j - 1) (by omega)
                · omega
          refine gw_W.wd (w' := (mW cy ad iv (va_up ia 10 ((ia 10))) (va_up la 11 ((la 11))))) rfl ?_
          refine cut78 _ (n) ((ia 10)) ((la 11)) (by omega) (Nat.le_refl _) (fun j _ => ⟨rfl, rfl⟩) (fun j h h0 => absurd h0 (by omega)) (Nat.lt_succ_self _)
        refine gw_iload dX12_put_52 rfl ?_
        refine gw_aload_n dX12_put_54 rfl ?_
        refine gm_get_made rfl dX12_put_55 ?_
        refine gw_topi (y := nI (n)) (hn) ?_
        refine gw_icmpN_eq (tgt := 72) dX12_put_58 (by decide) (by omega) (by omega) (fun c58 => ?_) (fun c58 => ?_)
        · refine gw_W.forget 5 ?_
          refine cut72  (Or.inl c58)
        · refine gw_aload_n dX12_put_61 rfl ?_
          refine gm_get_madeKey rfl dX12_put_62 ?_
          refine gw_iload dX12_put_65 rfl ?_
          refine gm_ld_madeKey (j := low) (rfl) (by omega) dX12_put_67 ?_
          refine gw_iload_n dX12_put_68 rfl ?_
          refine gw_icmp_eq (tgt := 149) dX12_put_69 (by decide) (fun c69 => ?_) (fun c69 => ?_)
          · refine gw_aload_n dX12_put_149 rfl ?_
            refine gm_get_madeNumber rfl dX12_put_150 ?_
            refine gw_iload dX12_put_153 rfl ?_
            refine gw_dup2 dX12_put_155 rfl rfl ?_
            refine gm_ld_madeNumber (j := low) (rfl) (by omega) dX12_put_156 ?_
            refine gw_lload_n dX12_put_157 rfl ?_
            refine gw_ladd dX12_put_158 ?_
            refine gm_st_madeNumber (j := low) (rfl) (by omega) dX12_put_159 ?_
            refine gw_W.wd (w' := (mW cy ad iv ia (va_up la 11 (vp_updL (la 11) (low) (((la 11) (low)) + (v)))))) rfl ?_
            refine gw_vret (?_) (by decide) (by decide) rfl dX12_put_160
            subst hpost
            first
              | exact ⟨rfl, n, ia 10, _, by rw [← hn, va_up_id, va_up_id], sIns_old (low := low) (by omega) h3 c69 (fun j hj => pk_uLn hj) pk_uLs⟩
              | exact ⟨rfl, n + 1, _, _, rfl, sIns_new (low := low) g2 h3 (by
                  rcases h5 with h5 | h5
                  · exact Or.inl h5
                  · rcases Nat.lt_or_ge low n with g | g
                    · have g9 := h4 low (Nat.le_refl _) g
                      refine Or.inr ?_
                      rw [i32_eq] at h5; rw [i32_lt] at g9 ⊢; omega
                    · exact Or.inl (by omega)) (fun j hj => ⟨by rw [pk_un (by omega)]; exact (g3 j (by omega)).1, by rw [pk_uLn (by omega), pk_uLn (by omega)]; exact (g3 j (by omega)).2⟩) ⟨pk_us, by rw [pk_uLs, pk_uLs]; exact Int64.zero_add v⟩ (fun j hj hn0 => ⟨by rw [pk_un (by omega)]; exact (g4 j hj hn0).1, by rw [pk_uLn (by omega), pk_uLn (by omega)]; exact (g4 j hj hn0).2⟩)⟩
          · refine gw_W.forget 5 ?_
            refine cut72  (Or.inr c69)
      · refine gw_iload dX12_put_16 rfl ?_
        refine gw_iload dX12_put_18 rfl ?_
        refine gw_iaddN dX12_put_20 ?_
        refine gw_iconst (v := nI (2)) dX12_put_21 (by decide) ?_
        refine gw_idivN dX12_put_22 (by omega) (by omega) (by omega) ?_
        refine gw_istore dX12_put_23 (by decide) rfl ?_
        refine gw_aload_n dX12_put_25 rfl ?_
        refine gm_get_madeKey rfl dX12_put_26 ?_
        refine gw_iload dX12_put_29 rfl ?_
        refine gm_ld_madeKey (j := (low + high) / (2)) (rfl) (by omega) dX12_put_31 ?_
        refine gw_iload_n dX12_put_32 rfl ?_
        refine gw_icmp_ge (tgt := 45) dX12_put_33 (by decide) (fun c33 => ?_) (fun c33 => ?_)
        · have q3 := h3
          have q4 : ∀ j, (low + high) / 2 ≤ j → j < n → ¬ ia 10 j < k := fun j hj hn0 => by
            rcases Nat.lt_or_ge ((low + high) / 2) j with g | g
            · have o1 := ord _ _ g hn0; rw [i32_lt] at o1 ⊢; rw [i32_le] at c33; omega
            · have e0 : j = (low + high) / 2 := by omega
              rw [e0, i32_lt]; rw [i32_le] at c33; omega
          refine gw_iload dX12_put_45 rfl ?_
          refine gw_istore dX12_put_47 (by decide) rfl ?_
          refine gw_goto (tgt := 9) dX12_put_49 (by decide) ?_
          refine gw_W.forget 6 ?_
          refine ih9 (low) ((low + high) / (2)) ?_ ?_ ?_ ?_ ?_
          · omega
          · omega
          · exact q3
          · exact q4
          · omega
        · have q4 := h4
          have q3 : ∀ j, j < (low + high) / 2 + 1 → ia 10 j < k := fun j hj => by
            rcases Nat.lt_or_ge j ((low + high) / 2) with g | g
            · have o1 := ord _ _ g (by omega); rw [i32_lt] at o1 ⊢; rw [i32_le] at c33; omega
            · have e0 : j = (low + high) / 2 := by omega
              rw [e0, i32_lt]; rw [i32_le] at c33; omega
          refine gw_iload dX12_put_36 rfl ?_
          refine gw_iconst (v := nI (1)) dX12_put_38 (by decide) ?_
          refine gw_iaddN dX12_put_39 ?_
          refine gw_istore dX12_put_40 (by decide) rfl ?_
          refine gw_goto (tgt := 49) dX12_put_42 (by decide) ?_
          refine gw_goto (tgt := 9) dX12_put_49 (by decide) ?_
          refine gw_W.forget 6 ?_
          refine ih9 (((low + high) / (2)) + 1) (high) ?_ ?_ ?_ ?_ ?_
          · omega
          · omega
          · exact q3
          · exact q4
          · omega
  refine cut9 _ (0) (n) (Nat.zero_le _) (Nat.le_refl _) (fun j h => absurd h (Nat.not_lt_zero _)) (fun j h h0 => absurd h0 (by omega)) (Nat.lt_succ_self _)
