/-! ask: cost, mark -/
def trAdd (T : List Int32) (b : Int32) : List Int32 := if T.length < 16 then T ++ [b] else T
def trAll (T L : List Int32) : List Int32 := L.foldl trAdd T
theorem trAll_app (T A B : List Int32) : trAll T (A ++ B) = trAll (trAll T A) B := by simp [trAll, List.foldl_append]
theorem trAll_one (T : List Int32) (b : Int32) : trAll T [b] = trAdd T b := rfl
theorem trAll_nil (T : List Int32) : trAll T [] = T := rfl
def popN (a : Int32) : Nat → Int32
  | 0 => nI 0
  | s + 1 => popN a s + ((a >>> (nI s &&& 31)) &&& nI 1)
def co1 (own : Nat) : List Int32 := if own = 3 then [nI 13] else []
def co2 (own : Nat) : List Int32 := co1 own ++ (if own = 3 ∨ own = 2 then [nI 12] else [])
def co3 (own : Nat) : List Int32 := co2 own ++ (if own < 5 then [nI 11] else [])
def costL (own : Nat) : List Int32 := if own = 5 then [nI 14] else (co3 own ++ [nI 10]) ++ (if own = 3 then [nI 23] else [])
def costB (n : Nat) (o : aO) : Int32 := if o.1 < 4 then (if o.1 < 5 then nI 2 else nI 1) * popN o.2.1 n else (if o.1 < 5 then nI 2 else nI 1)
def costV (n : Nat) (o : aO) : Int32 := if o.1 = 5 then o.2.1 else if o.1 = 3 then costB n o + o.2.2.2.2 else costB n o
def ma1 (own : Nat) : List Int32 := if own = 4 then [nI 22] else []
def ma2 (own : Nat) : List Int32 := ma1 own ++ (if own < 5 then [nI 21] else [])
def ma3 (own : Nat) : List Int32 := ma2 own ++ (if own = 7 then [nI 24] else [])
def markL (own : Nat) : List Int32 := if own = 3 then [nI 23] else (ma3 own ++ [nI 20]) ++ (if own < 5 then costL own else [])
def markB (n : Nat) (k : Int32) (o : aO) : Int32 := if o.1 < 5 then k + costV n o else k + nI 0
def markV (n : Nat) (k : Int32) (o : aO) : Int32 := if o.1 = 3 then o.2.2.2.2 else if o.1 = 4 then markB n k o + o.2.2.1 else if o.1 = 7 then markB n k o + o.2.1 else markB n k o
def spAsk (σ : aS) (k x : Int32) : Int32 × aS := if isO σ k = true ∧ inZ x.toInt 0 1 = true then (if x = 0 then (costV σ.1 (opA σ k), setTr σ (trAll [] (costL (opA σ k).1))) else (markV σ.1 k (opA σ k), setTr σ (trAll [] (markL (opA σ k).1)))) else (-1000001, σ)
theorem trR_add {v21 : Int32} {a20 : Nat → Int32} {T : List Int32} {b : Int32} (h : trR v21 a20 T) : trR (if T.length < 16 then nI (T.length + 1) else v21) (if T.length < 16 then upd a20 T.length b else a20) (trAdd T b) := by
  obtain ⟨h1, h2, h3⟩ := h
  unfold trAdd
  by_cases hl : T.length < 16
  · rw [if_pos hl, if_pos hl, if_pos hl]
    refine ⟨by rw [List.length_append]; exact hl, by rw [List.length_append]; rfl, fun j hj => ?_⟩
    rw [List.length_append, List.length_singleton] at hj
    by_cases e : j = T.length
    · subst e; rw [pk_us]; simp [List.getD_eq_getElem?_getD]
    · rw [pk_un e, h3 j (by omega)]; simp [List.getD_eq_getElem?_getD, List.getElem?_append_left (show j < T.length by omega)]
  · rw [if_neg hl, if_neg hl, if_neg hl]; exact ⟨h1, h2, h3⟩
def qmT (cy : Nat → ClassId) (ad : Nat → Nat) (iv : Nat → Int32) (ia : Nat → Nat → Int32) (la : Nat → Nat → Int64) (r0 : Option Value) (T : List Int32) : gw_Q := fun r w' => r = r0 ∧ ∃ (v21 : Int32) (a20 : Nat → Int32), w' = mW cy ad (va_up iv 21 v21) (va_up ia 20 a20) la ∧ trR v21 a20 T
theorem t_mbegins (l : Launch) (cy : Nat → ClassId) (ad : Nat → Nat) (iv : Nat → Int32) (ia : Nat → Nat → Int32) (la : Nat → Nat → Int64) (b : Int32) (T : List Int32) (h : trR (iv 21) (ia 20) T) : gw_M l kX12_begins cy [.ref (ad 0), .int b] (mW cy ad iv ia la) (qmT cy ad iv ia la none (trAdd T b)) := by
  refine (c_mbegins l cy ad iv ia la b T.length h.2.1 h.1).less ?_
  intro r w' hp
  obtain ⟨h1, h2⟩ := hp
  refine ⟨h1, _, _, ?_, trR_add h⟩
  rw [h2]
  by_cases hl : T.length < 16
  · rw [if_pos hl, if_pos hl, if_pos hl]
  · rw [if_neg hl, if_neg hl, if_neg hl, va_up_id, va_up_id]
abbrev kX12_mark2 : gw_K := (yX12_mark2, cX12_mark2, 2, { frames := 1, cells := 0, slots := 0, locals := 21 }, (some .int))
theorem ok_X12_mark2 : gw_calV kX12_mark2 1 := ⟨⟨wd_1131, wd_62, by decide, by decide, by decide +kernel⟩, wd_1130, wd_52⟩
set_option maxHeartbeats 4000000 in
set_option maxRecDepth 100000 in
theorem c_mmark2 (l : Launch) (cy : Nat → ClassId) (ad : Nat → Nat) (iv : Nat → Int32) (ia : Nat → Nat → Int32) (la : Nat → Nat → Int64) (T : List Int32) (h : trR (iv 21) (ia 20) T) (j : Nat) (x : aO) (n : Nat) (hj : j < 40) (hk : 2 ≤ x.1 ∧ x.1 ≤ 7) (e13 : ia 13 j = nI x.1) (e14 : ia 14 j = x.2.1) (e15 : ia 15 j = x.2.2.1) (e17 : ia 17 j = x.2.2.2.2) (hn : iv 0 = nI n) (hn4 : n ≤ 4) : gw_M l kX12_mark2 cy [.ref (ad 0), .int (nI (j))] (mW cy ad iv ia la) (qmT cy ad iv ia la (some (.int x.2.2.2.2)) (trAdd T (nI 23))) := by
  refine gw_M.mk (lv := [some (.ref (ad 0)), some (.int (nI (j)))]) (by decide) (Nat.le_of_ble_eq_true rfl) rfl ?_
  generalize hpost : (qmT cy ad iv ia la (some (.int x.2.2.2.2)) (trAdd T (nI 23)) : gw_Q) = post
  refine gw_aload_n dX12_mark2_0 rfl ?_
  refine gw_bipush (v := nI (23)) dX12_mark2_1 (by decide) ?_
  refine gw_callV 0 (As := [.int (nI (23))]) (st := []) (t_mbegins l cy ad iv ia la (nI (23)) (T) h) ok_X12_begins rfl rfl rfl wd_1124 rfl rfl dX12_mark2_3 (by decide) (by decide) (Nat.le_of_ble_eq_true rfl) (fun r3 w3 hp3 => ?_)
  obtain ⟨rfl, v3, a3, rfl, h3⟩ := hp3
  refine gw_W.wd (w' := (mW cy ad (va_up iv 21 (v3)) (va_up ia 20 (a3)) la)) rfl ?_
  refine gw_W.norm (st' := []) (k1 := 0) (k2 := 0) rfl rfl rfl ?_
  refine gw_aload_n dX12_mark2_6 rfl ?_
  refine gm_get_table rfl dX12_mark2_7 ?_
  refine gw_iload_n dX12_mark2_10 rfl ?_
  refine gm_ld_table (j := j) (rfl) (hj) dX12_mark2_11 ?_
  refine gw_topi (y := (ia 17) (j)) rfl ?_
  refine gw_topi (y := x.2.2.2.2) (e17) ?_
  refine gw_iret (?_) (by decide) (by decide) rfl dX12_mark2_12
  subst hpost
  exact ⟨rfl, v3, a3, rfl, h3⟩
abbrev kX12_cost : gw_K := (yX12_cost, cX12_cost, 6, { frames := 2, cells := 0, slots := 0, locals := 42 }, (some .int))
theorem ok_X12_cost : gw_calV kX12_cost 1 := ⟨⟨wd_1123, wd_62, by decide, by decide, by decide +kernel⟩, wd_1122, wd_50⟩
set_option maxHeartbeats 4000000 in
set_option maxRecDepth 100000 in
theorem c_mcost (l : Launch) (cy : Nat → ClassId) (ad : Nat → Nat) (iv : Nat → Int32) (ia : Nat → Nat → Int32) (la : Nat → Nat → Int64) (T : List Int32) (h : trR (iv 21) (ia 20) T) (j : Nat) (x : aO) (n : Nat) (hj : j < 40) (hk : 2 ≤ x.1 ∧ x.1 ≤ 7) (e13 : ia 13 j = nI x.1) (e14 : ia 14 j = x.2.1) (e15 : ia 15 j = x.2.2.1) (e17 : ia 17 j = x.2.2.2.2) (hn : iv 0 = nI n) (hn4 : n ≤ 4) : gw_M l kX12_cost cy [.ref (ad 0), .int (nI (j))] (mW cy ad iv ia la) (qmT cy ad iv ia la (some (.int (costV n x))) (trAll T (costL x.1))) := by
  refine gw_M.mk (lv := [some (.ref (ad 0)), some (.int (nI (j))), none, none, none, none]) (by decide) (Nat.le_of_ble_eq_true rfl) rfl ?_
  generalize hpost : (qmT cy ad iv ia la (some (.int (costV n x))) (trAll T (costL x.1)) : gw_Q) = post
  have hx := hk.1
  have hy := hk.2
  refine gw_aload_n dX12_cost_0 rfl ?_
  refine gm_get_kind rfl dX12_cost_1 ?_
  refine gw_iload_n dX12_cost_4 rfl ?_
  refine gm_ld_kind (j := j) (rfl) (hj) dX12_cost_5 ?_
  refine gw_topi (y := nI (x.1)) (e13) ?_
  refine gw_istore_n dX12_cost_6 (by decide) rfl ?_
  refine gw_iload_n dX12_cost_7 rfl ?_
  refine gw_iconst (v := nI (5)) dX12_cost_8 (by decide) ?_
  refine gw_icmpN_ne (tgt := 25) dX12_cost_9 (by decide) (by omega) (by omega) (fun c9 => ?_) (fun c9 => ?_)
  · have cut36 : ∀ (v : Int32) (a : Nat → Int32), (trR v a (trAll T (co1 x.1))) → gw_W l kX12_cost cy (gw_R kX12_cost post) (mW cy ad (va_up iv 21 (v)) (va_up ia 20 (a)) la) 0 0 36 [some (.ref (ad 0)), some (.int (nI (j))), some (.int (nI (x.1))), none, none, none] [] := by
      intro v a g
      have cut52 : ∀ (v : Int32) (a : Nat → Int32), (trR v a (trAll T (co2 x.1))) → gw_W l kX12_cost cy (gw_R kX12_cost post) (mW cy ad (va_up iv 21 (v)) (va_up ia 20 (a)) la) 0 0 52 [some (.ref (ad 0)), some (.int (nI (j))), some (.int (nI (x.1))), none, none, none] [] := by
        intro v a g
        have cut63 : ∀ (v : Int32) (a : Nat → Int32), (trR v a (trAll T (co3 x.1))) → gw_W l kX12_cost cy (gw_R kX12_cost post) (mW cy ad (va_up iv 21 (v)) (va_up ia 20 (a)) la) 0 0 63 [some (.ref (ad 0)), some (.int (nI (j))), some (.int (nI (x.1))), none, none, none] [] := by
          intro v a g
          refine gw_aload_n dX12_cost_63 rfl ?_
          refine gw_bipush (v := nI (10)) dX12_cost_64 (by decide) ?_
          refine gw_callV 0 (As := [.int (nI (10))]) (st := []) (t_mbegins l cy ad (va_up iv 21 (v)) (va_up ia 20 (a)) la (nI (10)) (trAll T (co3 x.1)) g) ok_X12_begins rfl rfl rfl wd_1124 rfl rfl dX12_cost_66 (by decide) (by decide) (Nat.le_of_ble_eq_true rfl) (fun r66 w66 hp66 => ?_)
          obtain ⟨rfl, v66, a66, rfl, h66⟩ := hp66
          refine gw_W.wd (w' := (mW cy ad (va_up iv 21 (v66)) (va_up ia 20 (a66)) la)) rfl ?_
          refine gw_W.norm (st' := []) (k1 := 0) (k2 := 0) rfl rfl rfl ?_
          have h66 : trR v66 a66 (trAll T (co3 x.1 ++ [nI 10])) := by rw [trAll_app]; exact h66
          have cut80 : ∀ (u : Int32), (u = (if x.1 < 5 then nI 2 else nI 1)) → gw_W l kX12_cost cy (gw_R kX12_cost post) (mW cy ad (va_up iv 21 (v66)) (va_up ia 20 (a66)) la) 0 0 80 [some (.ref (ad 0)), some (.int (nI (j))), some (.int (nI (x.1))), some (.int (u)), none, none] [] := by
            intro u k1
            have cut127 : ∀ (z : Int32), (z = costB n x) → gw_W l kX12_cost cy (gw_R kX12_cost post) (mW cy ad (va_up iv 21 (v66)) (va_up ia 20 (a66)) la) 0 0 127 [some (.ref (ad 0)), some (.int (nI (j))), some (.int (nI (x.1))), some (.int (z)), none, none] [] := by
              intro z z1
              refine gw_iload_n dX12_cost_127 rfl ?_
              refine gw_iconst (v := nI (3)) dX12_cost_128 (by decide) ?_
              refine gw_icmpN_ne (tgt := 142) dX12_cost_129 (by decide) (by omega) (by omega) (fun c129 => ?_) (fun c129 => ?_)
              · refine gw_iload_n dX12_cost_142 rfl ?_
                refine gw_iret (?_) (by decide) (by decide) rfl dX12_cost_143
                subst hpost
                unfold costV costL
                rw [if_neg c9, if_neg c9]
                first
                  | (rw [if_pos c129, if_pos c129, trAll_app, z1]; exact ⟨rfl, v135, a135, rfl, h135⟩)
                  | (rw [if_neg c129, if_neg c129, List.append_nil, z1]; exact ⟨rfl, v66, a66, rfl, h66⟩)
              · refine gw_iload_n dX12_cost_132 rfl ?_
                refine gw_aload_n dX12_cost_133 rfl ?_
                refine gw_iload_n dX12_cost_134 rfl ?_
                refine gw_callV 0 (As := [.int (nI (j))]) (st := [.int (z)]) (c_mmark2 l cy ad (va_up iv 21 (v66)) (va_up ia 20 (a66)) la (trAll T (co3 x.1 ++ [nI 10])) h66 j x n hj hk e13 e14 e15 e17 hn hn4) ok_X12_mark2 rfl rfl rfl wd_1128 rfl rfl dX12_cost_135 (by decide) (by decide) (Nat.le_of_ble_eq_true rfl) (fun r135 w135 hp135 => ?_)
                obtain ⟨rfl, v135, a135, rfl, h135⟩ := hp135
                refine gw_W.wd (w' := (mW cy ad (va_up iv 21 (v135)) (va_up ia 20 (a135)) la)) rfl ?_
                refine gw_W.norm (st' := [.int (x.2.2.2.2), .int (z)]) (k1 := 0) (k2 := 0) rfl rfl rfl ?_
                refine gw_iadd dX12_cost_138 ?_
                refine gw_goto (tgt := 143) dX12_cost_139 (by decide) ?_
                refine gw_iret (?_) (by decide) (by decide) rfl dX12_cost_143
                subst hpost
                unfold costV costL
                rw [if_neg c9, if_neg c9]
                first
                  | (rw [if_pos c129, if_pos c129, trAll_app, z1]; exact ⟨rfl, v135, a135, rfl, h135⟩)
                  | (rw [if_neg c129, if_neg c129, List.append_nil, z1]; exact ⟨rfl, v66, a66, rfl, h66⟩)
            refine gw_iload_n dX12_cost_80 rfl ?_
            refine gw_iconst (v := nI (4)) dX12_cost_81 (by decide) ?_
            refine gw_icmpN_ge (tgt := 127) dX12_cost_82 (by decide) (by omega) (by omega) (fun c82 => ?_) (fun c82 => ?_)
            · refine cut127 (u) (by unfold costB; rw [if_neg (by omega), k1])
            · refine gw_iconst (v := nI (0)) dX12_cost_85 (by decide) ?_
              refine gw_istore dX12_cost_86 (by decide) rfl ?_
              refine gw_iconst (v := nI (0)) dX12_cost_88 (by decide) ?_
              refine gw_istore dX12_cost_89 (by decide) rfl ?_
              have cut91 : ∀ (fu : Nat) (s : Nat) (cn : Int32), (s ≤ n) → (cn = popN x.2.1 s) → (n - s) < fu → gw_W l kX12_cost cy (gw_R kX12_cost post) (mW cy ad (va_up iv 21 (v66)) (va_up ia 20 (a66)) la) 0 0 91 [some (.ref (ad 0)), some (.int (nI (j))), some (.int (nI (x.1))), some (.int (u)), some (.int (cn)), some (.int (nI (s)))] [] := by
                intro fu
                induction fu with
                | zero => intro s cn s1 s2 hfu; exact absurd hfu (Nat.not_lt_zero _)
                | succ fu ih91 =>
                  intro s cn s1 s2 hfu
                  refine gw_iload dX12_cost_91 rfl ?_
                  refine gw_aload_n dX12_cost_93 rfl ?_
                  refine gm_get_spins rfl dX12_cost_94 ?_
                  refine gw_topi (y := nI (n)) (hn) ?_
                  refine gw_icmpN_ge (tgt := 122) dX12_cost_97 (by decide) (by omega) (by omega) (fun c97 => ?_) (fun c97 => ?_)
                  · have s3 : s = n := by omega
                    rw [s3] at s2
                    refine gw_iload_n dX12_cost_122 rfl ?_
                    refine gw_iload dX12_cost_123 rfl ?_
                    refine gw_imul dX12_cost_125 ?_
                    refine gw_istore_n dX12_cost_126 (by decide) rfl ?_
                    refine gw_W.forget 4 ?_
                    refine gw_W.forget 5 ?_
                    refine cut127 ((u) * (cn)) (by unfold costB; rw [if_pos (by omega), s2, k1])
                  · refine gw_iload dX12_cost_100 rfl ?_
                    refine gw_aload_n dX12_cost_102 rfl ?_
                    refine gm_get_set rfl dX12_cost_103 ?_
                    refine gw_iload_n dX12_cost_106 rfl ?_
                    refine gm_ld_set (j := j) (rfl) (hj) dX12_cost_107 ?_
                    refine gw_topi (y := (ia 14) (j)) rfl ?_
                    refine gw_topi (y := x.2.1) (e14) ?_
                    refine gw_iload dX12_cost_108 rfl ?_
                    refine gw_ishr dX12_cost_110 ?_
                    refine gw_iconst (v := nI (1)) dX12_cost_111 (by decide) ?_
                    refine gw_iand dX12_cost_112 ?_
                    refine gw_iadd dX12_cost_113 ?_
                    refine gw_istore dX12_cost_114 (by decide) rfl ?_
                    refine gw_iinc (v := nI (s + 1)) dX12_cost_116 rfl (nI_add _ 1) (by decide) rfl ?_
                    refine gw_goto (tgt := 91) dX12_cost_119 (by decide) ?_
                    refine ih91 (s + 1) ((cn) + (((x.2.1) >>> ((nI (s)) &&& 31)) &&& (nI (1)))) (by omega) (by rw [popN, s2]) ?_
                    omega
              refine cut91 _ (0) (nI (0)) (Nat.zero_le _) rfl (Nat.lt_succ_self _)
          refine gw_iload_n dX12_cost_69 rfl ?_
          refine gw_iconst (v := nI (5)) dX12_cost_70 (by decide) ?_
          refine gw_icmpN_ge (tgt := 78) dX12_cost_71 (by decide) (by omega) (by omega) (fun c71 => ?_) (fun c71 => ?_)
          · refine gw_iconst (v := nI (1)) dX12_cost_78 (by decide) ?_
            refine gw_istore_n dX12_cost_79 (by decide) rfl ?_
            refine cut80 (nI (1)) (by first | (exfalso; omega) | (rw [if_pos (by omega)]; done) | (rw [if_neg (by omega)]; done))
          · refine gw_iconst (v := nI (2)) dX12_cost_74 (by decide) ?_
            refine gw_goto (tgt := 79) dX12_cost_75 (by decide) ?_
            refine gw_istore_n dX12_cost_79 (by decide) rfl ?_
            refine cut80 (nI (2)) (by first | (exfalso; omega) | (rw [if_pos (by omega)]; done) | (rw [if_neg (by omega)]; done))
        refine gw_iload_n dX12_cost_52 rfl ?_
        refine gw_iconst (v := nI (5)) dX12_cost_53 (by decide) ?_
        refine gw_icmpN_ge (tgt := 63) dX12_cost_54 (by decide) (by omega) (by omega) (fun c54 => ?_) (fun c54 => ?_)
        · refine gw_W.wd (w' := (mW cy ad (va_up iv 21 (((v)))) (va_up ia 20 (((a)))) la)) rfl ?_
          refine cut63 ((v)) ((a)) (by unfold co3; rw [if_neg (by omega), List.append_nil]; exact g)
        · refine gw_aload_n dX12_cost_57 rfl ?_
          refine gw_bipush (v := nI (11)) dX12_cost_58 (by decide) ?_
          refine gw_callV 0 (As := [.int (nI (11))]) (st := []) (t_mbegins l cy ad (va_up iv 21 (v)) (va_up ia 20 (a)) la (nI (11)) (trAll T (co2 x.1)) g) ok_X12_begins rfl rfl rfl wd_1124 rfl rfl dX12_cost_60 (by decide) (by decide) (Nat.le_of_ble_eq_true rfl) (fun r60 w60 hp60 => ?_)
          obtain ⟨rfl, v60, a60, rfl, h60⟩ := hp60
          refine gw_W.wd (w' := (mW cy ad (va_up iv 21 (v60)) (va_up ia 20 (a60)) la)) rfl ?_
          refine gw_W.norm (st' := []) (k1 := 0) (k2 := 0) rfl rfl rfl ?_
          refine gw_W.wd (w' := (mW cy ad (va_up iv 21 (((v60)))) (va_up ia 20 (((a60)))) la)) rfl ?_
          refine cut63 ((v60)) ((a60)) (by unfold co3; rw [if_pos (by omega), trAll_app]; exact h60)
      refine gw_iload_n dX12_cost_36 rfl ?_
      refine gw_iconst (v := nI (3)) dX12_cost_37 (by decide) ?_
      refine gw_icmpN_eq (tgt := 46) dX12_cost_38 (by decide) (by omega) (by omega) (fun c38 => ?_) (fun c38 => ?_)
      · refine gw_aload_n dX12_cost_46 rfl ?_
        refine gw_bipush (v := nI (12)) dX12_cost_47 (by decide) ?_
        refine gw_callV 0 (As := [.int (nI (12))]) (st := []) (t_mbegins l cy ad (va_up iv 21 (v)) (va_up ia 20 (a)) la (nI (12)) (trAll T (co1 x.1)) g) ok_X12_begins rfl rfl rfl wd_1124 rfl rfl dX12_cost_49 (by decide) (by decide) (Nat.le_of_ble_eq_true rfl) (fun r49 w49 hp49 => ?_)
        obtain ⟨rfl, v49, a49, rfl, h49⟩ := hp49
        refine gw_W.wd (w' := (mW cy ad (va_up iv 21 (v49)) (va_up ia 20 (a49)) la)) rfl ?_
        refine gw_W.norm (st' := []) (k1 := 0) (k2 := 0) rfl rfl rfl ?_
        refine gw_W.wd (w' := (mW cy ad (va_up iv 21 (((v49)))) (va_up ia 20 (((a49)))) la)) rfl ?_
        refine cut52 ((v49)) ((a49)) (by unfold co2; rw [if_pos (by omega), trAll_app]; exact h49)
      · refine gw_iload_n dX12_cost_41 rfl ?_
        refine gw_iconst (v := nI (2)) dX12_cost_42 (by decide) ?_
        refine gw_icmpN_ne (tgt := 52) dX12_cost_43 (by decide) (by omega) (by omega) (fun c43 => ?_) (fun c43 => ?_)
        · refine gw_W.wd (w' := (mW cy ad (va_up iv 21 (((v)))) (va_up ia 20 (((a)))) la)) rfl ?_
          refine cut52 ((v)) ((a)) (by unfold co2; rw [if_neg (by omega), List.append_nil]; exact g)
        · refine gw_aload_n dX12_cost_46 rfl ?_
          refine gw_bipush (v := nI (12)) dX12_cost_47 (by decide) ?_
          refine gw_callV 0 (As := [.int (nI (12))]) (st := []) (t_mbegins l cy ad (va_up iv 21 (v)) (va_up ia 20 (a)) la (nI (12)) (trAll T (co1 x.1)) g) ok_X12_begins rfl rfl rfl wd_1124 rfl rfl dX12_cost_49 (by decide) (by decide) (Nat.le_of_ble_eq_true rfl) (fun r49 w49 hp49 => ?_)
          obtain ⟨rfl, v49, a49, rfl, h49⟩ := hp49
          refine gw_W.wd (w' := (mW cy ad (va_up iv 21 (v49)) (va_up ia 20 (a49)) la)) rfl ?_
          refine gw_W.norm (st' := []) (k1 := 0) (k2 := 0) rfl rfl rfl ?_
          refine gw_W.wd (w' := (mW cy ad (va_up iv 21 (((v49)))) (va_up ia 20 (((a49)))) la)) rfl ?_
          refine cut52 ((v49)) ((a49)) (by unfold co2; rw [if_pos (by omega), trAll_app]; exact h49)
    refine gw_iload_n dX12_cost_25 rfl ?_
    refine gw_iconst (v := nI (3)) dX12_cost_26 (by decide) ?_
    refine gw_icmpN_ne (tgt := 36) dX12_cost_27 (by decide) (by omega) (by omega) (fun c27 => ?_) (fun c27 => ?_)
    · refine gw_W.wd (w' := mW cy ad (va_up iv 21 (iv 21)) (va_up ia 20 (ia 20)) la) (by rw [va_up_id, va_up_id]) ?_
      refine gw_W.wd (w' := (mW cy ad (va_up iv 21 ((iv 21))) (va_up ia 20 ((ia 20))) la)) rfl ?_
      refine cut36 (iv 21) (ia 20) (by unfold co1; rw [if_neg c27]; exact h)
    · refine gw_aload_n dX12_cost_30 rfl ?_
      refine gw_bipush (v := nI (13)) dX12_cost_31 (by decide) ?_
      refine gw_callV 0 (As := [.int (nI (13))]) (st := []) (t_mbegins l cy ad iv ia la (nI (13)) (T) h) ok_X12_begins rfl rfl rfl wd_1124 rfl rfl dX12_cost_33 (by decide) (by decide) (Nat.le_of_ble_eq_true rfl) (fun r33 w33 hp33 => ?_)
      obtain ⟨rfl, v33, a33, rfl, h33⟩ := hp33
      refine gw_W.wd (w' := (mW cy ad (va_up iv 21 (v33)) (va_up ia 20 (a33)) la)) rfl ?_
      refine gw_W.norm (st' := []) (k1 := 0) (k2 := 0) rfl rfl rfl ?_
      refine gw_W.wd (w' := (mW cy ad (va_up iv 21 (((v33)))) (va_up ia 20 (((a33)))) la)) rfl ?_
      refine cut36 ((v33)) ((a33)) (by unfold co1; rw [if_pos c27]; exact h33)
  · refine gw_aload_n dX12_cost_12 rfl ?_
    refine gw_bipush (v := nI (14)) dX12_cost_13 (by decide) ?_
    refine gw_callV 0 (As := [.int (nI (14))]) (st := []) (t_mbegins l cy ad iv ia la (nI (14)) (T) h) ok_X12_begins rfl rfl rfl wd_1124 rfl rfl dX12_cost_15 (by decide) (by decide) (Nat.le_of_ble_eq_true rfl) (fun r15 w15 hp15 => ?_)
    obtain ⟨rfl, v15, a15, rfl, h15⟩ := hp15
    refine gw_W.wd (w' := (mW cy ad (va_up iv 21 (v15)) (va_up ia 20 (a15)) la)) rfl ?_
    refine gw_W.norm (st' := []) (k1 := 0) (k2 := 0) rfl rfl rfl ?_
    refine gw_aload_n dX12_cost_18 rfl ?_
    refine gm_get_set rfl dX12_cost_19 ?_
    refine gw_iload_n dX12_cost_22 rfl ?_
    refine gm_ld_set (j := j) (rfl) (hj) dX12_cost_23 ?_
    refine gw_topi (y := (ia 14) (j)) rfl ?_
    refine gw_topi (y := x.2.1) (e14) ?_
    refine gw_iret (?_) (by decide) (by decide) rfl dX12_cost_24
    subst hpost
    unfold costV costL
    rw [if_pos c9, if_pos c9]
    exact ⟨rfl, v15, a15, rfl, h15⟩
abbrev kX12_mark : gw_K := (yX12_mark, cX12_mark, 4, { frames := 3, cells := 0, slots := 0, locals := 67 }, (some .int))
theorem ok_X12_mark : gw_calV kX12_mark 1 := ⟨⟨wd_1135, wd_62, by decide, by decide, by decide +kernel⟩, wd_1134, wd_53⟩
set_option maxHeartbeats 4000000 in
set_option maxRecDepth 100000 in
theorem c_mmark (l : Launch) (cy : Nat → ClassId) (ad : Nat → Nat) (iv : Nat → Int32) (ia : Nat → Nat → Int32) (la : Nat → Nat → Int64) (T : List Int32) (h : trR (iv 21) (ia 20) T) (j : Nat) (x : aO) (n : Nat) (hj : j < 40) (hk : 2 ≤ x.1 ∧ x.1 ≤ 7) (e13 : ia 13 j = nI x.1) (e14 : ia 14 j = x.2.1) (e15 : ia 15 j = x.2.2.1) (e17 : ia 17 j = x.2.2.2.2) (hn : iv 0 = nI n) (hn4 : n ≤ 4) : gw_M l kX12_mark cy [.ref (ad 0), .int (nI (j))] (mW cy ad iv ia la) (qmT cy ad iv ia la (some (.int (markV n (nI j) x))) (trAll T (markL x.1))) := by
  refine gw_M.mk (lv := [some (.ref (ad 0)), some (.int (nI (j))), none, none]) (by decide) (Nat.le_of_ble_eq_true rfl) rfl ?_
  generalize hpost : (qmT cy ad iv ia la (some (.int (markV n (nI j) x))) (trAll T (markL x.1)) : gw_Q) = post
  have hx := hk.1
  have hy := hk.2
  refine gw_aload_n dX12_mark_0 rfl ?_
  refine gm_get_kind rfl dX12_mark_1 ?_
  refine gw_iload_n dX12_mark_4 rfl ?_
  refine gm_ld_kind (j := j) (rfl) (hj) dX12_mark_5 ?_
  refine gw_topi (y := nI (x.1)) (e13) ?_
  refine gw_istore_n dX12_mark_6 (by decide) rfl ?_
  refine gw_iload_n dX12_mark_7 rfl ?_
  refine gw_iconst (v := nI (3)) dX12_mark_8 (by decide) ?_
  refine gw_icmpN_ne (tgt := 18) dX12_mark_9 (by decide) (by omega) (by omega) (fun c9 => ?_) (fun c9 => ?_)
  · have cut29 : ∀ (v : Int32) (a : Nat → Int32), (trR v a (trAll T (ma1 x.1))) → gw_W l kX12_mark cy (gw_R kX12_mark post) (mW cy ad (va_up iv 21 (v)) (va_up ia 20 (a)) la) 0 0 29 [some (.ref (ad 0)), some (.int (nI (j))), some (.int (nI (x.1))), none] [] := by
      intro v a g
      have cut40 : ∀ (v : Int32) (a : Nat → Int32), (trR v a (trAll T (ma2 x.1))) → gw_W l kX12_mark cy (gw_R kX12_mark post) (mW cy ad (va_up iv 21 (v)) (va_up ia 20 (a)) la) 0 0 40 [some (.ref (ad 0)), some (.int (nI (j))), some (.int (nI (x.1))), none] [] := by
        intro v a g
        have cut52 : ∀ (v : Int32) (a : Nat → Int32), (trR v a (trAll T (ma3 x.1))) → gw_W l kX12_mark cy (gw_R kX12_mark post) (mW cy ad (va_up iv 21 (v)) (va_up ia 20 (a)) la) 0 0 52 [some (.ref (ad 0)), some (.int (nI (j))), some (.int (nI (x.1))), none] [] := by
          intro v a g
          refine gw_aload_n dX12_mark_52 rfl ?_
          refine gw_bipush (v := nI (20)) dX12_mark_53 (by decide) ?_
          refine gw_callV 0 (As := [.int (nI (20))]) (st := []) (t_mbegins l cy ad (va_up iv 21 (v)) (va_up ia 20 (a)) la (nI (20)) (trAll T (ma3 x.1)) g) ok_X12_begins rfl rfl rfl wd_1124 rfl rfl dX12_mark_55 (by decide) (by decide) (Nat.le_of_ble_eq_true rfl) (fun r55 w55 hp55 => ?_)
          obtain ⟨rfl, v55, a55, rfl, h55⟩ := hp55
          refine gw_W.wd (w' := (mW cy ad (va_up iv 21 (v55)) (va_up ia 20 (a55)) la)) rfl ?_
          refine gw_W.norm (st' := []) (k1 := 0) (k2 := 0) rfl rfl rfl ?_
          have cut77 : ∀ (v : Int32) (a : Nat → Int32) (z : Int32), (trR v a (trAll T ((ma3 x.1 ++ [nI 20]) ++ (if x.1 < 5 then costL x.1 else [])))) → (z = markB n (nI j) x) → gw_W l kX12_mark cy (gw_R kX12_mark post) (mW cy ad (va_up iv 21 (v)) (va_up ia 20 (a)) la) 0 0 77 [some (.ref (ad 0)), some (.int (nI (j))), some (.int (nI (x.1))), some (.int (z))] [] := by
            intro v a z g z1
            refine gw_iload_n dX12_mark_77 rfl ?_
            refine gw_iconst (v := nI (4)) dX12_mark_78 (by decide) ?_
            refine gw_icmpN_ne (tgt := 93) dX12_mark_79 (by decide) (by omega) (by omega) (fun c79 => ?_) (fun c79 => ?_)
            · refine gw_iload_n dX12_mark_93 rfl ?_
              refine gw_bipush (v := nI (7)) dX12_mark_94 (by decide) ?_
              refine gw_icmpN_ne (tgt := 110) dX12_mark_96 (by decide) (by omega) (by omega) (fun c96 => ?_) (fun c96 => ?_)
              · refine gw_iload_n dX12_mark_110 rfl ?_
                refine gw_iret (?_) (by decide) (by decide) rfl dX12_mark_111
                subst hpost
                unfold markV markL
                rw [if_neg c9, if_neg c9]
                first
                  | (rw [if_pos c79, z1]; exact ⟨rfl, v, a, rfl, g⟩)
                  | (rw [if_neg c79, if_pos c96, z1]; exact ⟨rfl, v, a, rfl, g⟩)
                  | (rw [if_neg c79, if_neg c96, z1]; exact ⟨rfl, v, a, rfl, g⟩)
              · refine gw_iload_n dX12_mark_99 rfl ?_
                refine gw_aload_n dX12_mark_100 rfl ?_
                refine gm_get_set rfl dX12_mark_101 ?_
                refine gw_iload_n dX12_mark_104 rfl ?_
                refine gm_ld_set (j := j) (rfl) (hj) dX12_mark_105 ?_
                refine gw_topi (y := (ia 14) (j)) rfl ?_
                refine gw_topi (y := x.2.1) (e14) ?_
                refine gw_iadd dX12_mark_106 ?_
                refine gw_goto (tgt := 111) dX12_mark_107 (by decide) ?_
                refine gw_iret (?_) (by decide) (by decide) rfl dX12_mark_111
                subst hpost
                unfold markV markL
                rw [if_neg c9, if_neg c9]
                first
                  | (rw [if_pos c79, z1]; exact ⟨rfl, v, a, rfl, g⟩)
                  | (rw [if_neg c79, if_pos c96, z1]; exact ⟨rfl, v, a, rfl, g⟩)
                  | (rw [if_neg c79, if_neg c96, z1]; exact ⟨rfl, v, a, rfl, g⟩)
            · refine gw_iload_n dX12_mark_82 rfl ?_
              refine gw_aload_n dX12_mark_83 rfl ?_
              refine gm_get_phase rfl dX12_mark_84 ?_
              refine gw_iload_n dX12_mark_87 rfl ?_
              refine gm_ld_phase (j := j) (rfl) (hj) dX12_mark_88 ?_
              refine gw_topi (y := (ia 15) (j)) rfl ?_
              refine gw_topi (y := x.2.2.1) (e15) ?_
              refine gw_iadd dX12_mark_89 ?_
              refine gw_goto (tgt := 111) dX12_mark_90 (by decide) ?_
              refine gw_iret (?_) (by decide) (by decide) rfl dX12_mark_111
              subst hpost
              unfold markV markL
              rw [if_neg c9, if_neg c9]
              first
                | (rw [if_pos c79, z1]; exact ⟨rfl, v, a, rfl, g⟩)
                | (rw [if_neg c79, if_pos c96, z1]; exact ⟨rfl, v, a, rfl, g⟩)
                | (rw [if_neg c79, if_neg c96, z1]; exact ⟨rfl, v, a, rfl, g⟩)
          refine gw_iload_n dX12_mark_58 rfl ?_
          refine gw_istore_n dX12_mark_59 (by decide) rfl ?_
          refine gw_iload_n dX12_mark_60 rfl ?_
          refine gw_iload_n dX12_mark_61 rfl ?_
          refine gw_iconst (v := nI (5)) dX12_mark_62 (by decide) ?_
          refine gw_icmpN_ge (tgt := 74) dX12_mark_63 (by decide) (by omega) (by omega) (fun c63 => ?_) (fun c63 => ?_)
          · refine gw_iconst (v := nI (0)) dX12_mark_74 (by decide) ?_
            refine gw_iadd dX12_mark_75 ?_
            refine gw_istore_n dX12_mark_76 (by decide) rfl ?_
            refine gw_W.wd (w' := (mW cy ad (va_up iv 21 (((v55)))) (va_up ia 20 (((a55)))) la)) rfl ?_
            refine cut77 ((v55)) ((a55)) ((nI (j)) + (nI (0))) (by first
              | (rw [if_pos (by omega), trAll_app, trAll_app]; exact h68)
              | (rw [if_neg (by omega), List.append_nil, trAll_app]; exact h55)) (by unfold markB; first | rw [if_pos (by omega)] | rw [if_neg (by omega)])
          · refine gw_aload_n dX12_mark_66 rfl ?_
            refine gw_iload_n dX12_mark_67 rfl ?_
            refine gw_callV 0 (As := [.int (nI (j))]) (st := [.int (nI (j))]) (c_mcost l cy ad (va_up iv 21 (v55)) (va_up ia 20 (a55)) la (trAdd (trAll T (ma3 x.1)) (nI (20))) h55 j x n hj hk e13 e14 e15 e17 hn hn4) ok_X12_cost rfl rfl rfl wd_1120 rfl rfl dX12_mark_68 (by decide) (by decide) (Nat.le_of_ble_eq_true rfl) (fun r68 w68 hp68 => ?_)
            obtain ⟨rfl, v68, a68, rfl, h68⟩ := hp68
            refine gw_W.wd (w' := (mW cy ad (va_up iv 21 (v68)) (va_up ia 20 (a68)) la)) rfl ?_
            refine gw_W.norm (st' := [.int (costV n x), .int (nI (j))]) (k1 := 0) (k2 := 0) rfl rfl rfl ?_
            refine gw_goto (tgt := 75) dX12_mark_71 (by decide) ?_
            refine gw_iadd dX12_mark_75 ?_
            refine gw_istore_n dX12_mark_76 (by decide) rfl ?_
            refine gw_W.wd (w' := (mW cy ad (va_up iv 21 (((v68)))) (va_up ia 20 (((a68)))) la)) rfl ?_
            refine cut77 ((v68)) ((a68)) ((nI (j)) + (costV n x)) (by first
              | (rw [if_pos (by omega), trAll_app, trAll_app]; exact h68)
              | (rw [if_neg (by omega), List.append_nil, trAll_app]; exact h55)) (by unfold markB; first | rw [if_pos (by omega)] | rw [if_neg (by omega)])
        refine gw_iload_n dX12_mark_40 rfl ?_
        refine gw_bipush (v := nI (7)) dX12_mark_41 (by decide) ?_
        refine gw_icmpN_ne (tgt := 52) dX12_mark_43 (by decide) (by omega) (by omega) (fun c43 => ?_) (fun c43 => ?_)
        · refine gw_W.wd (w' := (mW cy ad (va_up iv 21 (((v)))) (va_up ia 20 (((a)))) la)) rfl ?_
          refine cut52 ((v)) ((a)) (by unfold ma3; rw [if_neg (by omega), List.append_nil]; exact g)
        · refine gw_aload_n dX12_mark_46 rfl ?_
          refine gw_bipush (v := nI (24)) dX12_mark_47 (by decide) ?_
          refine gw_callV 0 (As := [.int (nI (24))]) (st := []) (t_mbegins l cy ad (va_up iv 21 (v)) (va_up ia 20 (a)) la (nI (24)) (trAll T (ma2 x.1)) g) ok_X12_begins rfl rfl rfl wd_1124 rfl rfl dX12_mark_49 (by decide) (by decide) (Nat.le_of_ble_eq_true rfl) (fun r49 w49 hp49 => ?_)
          obtain ⟨rfl, v49, a49, rfl, h49⟩ := hp49
          refine gw_W.wd (w' := (mW cy ad (va_up iv 21 (v49)) (va_up ia 20 (a49)) la)) rfl ?_
          refine gw_W.norm (st' := []) (k1 := 0) (k2 := 0) rfl rfl rfl ?_
          refine gw_W.wd (w' := (mW cy ad (va_up iv 21 (((v49)))) (va_up ia 20 (((a49)))) la)) rfl ?_
          refine cut52 ((v49)) ((a49)) (by unfold ma3; rw [if_pos (by omega), trAll_app]; exact h49)
      refine gw_iload_n dX12_mark_29 rfl ?_
      refine gw_iconst (v := nI (5)) dX12_mark_30 (by decide) ?_
      refine gw_icmpN_ge (tgt := 40) dX12_mark_31 (by decide) (by omega) (by omega) (fun c31 => ?_) (fun c31 => ?_)
      · refine gw_W.wd (w' := (mW cy ad (va_up iv 21 (((v)))) (va_up ia 20 (((a)))) la)) rfl ?_
        refine cut40 ((v)) ((a)) (by unfold ma2; rw [if_neg (by omega), List.append_nil]; exact g)
      · refine gw_aload_n dX12_mark_34 rfl ?_
        refine gw_bipush (v := nI (21)) dX12_mark_35 (by decide) ?_
        refine gw_callV 0 (As := [.int (nI (21))]) (st := []) (t_mbegins l cy ad (va_up iv 21 (v)) (va_up ia 20 (a)) la (nI (21)) (trAll T (ma1 x.1)) g) ok_X12_begins rfl rfl rfl wd_1124 rfl rfl dX12_mark_37 (by decide) (by decide) (Nat.le_of_ble_eq_true rfl) (fun r37 w37 hp37 => ?_)
        obtain ⟨rfl, v37, a37, rfl, h37⟩ := hp37
        refine gw_W.wd (w' := (mW cy ad (va_up iv 21 (v37)) (va_up ia 20 (a37)) la)) rfl ?_
        refine gw_W.norm (st' := []) (k1 := 0) (k2 := 0) rfl rfl rfl ?_
        refine gw_W.wd (w' := (mW cy ad (va_up iv 21 (((v37)))) (va_up ia 20 (((a37)))) la)) rfl ?_
        refine cut40 ((v37)) ((a37)) (by unfold ma2; rw [if_pos (by omega), trAll_app]; exact h37)
    refine gw_iload_n dX12_mark_18 rfl ?_
    refine gw_iconst (v := nI (4)) dX12_mark_19 (by decide) ?_
    refine gw_icmpN_ne (tgt := 29) dX12_mark_20 (by decide) (by omega) (by omega) (fun c20 => ?_) (fun c20 => ?_)
    · refine gw_W.wd (w' := mW cy ad (va_up iv 21 (iv 21)) (va_up ia 20 (ia 20)) la) (by rw [va_up_id, va_up_id]) ?_
      refine gw_W.wd (w' := (mW cy ad (va_up iv 21 ((iv 21))) (va_up ia 20 ((ia 20))) la)) rfl ?_
      refine cut29 (iv 21) (ia 20) (by unfold ma1; rw [if_neg c20]; exact h)
    · refine gw_aload_n dX12_mark_23 rfl ?_
      refine gw_bipush (v := nI (22)) dX12_mark_24 (by decide) ?_
      refine gw_callV 0 (As := [.int (nI (22))]) (st := []) (t_mbegins l cy ad iv ia la (nI (22)) (T) h) ok_X12_begins rfl rfl rfl wd_1124 rfl rfl dX12_mark_26 (by decide) (by decide) (Nat.le_of_ble_eq_true rfl) (fun r26 w26 hp26 => ?_)
      obtain ⟨rfl, v26, a26, rfl, h26⟩ := hp26
      refine gw_W.wd (w' := (mW cy ad (va_up iv 21 (v26)) (va_up ia 20 (a26)) la)) rfl ?_
      refine gw_W.norm (st' := []) (k1 := 0) (k2 := 0) rfl rfl rfl ?_
      refine gw_W.wd (w' := (mW cy ad (va_up iv 21 (((v26)))) (va_up ia 20 (((a26)))) la)) rfl ?_
      refine cut29 ((v26)) ((a26)) (by unfold ma1; rw [if_pos c20]; exact h26)
  · refine gw_aload_n dX12_mark_12 rfl ?_
    refine gw_iload_n dX12_mark_13 rfl ?_
    refine gw_callV 0 (As := [.int (nI (j))]) (st := []) (c_mmark2 l cy ad iv ia la (T) h j x n hj hk e13 e14 e15 e17 hn hn4) ok_X12_mark2 rfl rfl rfl wd_1128 rfl rfl dX12_mark_14 (by decide) (by decide) (Nat.le_of_ble_eq_true rfl) (fun r14 w14 hp14 => ?_)
    obtain ⟨rfl, v14, a14, rfl, h14⟩ := hp14
    refine gw_W.wd (w' := (mW cy ad (va_up iv 21 (v14)) (va_up ia 20 (a14)) la)) rfl ?_
    refine gw_W.norm (st' := [.int (x.2.2.2.2)]) (k1 := 0) (k2 := 0) rfl rfl rfl ?_
    refine gw_iret (?_) (by decide) (by decide) rfl dX12_mark_17
    subst hpost
    unfold markV markL
    rw [if_pos c9, if_pos c9]
    exact ⟨rfl, v14, a14, rfl, h14⟩
abbrev kX12_ask : gw_K := (yX12_ask, cX12_ask, 3, { frames := 4, cells := 0, slots := 0, locals := 90 }, (some .int))
theorem ok_X12_ask : gw_calV kX12_ask 2 := ⟨⟨wd_1119, wd_62, by decide, by decide, by decide +kernel⟩, wd_1117, wd_1118⟩
set_option maxHeartbeats 4000000 in
set_option maxRecDepth 100000 in
theorem t_mask (l : Launch) (cy : Nat → ClassId) (ad : Nat → Nat) (iv : Nat → Int32) (ia : Nat → Nat → Int32) (la : Nat → Nat → Int64) (σ : aS) (hI : mInv σ iv ia la) (k x : Int32) : gw_M l kX12_ask cy [.ref (ad 0), .int (k), .int (x)] (mW cy ad iv ia la) (mPost cy ad (spAsk σ k x)) := by
  refine gw_M.mk (lv := [some (.ref (ad 0)), some (.int (k)), some (.int (x))]) (by decide) (Nat.le_of_ble_eq_true rfl) rfl ?_
  generalize hpost : (mPost cy ad (spAsk σ k x) : gw_Q) = post
  obtain ⟨i1, i2, i3, i4, i5, i6, i7, i8⟩ := hI
  refine gw_aload_n dX12_ask_0 rfl ?_
  refine gw_iload_n dX12_ask_1 rfl ?_
  refine gw_callV 0 (As := [.int (k)]) (st := []) (c_misOp l cy ad iv ia la (k) (sOp σ).length i4.2.1 (Nat.lt_of_le_of_lt i4.1 (by decide))) ok_X12_isOp rfl rfl rfl wd_1104 rfl rfl dX12_ask_2 (by decide) (by decide) (Nat.le_of_ble_eq_true rfl) (fun r2 w2 hp2 => ?_)
  obtain ⟨rfl, rfl⟩ := hp2
  refine gw_W.norm (st' := [.int (bI (isO σ (k)))]) (k1 := 0) (k2 := 0) rfl rfl rfl ?_
  refine gw_if_eq (tgt := 18) dX12_ask_5 (by decide) (fun c5 => ?_) (fun c5 => ?_)
  · rw [bI_0] at c5
    refine gw_ldc dX12_ask_18 wd_903 ?_
    refine gw_iret (?_) (by decide) (by decide) rfl dX12_ask_20
    subst hpost
    unfold spAsk
    rw [if_neg (fun h => by first | exact absurd h.1 (by rw [c5]; decide) | exact absurd h.2 (by rw [cv]; decide))]
    exact ⟨rfl, iv, ia, la, rfl, i1, i2, i3, i4, i5, i6, i7, i8⟩
  · rw [bI_n0] at c5
    obtain ⟨d1, d2, d3, d4, d5, d6, d7, d8⟩ := isO_t i4 c5
    refine gw_iload_n dX12_ask_8 rfl ?_
    refine gw_i2l dX12_ask_9 rfl ?_
    refine gw_lconst (v := (0 : Int64)) dX12_ask_10 (by decide) ?_
    refine gw_lconst (v := (1 : Int64)) dX12_ask_11 (by decide) ?_
    refine gw_callS (As := [.long ((x).toInt64), .long ((0 : Int64)), .long ((1 : Int64))]) (st := []) (c_min l cy ((x).toInt64) ((0 : Int64)) ((1 : Int64)) (mW cy ad iv ia la)) ok_X12_in wd_899 rfl rfl dX12_ask_12 (by decide) (by decide) (Nat.le_of_ble_eq_true rfl) (fun r12 w12 hp12 => ?_)
    obtain ⟨rfl, rfl⟩ := hp12
    refine gw_W.norm (st' := [.int (bI (inZ ((x).toInt64).toInt ((0 : Int64)).toInt ((1 : Int64)).toInt))]) (k1 := 0) (k2 := 0) rfl rfl rfl ?_
    refine gw_if_ne (tgt := 21) dX12_ask_15 (by decide) (fun c15 => ?_) (fun c15 => ?_)
    · rw [bI_n0, i64_of] at c15
      have cv : inZ x.toInt 0 1 = true := c15
      refine gw_aload_n dX12_ask_21 rfl ?_
      refine gw_iconst (v := nI (0)) dX12_ask_22 (by decide) ?_
      refine gm_put_traced rfl dX12_ask_23 ?_
      refine gw_W.wd (w' := (mW cy ad (va_up iv 21 (nI (0))) ia la)) rfl ?_
      have h0 : trR (nI 0) (ia 20) [] := ⟨by decide, rfl, fun j hj => absurd hj (Nat.not_lt_zero _)⟩
      refine gw_iload_n dX12_ask_26 rfl ?_
      refine gw_if_ne (tgt := 38) dX12_ask_27 (by decide) (fun c27 => ?_) (fun c27 => ?_)
      · refine gw_aload_n dX12_ask_38 rfl ?_
        refine gw_iload_n dX12_ask_39 rfl ?_
        refine gw_topi (y := nI (tI k)) (d1) ?_
        refine gw_callV 0 (As := [.int (nI (tI k))]) (st := []) (c_mmark l cy ad (va_up iv 21 (nI (0))) ia la ([]) h0 (tI k) (opA σ k) σ.1 d2 (op_k8 d8) d3 d4 d5 d7 i1.2.2.1 i1.2.1) ok_X12_mark rfl rfl rfl wd_1132 rfl rfl dX12_ask_40 (by decide) (by decide) (Nat.le_of_ble_eq_true rfl) (fun r40 w40 hp40 => ?_)
        obtain ⟨rfl, v40, a40, rfl, h40⟩ := hp40
        refine gw_W.wd (w' := (mW cy ad (va_up iv 21 (v40)) (va_up ia 20 (a40)) la)) rfl ?_
        refine gw_W.norm (st' := [.int (markV σ.1 (nI (tI k)) (opA σ k))]) (k1 := 0) (k2 := 0) rfl rfl rfl ?_
        refine gw_iret (?_) (by decide) (by decide) rfl dX12_ask_43
        subst hpost
        unfold spAsk
        rw [if_pos ⟨c5, cv⟩]
        first
          | (rw [if_pos c27]; exact ⟨rfl, _, _, _, rfl, i1, i2, i3, i4, i5, h32, i7, i8⟩)
          | (rw [if_neg c27, ← d1] at *; exact ⟨rfl, _, _, _, rfl, i1, i2, i3, i4, i5, h40, i7, i8⟩)
      · refine gw_aload_n dX12_ask_30 rfl ?_
        refine gw_iload_n dX12_ask_31 rfl ?_
        refine gw_topi (y := nI (tI k)) (d1) ?_
        refine gw_callV 0 (As := [.int (nI (tI k))]) (st := []) (c_mcost l cy ad (va_up iv 21 (nI (0))) ia la ([]) h0 (tI k) (opA σ k) σ.1 d2 (op_k8 d8) d3 d4 d5 d7 i1.2.2.1 i1.2.1) ok_X12_cost rfl rfl rfl wd_1120 rfl rfl dX12_ask_32 (by decide) (by decide) (Nat.le_of_ble_eq_true rfl) (fun r32 w32 hp32 => ?_)
        obtain ⟨rfl, v32, a32, rfl, h32⟩ := hp32
        refine gw_W.wd (w' := (mW cy ad (va_up iv 21 (v32)) (va_up ia 20 (a32)) la)) rfl ?_
        refine gw_W.norm (st' := [.int (costV σ.1 (opA σ k))]) (k1 := 0) (k2 := 0) rfl rfl rfl ?_
        refine gw_goto (tgt := 43) dX12_ask_35 (by decide) ?_
        refine gw_iret (?_) (by decide) (by decide) rfl dX12_ask_43
        subst hpost
        unfold spAsk
        rw [if_pos ⟨c5, cv⟩]
        first
          | (rw [if_pos c27]; exact ⟨rfl, _, _, _, rfl, i1, i2, i3, i4, i5, h32, i7, i8⟩)
          | (rw [if_neg c27, ← d1] at *; exact ⟨rfl, _, _, _, rfl, i1, i2, i3, i4, i5, h40, i7, i8⟩)
    · rw [bI_0, i64_of] at c15
      have cv : inZ x.toInt 0 1 = false := c15
      refine gw_ldc dX12_ask_18 wd_903 ?_
      refine gw_iret (?_) (by decide) (by decide) rfl dX12_ask_20
      subst hpost
      unfold spAsk
      rw [if_neg (fun h => by first | exact absurd h.1 (by rw [c5]; decide) | exact absurd h.2 (by rw [cv]; decide))]
      exact ⟨rfl, iv, ia, la, rfl, i1, i2, i3, i4, i5, i6, i7, i8⟩
