/-! copy, count -/
def cpI (A B : List Int32) (i j n : Nat) : List Int32 := (List.range B.length).map (fun k => if j ≤ k ∧ k < j + n then A.getD (i + (k - j)) 0 else B.getD k 0)
theorem cpI_len (A B : List Int32) (i j n : Nat) : (cpI A B i j n).length = B.length := by simp [cpI]
theorem cpI_get {A B : List Int32} {i j n k : Nat} (h : k < B.length) : (cpI A B i j n).getD k 0 = if j ≤ k ∧ k < j + n then A.getD (i + (k - j)) 0 else B.getD k 0 := by
  unfold cpI
  rw [List.getD_eq_getElem?_getD, List.getElem?_map, List.getElem?_range h]; rfl
def cpOk (i j n : Int32) (a b : Nat) : Bool := decide (0 ≤ i.toInt ∧ 0 ≤ j.toInt ∧ 0 ≤ n.toInt ∧ i.toInt + n.toInt ≤ a ∧ j.toInt + n.toInt ≤ b)
def spCopy (σ : aS) (a i b j n : Int32) : Int32 × aS := if inZ a.toInt 0 7 = true ∧ inZ b.toInt 0 7 = true then (match sTb σ (tI a), sTb σ (tI b) with
  | some p, some q => if p.1 = q.1 then (if cpOk i j n p.2.length q.2.length = true then (n, setSt (setTb σ (tI b) (some (q.1, cpI p.2 q.2 (tI i) (tI j) (tI n)))) 0) else (-1000012, setSt σ 2)) else (-1000015, setSt σ 5)
  | some _, none => (-1000011, setSt σ 1)
  | none, _ => (-1000011, setSt σ 1)) else (-1000001, σ)
theorem i64_add (a b : Int32) : (a.toInt64 + b.toInt64).toInt = a.toInt + b.toInt := by
  have h1 := Int32.toInt_lt a; have h2 := Int32.le_toInt a; have h3 := Int32.toInt_lt b; have h4 := Int32.le_toInt b
  rw [Int64.toInt_add, i64_of, i64_of, Int.bmod_eq_of_le]
  · have : (2 ^ 64 : Nat) / 2 = 9223372036854775808 := by decide
    omega
  · have : ((2 ^ 64 : Nat) + 1) / 2 = 9223372036854775808 := by decide
    omega
def tbN (tb : Nat → aT) : Nat → Nat
  | 0 => 0
  | k + 1 => tbN tb k + (if (tb k).isSome = true then 1 else 0)
def smN (sm : Nat → List sT) : Nat → Nat
  | 0 => 0
  | k + 1 => smN sm k + (sm k).length
def spCount (σ : aS) (x : Int32) : Int32 × aS := if x.toInt = 0 then (nI σ.1, σ) else if x.toInt = 1 then (nI (sOp σ).length, σ) else if x.toInt = 2 then (nI (tbN (sTb σ) 8), σ) else if x.toInt = 3 then (nI (opC σ), σ) else if x.toInt = 4 then (nI (smN (sSm σ) 9), σ) else (-1000001, σ)
theorem tbN_le (tb : Nat → aT) (k : Nat) : tbN tb k ≤ k := by
  induction k with
  | zero => exact Nat.le_refl _
  | succ k ih => rw [tbN]; split <;> omega
abbrev kX12_copy : gw_K := (yX12_copy, cX12_copy, 7, { frames := 2, cells := 0, slots := 0, locals := 45 }, (some .int))
theorem ok_X12_copy : gw_calV kX12_copy 5 := ⟨⟨wd_920, wd_62, by decide, by decide, by decide +kernel⟩, wd_918, wd_919⟩
set_option maxHeartbeats 4000000 in
set_option maxRecDepth 100000 in
theorem t_mcopy (l : Launch) (cy : Nat → ClassId) (ad : Nat → Nat) (iv : Nat → Int32) (ia : Nat → Nat → Int32) (la : Nat → Nat → Int64) (σ : aS) (hI : mInv σ iv ia la) (a i b j n : Int32) : gw_M l kX12_copy cy [.ref (ad 0), .int (a), .int (i), .int (b), .int (j), .int (n)] (mW cy ad iv ia la) (mPost cy ad (spCopy σ a i b j n)) := by
  refine gw_M.mk (lv := [some (.ref (ad 0)), some (.int (a)), some (.int (i)), some (.int (b)), some (.int (j)), some (.int (n)), none]) (by decide) (Nat.le_of_ble_eq_true rfl) rfl ?_
  generalize hpost : (mPost cy ad (spCopy σ a i b j n) : gw_Q) = post
  obtain ⟨i1, i2, i3, i4, i5, i6, i7, i8⟩ := hI
  refine gw_iload_n dX12_copy_0 rfl ?_
  refine gw_callS (As := [.int (a)]) (st := []) (c_misTable l cy (a) (mW cy ad iv ia la)) ok_X12_isTable wd_895 rfl rfl dX12_copy_1 (by decide) (by decide) (Nat.le_of_ble_eq_true rfl) (fun r1 w1 hp1 => ?_)
  obtain ⟨rfl, rfl⟩ := hp1
  refine gw_W.norm (st' := [.int (bI (inZ (a).toInt 0 7))]) (k1 := 0) (k2 := 0) rfl rfl rfl ?_
  refine gw_if_eq (tgt := 14) dX12_copy_4 (by decide) (fun c4 => ?_) (fun c4 => ?_)
  · rw [bI_0] at c4
    refine gw_ldc dX12_copy_14 wd_903 ?_
    refine gw_iret (?_) (by decide) (by decide) rfl dX12_copy_16
    subst hpost
    unfold spCopy
    rw [if_neg (fun h => by first | exact absurd h.1 (by rw [c4]; decide) | exact absurd h.2 (by rw [c11]; decide))]
    exact ⟨rfl, iv, ia, la, rfl, i1, i2, i3, i4, i5, i6, i7, i8⟩
  · rw [bI_n0] at c4
    have ha8 : tI a < 8 := tI_lt c4
    have ta := i2 (tI a) ha8
    refine gw_iload_n dX12_copy_7 rfl ?_
    refine gw_callS (As := [.int (b)]) (st := []) (c_misTable l cy (b) (mW cy ad iv ia la)) ok_X12_isTable wd_895 rfl rfl dX12_copy_8 (by decide) (by decide) (Nat.le_of_ble_eq_true rfl) (fun r8 w8 hp8 => ?_)
    obtain ⟨rfl, rfl⟩ := hp8
    refine gw_W.norm (st' := [.int (bI (inZ (b).toInt 0 7))]) (k1 := 0) (k2 := 0) rfl rfl rfl ?_
    refine gw_if_ne (tgt := 17) dX12_copy_11 (by decide) (fun c11 => ?_) (fun c11 => ?_)
    · rw [bI_n0] at c11
      have hb8 : tI b < 8 := tI_lt c11
      have tb := i2 (tI b) hb8
      refine gw_aload_n dX12_copy_17 rfl ?_
      refine gm_get_lane rfl dX12_copy_18 ?_
      refine gw_iload_n dX12_copy_21 rfl ?_
      refine gm_ld_lane (j := tI a) (tI_eq c4) (ha8) dX12_copy_22 ?_
      refine gw_if_eq (tgt := 35) dX12_copy_23 (by decide) (fun c23 => ?_) (fun c23 => ?_)
      · refine gw_aload_n dX12_copy_35 rfl ?_
        refine gw_iconst (v := nI (1)) dX12_copy_36 (by decide) ?_
        refine gw_callV 0 (As := [.int (nI (1))]) (st := []) (c_mfinds l cy ad iv ia la (nI (1))) ok_X12_finds rfl rfl rfl wd_904 rfl rfl dX12_copy_37 (by decide) (by decide) (Nat.le_of_ble_eq_true rfl) (fun r37 w37 hp37 => ?_)
        obtain ⟨rfl, rfl⟩ := hp37
        refine gw_W.wd (w' := (mW cy ad (va_up iv 19 (nI (1))) ia la)) rfl ?_
        refine gw_W.norm (st' := [.int ((-1000010) - (nI (1)))]) (k1 := 0) (k2 := 0) rfl rfl rfl ?_
        refine gw_iret (?_) (by decide) (by decide) rfl dX12_copy_40
        subst hpost
        unfold spCopy
        rw [if_pos ⟨c4, c11⟩]
        cases hp : sTb σ (tI a) with
        | none => exact ⟨rfl, _, _, _, rfl, i1, i2, i3, i4, rfl, i6, i7, i8⟩
        | some p =>
          cases hq : sTb σ (tI b) with
          | none => exact ⟨rfl, _, _, _, rfl, i1, i2, i3, i4, rfl, i6, i7, i8⟩
          | some q =>
            rw [show σ.2.1 (tI a) = some p from hp] at ta
            rw [show σ.2.1 (tI b) = some q from hq] at tb
            first
            | exact absurd (ta.2.1.symm.trans c23) (nI_ne0 (by omega) (by have := ta.1; omega))
            | exact absurd (tb.2.1.symm.trans c32) (nI_ne0 (by omega) (by have := tb.1; omega))
      · refine gw_aload_n dX12_copy_26 rfl ?_
        refine gm_get_lane rfl dX12_copy_27 ?_
        refine gw_iload_n dX12_copy_30 rfl ?_
        refine gm_ld_lane (j := tI b) (tI_eq c11) (hb8) dX12_copy_31 ?_
        refine gw_if_ne (tgt := 41) dX12_copy_32 (by decide) (fun c32 => ?_) (fun c32 => ?_)
        · obtain ⟨p, hp⟩ : ∃ p, sTb σ (tI a) = some p := by
            cases hq : sTb σ (tI a) with
            | none => rw [show σ.2.1 (tI a) = none from hq] at ta; exact absurd ta c23
            | some q => exact ⟨q, rfl⟩
          rw [show σ.2.1 (tI a) = some p from hp] at ta
          obtain ⟨q, hq⟩ : ∃ q, sTb σ (tI b) = some q := by
            cases hq : sTb σ (tI b) with
            | none => rw [show σ.2.1 (tI b) = none from hq] at tb; exact absurd tb c32
            | some q => exact ⟨q, rfl⟩
          rw [show σ.2.1 (tI b) = some q from hq] at tb
          obtain ⟨p1, p2, p3, p4, p5⟩ := ta
          obtain ⟨q1, q2, q3, q4, q5⟩ := tb
          have ep : (nI p.2.length).toInt = (p.2.length : Int) := nI_toInt (by omega)
          have eq : (nI q.2.length).toInt = (q.2.length : Int) := nI_toInt (by omega)
          refine gw_aload_n dX12_copy_41 rfl ?_
          refine gm_get_lane rfl dX12_copy_42 ?_
          refine gw_iload_n dX12_copy_45 rfl ?_
          refine gm_ld_lane (j := tI a) (tI_eq c4) (ha8) dX12_copy_46 ?_
          refine gw_topi (y := nI (p.1 + 1)) (p2) ?_
          refine gw_aload_n dX12_copy_47 rfl ?_
          refine gm_get_lane rfl dX12_copy_48 ?_
          refine gw_iload_n dX12_copy_51 rfl ?_
          refine gm_ld_lane (j := tI b) (tI_eq c11) (hb8) dX12_copy_52 ?_
          refine gw_topi (y := nI (q.1 + 1)) (q2) ?_
          refine gw_icmpN_eq (tgt := 62) dX12_copy_53 (by decide) (by omega) (by omega) (fun c53 => ?_) (fun c53 => ?_)
          · refine gw_iload_n dX12_copy_62 rfl ?_
            refine gw_if_lt (tgt := 111) dX12_copy_63 (by decide) (fun c63 => ?_) (fun c63 => ?_)
            · rw [i32_lt] at c63
              have d63 : i.toInt < 0 := c63
              refine gw_aload_n dX12_copy_111 rfl ?_
              refine gw_iconst (v := nI (2)) dX12_copy_112 (by decide) ?_
              refine gw_callV 0 (As := [.int (nI (2))]) (st := []) (c_mfinds l cy ad iv ia la (nI (2))) ok_X12_finds rfl rfl rfl wd_904 rfl rfl dX12_copy_113 (by decide) (by decide) (Nat.le_of_ble_eq_true rfl) (fun r113 w113 hp113 => ?_)
              obtain ⟨rfl, rfl⟩ := hp113
              refine gw_W.wd (w' := (mW cy ad (va_up iv 19 (nI (2))) ia la)) rfl ?_
              refine gw_W.norm (st' := [.int ((-1000010) - (nI (2)))]) (k1 := 0) (k2 := 0) rfl rfl rfl ?_
              refine gw_iret (?_) (by decide) (by decide) rfl dX12_copy_116
              subst hpost
              unfold spCopy
              rw [if_pos ⟨c4, c11⟩, hp, hq]
              simp only
              rw [if_pos (by omega), if_neg (by rw [show cpOk i j n p.2.length q.2.length = false from decide_eq_false (by omega)]; decide)]
              exact ⟨rfl, _, _, _, rfl, i1, i2, i3, i4, rfl, i6, i7, i8⟩
            · rw [i32_lt] at c63
              have d63 : ¬ i.toInt < 0 := c63
              refine gw_iload dX12_copy_66 rfl ?_
              refine gw_if_lt (tgt := 111) dX12_copy_68 (by decide) (fun c68 => ?_) (fun c68 => ?_)
              · rw [i32_lt] at c68
                have d68 : j.toInt < 0 := c68
                refine gw_aload_n dX12_copy_111 rfl ?_
                refine gw_iconst (v := nI (2)) dX12_copy_112 (by decide) ?_
                refine gw_callV 0 (As := [.int (nI (2))]) (st := []) (c_mfinds l cy ad iv ia la (nI (2))) ok_X12_finds rfl rfl rfl wd_904 rfl rfl dX12_copy_113 (by decide) (by decide) (Nat.le_of_ble_eq_true rfl) (fun r113 w113 hp113 => ?_)
                obtain ⟨rfl, rfl⟩ := hp113
                refine gw_W.wd (w' := (mW cy ad (va_up iv 19 (nI (2))) ia la)) rfl ?_
                refine gw_W.norm (st' := [.int ((-1000010) - (nI (2)))]) (k1 := 0) (k2 := 0) rfl rfl rfl ?_
                refine gw_iret (?_) (by decide) (by decide) rfl dX12_copy_116
                subst hpost
                unfold spCopy
                rw [if_pos ⟨c4, c11⟩, hp, hq]
                simp only
                rw [if_pos (by omega), if_neg (by rw [show cpOk i j n p.2.length q.2.length = false from decide_eq_false (by omega)]; decide)]
                exact ⟨rfl, _, _, _, rfl, i1, i2, i3, i4, rfl, i6, i7, i8⟩
              · rw [i32_lt] at c68
                have d68 : ¬ j.toInt < 0 := c68
                refine gw_iload dX12_copy_71 rfl ?_
                refine gw_if_lt (tgt := 111) dX12_copy_73 (by decide) (fun c73 => ?_) (fun c73 => ?_)
                · rw [i32_lt] at c73
                  have d73 : n.toInt < 0 := c73
                  refine gw_aload_n dX12_copy_111 rfl ?_
                  refine gw_iconst (v := nI (2)) dX12_copy_112 (by decide) ?_
                  refine gw_callV 0 (As := [.int (nI (2))]) (st := []) (c_mfinds l cy ad iv ia la (nI (2))) ok_X12_finds rfl rfl rfl wd_904 rfl rfl dX12_copy_113 (by decide) (by decide) (Nat.le_of_ble_eq_true rfl) (fun r113 w113 hp113 => ?_)
                  obtain ⟨rfl, rfl⟩ := hp113
                  refine gw_W.wd (w' := (mW cy ad (va_up iv 19 (nI (2))) ia la)) rfl ?_
                  refine gw_W.norm (st' := [.int ((-1000010) - (nI (2)))]) (k1 := 0) (k2 := 0) rfl rfl rfl ?_
                  refine gw_iret (?_) (by decide) (by decide) rfl dX12_copy_116
                  subst hpost
                  unfold spCopy
                  rw [if_pos ⟨c4, c11⟩, hp, hq]
                  simp only
                  rw [if_pos (by omega), if_neg (by rw [show cpOk i j n p.2.length q.2.length = false from decide_eq_false (by omega)]; decide)]
                  exact ⟨rfl, _, _, _, rfl, i1, i2, i3, i4, rfl, i6, i7, i8⟩
                · rw [i32_lt] at c73
                  have d73 : ¬ n.toInt < 0 := c73
                  refine gw_iload_n dX12_copy_76 rfl ?_
                  refine gw_i2l dX12_copy_77 rfl ?_
                  refine gw_iload dX12_copy_78 rfl ?_
                  refine gw_i2l dX12_copy_80 rfl ?_
                  refine gw_ladd dX12_copy_81 ?_
                  refine gw_aload_n dX12_copy_82 rfl ?_
                  refine gm_get_size rfl dX12_copy_83 ?_
                  refine gw_iload_n dX12_copy_86 rfl ?_
                  refine gm_ld_size (j := tI a) (tI_eq c4) (ha8) dX12_copy_87 ?_
                  refine gw_topi (y := nI (p.2.length)) (p4) ?_
                  refine gw_i2l dX12_copy_88 rfl ?_
                  refine gw_lcmp dX12_copy_89 ?_
                  refine gw_if_gt (tgt := 111) dX12_copy_90 (by decide) (fun c90 => ?_) (fun c90 => ?_)
                  · rw [lg_cmp_gt, i64_lt, i64_add, i64_of, ep] at c90
                    refine gw_aload_n dX12_copy_111 rfl ?_
                    refine gw_iconst (v := nI (2)) dX12_copy_112 (by decide) ?_
                    refine gw_callV 0 (As := [.int (nI (2))]) (st := []) (c_mfinds l cy ad iv ia la (nI (2))) ok_X12_finds rfl rfl rfl wd_904 rfl rfl dX12_copy_113 (by decide) (by decide) (Nat.le_of_ble_eq_true rfl) (fun r113 w113 hp113 => ?_)
                    obtain ⟨rfl, rfl⟩ := hp113
                    refine gw_W.wd (w' := (mW cy ad (va_up iv 19 (nI (2))) ia la)) rfl ?_
                    refine gw_W.norm (st' := [.int ((-1000010) - (nI (2)))]) (k1 := 0) (k2 := 0) rfl rfl rfl ?_
                    refine gw_iret (?_) (by decide) (by decide) rfl dX12_copy_116
                    subst hpost
                    unfold spCopy
                    rw [if_pos ⟨c4, c11⟩, hp, hq]
                    simp only
                    rw [if_pos (by omega), if_neg (by rw [show cpOk i j n p.2.length q.2.length = false from decide_eq_false (by omega)]; decide)]
                    exact ⟨rfl, _, _, _, rfl, i1, i2, i3, i4, rfl, i6, i7, i8⟩
                  · rw [lg_cmp_gt, i64_lt, i64_add, i64_of, ep] at c90
                    refine gw_iload dX12_copy_93 rfl ?_
                    refine gw_i2l dX12_copy_95 rfl ?_
                    refine gw_iload dX12_copy_96 rfl ?_
                    refine gw_i2l dX12_copy_98 rfl ?_
                    refine gw_ladd dX12_copy_99 ?_
                    refine gw_aload_n dX12_copy_100 rfl ?_
                    refine gm_get_size rfl dX12_copy_101 ?_
                    refine gw_iload_n dX12_copy_104 rfl ?_
                    refine gm_ld_size (j := tI b) (tI_eq c11) (hb8) dX12_copy_105 ?_
                    refine gw_topi (y := nI (q.2.length)) (q4) ?_
                    refine gw_i2l dX12_copy_106 rfl ?_
                    refine gw_lcmp dX12_copy_107 ?_
                    refine gw_if_le (tgt := 117) dX12_copy_108 (by decide) (fun c108 => ?_) (fun c108 => ?_)
                    · rw [lg_cmp_le, i64_le, i64_add, i64_of, eq] at c108
                      have ei : i = nI (tI i) := tI_of (by omega)
                      have ej : j = nI (tI j) := tI_of (by omega)
                      have en : n = nI (tI n) := tI_of (by omega)
                      have x1 : tI i + tI n ≤ p.2.length := by unfold tI; omega
                      have x2 : tI j + tI n ≤ q.2.length := by unfold tI; omega
                      refine gw_iconst (v := nI (0)) dX12_copy_117 (by decide) ?_
                      refine gw_istore dX12_copy_118 (by decide) rfl ?_
                      have cut120 : ∀ (fu : Nat) (k : Nat) (m5 : Nat → Int32), (k ≤ tI n) → (∀ u, u < k → m5 u = ia 4 (60 * tI a + tI i + u)) → (tI n - k) < fu → gw_W l kX12_copy cy (gw_R kX12_copy post) (mW cy ad iv (va_up ia 5 (m5)) la) 0 0 120 [some (.ref (ad 0)), some (.int (a)), some (.int (i)), some (.int (b)), some (.int (j)), some (.int (n)), some (.int (nI (k)))] [] := by
                        intro fu
                        induction fu with
                        | zero => intro k m5 g1 g2 hfu; exact absurd hfu (Nat.not_lt_zero _)
                        | succ fu ih120 =>
                          intro k m5 g1 g2 hfu
                          refine gw_iload dX12_copy_120 rfl ?_
                          refine gw_iload dX12_copy_122 rfl ?_
                          refine gw_topi (y := nI (tI n)) (en) ?_
                          refine gw_icmpN_ge (tgt := 154) dX12_copy_124 (by decide) (by omega) (by omega) (fun c124 => ?_) (fun c124 => ?_)
                          · have e1 : k = tI n := by omega
                            rw [e1] at g2
                            refine gw_iconst (v := nI (0)) dX12_copy_154 (by decide) ?_
                            refine gw_istore dX12_copy_155 (by decide) rfl ?_
                            have cut157 : ∀ (fu : Nat) (k : Nat) (a4 : Nat → Int32), (k ≤ tI n) → (∀ u, u < k → a4 (60 * tI b + tI j + u) = m5 u) → (∀ u, (u < 60 * tI b + tI j ∨ 60 * tI b + tI j + tI n ≤ u) → a4 u = ia 4 u) → (tI n - k) < fu → gw_W l kX12_copy cy (gw_R kX12_copy post) (mW cy ad iv (va_up (va_up ia 4 (a4)) 5 (m5)) la) 0 0 157 [some (.ref (ad 0)), some (.int (a)), some (.int (i)), some (.int (b)), some (.int (j)), some (.int (n)), some (.int (nI (k)))] [] := by
                              intro fu
                              induction fu with
                              | zero => intro k a4 f1 f2 f3 hfu; exact absurd hfu (Nat.not_lt_zero _)
                              | succ fu ih157 =>
                                intro k a4 f1 f2 f3 hfu
                                refine gw_iload dX12_copy_157 rfl ?_
                                refine gw_iload dX12_copy_159 rfl ?_
                                refine gw_topi (y := nI (tI n)) (en) ?_
                                refine gw_icmpN_ge (tgt := 192) dX12_copy_161 (by decide) (by omega) (by omega) (fun c161 => ?_) (fun c161 => ?_)
                                · have e3 : k = tI n := by omega
                                  rw [e3] at f2
                                  refine gw_aload_n dX12_copy_192 rfl ?_
                                  refine gw_iload dX12_copy_193 rfl ?_
                                  refine gw_topi (y := nI (tI n)) (en) ?_
                                  refine gw_callV 0 (As := [.int (nI (tI n))]) (st := []) (c_mwell l cy ad iv (va_up (va_up ia 4 (a4)) 5 (m5)) la (nI (tI n))) ok_X12_well rfl rfl rfl wd_909 rfl rfl dX12_copy_195 (by decide) (by decide) (Nat.le_of_ble_eq_true rfl) (fun r195 w195 hp195 => ?_)
                                  obtain ⟨rfl, rfl⟩ := hp195
                                  refine gw_W.wd (w' := (mW cy ad (va_up iv 19 (0)) (va_up (va_up ia 4 (a4)) 5 (m5)) la)) rfl ?_
                                  refine gw_W.norm (st' := [.int (nI (tI n))]) (k1 := 0) (k2 := 0) rfl rfl rfl ?_
                                  refine gw_iret (?_) (by decide) (by decide) rfl dX12_copy_198
                                  subst hpost
                                  unfold spCopy
                                  rw [if_pos ⟨c4, c11⟩, hp, hq]
                                  simp only
                                  rw [if_pos (by omega), if_pos (show cpOk i j n p.2.length q.2.length = true from decide_eq_true (by omega))]
                                  refine ⟨congrArg (fun z => some (Value.int z)) en.symm, _, _, _, rfl, i1, ?_, i3, i4, rfl, i6, i7, i8⟩
                                  intro u hu
                                  show mTab (va_up σ.2.1 (tI b) (some (q.1, cpI p.2 q.2 (tI i) (tI j) (tI n))) u) (ia 2 u) (ia 3 u) a4 (60 * u)
                                  by_cases e : u = tI b
                                  · subst e
                                    rw [va_up_self]
                                    refine ⟨q1, q2, by rw [cpI_len]; exact q3, by rw [cpI_len]; exact q4, fun v hv => ?_⟩
                                    simp only [cpI_len] at hv
                                    rw [cpI_get hv]
                                    by_cases hr : tI j ≤ v ∧ v < tI j + tI n
                                    · rw [if_pos hr]
                                      have r1 := f2 (v - tI j) (by omega)
                                      rw [show 60 * tI b + tI j + (v - tI j) = 60 * tI b + v by omega] at r1
                                      rw [r1, g2 (v - tI j) (by omega), show 60 * tI a + tI i + (v - tI j) = 60 * tI a + (tI i + (v - tI j)) by omega]
                                      exact p5 _ (by omega)
                                    · rw [if_neg hr, f3 (60 * tI b + v) (by omega)]; exact q5 v hv
                                  · rw [va_up_ne _ _ e]
                                    exact mTab_congr (fun v hv => f3 _ (by omega)) (i2 u hu)
                                · refine gw_aload_n dX12_copy_164 rfl ?_
                                  refine gm_get_item rfl dX12_copy_165 ?_
                                  refine gw_bipush (v := nI (60)) dX12_copy_168 (by decide) ?_
                                  refine gw_iload_n dX12_copy_170 rfl ?_
                                  refine gw_topi (y := nI (tI b)) (tI_eq c11) ?_
                                  refine gw_imulN dX12_copy_171 ?_
                                  refine gw_iload dX12_copy_172 rfl ?_
                                  refine gw_topi (y := nI (tI j)) (ej) ?_
                                  refine gw_iaddN dX12_copy_174 ?_
                                  refine gw_iload dX12_copy_175 rfl ?_
                                  refine gw_iaddN dX12_copy_177 ?_
                                  refine gw_aload_n dX12_copy_178 rfl ?_
                                  refine gm_get_moving rfl dX12_copy_179 ?_
                                  refine gw_iload dX12_copy_182 rfl ?_
                                  refine gm_ld_moving (j := k) (rfl) (by omega) dX12_copy_184 ?_
                                  refine gw_topi (y := (m5) (k)) rfl ?_
                                  refine gm_st_item (j := ((60 * (tI b)) + (tI j)) + k) (rfl) (by omega) dX12_copy_185 ?_
                                  refine gw_W.wd (w' := (mW cy ad iv (va_up (va_up ia 4 (upd (a4) (((60 * (tI b)) + (tI j)) + k) ((m5) (k)))) 5 (m5)) la)) rfl ?_
                                  refine gw_iinc (v := nI (k + 1)) dX12_copy_186 rfl (nI_add _ 1) (by decide) rfl ?_
                                  refine gw_goto (tgt := 157) dX12_copy_189 (by decide) ?_
                                  refine gw_W.wd (w' := (mW cy ad iv (va_up (va_up ia 4 (((upd (a4) (((60 * (tI b)) + (tI j)) + k) ((m5) (k)))))) 5 (m5)) la)) rfl ?_
                                  refine ih157 (k + 1) ((upd (a4) (((60 * (tI b)) + (tI j)) + k) ((m5) (k)))) ?_ ?_ ?_ ?_
                                  · omega
                                  · intro u hu
                                    rcases Nat.lt_or_ge u k with g | g
                                    · rw [pk_un (by omega)]; exact f2 u g
                                    · have e2 : u = k := by omega
                                      subst e2; exact pk_us
                                  · intro u hu; rw [pk_un (by omega)]; exact f3 u hu
                                  · omega
                            refine gw_W.wd (w' := mW cy ad iv (va_up (va_up ia 4 (ia 4)) 5 m5) la) (by rw [va_up_id]) ?_
                            refine gw_W.wd (w' := (mW cy ad iv (va_up (va_up ia 4 ((ia 4))) 5 (m5)) la)) rfl ?_
                            refine cut157 _ (0) (ia 4) (Nat.zero_le _) (fun u h => absurd h (Nat.not_lt_zero _)) (fun _ _ => rfl) (Nat.lt_succ_self _)
                          · refine gw_aload_n dX12_copy_127 rfl ?_
                            refine gm_get_moving rfl dX12_copy_128 ?_
                            refine gw_iload dX12_copy_131 rfl ?_
                            refine gw_aload_n dX12_copy_133 rfl ?_
                            refine gm_get_item rfl dX12_copy_134 ?_
                            refine gw_bipush (v := nI (60)) dX12_copy_137 (by decide) ?_
                            refine gw_iload_n dX12_copy_139 rfl ?_
                            refine gw_topi (y := nI (tI a)) (tI_eq c4) ?_
                            refine gw_imulN dX12_copy_140 ?_
                            refine gw_iload_n dX12_copy_141 rfl ?_
                            refine gw_topi (y := nI (tI i)) (ei) ?_
                            refine gw_iaddN dX12_copy_142 ?_
                            refine gw_iload dX12_copy_143 rfl ?_
                            refine gw_iaddN dX12_copy_145 ?_
                            refine gm_ld_item (j := ((60 * (tI a)) + (tI i)) + k) (rfl) (by omega) dX12_copy_146 ?_
                            refine gw_topi (y := (ia 4) (((60 * (tI a)) + (tI i)) + k)) rfl ?_
                            refine gm_st_moving (j := k) (rfl) (by omega) dX12_copy_147 ?_
                            refine gw_W.wd (w' := (mW cy ad iv (va_up ia 5 (upd (m5) (k) ((ia 4) (((60 * (tI a)) + (tI i)) + k)))) la)) rfl ?_
                            refine gw_iinc (v := nI (k + 1)) dX12_copy_148 rfl (nI_add _ 1) (by decide) rfl ?_
                            refine gw_goto (tgt := 120) dX12_copy_151 (by decide) ?_
                            refine gw_W.wd (w' := (mW cy ad iv (va_up ia 5 (((upd (m5) (k) ((ia 4) (((60 * (tI a)) + (tI i)) + k)))))) la)) rfl ?_
                            refine ih120 (k + 1) ((upd (m5) (k) ((ia 4) (((60 * (tI a)) + (tI i)) + k)))) ?_ ?_ ?_
                            · omega
                            · intro u hu
                              rcases Nat.lt_or_ge u k with g | g
                              · rw [pk_un (by omega)]; exact g2 u g
                              · have e2 : u = k := by omega
                                subst e2; exact pk_us
                            · omega
                      refine gw_W.wd (w' := mW cy ad iv (va_up ia 5 (ia 5)) la) (by rw [va_up_id]) ?_
                      refine gw_W.wd (w' := (mW cy ad iv (va_up ia 5 ((ia 5))) la)) rfl ?_
                      refine cut120 _ (0) (ia 5) (Nat.zero_le _) (fun u h => absurd h (Nat.not_lt_zero _)) (Nat.lt_succ_self _)
                    · rw [lg_cmp_le, i64_le, i64_add, i64_of, eq] at c108
                      refine gw_aload_n dX12_copy_111 rfl ?_
                      refine gw_iconst (v := nI (2)) dX12_copy_112 (by decide) ?_
                      refine gw_callV 0 (As := [.int (nI (2))]) (st := []) (c_mfinds l cy ad iv ia la (nI (2))) ok_X12_finds rfl rfl rfl wd_904 rfl rfl dX12_copy_113 (by decide) (by decide) (Nat.le_of_ble_eq_true rfl) (fun r113 w113 hp113 => ?_)
                      obtain ⟨rfl, rfl⟩ := hp113
                      refine gw_W.wd (w' := (mW cy ad (va_up iv 19 (nI (2))) ia la)) rfl ?_
                      refine gw_W.norm (st' := [.int ((-1000010) - (nI (2)))]) (k1 := 0) (k2 := 0) rfl rfl rfl ?_
                      refine gw_iret (?_) (by decide) (by decide) rfl dX12_copy_116
                      subst hpost
                      unfold spCopy
                      rw [if_pos ⟨c4, c11⟩, hp, hq]
                      simp only
                      rw [if_pos (by omega), if_neg (by rw [show cpOk i j n p.2.length q.2.length = false from decide_eq_false (by omega)]; decide)]
                      exact ⟨rfl, _, _, _, rfl, i1, i2, i3, i4, rfl, i6, i7, i8⟩
          · refine gw_aload_n dX12_copy_56 rfl ?_
            refine gw_iconst (v := nI (5)) dX12_copy_57 (by decide) ?_
            refine gw_callV 0 (As := [.int (nI (5))]) (st := []) (c_mfinds l cy ad iv ia la (nI (5))) ok_X12_finds rfl rfl rfl wd_904 rfl rfl dX12_copy_58 (by decide) (by decide) (Nat.le_of_ble_eq_true rfl) (fun r58 w58 hp58 => ?_)
            obtain ⟨rfl, rfl⟩ := hp58
            refine gw_W.wd (w' := (mW cy ad (va_up iv 19 (nI (5))) ia la)) rfl ?_
            refine gw_W.norm (st' := [.int ((-1000010) - (nI (5)))]) (k1 := 0) (k2 := 0) rfl rfl rfl ?_
            refine gw_iret (?_) (by decide) (by decide) rfl dX12_copy_61
            subst hpost
            unfold spCopy
            rw [if_pos ⟨c4, c11⟩, hp, hq]
            simp only
            rw [if_neg (by omega)]
            exact ⟨rfl, _, _, _, rfl, i1, i2, i3, i4, rfl, i6, i7, i8⟩
        · refine gw_aload_n dX12_copy_35 rfl ?_
          refine gw_iconst (v := nI (1)) dX12_copy_36 (by decide) ?_
          refine gw_callV 0 (As := [.int (nI (1))]) (st := []) (c_mfinds l cy ad iv ia la (nI (1))) ok_X12_finds rfl rfl rfl wd_904 rfl rfl dX12_copy_37 (by decide) (by decide) (Nat.le_of_ble_eq_true rfl) (fun r37 w37 hp37 => ?_)
          obtain ⟨rfl, rfl⟩ := hp37
          refine gw_W.wd (w' := (mW cy ad (va_up iv 19 (nI (1))) ia la)) rfl ?_
          refine gw_W.norm (st' := [.int ((-1000010) - (nI (1)))]) (k1 := 0) (k2 := 0) rfl rfl rfl ?_
          refine gw_iret (?_) (by decide) (by decide) rfl dX12_copy_40
          subst hpost
          unfold spCopy
          rw [if_pos ⟨c4, c11⟩]
          cases hp : sTb σ (tI a) with
          | none => exact ⟨rfl, _, _, _, rfl, i1, i2, i3, i4, rfl, i6, i7, i8⟩
          | some p =>
            cases hq : sTb σ (tI b) with
            | none => exact ⟨rfl, _, _, _, rfl, i1, i2, i3, i4, rfl, i6, i7, i8⟩
            | some q =>
              rw [show σ.2.1 (tI a) = some p from hp] at ta
              rw [show σ.2.1 (tI b) = some q from hq] at tb
              first
              | exact absurd (ta.2.1.symm.trans c23) (nI_ne0 (by omega) (by have := ta.1; omega))
              | exact absurd (tb.2.1.symm.trans c32) (nI_ne0 (by omega) (by have := tb.1; omega))
    · rw [bI_0] at c11
      refine gw_ldc dX12_copy_14 wd_903 ?_
      refine gw_iret (?_) (by decide) (by decide) rfl dX12_copy_16
      subst hpost
      unfold spCopy
      rw [if_neg (fun h => by first | exact absurd h.1 (by rw [c4]; decide) | exact absurd h.2 (by rw [c11]; decide))]
      exact ⟨rfl, iv, ia, la, rfl, i1, i2, i3, i4, i5, i6, i7, i8⟩
theorem smN_le {n : Nat} {sm : Nat → List sT} {a6 a7 : Nat → Int32} {b8 : Nat → Int64} (h : mI3 n sm a6 a7 b8) (k : Nat) (hk : k ≤ 9) : smN sm k ≤ 300 * k := by
  induction k with
  | zero => exact Nat.le_refl _
  | succ k ih => rw [smN]; have := ih (by omega); have := (h k (by omega)).1.2.1; omega
theorem mTab_pos {t : aT} {ln sz : Int32} {a4 : Nat → Int32} {off : Nat} (h : mTab t ln sz a4 off) : (ln = nI 0 ∧ t.isSome = false) ∨ (∃ q : Nat, ln = nI (q + 1) ∧ q < 3 ∧ t.isSome = true) := by
  cases t with
  | none => exact Or.inl ⟨h, rfl⟩
  | some q => exact Or.inr ⟨q.1, h.2.1, h.1, rfl⟩
abbrev kX12_count : gw_K := (yX12_count, cX12_count, 4, { frames := 0, cells := 0, slots := 0, locals := 0 }, (some .int))
theorem ok_X12_count : gw_calV kX12_count 1 := ⟨⟨wd_1159, wd_62, by decide, by decide, by decide +kernel⟩, wd_1157, wd_1158⟩
set_option maxHeartbeats 4000000 in
set_option maxRecDepth 100000 in
theorem t_mcount (l : Launch) (cy : Nat → ClassId) (ad : Nat → Nat) (iv : Nat → Int32) (ia : Nat → Nat → Int32) (la : Nat → Nat → Int64) (σ : aS) (hI : mInv σ iv ia la) (x : Int32) : gw_M l kX12_count cy [.ref (ad 0), .int (x)] (mW cy ad iv ia la) (mPost cy ad (spCount σ x)) := by
  refine gw_M.mk (lv := [some (.ref (ad 0)), some (.int (x)), none, none]) (by decide) (Nat.le_of_ble_eq_true rfl) rfl ?_
  generalize hpost : (mPost cy ad (spCount σ x) : gw_Q) = post
  obtain ⟨i1, i2, i3, i4, i5, i6, i7, i8⟩ := hI
  obtain ⟨q40, q12, ⟨c, qc, qc3, q18⟩, -, -⟩ := id i4
  have hC := opC_eq qc
  refine gw_iconst (v := nI (0)) dX12_count_0 (by decide) ?_
  refine gw_istore_n dX12_count_1 (by decide) rfl ?_
  refine gw_iload_n dX12_count_2 rfl ?_
  by_cases c3_0 : (x).toInt = 0
  · refine gw_tableIn (off := 33) (tgt := 36) dX12_count_3 (by omega) (by omega) (by rw [c3_0]; rfl) (by decide) ?_
    refine gw_aload_n dX12_count_36 rfl ?_
    refine gm_get_spins rfl dX12_count_37 ?_
    refine gw_iret (?_) (by decide) (by decide) rfl dX12_count_40
    subst hpost
    unfold spCount
    rw [if_pos c3_0]
    exact ⟨congrArg (fun z => some (Value.int z)) i1.2.2.1, iv, ia, la, rfl, i1, i2, i3, i4, i5, i6, i7, i8⟩
  by_cases c3_1 : (x).toInt = 1
  · refine gw_tableIn (off := 38) (tgt := 41) dX12_count_3 (by omega) (by omega) (by rw [c3_1]; rfl) (by decide) ?_
    refine gw_aload_n dX12_count_41 rfl ?_
    refine gm_get_ops rfl dX12_count_42 ?_
    refine gw_iret (?_) (by decide) (by decide) rfl dX12_count_45
    subst hpost
    unfold spCount
    rw [if_neg c3_0, if_pos c3_1]
    exact ⟨congrArg (fun z => some (Value.int z)) q12, iv, ia, la, rfl, i1, i2, i3, i4, i5, i6, i7, i8⟩
  by_cases c3_2 : (x).toInt = 2
  · refine gw_tableIn (off := 43) (tgt := 46) dX12_count_3 (by omega) (by omega) (by rw [c3_2]; rfl) (by decide) ?_
    refine gw_iconst (v := nI (0)) dX12_count_46 (by decide) ?_
    refine gw_istore_n dX12_count_47 (by decide) rfl ?_
    have cut48 : ∀ (fu : Nat) (k : Nat), (k ≤ 8) → (8 - k) < fu → gw_W l kX12_count cy (gw_R kX12_count post) (mW cy ad iv ia la) 0 0 48 [some (.ref (ad 0)), some (.int (x)), some (.int (nI (tbN (sTb σ) k))), some (.int (nI (k)))] [] := by
      intro fu
      induction fu with
      | zero => intro k g1 hfu; exact absurd hfu (Nat.not_lt_zero _)
      | succ fu ih48 =>
        intro k g1 hfu
        refine gw_iload_n dX12_count_48 rfl ?_
        refine gw_bipush (v := nI (8)) dX12_count_49 (by decide) ?_
        refine gw_icmpN_ge (tgt := 77) dX12_count_51 (by decide) (by omega) (by omega) (fun c51 => ?_) (fun c51 => ?_)
        · have e1 : k = 8 := by omega
          subst e1
          refine gw_iload_n dX12_count_77 rfl ?_
          refine gw_iret (?_) (by decide) (by decide) rfl dX12_count_78
          subst hpost
          unfold spCount
          rw [if_neg c3_0, if_neg c3_1, if_pos c3_2]
          exact ⟨rfl, iv, ia, la, rfl, i1, i2, i3, i4, i5, i6, i7, i8⟩
        · have tk := mTab_pos (i2 k (by omega))
          have tl := tbN_le (sTb σ) k
          refine gw_iload_n dX12_count_54 rfl ?_
          refine gw_aload_n dX12_count_55 rfl ?_
          refine gm_get_lane rfl dX12_count_56 ?_
          refine gw_iload_n dX12_count_59 rfl ?_
          refine gm_ld_lane (j := k) (rfl) (by omega) dX12_count_60 ?_
          have hsw : ∀ (ln : Int32), ln = ia 2 k → True := fun _ _ => trivial
          refine gw_if_le (tgt := 68) dX12_count_61 (by decide) (fun c61 => ?_) (fun c61 => ?_)
          · have e2 : (sTb σ k).isSome = false := by
              rcases tk with ⟨t1, t2⟩ | ⟨q, t1, t2, t3⟩
              · exact t2
              · exfalso; rw [t1, i32_le, nI_toInt (by omega)] at c61
                exact absurd c61 (by show ¬ ((q + 1 : Nat) : Int) ≤ 0; omega)
            refine gw_iconst (v := nI (0)) dX12_count_68 (by decide) ?_
            refine gw_iaddN dX12_count_69 ?_
            refine gw_topi (y := nI (tbN (sTb σ) (k + 1))) (by rw [tbN, e2]; rfl) ?_
            refine gw_istore_n dX12_count_70 (by decide) rfl ?_
            refine gw_iinc (v := nI (k + 1)) dX12_count_71 rfl (nI_add _ 1) (by decide) rfl ?_
            refine gw_goto (tgt := 48) dX12_count_74 (by decide) ?_
            refine ih48 (k + 1) (by omega) ?_
            omega
          · have e2 : (sTb σ k).isSome = true := by
              rcases tk with ⟨t1, t2⟩ | ⟨q, t1, t2, t3⟩
              · exact absurd (by rw [t1]; decide) c61
              · exact t3
            refine gw_iconst (v := nI (1)) dX12_count_64 (by decide) ?_
            refine gw_goto (tgt := 69) dX12_count_65 (by decide) ?_
            refine gw_iaddN dX12_count_69 ?_
            refine gw_topi (y := nI (tbN (sTb σ) (k + 1))) (by rw [tbN, e2]; rfl) ?_
            refine gw_istore_n dX12_count_70 (by decide) rfl ?_
            refine gw_iinc (v := nI (k + 1)) dX12_count_71 rfl (nI_add _ 1) (by decide) rfl ?_
            refine gw_goto (tgt := 48) dX12_count_74 (by decide) ?_
            refine ih48 (k + 1) (by omega) ?_
            omega
    refine cut48 _ (0) (Nat.zero_le _) (Nat.lt_succ_self _)
  by_cases c3_3 : (x).toInt = 3
  · refine gw_tableIn (off := 76) (tgt := 79) dX12_count_3 (by omega) (by omega) (by rw [c3_3]; rfl) (by decide) ?_
    refine gw_aload_n dX12_count_79 rfl ?_
    refine gm_get_notEnded rfl dX12_count_80 ?_
    refine gw_iret (?_) (by decide) (by decide) rfl dX12_count_83
    subst hpost
    unfold spCount
    rw [if_neg c3_0, if_neg c3_1, if_neg c3_2, if_pos c3_3, hC]
    exact ⟨congrArg (fun z => some (Value.int z)) q18, iv, ia, la, rfl, i1, i2, i3, i4, i5, i6, i7, i8⟩
  by_cases c3_4 : (x).toInt = 4
  · refine gw_tableIn (off := 81) (tgt := 84) dX12_count_3 (by omega) (by omega) (by rw [c3_4]; rfl) (by decide) ?_
    refine gw_iconst (v := nI (0)) dX12_count_84 (by decide) ?_
    refine gw_istore_n dX12_count_85 (by decide) rfl ?_
    have cut86 : ∀ (fu : Nat) (k : Nat), (k ≤ 9) → (9 - k) < fu → gw_W l kX12_count cy (gw_R kX12_count post) (mW cy ad iv ia la) 0 0 86 [some (.ref (ad 0)), some (.int (x)), some (.int (nI (smN (sSm σ) k))), some (.int (nI (k)))] [] := by
      intro fu
      induction fu with
      | zero => intro k g1 hfu; exact absurd hfu (Nat.not_lt_zero _)
      | succ fu ih86 =>
        intro k g1 hfu
        refine gw_iload_n dX12_count_86 rfl ?_
        refine gw_bipush (v := nI (9)) dX12_count_87 (by decide) ?_
        refine gw_icmpN_ge (tgt := 107) dX12_count_89 (by decide) (by omega) (by omega) (fun c89 => ?_) (fun c89 => ?_)
        · have e1 : k = 9 := by omega
          subst e1
          refine gw_iload_n dX12_count_107 rfl ?_
          refine gw_iret (?_) (by decide) (by decide) rfl dX12_count_108
          subst hpost
          unfold spCount
          rw [if_neg c3_0, if_neg c3_1, if_neg c3_2, if_neg c3_3, if_pos c3_4]
          exact ⟨rfl, iv, ia, la, rfl, i1, i2, i3, i4, i5, i6, i7, i8⟩
        · refine gw_iload_n dX12_count_92 rfl ?_
          refine gw_aload_n dX12_count_93 rfl ?_
          refine gm_get_many rfl dX12_count_94 ?_
          refine gw_iload_n dX12_count_97 rfl ?_
          refine gm_ld_many (j := k) (rfl) (by omega) dX12_count_98 ?_
          refine gw_topi (y := nI ((sSm σ k).length)) ((i3 k (by omega)).2.1) ?_
          refine gw_iaddN dX12_count_99 ?_
          refine gw_topi (y := nI (smN (sSm σ) (k + 1))) (rfl) ?_
          refine gw_istore_n dX12_count_100 (by decide) rfl ?_
          refine gw_iinc (v := nI (k + 1)) dX12_count_101 rfl (nI_add _ 1) (by decide) rfl ?_
          refine gw_goto (tgt := 86) dX12_count_104 (by decide) ?_
          refine ih86 (k + 1) (by omega) ?_
          omega
    refine cut86 _ (0) (Nat.zero_le _) (Nat.lt_succ_self _)
  refine gw_tableOut (tgt := 109) dX12_count_3 (by omega) (by decide) ?_
  refine gw_ldc dX12_count_109 wd_903 ?_
  refine gw_iret (?_) (by decide) (by decide) rfl dX12_count_111
  subst hpost
  unfold spCount
  rw [if_neg c3_0, if_neg c3_1, if_neg c3_2, if_neg c3_3, if_neg c3_4]
  exact ⟨rfl, iv, ia, la, rfl, i1, i2, i3, i4, i5, i6, i7, i8⟩
