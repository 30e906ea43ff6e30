/-! the class: small static methods -/
abbrev kX11_within : gw_K := (yX11_within, cX11_within, 3, { frames := 0, cells := 0, slots := 0, locals := 0 }, (some .boolean))
theorem ok_X11_within : gw_calS kX11_within 3 := ⟨⟨wd_232, wd_57, by decide, by decide, by decide +kernel⟩, wd_231⟩
set_option maxHeartbeats 4000000 in
set_option maxRecDepth 100000 in
theorem c_within (l : Launch) (cy : Nat → ClassId) (v a b : Int32) (w : va_W) : gw_M l kX11_within cy [.int (v), .int (a), .int (b)] w (fun r w' => r = some (.int (bI (inZ v.toInt a.toInt b.toInt))) ∧ w' = w) := by
  refine gw_M.mk (lv := [some (.int (v)), some (.int (a)), some (.int (b))]) (by decide) (Nat.le_of_ble_eq_true rfl) rfl ?_
  generalize hpost : (fun r w' => r = some (.int (bI (inZ v.toInt a.toInt b.toInt))) ∧ w' = w : gw_Q) = post
  refine gw_iload_n dX11_within_0 rfl ?_
  refine gw_iload_n dX11_within_1 rfl ?_
  refine gw_icmp_lt (tgt := 14) dX11_within_2 (by decide) (fun c2 => ?_) (fun c2 => ?_)
  · rw [i32_lt] at c2
    refine gw_iconst (v := nI (0)) dX11_within_14 (by decide) ?_
    refine gw_zret (?_) (by decide) (by decide) rfl (by decide) dX11_within_15
    subst hpost
    exact ⟨by first | (rw [show inZ v.toInt a.toInt b.toInt = true from inZ_t.mpr (by omega)]; rfl) | (rw [show inZ v.toInt a.toInt b.toInt = false from inZ_f.mpr (by omega)]; rfl), rfl⟩
  · rw [i32_lt] at c2
    refine gw_iload_n dX11_within_5 rfl ?_
    refine gw_iload_n dX11_within_6 rfl ?_
    refine gw_icmp_gt (tgt := 14) dX11_within_7 (by decide) (fun c7 => ?_) (fun c7 => ?_)
    · rw [i32_lt] at c7
      refine gw_iconst (v := nI (0)) dX11_within_14 (by decide) ?_
      refine gw_zret (?_) (by decide) (by decide) rfl (by decide) dX11_within_15
      subst hpost
      exact ⟨by first | (rw [show inZ v.toInt a.toInt b.toInt = true from inZ_t.mpr (by omega)]; rfl) | (rw [show inZ v.toInt a.toInt b.toInt = false from inZ_f.mpr (by omega)]; rfl), rfl⟩
    · rw [i32_lt] at c7
      refine gw_iconst (v := nI (1)) dX11_within_10 (by decide) ?_
      refine gw_goto (tgt := 15) dX11_within_11 (by decide) ?_
      refine gw_zret (?_) (by decide) (by decide) rfl (by decide) dX11_within_15
      subst hpost
      exact ⟨by first | (rw [show inZ v.toInt a.toInt b.toInt = true from inZ_t.mpr (by omega)]; rfl) | (rw [show inZ v.toInt a.toInt b.toInt = false from inZ_f.mpr (by omega)]; rfl), rfl⟩
abbrev kX11_isWay : gw_K := (yX11_isWay, cX11_isWay, 1, { frames := 0, cells := 0, slots := 0, locals := 0 }, (some .boolean))
theorem ok_X11_isWay : gw_calS kX11_isWay 1 := ⟨⟨wd_380, wd_57, by decide, by decide, by decide +kernel⟩, wd_379⟩
set_option maxHeartbeats 4000000 in
set_option maxRecDepth 100000 in
theorem c_isWay (l : Launch) (cy : Nat → ClassId) (x : Int32) (w : va_W) : gw_M l kX11_isWay cy [.int (x)] w (fun r w' => r = some (.int (bI (decide (x = 1 ∨ x = -1)))) ∧ w' = w) := by
  refine gw_M.mk (lv := [some (.int (x))]) (by decide) (Nat.le_of_ble_eq_true rfl) rfl ?_
  generalize hpost : (fun r w' => r = some (.int (bI (decide (x = 1 ∨ x = -1)))) ∧ w' = w : gw_Q) = post
  refine gw_iload_n dX11_isWay_0 rfl ?_
  refine gw_iconst (v := nI (1)) dX11_isWay_1 (by decide) ?_
  refine gw_icmp_eq (tgt := 10) dX11_isWay_2 (by decide) (fun c2 => ?_) (fun c2 => ?_)
  · refine gw_iconst (v := nI (1)) dX11_isWay_10 (by decide) ?_
    refine gw_goto (tgt := 15) dX11_isWay_11 (by decide) ?_
    refine gw_zret (?_) (by decide) (by decide) rfl (by decide) dX11_isWay_15
    subst hpost
    refine ⟨?_, rfl⟩
    first
      | (rw [show decide (x = 1 ∨ x = -1) = true from decide_eq_true (by first | exact Or.inl c2 | exact Or.inr c7)]; rfl)
      | (rw [show decide (x = 1 ∨ x = -1) = false from decide_eq_false (fun h => h.elim c2 c7)]; rfl)
  · refine gw_iload_n dX11_isWay_5 rfl ?_
    refine gw_iconst (v := (-1 : Int32)) dX11_isWay_6 (by decide) ?_
    refine gw_icmp_ne (tgt := 14) dX11_isWay_7 (by decide) (fun c7 => ?_) (fun c7 => ?_)
    · refine gw_iconst (v := nI (0)) dX11_isWay_14 (by decide) ?_
      refine gw_zret (?_) (by decide) (by decide) rfl (by decide) dX11_isWay_15
      subst hpost
      refine ⟨?_, rfl⟩
      first
        | (rw [show decide (x = 1 ∨ x = -1) = true from decide_eq_true (by first | exact Or.inl c2 | exact Or.inr c7)]; rfl)
        | (rw [show decide (x = 1 ∨ x = -1) = false from decide_eq_false (fun h => h.elim c2 c7)]; rfl)
    · refine gw_iconst (v := nI (1)) dX11_isWay_10 (by decide) ?_
      refine gw_goto (tgt := 15) dX11_isWay_11 (by decide) ?_
      refine gw_zret (?_) (by decide) (by decide) rfl (by decide) dX11_isWay_15
      subst hpost
      refine ⟨?_, rfl⟩
      first
        | (rw [show decide (x = 1 ∨ x = -1) = true from decide_eq_true (by first | exact Or.inl c2 | exact Or.inr c7)]; rfl)
        | (rw [show decide (x = 1 ∨ x = -1) = false from decide_eq_false (fun h => h.elim c2 c7)]; rfl)
def uProd (k : Int32) : Int32 := (k.toUInt32 >>> ((nI 20).toUInt32 &&& Int32.toUInt32 31)).toInt32
theorem uProd_kn {n : Nat} {k : Int32} (h : keyOK n k) (hn : n ≤ 4) : uProd k = nI (kn k / 2 ^ 20) := by
  have h3 := kn_lt h
  have h4 := pow4_le hn
  unfold uProd
  conv => lhs; rw [kn_eq h hn]
  exact pk_ushrN (by omega) _ 20 (by decide)
theorem oneS_c {x : Nat} (hx : x < 4) : nI 1 <<< (nI (5 * (3 - x)) &&& 31) = mOneS (nI x) := by
  rcases (show x = 0 ∨ x = 1 ∨ x = 2 ∨ x = 3 by omega) with rfl | rfl | rfl | rfl <;> decide
theorem oneC_c {x : Nat} (hx : x < 4) : mOneS (nI x) <<< (nI 1 &&& 31) = mOneC (nI x) := by
  rcases (show x = 0 ∨ x = 1 ∨ x = 2 ∨ x = 3 by omega) with rfl | rfl | rfl | rfl <;> decide
theorem shC_c {x : Nat} (hx : x < 4) : nI (5 * (3 - x) + 1) = nI 16 - nI 5 * nI x := by
  rcases (show x = 0 ∨ x = 1 ∨ x = 2 ∨ x = 3 by omega) with rfl | rfl | rfl | rfl <;> decide
theorem shS_c {x : Nat} (hx : x < 4) : nI (5 * (3 - x)) = nI 15 - nI 5 * nI x := by
  rcases (show x = 0 ∨ x = 1 ∨ x = 2 ∨ x = 3 by omega) with rfl | rfl | rfl | rfl <;> decide
abbrev kX11_productOf : gw_K := (yX11_productOf, cX11_productOf, 1, { frames := 0, cells := 0, slots := 0, locals := 0 }, (some .int))
theorem ok_X11_productOf : gw_calS kX11_productOf 1 := ⟨⟨wd_367, wd_57, by decide, by decide, by decide +kernel⟩, wd_366⟩
set_option maxHeartbeats 4000000 in
set_option maxRecDepth 100000 in
theorem c_productOf (l : Launch) (cy : Nat → ClassId) (k : Int32) (w : va_W) : gw_M l kX11_productOf cy [.int (k)] w (fun r w' => r = some (.int (uProd k)) ∧ w' = w) := by
  refine gw_M.mk (lv := [some (.int (k))]) (by decide) (Nat.le_of_ble_eq_true rfl) rfl ?_
  generalize hpost : (fun r w' => r = some (.int (uProd k)) ∧ w' = w : gw_Q) = post
  refine gw_iload_n dX11_productOf_0 rfl ?_
  refine gw_bipush (v := nI (20)) dX11_productOf_1 (by decide) ?_
  refine gw_iushr (v := uProd k) dX11_productOf_3 (rfl) ?_
  refine gw_iret (?_) (by decide) (by decide) rfl dX11_productOf_4
  subst hpost
  exact ⟨rfl, rfl⟩
abbrev kX11_oneSine : gw_K := (yX11_oneSine, cX11_oneSine, 1, { frames := 0, cells := 0, slots := 0, locals := 0 }, (some .int))
theorem ok_X11_oneSine : gw_calS kX11_oneSine 1 := ⟨⟨wd_390, wd_57, by decide, by decide, by decide +kernel⟩, wd_389⟩
set_option maxHeartbeats 4000000 in
set_option maxRecDepth 100000 in
theorem c_oneSine (l : Launch) (cy : Nat → ClassId) (x : Nat) (hx : x < 4) (w : va_W) : gw_M l kX11_oneSine cy [.int (nI (x))] w (fun r w' => r = some (.int (mOneS (nI x))) ∧ w' = w) := by
  refine gw_M.mk (lv := [some (.int (nI (x)))]) (by decide) (Nat.le_of_ble_eq_true rfl) rfl ?_
  generalize hpost : (fun r w' => r = some (.int (mOneS (nI x))) ∧ w' = w : gw_Q) = post
  refine gw_iconst (v := nI (1)) dX11_oneSine_0 (by decide) ?_
  refine gw_iconst (v := nI (5)) dX11_oneSine_1 (by decide) ?_
  refine gw_iconst (v := nI (3)) dX11_oneSine_2 (by decide) ?_
  refine gw_iload_n dX11_oneSine_3 rfl ?_
  refine gw_isubN dX11_oneSine_4 (by omega) ?_
  refine gw_imulN dX11_oneSine_5 ?_
  refine gw_ishl dX11_oneSine_6 ?_
  refine gw_topi (y := mOneS (nI x)) (oneS_c hx) ?_
  refine gw_iret (?_) (by decide) (by decide) rfl dX11_oneSine_7
  subst hpost
  exact ⟨rfl, rfl⟩
abbrev kX11_oneCosine : gw_K := (yX11_oneCosine, cX11_oneCosine, 1, { frames := 1, cells := 0, slots := 0, locals := 20 }, (some .int))
theorem ok_X11_oneCosine : gw_calS kX11_oneCosine 1 := ⟨⟨wd_387, wd_57, by decide, by decide, by decide +kernel⟩, wd_386⟩
set_option maxHeartbeats 4000000 in
set_option maxRecDepth 100000 in
theorem c_oneCosine (l : Launch) (cy : Nat → ClassId) (x : Nat) (hx : x < 4) (w : va_W) : gw_M l kX11_oneCosine cy [.int (nI (x))] w (fun r w' => r = some (.int (mOneC (nI x))) ∧ w' = w) := by
  refine gw_M.mk (lv := [some (.int (nI (x)))]) (by decide) (Nat.le_of_ble_eq_true rfl) rfl ?_
  generalize hpost : (fun r w' => r = some (.int (mOneC (nI x))) ∧ w' = w : gw_Q) = post
  refine gw_iload_n dX11_oneCosine_0 rfl ?_
  refine gw_callS (As := [.int (nI (x))]) (st := []) (c_oneSine l cy (x) (by omega) w) ok_X11_oneSine wd_388 rfl rfl dX11_oneCosine_1 (by decide) (by decide) (Nat.le_of_ble_eq_true rfl) (fun r1 w1 hp1 => ?_)
  obtain ⟨rfl, rfl⟩ := hp1
  refine gw_W.norm (st' := [.int (mOneS (nI (x)))]) (k1 := 0) (k2 := 0) rfl rfl rfl ?_
  refine gw_iconst (v := nI (1)) dX11_oneCosine_4 (by decide) ?_
  refine gw_ishl dX11_oneCosine_5 ?_
  refine gw_topi (y := mOneC (nI x)) (oneC_c hx) ?_
  refine gw_iret (?_) (by decide) (by decide) rfl dX11_oneCosine_6
  subst hpost
  exact ⟨rfl, rfl⟩
abbrev kX11_cosinesOf : gw_K := (yX11_cosinesOf, cX11_cosinesOf, 2, { frames := 0, cells := 0, slots := 0, locals := 0 }, (some .int))
theorem ok_X11_cosinesOf : gw_calS kX11_cosinesOf 2 := ⟨⟨wd_325, wd_57, by decide, by decide, by decide +kernel⟩, wd_324⟩
set_option maxHeartbeats 4000000 in
set_option maxRecDepth 100000 in
theorem c_cosinesOf (l : Launch) (cy : Nat → ClassId) (k : Int32) (x : Nat) (hx : x < 4) (w : va_W) : gw_M l kX11_cosinesOf cy [.int (k), .int (nI (x))] w (fun r w' => r = some (.int (mCos k (nI x))) ∧ w' = w) := by
  refine gw_M.mk (lv := [some (.int (k)), some (.int (nI (x)))]) (by decide) (Nat.le_of_ble_eq_true rfl) rfl ?_
  generalize hpost : (fun r w' => r = some (.int (mCos k (nI x))) ∧ w' = w : gw_Q) = post
  refine gw_iload_n dX11_cosinesOf_0 rfl ?_
  refine gw_iconst (v := nI (5)) dX11_cosinesOf_1 (by decide) ?_
  refine gw_iconst (v := nI (3)) dX11_cosinesOf_2 (by decide) ?_
  refine gw_iload_n dX11_cosinesOf_3 rfl ?_
  refine gw_isubN dX11_cosinesOf_4 (by omega) ?_
  refine gw_imulN dX11_cosinesOf_5 ?_
  refine gw_iconst (v := nI (1)) dX11_cosinesOf_6 (by decide) ?_
  refine gw_iaddN dX11_cosinesOf_7 ?_
  refine gw_topi (y := nI 16 - nI 5 * nI x) (shC_c hx) ?_
  refine gw_ishr dX11_cosinesOf_8 ?_
  refine gw_bipush (v := nI (15)) dX11_cosinesOf_9 (by decide) ?_
  refine gw_iand dX11_cosinesOf_11 ?_
  refine gw_iret (?_) (by decide) (by decide) rfl dX11_cosinesOf_12
  subst hpost
  exact ⟨rfl, rfl⟩
abbrev kX11_sinesOf : gw_K := (yX11_sinesOf, cX11_sinesOf, 2, { frames := 0, cells := 0, slots := 0, locals := 0 }, (some .int))
theorem ok_X11_sinesOf : gw_calS kX11_sinesOf 2 := ⟨⟨wd_416, wd_57, by decide, by decide, by decide +kernel⟩, wd_415⟩
set_option maxHeartbeats 4000000 in
set_option maxRecDepth 100000 in
theorem c_sinesOf (l : Launch) (cy : Nat → ClassId) (k : Int32) (x : Nat) (hx : x < 4) (w : va_W) : gw_M l kX11_sinesOf cy [.int (k), .int (nI (x))] w (fun r w' => r = some (.int (mSin k (nI x))) ∧ w' = w) := by
  refine gw_M.mk (lv := [some (.int (k)), some (.int (nI (x)))]) (by decide) (Nat.le_of_ble_eq_true rfl) rfl ?_
  generalize hpost : (fun r w' => r = some (.int (mSin k (nI x))) ∧ w' = w : gw_Q) = post
  refine gw_iload_n dX11_sinesOf_0 rfl ?_
  refine gw_iconst (v := nI (5)) dX11_sinesOf_1 (by decide) ?_
  refine gw_iconst (v := nI (3)) dX11_sinesOf_2 (by decide) ?_
  refine gw_iload_n dX11_sinesOf_3 rfl ?_
  refine gw_isubN dX11_sinesOf_4 (by omega) ?_
  refine gw_imulN dX11_sinesOf_5 ?_
  refine gw_topi (y := nI 15 - nI 5 * nI x) (shS_c hx) ?_
  refine gw_ishr dX11_sinesOf_6 ?_
  refine gw_iconst (v := nI (1)) dX11_sinesOf_7 (by decide) ?_
  refine gw_iand dX11_sinesOf_8 ?_
  refine gw_iret (?_) (by decide) (by decide) rfl dX11_sinesOf_9
  subst hpost
  exact ⟨rfl, rfl⟩
abbrev kX11_withProduct : gw_K := (yX11_withProduct, cX11_withProduct, 2, { frames := 0, cells := 0, slots := 0, locals := 0 }, (some .int))
theorem ok_X11_withProduct : gw_calS kX11_withProduct 2 := ⟨⟨wd_373, wd_57, by decide, by decide, by decide +kernel⟩, wd_372⟩
set_option maxHeartbeats 4000000 in
set_option maxRecDepth 100000 in
theorem c_withProduct (l : Launch) (cy : Nat → ClassId) (k g : Int32) (w : va_W) : gw_M l kX11_withProduct cy [.int (k), .int (g)] w (fun r w' => r = some (.int (k ^^^ (g <<< (nI 20 &&& 31)))) ∧ w' = w) := by
  refine gw_M.mk (lv := [some (.int (k)), some (.int (g))]) (by decide) (Nat.le_of_ble_eq_true rfl) rfl ?_
  generalize hpost : (fun r w' => r = some (.int (k ^^^ (g <<< (nI 20 &&& 31)))) ∧ w' = w : gw_Q) = post
  refine gw_iload_n dX11_withProduct_0 rfl ?_
  refine gw_iload_n dX11_withProduct_1 rfl ?_
  refine gw_bipush (v := nI (20)) dX11_withProduct_2 (by decide) ?_
  refine gw_ishl dX11_withProduct_4 ?_
  refine gw_ixor dX11_withProduct_5 ?_
  refine gw_iret (?_) (by decide) (by decide) rfl dX11_withProduct_6
  subst hpost
  exact ⟨rfl, rfl⟩
def sigN (g p : Nat) : Int32 := if fitN 4 g p = true then 0 else sgN 4 g p
theorem sig_step {g p s : Nat} : (clash (axN g s) (axN p s) = true → upw (axN g s) (axN p s) = true → uN4 g p (s + 1) = uN4 g p s + 1 ∧ dN4 g p (s + 1) = dN4 g p s) ∧ (clash (axN g s) (axN p s) = true → upw (axN g s) (axN p s) = false → uN4 g p (s + 1) = uN4 g p s ∧ dN4 g p (s + 1) = dN4 g p s + 1) ∧ (clash (axN g s) (axN p s) = false → uN4 g p (s + 1) = uN4 g p s ∧ dN4 g p (s + 1) = dN4 g p s) := by
  refine ⟨fun h1 h2 => ?_, fun h1 h2 => ?_, fun h1 => ?_⟩ <;> simp [uN4, dN4, h1] <;> simp [*]
theorem up_c : ∀ a, a < 4 → ∀ b, b < 4 → clash a b = true → ((nI b - nI a = nI 1 ∨ nI b - nI a = -2) ↔ upw a b = true) := by decide
theorem sig_even : ∀ u, u < 5 → ∀ d, d < 5 → u + d < 5 → (((nI u - nI d) &&& nI 1 = 0) ↔ (u + d) % 2 = 0) := by decide
theorem sig_way : ∀ u, u < 5 → ∀ d, d < 5 → u + d < 5 → (((nI u - nI d - nI 1) &&& nI 3 = 0) ↔ (u + 7 - d) % 4 = 0) := by decide
theorem sub_up (u d : Nat) : nI u - nI d + nI 1 = nI (u + 1) - nI d := by
  rw [← nI_add u 1, Int32.sub_eq_add_neg, Int32.sub_eq_add_neg, Int32.add_assoc, Int32.add_assoc, Int32.add_comm (-nI d)]
theorem sub_dn (u d : Nat) : nI u - nI d + (-1 : Int32) = nI u - nI (d + 1) := by
  rw [← nI_add d 1, Int32.sub_eq_add_neg, Int32.sub_eq_add_neg, Int32.neg_add, Int32.sub_eq_add_neg, ← Int32.add_assoc]; rfl
abbrev kX11_signOf : gw_K := (yX11_signOf, cX11_signOf, 6, { frames := 0, cells := 0, slots := 0, locals := 0 }, (some .int))
theorem ok_X11_signOf : gw_calS kX11_signOf 2 := ⟨⟨wd_370, wd_57, by decide, by decide, by decide +kernel⟩, wd_369⟩
set_option maxHeartbeats 4000000 in
set_option maxRecDepth 100000 in
theorem c_signOf (l : Launch) (cy : Nat → ClassId) (g p : Nat) (hg : g < 256) (hp : p < 256) (w : va_W) : gw_M l kX11_signOf cy [.int (nI (g)), .int (nI (p))] w (fun r w' => r = some (.int (sigN g p)) ∧ w' = w) := by
  refine gw_M.mk (lv := [some (.int (nI (g))), some (.int (nI (p))), none, none, none, none]) (by decide) (Nat.le_of_ble_eq_true rfl) rfl ?_
  generalize hpost : (fun r w' => r = some (.int (sigN g p)) ∧ w' = w : gw_Q) = post
  refine gw_iconst (v := nI (0)) dX11_signOf_0 (by decide) ?_
  refine gw_topi (y := nI (uN4 g p 0) - nI (dN4 g p 0)) (show nI 0 = nI 0 - nI 0 from by decide) ?_
  refine gw_istore_n dX11_signOf_1 (by decide) rfl ?_
  refine gw_iconst (v := nI (0)) dX11_signOf_2 (by decide) ?_
  refine gw_istore_n dX11_signOf_3 (by decide) rfl ?_
  have cut4 : ∀ (fu : Nat) (s : Nat), (s ≤ 4) → (4 - s) < fu → gw_W l kX11_signOf cy (gw_R kX11_signOf post) w 0 0 4 [some (.int (nI (g))), some (.int (nI (p))), some (.int (nI (uN4 g p s) - nI (dN4 g p s))), some (.int (nI (s))), none, none] [] := by
    intro fu
    induction fu with
    | zero => intro s s1 hfu; exact absurd hfu (Nat.not_lt_zero _)
    | succ fu ih4 =>
      intro s s1 hfu
      refine gw_iload_n dX11_signOf_4 rfl ?_
      refine gw_iconst (v := nI (4)) dX11_signOf_5 (by decide) ?_
      refine gw_icmpN_ge (tgt := 77) dX11_signOf_6 (by decide) (by omega) (by omega) (fun c6 => ?_) (fun c6 => ?_)
      · have e1 : s = 4 := by omega
        subst e1
        have hu := ud_le g p 4
        have hu2 := cnt_le g p 4
        refine gw_iload_n dX11_signOf_77 rfl ?_
        refine gw_iconst (v := nI (1)) dX11_signOf_78 (by decide) ?_
        refine gw_iand dX11_signOf_79 ?_
        refine gw_if_ne (tgt := 85) dX11_signOf_80 (by decide) (fun c80 => ?_) (fun c80 => ?_)
        · rw [sig_even _ (by omega) _ (by omega) (by omega)] at c80
          refine gw_iload_n dX11_signOf_85 rfl ?_
          refine gw_iconst (v := nI (1)) dX11_signOf_86 (by decide) ?_
          refine gw_isub dX11_signOf_87 ?_
          refine gw_iconst (v := nI (3)) dX11_signOf_88 (by decide) ?_
          refine gw_iand dX11_signOf_89 ?_
          refine gw_if_ne (tgt := 97) dX11_signOf_90 (by decide) (fun c90 => ?_) (fun c90 => ?_)
          · rw [sig_way _ (by omega) _ (by omega) (by omega)] at c90
            refine gw_iconst (v := (-1 : Int32)) dX11_signOf_97 (by decide) ?_
            refine gw_iret (?_) (by decide) (by decide) rfl dX11_signOf_98
            subst hpost
            refine ⟨?_, rfl⟩
            unfold sigN
            rw [if_neg (by unfold fitN; rw [decide_eq_true_eq]; omega)]
            unfold sgN
            first
              | (rw [if_pos c90]; rfl)
              | (rw [if_neg c90])
          · rw [sig_way _ (by omega) _ (by omega) (by omega)] at c90
            refine gw_iconst (v := nI (1)) dX11_signOf_93 (by decide) ?_
            refine gw_goto (tgt := 98) dX11_signOf_94 (by decide) ?_
            refine gw_iret (?_) (by decide) (by decide) rfl dX11_signOf_98
            subst hpost
            refine ⟨?_, rfl⟩
            unfold sigN
            rw [if_neg (by unfold fitN; rw [decide_eq_true_eq]; omega)]
            unfold sgN
            first
              | (rw [if_pos c90]; rfl)
              | (rw [if_neg c90])
        · rw [sig_even _ (by omega) _ (by omega) (by omega)] at c80
          refine gw_iconst (v := nI (0)) dX11_signOf_83 (by decide) ?_
          refine gw_iret (?_) (by decide) (by decide) rfl dX11_signOf_84
          subst hpost
          refine ⟨?_, rfl⟩
          unfold sigN
          rw [if_pos (show fitN 4 g p = true from decide_eq_true (show cntN g p 4 % 2 = 0 by omega))]; rfl
      · have cut71 : ∀ (z : Int32), (z = nI (uN4 g p (s + 1)) - nI (dN4 g p (s + 1))) → gw_W l kX11_signOf cy (gw_R kX11_signOf post) w 0 0 71 [some (.int (nI (g))), some (.int (nI (p))), some (.int (z)), some (.int (nI (s))), none, none] [] := by
          intro z z1
          subst z1
          refine gw_iinc (v := nI (s + 1)) dX11_signOf_71 rfl (nI_add _ 1) (by decide) rfl ?_
          refine gw_goto (tgt := 4) dX11_signOf_74 (by decide) ?_
          refine ih4 (s + 1) (by omega) ?_
          omega
        refine gw_iload_n dX11_signOf_9 rfl ?_
        refine gw_iconst (v := nI (2)) dX11_signOf_10 (by decide) ?_
        refine gw_iload_n dX11_signOf_11 rfl ?_
        refine gw_imulN dX11_signOf_12 ?_
        refine gw_ishr dX11_signOf_13 ?_
        refine gw_iconst (v := nI (3)) dX11_signOf_14 (by decide) ?_
        refine gw_iand dX11_signOf_15 ?_
        refine gw_topi (y := nI (axN g s)) (ax_eq (by omega) (by omega)) ?_
        refine gw_istore dX11_signOf_16 (by decide) rfl ?_
        refine gw_iload_n dX11_signOf_18 rfl ?_
        refine gw_iconst (v := nI (2)) dX11_signOf_19 (by decide) ?_
        refine gw_iload_n dX11_signOf_20 rfl ?_
        refine gw_imulN dX11_signOf_21 ?_
        refine gw_ishr dX11_signOf_22 ?_
        refine gw_iconst (v := nI (3)) dX11_signOf_23 (by decide) ?_
        refine gw_iand dX11_signOf_24 ?_
        refine gw_topi (y := nI (axN p s)) (ax_eq (by omega) (by omega)) ?_
        refine gw_istore dX11_signOf_25 (by decide) rfl ?_
        have la := ax_lt g s
        have lb := ax_lt p s
        refine gw_iload dX11_signOf_27 rfl ?_
        refine gw_ifN_eq (tgt := 71) dX11_signOf_29 (by decide) (by omega) (fun c29 => ?_) (fun c29 => ?_)
        · have hc := clash_f1 (b := axN p s) c29
          refine gw_W.forget 4 ?_
          refine gw_W.forget 5 ?_
          refine cut71 (nI (uN4 g p s) - nI (dN4 g p s)) (by
            obtain ⟨y1, y2⟩ := sig_step.2.2 hc
            rw [y1, y2])
        · refine gw_iload dX11_signOf_32 rfl ?_
          refine gw_ifN_eq (tgt := 71) dX11_signOf_34 (by decide) (by omega) (fun c34 => ?_) (fun c34 => ?_)
          · have hc := clash_f2 (a := axN g s) c34
            refine gw_W.forget 4 ?_
            refine gw_W.forget 5 ?_
            refine cut71 (nI (uN4 g p s) - nI (dN4 g p s)) (by
              obtain ⟨y1, y2⟩ := sig_step.2.2 hc
              rw [y1, y2])
          · refine gw_iload dX11_signOf_37 rfl ?_
            refine gw_iload dX11_signOf_39 rfl ?_
            refine gw_icmpN_eq (tgt := 71) dX11_signOf_41 (by decide) (by omega) (by omega) (fun c41 => ?_) (fun c41 => ?_)
            · have hc := clash_f3 c41
              refine gw_W.forget 4 ?_
              refine gw_W.forget 5 ?_
              refine cut71 (nI (uN4 g p s) - nI (dN4 g p s)) (by
                obtain ⟨y1, y2⟩ := sig_step.2.2 hc
                rw [y1, y2])
            · have hc := clash_t c29 c34 c41
              have cut69 : ∀ (z : Int32), ((z = nI 1 ∧ upw (axN g s) (axN p s) = true) ∨ (z = -1 ∧ upw (axN g s) (axN p s) = false)) → gw_W l kX11_signOf cy (gw_R kX11_signOf post) w 0 0 69 [some (.int (nI (g))), some (.int (nI (p))), some (.int (nI (uN4 g p s) - nI (dN4 g p s))), some (.int (nI (s))), some (.int (nI (axN g s))), some (.int (nI (axN p s)))] [.int (z), .int (nI (uN4 g p s) - nI (dN4 g p s))] := by
                intro z z1
                refine gw_iadd dX11_signOf_69 ?_
                refine gw_istore_n dX11_signOf_70 (by decide) rfl ?_
                refine gw_W.forget 4 ?_
                refine gw_W.forget 5 ?_
                refine cut71 ((nI (uN4 g p s) - nI (dN4 g p s)) + (z)) (by
                  rcases z1 with ⟨z1, z2⟩ | ⟨z1, z2⟩
                  · obtain ⟨y1, y2⟩ := sig_step.1 hc z2
                    rw [z1, y1, y2]; exact sub_up _ _
                  · obtain ⟨y1, y2⟩ := sig_step.2.1 hc z2
                    rw [z1, y1, y2]; exact sub_dn _ _)
              refine gw_iload_n dX11_signOf_44 rfl ?_
              refine gw_iload dX11_signOf_45 rfl ?_
              refine gw_iload dX11_signOf_47 rfl ?_
              refine gw_isub dX11_signOf_49 ?_
              refine gw_iconst (v := nI (1)) dX11_signOf_50 (by decide) ?_
              refine gw_icmp_eq (tgt := 64) dX11_signOf_51 (by decide) (fun c51 => ?_) (fun c51 => ?_)
              · refine gw_iconst (v := nI (1)) dX11_signOf_64 (by decide) ?_
                refine gw_goto (tgt := 69) dX11_signOf_65 (by decide) ?_
                refine cut69 (nI (1)) (Or.inl ⟨rfl, (up_c _ la _ lb hc).mp (by first | exact Or.inl c51 | exact Or.inr c61)⟩)
              · refine gw_iload dX11_signOf_54 rfl ?_
                refine gw_iload dX11_signOf_56 rfl ?_
                refine gw_isub dX11_signOf_58 ?_
                refine gw_bipush (v := (-2 : Int32)) dX11_signOf_59 (by decide) ?_
                refine gw_icmp_ne (tgt := 68) dX11_signOf_61 (by decide) (fun c61 => ?_) (fun c61 => ?_)
                · refine gw_iconst (v := (-1 : Int32)) dX11_signOf_68 (by decide) ?_
                  refine cut69 ((-1 : Int32)) (Or.inr ⟨rfl, by cases hu : upw (axN g s) (axN p s) with
                    | false => rfl
                    | true => exact ((up_c _ la _ lb hc).mpr hu).elim (fun h => absurd h c51) (fun h => absurd h c61)⟩)
                · refine gw_iconst (v := nI (1)) dX11_signOf_64 (by decide) ?_
                  refine gw_goto (tgt := 69) dX11_signOf_65 (by decide) ?_
                  refine cut69 (nI (1)) (Or.inl ⟨rfl, (up_c _ la _ lb hc).mp (by first | exact Or.inl c51 | exact Or.inr c61)⟩)
  refine cut4 _ (0) (Nat.zero_le _) (Nat.lt_succ_self _)
