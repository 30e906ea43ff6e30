/-! the reference's small methods -/
theorem gw_W.norm {l : Launch} {κ : gw_K} {cy : Nat → ClassId} {Z : gw_Z} {w : va_W} {n1 n2 pc : Nat} {lv : List (Option Value)} {st st' : List Value} {k1 k2 : Nat} (hs : st = st') (h1 : n1 = k1) (h2 : n2 = k2) (k : gw_W l κ cy Z w k1 k2 pc lv st') : gw_W l κ cy Z w n1 n2 pc lv st := by
  subst hs h1 h2; exact k
def bI (b : Bool) : Int32 := cond b 1 0
def inZ (v a b : Int) : Bool := decide (a ≤ v ∧ v ≤ b)
theorem bI_0 {b : Bool} : bI b = 0 ↔ b = false := by cases b <;> decide
theorem bI_n0 {b : Bool} : ¬ bI b = 0 ↔ b = true := by cases b <;> decide
theorem bI_nar (b : Bool) : narrow .boolean (.int (bI b)) = .int (bI b) := by cases b <;> decide
theorem inZ_t {v a b : Int} : inZ v a b = true ↔ a ≤ v ∧ v ≤ b := by simp [inZ]
theorem inZ_f {v a b : Int} : inZ v a b = false ↔ ¬ (a ≤ v ∧ v ≤ b) := by simp [inZ]
theorem i64_lt {a b : Int64} : a < b ↔ a.toInt < b.toInt := Int64.lt_iff_toInt_lt
theorem i64_le {a b : Int64} : a ≤ b ↔ a.toInt ≤ b.toInt := Int64.le_iff_toInt_le
theorem i64_of (x : Int32) : x.toInt64.toInt = x.toInt := Int32.toInt_toInt64 x
def mCos (k x : Int32) : Int32 := (k >>> ((nI 16 - nI 5 * x) &&& 31)) &&& nI 15
def mSin (k x : Int32) : Int32 := (k >>> ((nI 15 - nI 5 * x) &&& 31)) &&& nI 1
def mOneC (x : Int32) : Int32 := nI 1 <<< ((nI 16 - nI 5 * x) &&& 31)
def mOneS (x : Int32) : Int32 := nI 1 <<< ((nI 15 - nI 5 * x) &&& 31)
def mProd (k : Int32) : Int32 := k >>> (nI 20 &&& 31)
def mPl (s : Int32) : Nat := if s.toInt < 0 then 8 else s.toInt.toNat
theorem i32_sub1 (n : Nat) (h : n < 2 ^ 31) : (nI n - nI 1).toInt = (n : Int) - 1 := by
  rw [Int32.toInt_sub, nI_toInt h, nI_toInt (by decide)]
  rw [Int.bmod_eq_of_le]
  · rfl
  · omega
  · omega
abbrev kX12_in : gw_K := (yX12_in, cX12_in, 6, { frames := 0, cells := 0, slots := 0, locals := 0 }, (some .boolean))
theorem ok_X12_in : gw_calS kX12_in 3 := ⟨⟨wd_901, wd_62, by decide, by decide, by decide +kernel⟩, wd_900⟩
set_option maxHeartbeats 4000000 in
set_option maxRecDepth 100000 in
theorem c_min (l : Launch) (cy : Nat → ClassId) (v : Int64) (a : Int64) (b : Int64) (w : va_W) : gw_M l kX12_in cy [.long (v), .long (a), .long (b)] w (fun r w' => r = some (.int (bI (inZ v.toInt a.toInt b.toInt))) ∧ w' = w) := by
  refine gw_M.mk (lv := [some (.long (v)), none, some (.long (a)), none, some (.long (b)), none]) (by decide) (Nat.le_of_ble_eq_true rfl) rfl ?_
  generalize hpost : (fun r w' => r = some (.int (bI (inZ v.toInt a.toInt b.toInt))) ∧ w' = w : gw_Q) = post
  refine gw_lload_n dX12_in_0 rfl ?_
  refine gw_lload_n dX12_in_1 rfl ?_
  refine gw_lcmp dX12_in_2 ?_
  refine gw_if_lt (tgt := 17) dX12_in_3 (by decide) (fun c3 => ?_) (fun c3 => ?_)
  · rw [lg_cmp_lt, i64_lt] at c3
    refine gw_iconst (v := nI (0)) dX12_in_17 (by decide) ?_
    refine gw_zret (?_) (by decide) (by decide) rfl (by decide) dX12_in_18
    subst hpost
    exact ⟨by first | (rw [show inZ v.toInt a.toInt b.toInt = true from inZ_t.mpr (by omega)]; rfl) | (rw [show inZ v.toInt a.toInt b.toInt = false from inZ_f.mpr (by omega)]; rfl), rfl⟩
  · rw [lg_cmp_lt, i64_lt] at c3
    refine gw_lload_n dX12_in_6 rfl ?_
    refine gw_lload dX12_in_7 rfl ?_
    refine gw_lcmp dX12_in_9 ?_
    refine gw_if_gt (tgt := 17) dX12_in_10 (by decide) (fun c10 => ?_) (fun c10 => ?_)
    · rw [lg_cmp_gt, i64_lt] at c10
      refine gw_iconst (v := nI (0)) dX12_in_17 (by decide) ?_
      refine gw_zret (?_) (by decide) (by decide) rfl (by decide) dX12_in_18
      subst hpost
      exact ⟨by first | (rw [show inZ v.toInt a.toInt b.toInt = true from inZ_t.mpr (by omega)]; rfl) | (rw [show inZ v.toInt a.toInt b.toInt = false from inZ_f.mpr (by omega)]; rfl), rfl⟩
    · rw [lg_cmp_gt, i64_lt] at c10
      refine gw_iconst (v := nI (1)) dX12_in_13 (by decide) ?_
      refine gw_goto (tgt := 18) dX12_in_14 (by decide) ?_
      refine gw_zret (?_) (by decide) (by decide) rfl (by decide) dX12_in_18
      subst hpost
      exact ⟨by first | (rw [show inZ v.toInt a.toInt b.toInt = true from inZ_t.mpr (by omega)]; rfl) | (rw [show inZ v.toInt a.toInt b.toInt = false from inZ_f.mpr (by omega)]; rfl), rfl⟩
abbrev kX12_cosine : gw_K := (yX12_cosine, cX12_cosine, 2, { frames := 0, cells := 0, slots := 0, locals := 0 }, (some .int))
theorem ok_X12_cosine : gw_calS kX12_cosine 2 := ⟨⟨wd_964, wd_62, by decide, by decide, by decide +kernel⟩, wd_963⟩
set_option maxHeartbeats 4000000 in
set_option maxRecDepth 100000 in
theorem c_mcosine (l : Launch) (cy : Nat → ClassId) (k : Int32) (x : Int32) (w : va_W) : gw_M l kX12_cosine cy [.int (k), .int (x)] w (fun r w' => r = some (.int (mCos k x)) ∧ w' = w) := by
  refine gw_M.mk (lv := [some (.int (k)), some (.int (x))]) (by decide) (Nat.le_of_ble_eq_true rfl) rfl ?_
  generalize hpost : (fun r w' => r = some (.int (mCos k x)) ∧ w' = w : gw_Q) = post
  refine gw_iload_n dX12_cosine_0 rfl ?_
  refine gw_bipush (v := nI (16)) dX12_cosine_1 (by decide) ?_
  refine gw_iconst (v := nI (5)) dX12_cosine_3 (by decide) ?_
  refine gw_iload_n dX12_cosine_4 rfl ?_
  refine gw_imul dX12_cosine_5 ?_
  refine gw_isub dX12_cosine_6 ?_
  refine gw_ishr dX12_cosine_7 ?_
  refine gw_bipush (v := nI (15)) dX12_cosine_8 (by decide) ?_
  refine gw_iand dX12_cosine_10 ?_
  refine gw_iret (?_) (by decide) (by decide) rfl dX12_cosine_11
  subst hpost
  exact ⟨rfl, rfl⟩
abbrev kX12_sine : gw_K := (yX12_sine, cX12_sine, 2, { frames := 0, cells := 0, slots := 0, locals := 0 }, (some .int))
theorem ok_X12_sine : gw_calS kX12_sine 2 := ⟨⟨wd_1020, wd_62, by decide, by decide, by decide +kernel⟩, wd_1019⟩
set_option maxHeartbeats 4000000 in
set_option maxRecDepth 100000 in
theorem c_msine (l : Launch) (cy : Nat → ClassId) (k : Int32) (x : Int32) (w : va_W) : gw_M l kX12_sine cy [.int (k), .int (x)] w (fun r w' => r = some (.int (mSin k x)) ∧ w' = w) := by
  refine gw_M.mk (lv := [some (.int (k)), some (.int (x))]) (by decide) (Nat.le_of_ble_eq_true rfl) rfl ?_
  generalize hpost : (fun r w' => r = some (.int (mSin k x)) ∧ w' = w : gw_Q) = post
  refine gw_iload_n dX12_sine_0 rfl ?_
  refine gw_bipush (v := nI (15)) dX12_sine_1 (by decide) ?_
  refine gw_iconst (v := nI (5)) dX12_sine_3 (by decide) ?_
  refine gw_iload_n dX12_sine_4 rfl ?_
  refine gw_imul dX12_sine_5 ?_
  refine gw_isub dX12_sine_6 ?_
  refine gw_ishr dX12_sine_7 ?_
  refine gw_iconst (v := nI (1)) dX12_sine_8 (by decide) ?_
  refine gw_iand dX12_sine_9 ?_
  refine gw_iret (?_) (by decide) (by decide) rfl dX12_sine_10
  subst hpost
  exact ⟨rfl, rfl⟩
abbrev kX12_oneCosine : gw_K := (yX12_oneCosine, cX12_oneCosine, 1, { frames := 0, cells := 0, slots := 0, locals := 0 }, (some .int))
theorem ok_X12_oneCosine : gw_calS kX12_oneCosine 1 := ⟨⟨wd_1017, wd_62, by decide, by decide, by decide +kernel⟩, wd_1016⟩
set_option maxHeartbeats 4000000 in
set_option maxRecDepth 100000 in
theorem c_moneCosine (l : Launch) (cy : Nat → ClassId) (x : Int32) (w : va_W) : gw_M l kX12_oneCosine cy [.int (x)] w (fun r w' => r = some (.int (mOneC x)) ∧ w' = w) := by
  refine gw_M.mk (lv := [some (.int (x))]) (by decide) (Nat.le_of_ble_eq_true rfl) rfl ?_
  generalize hpost : (fun r w' => r = some (.int (mOneC x)) ∧ w' = w : gw_Q) = post
  refine gw_iconst (v := nI (1)) dX12_oneCosine_0 (by decide) ?_
  refine gw_bipush (v := nI (16)) dX12_oneCosine_1 (by decide) ?_
  refine gw_iconst (v := nI (5)) dX12_oneCosine_3 (by decide) ?_
  refine gw_iload_n dX12_oneCosine_4 rfl ?_
  refine gw_imul dX12_oneCosine_5 ?_
  refine gw_isub dX12_oneCosine_6 ?_
  refine gw_ishl dX12_oneCosine_7 ?_
  refine gw_iret (?_) (by decide) (by decide) rfl dX12_oneCosine_8
  subst hpost
  exact ⟨rfl, rfl⟩
abbrev kX12_oneSine : gw_K := (yX12_oneSine, cX12_oneSine, 1, { frames := 0, cells := 0, slots := 0, locals := 0 }, (some .int))
theorem ok_X12_oneSine : gw_calS kX12_oneSine 1 := ⟨⟨wd_1023, wd_62, by decide, by decide, by decide +kernel⟩, wd_1022⟩
set_option maxHeartbeats 4000000 in
set_option maxRecDepth 100000 in
theorem c_moneSine (l : Launch) (cy : Nat → ClassId) (x : Int32) (w : va_W) : gw_M l kX12_oneSine cy [.int (x)] w (fun r w' => r = some (.int (mOneS x)) ∧ w' = w) := by
  refine gw_M.mk (lv := [some (.int (x))]) (by decide) (Nat.le_of_ble_eq_true rfl) rfl ?_
  generalize hpost : (fun r w' => r = some (.int (mOneS x)) ∧ w' = w : gw_Q) = post
  refine gw_iconst (v := nI (1)) dX12_oneSine_0 (by decide) ?_
  refine gw_bipush (v := nI (15)) dX12_oneSine_1 (by decide) ?_
  refine gw_iconst (v := nI (5)) dX12_oneSine_3 (by decide) ?_
  refine gw_iload_n dX12_oneSine_4 rfl ?_
  refine gw_imul dX12_oneSine_5 ?_
  refine gw_isub dX12_oneSine_6 ?_
  refine gw_ishl dX12_oneSine_7 ?_
  refine gw_iret (?_) (by decide) (by decide) rfl dX12_oneSine_8
  subst hpost
  exact ⟨rfl, rfl⟩
abbrev kX12_productOf : gw_K := (yX12_productOf, cX12_productOf, 1, { frames := 0, cells := 0, slots := 0, locals := 0 }, (some .int))
theorem ok_X12_productOf : gw_calS kX12_productOf 1 := ⟨⟨wd_994, wd_62, by decide, by decide, by decide +kernel⟩, wd_993⟩
set_option maxHeartbeats 4000000 in
set_option maxRecDepth 100000 in
theorem c_mproductOf (l : Launch) (cy : Nat → ClassId) (k : Int32) (w : va_W) : gw_M l kX12_productOf cy [.int (k)] w (fun r w' => r = some (.int (mProd k)) ∧ w' = w) := by
  refine gw_M.mk (lv := [some (.int (k))]) (by decide) (Nat.le_of_ble_eq_true rfl) rfl ?_
  generalize hpost : (fun r w' => r = some (.int (mProd k)) ∧ w' = w : gw_Q) = post
  refine gw_iload_n dX12_productOf_0 rfl ?_
  refine gw_bipush (v := nI (20)) dX12_productOf_1 (by decide) ?_
  refine gw_ishr dX12_productOf_3 ?_
  refine gw_iret (?_) (by decide) (by decide) rfl dX12_productOf_4
  subst hpost
  exact ⟨rfl, rfl⟩
abbrev kX12_isTable : gw_K := (yX12_isTable, cX12_isTable, 1, { frames := 1, cells := 0, slots := 0, locals := 25 }, (some .boolean))
theorem ok_X12_isTable : gw_calS kX12_isTable 1 := ⟨⟨wd_897, wd_62, by decide, by decide, by decide +kernel⟩, wd_896⟩
set_option maxHeartbeats 4000000 in
set_option maxRecDepth 100000 in
theorem c_misTable (l : Launch) (cy : Nat → ClassId) (k : Int32) (w : va_W) : gw_M l kX12_isTable cy [.int (k)] w (fun r w' => r = some (.int (bI (inZ k.toInt 0 7))) ∧ w' = w) := by
  refine gw_M.mk (lv := [some (.int (k))]) (by decide) (Nat.le_of_ble_eq_true rfl) rfl ?_
  generalize hpost : (fun r w' => r = some (.int (bI (inZ k.toInt 0 7))) ∧ w' = w : gw_Q) = post
  refine gw_iload_n dX12_isTable_0 rfl ?_
  refine gw_i2l dX12_isTable_1 rfl ?_
  refine gw_lconst (v := (0 : Int64)) dX12_isTable_2 (by decide) ?_
  refine gw_ldc2 dX12_isTable_3 wd_898 ?_
  refine gw_callS (As := [.long ((k).toInt64), .long ((0 : Int64)), .long ((7 : Int64))]) (st := []) (c_min l cy ((k).toInt64) ((0 : Int64)) ((7 : Int64)) w) ok_X12_in wd_899 rfl rfl dX12_isTable_6 (by decide) (by decide) (Nat.le_of_ble_eq_true rfl) (fun r6 w6 hp6 => ?_)
  obtain ⟨rfl, rfl⟩ := hp6
  refine gw_W.norm (st' := [.int (bI (inZ ((k).toInt64).toInt ((0 : Int64)).toInt ((7 : Int64)).toInt))]) (k1 := 0) (k2 := 0) rfl rfl rfl ?_
  refine gw_zret (?_) (by decide) (by decide) rfl (bI_nar _) dX12_isTable_9
  subst hpost
  exact ⟨by rw [i64_of]; rfl, rfl⟩
abbrev kX12_isShelf : gw_K := (yX12_isShelf, cX12_isShelf, 1, { frames := 1, cells := 0, slots := 0, locals := 25 }, (some .boolean))
theorem ok_X12_isShelf : gw_calS kX12_isShelf 1 := ⟨⟨wd_931, wd_62, by decide, by decide, by decide +kernel⟩, wd_930⟩
set_option maxHeartbeats 4000000 in
set_option maxRecDepth 100000 in
theorem c_misShelf (l : Launch) (cy : Nat → ClassId) (k : Int32) (w : va_W) : gw_M l kX12_isShelf cy [.int (k)] w (fun r w' => r = some (.int (bI (inZ k.toInt (-1) 7))) ∧ w' = w) := by
  refine gw_M.mk (lv := [some (.int (k))]) (by decide) (Nat.le_of_ble_eq_true rfl) rfl ?_
  generalize hpost : (fun r w' => r = some (.int (bI (inZ k.toInt (-1) 7))) ∧ w' = w : gw_Q) = post
  refine gw_iload_n dX12_isShelf_0 rfl ?_
  refine gw_i2l dX12_isShelf_1 rfl ?_
  refine gw_ldc2 dX12_isShelf_2 wd_932 ?_
  refine gw_ldc2 dX12_isShelf_5 wd_898 ?_
  refine gw_callS (As := [.long ((k).toInt64), .long (((-1) : Int64)), .long ((7 : Int64))]) (st := []) (c_min l cy ((k).toInt64) (((-1) : Int64)) ((7 : Int64)) w) ok_X12_in wd_899 rfl rfl dX12_isShelf_8 (by decide) (by decide) (Nat.le_of_ble_eq_true rfl) (fun r8 w8 hp8 => ?_)
  obtain ⟨rfl, rfl⟩ := hp8
  refine gw_W.norm (st' := [.int (bI (inZ ((k).toInt64).toInt (((-1) : Int64)).toInt ((7 : Int64)).toInt))]) (k1 := 0) (k2 := 0) rfl rfl rfl ?_
  refine gw_zret (?_) (by decide) (by decide) rfl (bI_nar _) dX12_isShelf_11
  subst hpost
  exact ⟨by rw [i64_of]; rfl, rfl⟩
abbrev kX12_finds : gw_K := (yX12_finds, cX12_finds, 2, { frames := 0, cells := 0, slots := 0, locals := 0 }, (some .int))
theorem ok_X12_finds : gw_calV kX12_finds 1 := ⟨⟨wd_907, wd_62, by decide, by decide, by decide +kernel⟩, wd_906, wd_32⟩
set_option maxHeartbeats 4000000 in
set_option maxRecDepth 100000 in
theorem c_mfinds (l : Launch) (cy : Nat → ClassId) (ad : Nat → Nat) (iv : Nat → Int32) (ia : Nat → Nat → Int32) (la : Nat → Nat → Int64) (f : Int32) : gw_M l kX12_finds cy [.ref (ad 0), .int (f)] (mW cy ad iv ia la) (fun r w' => r = some (.int ((-1000010) - f)) ∧ w' = mW cy ad (va_up iv 19 f) ia la) := by
  refine gw_M.mk (lv := [some (.ref (ad 0)), some (.int (f))]) (by decide) (Nat.le_of_ble_eq_true rfl) rfl ?_
  generalize hpost : (fun r w' => r = some (.int ((-1000010) - f)) ∧ w' = mW cy ad (va_up iv 19 f) ia la : gw_Q) = post
  refine gw_aload_n dX12_finds_0 rfl ?_
  refine gw_iload_n dX12_finds_1 rfl ?_
  refine gm_put_status rfl dX12_finds_2 ?_
  refine gw_W.wd (w' := (mW cy ad (va_up iv 19 (f)) ia la)) rfl ?_
  refine gw_ldc dX12_finds_5 wd_908 ?_
  refine gw_iload_n dX12_finds_7 rfl ?_
  refine gw_isub dX12_finds_8 ?_
  refine gw_iret (?_) (by decide) (by decide) rfl dX12_finds_9
  subst hpost
  exact ⟨rfl, rfl⟩
abbrev kX12_well : gw_K := (yX12_well, cX12_well, 2, { frames := 0, cells := 0, slots := 0, locals := 0 }, (some .int))
theorem ok_X12_well : gw_calV kX12_well 1 := ⟨⟨wd_912, wd_62, by decide, by decide, by decide +kernel⟩, wd_911, wd_33⟩
set_option maxHeartbeats 4000000 in
set_option maxRecDepth 100000 in
theorem c_mwell (l : Launch) (cy : Nat → ClassId) (ad : Nat → Nat) (iv : Nat → Int32) (ia : Nat → Nat → Int32) (la : Nat → Nat → Int64) (v : Int32) : gw_M l kX12_well cy [.ref (ad 0), .int (v)] (mW cy ad iv ia la) (fun r w' => r = some (.int v) ∧ w' = mW cy ad (va_up iv 19 0) ia la) := by
  refine gw_M.mk (lv := [some (.ref (ad 0)), some (.int (v))]) (by decide) (Nat.le_of_ble_eq_true rfl) rfl ?_
  generalize hpost : (fun r w' => r = some (.int v) ∧ w' = mW cy ad (va_up iv 19 0) ia la : gw_Q) = post
  refine gw_aload_n dX12_well_0 rfl ?_
  refine gw_iconst (v := nI (0)) dX12_well_1 (by decide) ?_
  refine gm_put_status rfl dX12_well_2 ?_
  refine gw_W.wd (w' := (mW cy ad (va_up iv 19 (nI (0))) ia la)) rfl ?_
  refine gw_iload_n dX12_well_5 rfl ?_
  refine gw_iret (?_) (by decide) (by decide) rfl dX12_well_6
  subst hpost
  exact ⟨rfl, rfl⟩
abbrev kX12_isProduct : gw_K := (yX12_isProduct, cX12_isProduct, 2, { frames := 1, cells := 0, slots := 0, locals := 25 }, (some .boolean))
theorem ok_X12_isProduct : gw_calV kX12_isProduct 1 := ⟨⟨wd_943, wd_62, by decide, by decide, by decide +kernel⟩, wd_942, wd_34⟩
set_option maxHeartbeats 4000000 in
set_option maxRecDepth 100000 in
theorem c_misProduct (l : Launch) (cy : Nat → ClassId) (ad : Nat → Nat) (iv : Nat → Int32) (ia : Nat → Nat → Int32) (la : Nat → Nat → Int64) (p : Int32) (np : Nat) (hnp : iv 1 = nI np) (h0 : 0 < np) (h1 : np < 2 ^ 31) : gw_M l kX12_isProduct cy [.ref (ad 0), .int (p)] (mW cy ad iv ia la) (fun r w' => r = some (.int (bI (inZ p.toInt 0 (np - 1)))) ∧ w' = mW cy ad iv ia la) := by
  refine gw_M.mk (lv := [some (.ref (ad 0)), some (.int (p))]) (by decide) (Nat.le_of_ble_eq_true rfl) rfl ?_
  generalize hpost : (fun r w' => r = some (.int (bI (inZ p.toInt 0 (np - 1)))) ∧ w' = mW cy ad iv ia la : gw_Q) = post
  refine gw_iload_n dX12_isProduct_0 rfl ?_
  refine gw_i2l dX12_isProduct_1 rfl ?_
  refine gw_lconst (v := (0 : Int64)) dX12_isProduct_2 (by decide) ?_
  refine gw_aload_n dX12_isProduct_3 rfl ?_
  refine gm_get_products rfl dX12_isProduct_4 ?_
  refine gw_topi (y := nI (np)) (hnp) ?_
  refine gw_iconst (v := nI (1)) dX12_isProduct_7 (by decide) ?_
  refine gw_isubN dX12_isProduct_8 (by omega) ?_
  refine gw_i2l dX12_isProduct_9 rfl ?_
  refine gw_callS (As := [.long ((p).toInt64), .long ((0 : Int64)), .long ((nI ((np) - (1))).toInt64)]) (st := []) (c_min l cy ((p).toInt64) ((0 : Int64)) ((nI ((np) - (1))).toInt64) (mW cy ad iv ia la)) ok_X12_in wd_899 rfl rfl dX12_isProduct_10 (by decide) (by decide) (Nat.le_of_ble_eq_true rfl) (fun r10 w10 hp10 => ?_)
  obtain ⟨rfl, rfl⟩ := hp10
  refine gw_W.norm (st' := [.int (bI (inZ ((p).toInt64).toInt ((0 : Int64)).toInt ((nI ((np) - (1))).toInt64).toInt))]) (k1 := 0) (k2 := 0) rfl rfl rfl ?_
  refine gw_zret (?_) (by decide) (by decide) rfl (bI_nar _) dX12_isProduct_13
  subst hpost
  refine ⟨?_, rfl⟩
  rw [i64_of, i64_of, nI_toInt (by omega), show ((np - 1 : Nat) : Int) = (np : Int) - 1 by omega]; rfl
abbrev kX12_isWay : gw_K := (yX12_isWay, cX12_isWay, 1, { frames := 0, cells := 0, slots := 0, locals := 0 }, (some .boolean))
theorem ok_X12_isWay : gw_calS kX12_isWay 1 := ⟨⟨wd_1010, wd_62, by decide, by decide, by decide +kernel⟩, wd_1009⟩
set_option maxHeartbeats 4000000 in
set_option maxRecDepth 100000 in
theorem c_misWay (l : Launch) (cy : Nat → ClassId) (x : Int32) (w : va_W) : gw_M l kX12_isWay cy [.int (x)] w (fun r w' => r = some (.int (bI (decide (x = 1 ∨ x = -1)))) ∧ w' = w) := by
  refine gw_M.mk (lv := [some (.int (x))]) (by decide) (Nat.le_of_ble_eq_true rfl) rfl ?_
  generalize hpost : (fun r w' => r = some (.int (bI (decide (x = 1 ∨ x = -1)))) ∧ w' = w : gw_Q) = post
  refine gw_iload_n dX12_isWay_0 rfl ?_
  refine gw_iconst (v := nI (1)) dX12_isWay_1 (by decide) ?_
  refine gw_icmp_eq (tgt := 10) dX12_isWay_2 (by decide) (fun c2 => ?_) (fun c2 => ?_)
  · refine gw_iconst (v := nI (1)) dX12_isWay_10 (by decide) ?_
    refine gw_goto (tgt := 15) dX12_isWay_11 (by decide) ?_
    refine gw_zret (?_) (by decide) (by decide) rfl (by decide) dX12_isWay_15
    subst hpost
    refine ⟨?_, rfl⟩
    first
      | (rw [show decide (x = 1 ∨ x = -1) = true from decide_eq_true (by first | exact Or.inl c2 | exact Or.inr c7)]; rfl)
      | (rw [show decide (x = 1 ∨ x = -1) = false from decide_eq_false (fun h => by rcases h with h | h; exact c2 h; exact c7 h)]; rfl)
  · refine gw_iload_n dX12_isWay_5 rfl ?_
    refine gw_iconst (v := (-1 : Int32)) dX12_isWay_6 (by decide) ?_
    refine gw_icmp_ne (tgt := 14) dX12_isWay_7 (by decide) (fun c7 => ?_) (fun c7 => ?_)
    · refine gw_iconst (v := nI (0)) dX12_isWay_14 (by decide) ?_
      refine gw_zret (?_) (by decide) (by decide) rfl (by decide) dX12_isWay_15
      subst hpost
      refine ⟨?_, rfl⟩
      first
        | (rw [show decide (x = 1 ∨ x = -1) = true from decide_eq_true (by first | exact Or.inl c2 | exact Or.inr c7)]; rfl)
        | (rw [show decide (x = 1 ∨ x = -1) = false from decide_eq_false (fun h => by rcases h with h | h; exact c2 h; exact c7 h)]; rfl)
    · refine gw_iconst (v := nI (1)) dX12_isWay_10 (by decide) ?_
      refine gw_goto (tgt := 15) dX12_isWay_11 (by decide) ?_
      refine gw_zret (?_) (by decide) (by decide) rfl (by decide) dX12_isWay_15
      subst hpost
      refine ⟨?_, rfl⟩
      first
        | (rw [show decide (x = 1 ∨ x = -1) = true from decide_eq_true (by first | exact Or.inl c2 | exact Or.inr c7)]; rfl)
        | (rw [show decide (x = 1 ∨ x = -1) = false from decide_eq_false (fun h => by rcases h with h | h; exact c2 h; exact c7 h)]; rfl)
abbrev kX12_placeOf : gw_K := (yX12_placeOf, cX12_placeOf, 1, { frames := 0, cells := 0, slots := 0, locals := 0 }, (some .int))
theorem ok_X12_placeOf : gw_calS kX12_placeOf 1 := ⟨⟨wd_935, wd_62, by decide, by decide, by decide +kernel⟩, wd_934⟩
set_option maxHeartbeats 4000000 in
set_option maxRecDepth 100000 in
theorem c_mplaceOf (l : Launch) (cy : Nat → ClassId) (s : Int32) (hs : inZ s.toInt (-1) 7 = true) (w : va_W) : gw_M l kX12_placeOf cy [.int (s)] w (fun r w' => r = some (.int (nI (mPl s))) ∧ w' = w) := by
  refine gw_M.mk (lv := [some (.int (s))]) (by decide) (Nat.le_of_ble_eq_true rfl) rfl ?_
  generalize hpost : (fun r w' => r = some (.int (nI (mPl s))) ∧ w' = w : gw_Q) = post
  rw [inZ_t] at hs
  refine gw_iload_n dX12_placeOf_0 rfl ?_
  refine gw_if_ge (tgt := 9) dX12_placeOf_1 (by decide) (fun c1 => ?_) (fun c1 => ?_)
  · refine gw_iload_n dX12_placeOf_9 rfl ?_
    refine gw_iret (?_) (by decide) (by decide) rfl dX12_placeOf_10
    subst hpost
    refine ⟨?_, rfl⟩
    rw [i32_le] at c1
    first
      | (have : mPl s = 8 := if_pos (by have : (0 : Int32).toInt = 0 := by decide
                                        omega)
         rw [this])
      | (have h0 : (0 : Int32).toInt = 0 := by decide
         have e0 : mPl s = s.toInt.toNat := if_neg (by omega)
         rw [e0]
         congr 2
         rw [i32_eq, nI_toInt (by omega)]; omega)
  · refine gw_bipush (v := nI (8)) dX12_placeOf_4 (by decide) ?_
    refine gw_goto (tgt := 10) dX12_placeOf_6 (by decide) ?_
    refine gw_iret (?_) (by decide) (by decide) rfl dX12_placeOf_10
    subst hpost
    refine ⟨?_, rfl⟩
    rw [i32_le] at c1
    first
      | (have : mPl s = 8 := if_pos (by have : (0 : Int32).toInt = 0 := by decide
                                        omega)
         rw [this])
      | (have h0 : (0 : Int32).toInt = 0 := by decide
         have e0 : mPl s = s.toInt.toNat := if_neg (by omega)
         rw [e0]
         congr 2
         rw [i32_eq, nI_toInt (by omega)]; omega)
abbrev kX12_status : gw_K := (yX12_status, cX12_status, 1, { frames := 0, cells := 0, slots := 0, locals := 0 }, (some .int))
theorem ok_X12_status : gw_calV kX12_status 0 := ⟨⟨wd_1163, wd_62, by decide, by decide, by decide +kernel⟩, wd_1161, wd_1162⟩
set_option maxHeartbeats 4000000 in
set_option maxRecDepth 100000 in
theorem c_mstatus (l : Launch) (cy : Nat → ClassId) (ad : Nat → Nat) (iv : Nat → Int32) (ia : Nat → Nat → Int32) (la : Nat → Nat → Int64)  : gw_M l kX12_status cy [.ref (ad 0)] (mW cy ad iv ia la) (fun r w' => r = some (.int (iv 19)) ∧ w' = mW cy ad iv ia la) := by
  refine gw_M.mk (lv := [some (.ref (ad 0))]) (by decide) (Nat.le_of_ble_eq_true rfl) rfl ?_
  generalize hpost : (fun r w' => r = some (.int (iv 19)) ∧ w' = mW cy ad iv ia la : gw_Q) = post
  refine gw_aload_n dX12_status_0 rfl ?_
  refine gm_get_status rfl dX12_status_1 ?_
  refine gw_iret (?_) (by decide) (by decide) rfl dX12_status_4
  subst hpost
  exact ⟨rfl, rfl⟩
abbrev kX12_told : gw_K := (yX12_told, cX12_told, 2, { frames := 0, cells := 0, slots := 0, locals := 0 }, (some .int))
theorem ok_X12_told : gw_calV kX12_told 1 := ⟨⟨wd_1155, wd_62, by decide, by decide, by decide +kernel⟩, wd_1153, wd_1154⟩
set_option maxHeartbeats 4000000 in
set_option maxRecDepth 100000 in
theorem c_mtold (l : Launch) (cy : Nat → ClassId) (ad : Nat → Nat) (iv : Nat → Int32) (ia : Nat → Nat → Int32) (la : Nat → Nat → Int64) (x : Int32) : gw_M l kX12_told cy [.ref (ad 0), .int (x)] (mW cy ad iv ia la) (fun r w' => r = some (.int (if x = 0 then iv 22 else if x = 1 then iv 23 else -1000001)) ∧ w' = mW cy ad iv ia la) := by
  refine gw_M.mk (lv := [some (.ref (ad 0)), some (.int (x))]) (by decide) (Nat.le_of_ble_eq_true rfl) rfl ?_
  generalize hpost : (fun r w' => r = some (.int (if x = 0 then iv 22 else if x = 1 then iv 23 else -1000001)) ∧ w' = mW cy ad iv ia la : gw_Q) = post
  refine gw_iload_n dX12_told_0 rfl ?_
  refine gw_if_ne (tgt := 11) dX12_told_1 (by decide) (fun c1 => ?_) (fun c1 => ?_)
  · refine gw_iload_n dX12_told_11 rfl ?_
    refine gw_iconst (v := nI (1)) dX12_told_12 (by decide) ?_
    refine gw_icmp_ne (tgt := 23) dX12_told_13 (by decide) (fun c13 => ?_) (fun c13 => ?_)
    · refine gw_ldc dX12_told_23 wd_903 ?_
      refine gw_iret (?_) (by decide) (by decide) rfl dX12_told_25
      subst hpost
      refine ⟨?_, rfl⟩
      simp_all [show nI 1 = (1 : Int32) from rfl]
    · refine gw_aload_n dX12_told_16 rfl ?_
      refine gm_get_latest rfl dX12_told_17 ?_
      refine gw_goto (tgt := 25) dX12_told_20 (by decide) ?_
      refine gw_iret (?_) (by decide) (by decide) rfl dX12_told_25
      subst hpost
      refine ⟨?_, rfl⟩
      simp_all [show nI 1 = (1 : Int32) from rfl]
  · refine gw_aload_n dX12_told_4 rfl ?_
    refine gm_get_steps rfl dX12_told_5 ?_
    refine gw_goto (tgt := 25) dX12_told_8 (by decide) ?_
    refine gw_iret (?_) (by decide) (by decide) rfl dX12_told_25
    subst hpost
    refine ⟨?_, rfl⟩
    simp_all [show nI 1 = (1 : Int32) from rfl]
abbrev kX12_isOp : gw_K := (yX12_isOp, cX12_isOp, 2, { frames := 1, cells := 0, slots := 0, locals := 25 }, (some .boolean))
theorem ok_X12_isOp : gw_calV kX12_isOp 1 := ⟨⟨wd_1107, wd_62, by decide, by decide, by decide +kernel⟩, wd_1106, wd_49⟩
set_option maxHeartbeats 4000000 in
set_option maxRecDepth 100000 in
theorem c_misOp (l : Launch) (cy : Nat → ClassId) (ad : Nat → Nat) (iv : Nat → Int32) (ia : Nat → Nat → Int32) (la : Nat → Nat → Int64) (k : Int32) (n : Nat) (hn : iv 12 = nI n) (h1 : n < 2 ^ 31) : gw_M l kX12_isOp cy [.ref (ad 0), .int (k)] (mW cy ad iv ia la) (fun r w' => r = some (.int (bI (inZ k.toInt 0 ((n : Int) - 1)))) ∧ w' = mW cy ad iv ia la) := by
  refine gw_M.mk (lv := [some (.ref (ad 0)), some (.int (k))]) (by decide) (Nat.le_of_ble_eq_true rfl) rfl ?_
  generalize hpost : (fun r w' => r = some (.int (bI (inZ k.toInt 0 ((n : Int) - 1)))) ∧ w' = mW cy ad iv ia la : gw_Q) = post
  refine gw_iload_n dX12_isOp_0 rfl ?_
  refine gw_i2l dX12_isOp_1 rfl ?_
  refine gw_lconst (v := (0 : Int64)) dX12_isOp_2 (by decide) ?_
  refine gw_aload_n dX12_isOp_3 rfl ?_
  refine gm_get_ops rfl dX12_isOp_4 ?_
  refine gw_topi (y := nI (n)) (hn) ?_
  refine gw_iconst (v := nI (1)) dX12_isOp_7 (by decide) ?_
  refine gw_isub dX12_isOp_8 ?_
  refine gw_i2l dX12_isOp_9 rfl ?_
  refine gw_callS (As := [.long ((k).toInt64), .long ((0 : Int64)), .long (((nI (n)) - (nI (1))).toInt64)]) (st := []) (c_min l cy ((k).toInt64) ((0 : Int64)) (((nI (n)) - (nI (1))).toInt64) (mW cy ad iv ia la)) ok_X12_in wd_899 rfl rfl dX12_isOp_10 (by decide) (by decide) (Nat.le_of_ble_eq_true rfl) (fun r10 w10 hp10 => ?_)
  obtain ⟨rfl, rfl⟩ := hp10
  refine gw_W.norm (st' := [.int (bI (inZ ((k).toInt64).toInt ((0 : Int64)).toInt (((nI (n)) - (nI (1))).toInt64).toInt))]) (k1 := 0) (k2 := 0) rfl rfl rfl ?_
  refine gw_zret (?_) (by decide) (by decide) rfl (bI_nar _) dX12_isOp_13
  subst hpost
  refine ⟨?_, rfl⟩
  rw [i64_of, i64_of, show (nI n - nI 1).toInt = (n : Int) - 1 from by rw [i32_sub1 n h1]]; rfl
theorem mPl_lt {s : Int32} (h : inZ s.toInt (-1) 7 = true) : mPl s < 9 := by
  rw [inZ_t] at h; unfold mPl; split <;> omega
abbrev kX12_terms : gw_K := (yX12_terms, cX12_terms, 2, { frames := 2, cells := 0, slots := 0, locals := 45 }, (some .int))
theorem ok_X12_terms : gw_calV kX12_terms 1 := ⟨⟨wd_1027, wd_62, by decide, by decide, by decide +kernel⟩, wd_1025, wd_1026⟩
set_option maxHeartbeats 4000000 in
set_option maxRecDepth 100000 in
theorem c_mterms (l : Launch) (cy : Nat → ClassId) (ad : Nat → Nat) (iv : Nat → Int32) (ia : Nat → Nat → Int32) (la : Nat → Nat → Int64) (s : Int32) : gw_M l kX12_terms cy [.ref (ad 0), .int (s)] (mW cy ad iv ia la) (fun r w' => r = some (.int (if inZ s.toInt (-1) 7 = true then ia 6 (mPl s) else -1000001)) ∧ w' = mW cy ad iv ia la) := by
  refine gw_M.mk (lv := [some (.ref (ad 0)), some (.int (s))]) (by decide) (Nat.le_of_ble_eq_true rfl) rfl ?_
  generalize hpost : (fun r w' => r = some (.int (if inZ s.toInt (-1) 7 = true then ia 6 (mPl s) else -1000001)) ∧ w' = mW cy ad iv ia la : gw_Q) = post
  refine gw_iload_n dX12_terms_0 rfl ?_
  refine gw_callS (As := [.int (s)]) (st := []) (c_misShelf l cy (s) (mW cy ad iv ia la)) ok_X12_isShelf wd_929 rfl rfl dX12_terms_1 (by decide) (by decide) (Nat.le_of_ble_eq_true rfl) (fun r1 w1 hp1 => ?_)
  obtain ⟨rfl, rfl⟩ := hp1
  refine gw_W.norm (st' := [.int (bI (inZ (s).toInt (-1) 7))]) (k1 := 0) (k2 := 0) rfl rfl rfl ?_
  refine gw_if_eq (tgt := 19) dX12_terms_4 (by decide) (fun c4 => ?_) (fun c4 => ?_)
  · rw [bI_0] at c4
    refine gw_ldc dX12_terms_19 wd_903 ?_
    refine gw_iret (?_) (by decide) (by decide) rfl dX12_terms_21
    subst hpost
    exact ⟨by first | rw [if_pos c4] | rw [if_neg (by rw [c4]; decide)], rfl⟩
  · rw [bI_n0] at c4
    refine gw_aload_n dX12_terms_7 rfl ?_
    refine gm_get_many rfl dX12_terms_8 ?_
    refine gw_iload_n dX12_terms_11 rfl ?_
    refine gw_callS (As := [.int (s)]) (st := [.ref (ad 6)]) (c_mplaceOf l cy (s) (c4) (mW cy ad iv ia la)) ok_X12_placeOf wd_933 rfl rfl dX12_terms_12 (by decide) (by decide) (Nat.le_of_ble_eq_true rfl) (fun r12 w12 hp12 => ?_)
    obtain ⟨rfl, rfl⟩ := hp12
    refine gw_W.norm (st' := [.int (nI (mPl (s))), .ref (ad 6)]) (k1 := 0) (k2 := 0) rfl rfl rfl ?_
    refine gm_ld_many (j := mPl (s)) (rfl) (by have := mPl_lt c4; omega) dX12_terms_15 ?_
    refine gw_goto (tgt := 21) dX12_terms_16 (by decide) ?_
    refine gw_iret (?_) (by decide) (by decide) rfl dX12_terms_21
    subst hpost
    exact ⟨by first | rw [if_pos c4] | rw [if_neg (by rw [c4]; decide)], rfl⟩
abbrev kX12_clear : gw_K := (yX12_clear, cX12_clear, 3, { frames := 2, cells := 0, slots := 0, locals := 45 }, (some .int))
theorem ok_X12_clear : gw_calV kX12_clear 1 := ⟨⟨wd_928, wd_62, by decide, by decide, by decide +kernel⟩, wd_926, wd_927⟩
set_option maxHeartbeats 4000000 in
set_option maxRecDepth 100000 in
theorem c_mclear (l : Launch) (cy : Nat → ClassId) (ad : Nat → Nat) (iv : Nat → Int32) (ia : Nat → Nat → Int32) (la : Nat → Nat → Int64) (s : Int32) : gw_M l kX12_clear cy [.ref (ad 0), .int (s)] (mW cy ad iv ia la) (fun r w' => r = some (.int (if inZ s.toInt (-1) 7 = true then ia 6 (mPl s) else -1000001)) ∧ w' = (if inZ s.toInt (-1) 7 = true then mW cy ad iv (va_up ia 6 (upd (ia 6) (mPl s) 0)) la else mW cy ad iv ia la)) := by
  refine gw_M.mk (lv := [some (.ref (ad 0)), some (.int (s)), none]) (by decide) (Nat.le_of_ble_eq_true rfl) rfl ?_
  generalize hpost : (fun r w' => r = some (.int (if inZ s.toInt (-1) 7 = true then ia 6 (mPl s) else -1000001)) ∧ w' = (if inZ s.toInt (-1) 7 = true then mW cy ad iv (va_up ia 6 (upd (ia 6) (mPl s) 0)) la else mW cy ad iv ia la) : gw_Q) = post
  refine gw_iload_n dX12_clear_0 rfl ?_
  refine gw_callS (As := [.int (s)]) (st := []) (c_misShelf l cy (s) (mW cy ad iv ia la)) ok_X12_isShelf wd_929 rfl rfl dX12_clear_1 (by decide) (by decide) (Nat.le_of_ble_eq_true rfl) (fun r1 w1 hp1 => ?_)
  obtain ⟨rfl, rfl⟩ := hp1
  refine gw_W.norm (st' := [.int (bI (inZ (s).toInt (-1) 7))]) (k1 := 0) (k2 := 0) rfl rfl rfl ?_
  refine gw_if_ne (tgt := 10) dX12_clear_4 (by decide) (fun c4 => ?_) (fun c4 => ?_)
  · rw [bI_n0] at c4
    refine gw_aload_n dX12_clear_10 rfl ?_
    refine gm_get_many rfl dX12_clear_11 ?_
    refine gw_iload_n dX12_clear_14 rfl ?_
    refine gw_callS (As := [.int (s)]) (st := [.ref (ad 6)]) (c_mplaceOf l cy (s) (c4) (mW cy ad iv ia la)) ok_X12_placeOf wd_933 rfl rfl dX12_clear_15 (by decide) (by decide) (Nat.le_of_ble_eq_true rfl) (fun r15 w15 hp15 => ?_)
    obtain ⟨rfl, rfl⟩ := hp15
    refine gw_W.norm (st' := [.int (nI (mPl (s))), .ref (ad 6)]) (k1 := 0) (k2 := 0) rfl rfl rfl ?_
    refine gm_ld_many (j := mPl (s)) (rfl) (by have := mPl_lt c4; omega) dX12_clear_18 ?_
    refine gw_istore_n dX12_clear_19 (by decide) rfl ?_
    refine gw_aload_n dX12_clear_20 rfl ?_
    refine gm_get_many rfl dX12_clear_21 ?_
    refine gw_iload_n dX12_clear_24 rfl ?_
    refine gw_callS (As := [.int (s)]) (st := [.ref (ad 6)]) (c_mplaceOf l cy (s) (c4) (mW cy ad iv ia la)) ok_X12_placeOf wd_933 rfl rfl dX12_clear_25 (by decide) (by decide) (Nat.le_of_ble_eq_true rfl) (fun r25 w25 hp25 => ?_)
    obtain ⟨rfl, rfl⟩ := hp25
    refine gw_W.norm (st' := [.int (nI (mPl (s))), .ref (ad 6)]) (k1 := 0) (k2 := 0) rfl rfl rfl ?_
    refine gw_iconst (v := nI (0)) dX12_clear_28 (by decide) ?_
    refine gm_st_many (j := mPl (s)) (rfl) (by have := mPl_lt c4; omega) dX12_clear_29 ?_
    refine gw_W.wd (w' := (mW cy ad iv (va_up ia 6 (upd (ia 6) (mPl (s)) (nI (0)))) la)) rfl ?_
    refine gw_iload_n dX12_clear_30 rfl ?_
    refine gw_iret (?_) (by decide) (by decide) rfl dX12_clear_31
    subst hpost
    exact ⟨by first | rw [if_pos c4] | rw [if_neg (by rw [c4]; decide)], by first | (rw [if_pos c4]; rfl) | rw [if_neg (by rw [c4]; decide)]⟩
  · rw [bI_0] at c4
    refine gw_ldc dX12_clear_7 wd_903 ?_
    refine gw_iret (?_) (by decide) (by decide) rfl dX12_clear_9
    subst hpost
    exact ⟨by first | rw [if_pos c4] | rw [if_neg (by rw [c4]; decide)], by first | (rw [if_pos c4]; rfl) | rw [if_neg (by rw [c4]; decide)]⟩
