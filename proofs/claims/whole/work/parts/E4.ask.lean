/-! ask: cost and mark, over the word that the tables lack -/
abbrev tW (cy : Nat → ClassId) (ad sa ta : Nat → Nat) (n ln : Nat) (nx sd lb lf : Int32) (lo : Option Nat) (pg : Nat → Option Nat) (R : va_W) (T : List Int32) (bo : Nat → Int32) : va_W := bW cy ad sa ta n ln T.length nx sd lb lf lo pg bo ++ R
def agT (T : List Int32) (bo : Nat → Int32) : Prop := T.length ≤ 16 ∧ ∀ j, j < T.length → bo j = T.getD j 0
def qT (cy : Nat → ClassId) (ad sa ta : Nat → Nat) (n ln : Nat) (nx sd lb lf : Int32) (lo : Option Nat) (pg : Nat → Option Nat) (R : va_W) (r0 : Option Value) (T : List Int32) : gw_Q := fun r w' => r = r0 ∧ ∃ bo', w' = tW cy ad sa ta n ln nx sd lb lf lo pg R T bo' ∧ agT T bo'
theorem bW_has {cy : Nat → ClassId} {ad sa ta : Nat → Nat} {n ln bb : Nat} {nx sd lb lf : Int32} {lo : Option Nat} {pg : Nat → Option Nat} {bo : Nat → Int32} : gw_has (bW cy ad sa ta n ln bb nx sd lb lf lo pg bo) (ad 0) 9 := ⟨_, by unfold bW; exact List.mem_cons_self ..⟩
theorem t_leave (l : Launch) (cy : Nat → ClassId) (ad sa ta : Nat → Nat) (n ln : Nat) (nx sd lb lf : Int32) (lo : Option Nat) (pg : Nat → Option Nat) (R : va_W) (T : List Int32) (bo : Nat → Int32) (hT : agT T bo) (v : Int32) : gw_M l kX11_leaveBody cy [.ref (ad 0), .int v] (tW cy ad sa ta n ln nx sd lb lf lo pg R T bo) (qT cy ad sa ta n ln nx sd lb lf lo pg R none (trAdd T v)) := (c_bleave l cy ad sa ta n ln T.length nx sd lb lf lo pg bo R v hT.1).less (fun r w' hh => by
  have h1 := trR_add (b := v) (show trR (nI T.length) bo T from ⟨hT.1, rfl, hT.2⟩)
  refine ⟨hh.1, (if T.length < 16 then upd bo T.length v else bo), ?_, h1.1, h1.2.2⟩
  rw [hh.2]
  unfold trAdd
  by_cases h : T.length < 16
  · rw [if_pos h, if_pos h, if_pos h]; unfold tW; rw [List.length_append]; rfl
  · rw [if_neg h, if_neg h, if_neg h])
theorem pop_pc : ∀ n, n < 5 → ∀ m, m < 16 → m < 2 ^ n → nI 2 * popN (nI m) n = nI (2 * pc16 m) := by decide +kernel
abbrev kX5_cost : gw_K := (yX5_cost, cX5_cost, 2, { frames := 1, cells := 0, slots := 0, locals := 21 }, (some .int))
theorem okB_X5_cost : gw_calB kX5_cost 1 := ⟨wd_704, wd_66, by decide, by decide, by decide +kernel⟩
set_option maxHeartbeats 4000000 in
set_option maxRecDepth 100000 in
theorem c_co5_4 (l : Launch) (cy : Nat → ClassId) (ad sa ta : Nat → Nat) (n ln : Nat) (nx sd lb lf : Int32) (lo : Option Nat) (pg : Nat → Option Nat) (R : va_W) (T : List Int32) (bo : Nat → Int32) (hT : agT T bo) (a : Nat) (p : Int32) (ar : Option Nat) (x y z t : Int32) (hm : (a, .inr (4, [.int (p), va_rf (ar), .int (x), .int (y), .int (z)])) ∈ R) : gw_M l kX5_cost cy [.ref (a), .ref (ad 0)] (tW cy ad sa ta n ln nx sd lb lf lo pg R (T) bo) (qT cy ad sa ta n ln nx sd lb lf lo pg R (some (.int (nI (1)))) (trAdd (T) (nI (10)))) := by
  refine gw_M.mk (lv := [some (.ref (a)), some (.ref (ad 0))]) (by decide) (Nat.le_of_ble_eq_true rfl) rfl ?_
  generalize hpost : (qT cy ad sa ta n ln nx sd lb lf lo pg R (some (.int (nI (1)))) (trAdd (T) (nI (10))) : gw_Q) = post
  refine gw_aload_n dX5_cost_0 rfl ?_
  refine gw_bipush (v := nI (10)) dX5_cost_1 (by decide) ?_
  refine gw_callHN (As := [.int (nI (10))]) (st := []) (t_leave l cy ad sa ta n ln nx sd lb lf lo pg R (T) bo hT (nI (10))) ok_X11_leaveBody (bW_has.left) rfl rfl (host := "SpinBench") (by decide +kernel) rfl rfl dX5_cost_3 (by decide) (by decide) (Nat.le_of_ble_eq_true rfl) (fun r3 w3 hp3 => ?_)
  obtain ⟨rfl, bo3, rfl, hT3⟩ := hp3
  refine gw_W.norm (st' := []) (k1 := 0) (k2 := 0) rfl rfl rfl ?_
  refine gw_iconst (v := nI (1)) dX5_cost_6 (by decide) ?_
  refine gw_iret (?_) (by decide) (by decide) rfl dX5_cost_7
  subst hpost
  exact ⟨rfl, _, rfl, hT3⟩
set_option maxHeartbeats 4000000 in
set_option maxRecDepth 100000 in
theorem c_co5_0 (l : Launch) (cy : Nat → ClassId) (ad sa ta : Nat → Nat) (n ln : Nat) (nx sd lb lf : Int32) (lo : Option Nat) (pg : Nat → Option Nat) (R : va_W) (T : List Int32) (bo : Nat → Int32) (hT : agT T bo) (a : Nat) (p : Int32) (ar : Option Nat) (x y z t : Int32) (hm : (a, .inr (0, [.int (x), .int (y), .int (z), .int (p), va_rf (ar), .int (t)])) ∈ R) : gw_M l kX5_cost cy [.ref (a), .ref (ad 0)] (tW cy ad sa ta n ln nx sd lb lf lo pg R (T) bo) (qT cy ad sa ta n ln nx sd lb lf lo pg R (some (.int (nI (1)))) (trAdd (T) (nI (10)))) := by
  refine gw_M.mk (lv := [some (.ref (a)), some (.ref (ad 0))]) (by decide) (Nat.le_of_ble_eq_true rfl) rfl ?_
  generalize hpost : (qT cy ad sa ta n ln nx sd lb lf lo pg R (some (.int (nI (1)))) (trAdd (T) (nI (10))) : gw_Q) = post
  refine gw_aload_n dX5_cost_0 rfl ?_
  refine gw_bipush (v := nI (10)) dX5_cost_1 (by decide) ?_
  refine gw_callHN (As := [.int (nI (10))]) (st := []) (t_leave l cy ad sa ta n ln nx sd lb lf lo pg R (T) bo hT (nI (10))) ok_X11_leaveBody (bW_has.left) rfl rfl (host := "SpinBench") (by decide +kernel) rfl rfl dX5_cost_3 (by decide) (by decide) (Nat.le_of_ble_eq_true rfl) (fun r3 w3 hp3 => ?_)
  obtain ⟨rfl, bo3, rfl, hT3⟩ := hp3
  refine gw_W.norm (st' := []) (k1 := 0) (k2 := 0) rfl rfl rfl ?_
  refine gw_iconst (v := nI (1)) dX5_cost_6 (by decide) ?_
  refine gw_iret (?_) (by decide) (by decide) rfl dX5_cost_7
  subst hpost
  exact ⟨rfl, _, rfl, hT3⟩
set_option maxHeartbeats 4000000 in
set_option maxRecDepth 100000 in
theorem c_co5_1 (l : Launch) (cy : Nat → ClassId) (ad sa ta : Nat → Nat) (n ln : Nat) (nx sd lb lf : Int32) (lo : Option Nat) (pg : Nat → Option Nat) (R : va_W) (T : List Int32) (bo : Nat → Int32) (hT : agT T bo) (a : Nat) (p : Int32) (ar : Option Nat) (x y z t : Int32) (hm : (a, .inr (1, [.int (p), va_rf (ar), .int (x), .int (y), .int (z)])) ∈ R) : gw_M l kX5_cost cy [.ref (a), .ref (ad 0)] (tW cy ad sa ta n ln nx sd lb lf lo pg R (T) bo) (qT cy ad sa ta n ln nx sd lb lf lo pg R (some (.int (nI (1)))) (trAdd (T) (nI (10)))) := by
  refine gw_M.mk (lv := [some (.ref (a)), some (.ref (ad 0))]) (by decide) (Nat.le_of_ble_eq_true rfl) rfl ?_
  generalize hpost : (qT cy ad sa ta n ln nx sd lb lf lo pg R (some (.int (nI (1)))) (trAdd (T) (nI (10))) : gw_Q) = post
  refine gw_aload_n dX5_cost_0 rfl ?_
  refine gw_bipush (v := nI (10)) dX5_cost_1 (by decide) ?_
  refine gw_callHN (As := [.int (nI (10))]) (st := []) (t_leave l cy ad sa ta n ln nx sd lb lf lo pg R (T) bo hT (nI (10))) ok_X11_leaveBody (bW_has.left) rfl rfl (host := "SpinBench") (by decide +kernel) rfl rfl dX5_cost_3 (by decide) (by decide) (Nat.le_of_ble_eq_true rfl) (fun r3 w3 hp3 => ?_)
  obtain ⟨rfl, bo3, rfl, hT3⟩ := hp3
  refine gw_W.norm (st' := []) (k1 := 0) (k2 := 0) rfl rfl rfl ?_
  refine gw_iconst (v := nI (1)) dX5_cost_6 (by decide) ?_
  refine gw_iret (?_) (by decide) (by decide) rfl dX5_cost_7
  subst hpost
  exact ⟨rfl, _, rfl, hT3⟩
set_option maxHeartbeats 4000000 in
set_option maxRecDepth 100000 in
theorem c_co5_2 (l : Launch) (cy : Nat → ClassId) (ad sa ta : Nat → Nat) (n ln : Nat) (nx sd lb lf : Int32) (lo : Option Nat) (pg : Nat → Option Nat) (R : va_W) (T : List Int32) (bo : Nat → Int32) (hT : agT T bo) (a : Nat) (p : Int32) (ar : Option Nat) (x y z t : Int32) (hm : (a, .inr (2, [.int (p), va_rf (ar)])) ∈ R) : gw_M l kX5_cost cy [.ref (a), .ref (ad 0)] (tW cy ad sa ta n ln nx sd lb lf lo pg R (T) bo) (qT cy ad sa ta n ln nx sd lb lf lo pg R (some (.int (nI (1)))) (trAdd (T) (nI (10)))) := by
  refine gw_M.mk (lv := [some (.ref (a)), some (.ref (ad 0))]) (by decide) (Nat.le_of_ble_eq_true rfl) rfl ?_
  generalize hpost : (qT cy ad sa ta n ln nx sd lb lf lo pg R (some (.int (nI (1)))) (trAdd (T) (nI (10))) : gw_Q) = post
  refine gw_aload_n dX5_cost_0 rfl ?_
  refine gw_bipush (v := nI (10)) dX5_cost_1 (by decide) ?_
  refine gw_callHN (As := [.int (nI (10))]) (st := []) (t_leave l cy ad sa ta n ln nx sd lb lf lo pg R (T) bo hT (nI (10))) ok_X11_leaveBody (bW_has.left) rfl rfl (host := "SpinBench") (by decide +kernel) rfl rfl dX5_cost_3 (by decide) (by decide) (Nat.le_of_ble_eq_true rfl) (fun r3 w3 hp3 => ?_)
  obtain ⟨rfl, bo3, rfl, hT3⟩ := hp3
  refine gw_W.norm (st' := []) (k1 := 0) (k2 := 0) rfl rfl rfl ?_
  refine gw_iconst (v := nI (1)) dX5_cost_6 (by decide) ?_
  refine gw_iret (?_) (by decide) (by decide) rfl dX5_cost_7
  subst hpost
  exact ⟨rfl, _, rfl, hT3⟩
set_option maxHeartbeats 4000000 in
set_option maxRecDepth 100000 in
theorem c_co5_6 (l : Launch) (cy : Nat → ClassId) (ad sa ta : Nat → Nat) (n ln : Nat) (nx sd lb lf : Int32) (lo : Option Nat) (pg : Nat → Option Nat) (R : va_W) (T : List Int32) (bo : Nat → Int32) (hT : agT T bo) (a : Nat) (p : Int32) (ar : Option Nat) (x y z t : Int32) (hm : (a, .inr (6, [.int (p), va_rf (ar), .int (x), .int (y)])) ∈ R) : gw_M l kX5_cost cy [.ref (a), .ref (ad 0)] (tW cy ad sa ta n ln nx sd lb lf lo pg R (T) bo) (qT cy ad sa ta n ln nx sd lb lf lo pg R (some (.int (nI (1)))) (trAdd (T) (nI (10)))) := by
  refine gw_M.mk (lv := [some (.ref (a)), some (.ref (ad 0))]) (by decide) (Nat.le_of_ble_eq_true rfl) rfl ?_
  generalize hpost : (qT cy ad sa ta n ln nx sd lb lf lo pg R (some (.int (nI (1)))) (trAdd (T) (nI (10))) : gw_Q) = post
  refine gw_aload_n dX5_cost_0 rfl ?_
  refine gw_bipush (v := nI (10)) dX5_cost_1 (by decide) ?_
  refine gw_callHN (As := [.int (nI (10))]) (st := []) (t_leave l cy ad sa ta n ln nx sd lb lf lo pg R (T) bo hT (nI (10))) ok_X11_leaveBody (bW_has.left) rfl rfl (host := "SpinBench") (by decide +kernel) rfl rfl dX5_cost_3 (by decide) (by decide) (Nat.le_of_ble_eq_true rfl) (fun r3 w3 hp3 => ?_)
  obtain ⟨rfl, bo3, rfl, hT3⟩ := hp3
  refine gw_W.norm (st' := []) (k1 := 0) (k2 := 0) rfl rfl rfl ?_
  refine gw_iconst (v := nI (1)) dX5_cost_6 (by decide) ?_
  refine gw_iret (?_) (by decide) (by decide) rfl dX5_cost_7
  subst hpost
  exact ⟨rfl, _, rfl, hT3⟩
abbrev kX7_cost : gw_K := (yX7_cost, cX7_cost, 2, { frames := 1, cells := 0, slots := 0, locals := 21 }, (some .int))
theorem okB_X7_cost : gw_calB kX7_cost 1 := ⟨wd_701, wd_71, by decide, by decide, by decide +kernel⟩
set_option maxHeartbeats 4000000 in
set_option maxRecDepth 100000 in
theorem c_co7 (l : Launch) (cy : Nat → ClassId) (ad sa ta : Nat → Nat) (n ln : Nat) (nx sd lb lf : Int32) (lo : Option Nat) (pg : Nat → Option Nat) (R : va_W) (T : List Int32) (bo : Nat → Int32) (hT : agT T bo) (a : Nat) (p : Int32) (ar : Option Nat) (x y z t : Int32) (hm : (a, .inr (5, [.int (p), va_rf (ar), .int (x), .int (t)])) ∈ R) : gw_M l kX7_cost cy [.ref (a), .ref (ad 0)] (tW cy ad sa ta n ln nx sd lb lf lo pg R (T) bo) (qT cy ad sa ta n ln nx sd lb lf lo pg R (some (.int (x))) (trAdd (T) (nI (14)))) := by
  refine gw_M.mk (lv := [some (.ref (a)), some (.ref (ad 0))]) (by decide) (Nat.le_of_ble_eq_true rfl) rfl ?_
  generalize hpost : (qT cy ad sa ta n ln nx sd lb lf lo pg R (some (.int (x))) (trAdd (T) (nI (14))) : gw_Q) = post
  refine gw_aload_n dX7_cost_0 rfl ?_
  refine gw_bipush (v := nI (14)) dX7_cost_1 (by decide) ?_
  refine gw_callHN (As := [.int (nI (14))]) (st := []) (t_leave l cy ad sa ta n ln nx sd lb lf lo pg R (T) bo hT (nI (14))) ok_X11_leaveBody (bW_has.left) rfl rfl (host := "SpinBench") (by decide +kernel) rfl rfl dX7_cost_3 (by decide) (by decide) (Nat.le_of_ble_eq_true rfl) (fun r3 w3 hp3 => ?_)
  obtain ⟨rfl, bo3, rfl, hT3⟩ := hp3
  refine gw_W.norm (st' := []) (k1 := 0) (k2 := 0) rfl rfl rfl ?_
  refine gw_aload_n dX7_cost_6 rfl ?_
  refine gw_getM (C0 := RX7) (T := TX7) (N := 4) (ref := RX7) (List.mem_append_right _ hm) rfl inX7 2 (by decide) wd_566 (Or.inl rfl) rfl dX7_cost_7 ?_
  refine gw_iret (?_) (by decide) (by decide) rfl dX7_cost_10
  subst hpost
  exact ⟨rfl, _, rfl, hT3⟩
abbrev kX3_cost : gw_K := (yX3_cost, cX3_cost, 2, { frames := 2, cells := 0, slots := 0, locals := 42 }, (some .int))
theorem okB_X3_cost : gw_calB kX3_cost 1 := ⟨wd_688, wd_67, by decide, by decide, by decide +kernel⟩
set_option maxHeartbeats 4000000 in
set_option maxRecDepth 100000 in
theorem c_co3_4_open (l : Launch) (cy : Nat → ClassId) (ad sa ta : Nat → Nat) (n ln : Nat) (nx sd lb lf : Int32) (lo : Option Nat) (pg : Nat → Option Nat) (R : va_W) (T : List Int32) (bo : Nat → Int32) (hT : agT T bo) (a : Nat) (p : Int32) (ar : Option Nat) (x y z t : Int32) (hW : OpenWord) (hm : (a, .inr (4, [.int (p), va_rf (ar), .int (x), .int (y), .int (z)])) ∈ R) : gw_M l kX3_cost cy [.ref (a), .ref (ad 0)] (tW cy ad sa ta n ln nx sd lb lf lo pg R (T) bo) (qT cy ad sa ta n ln nx sd lb lf lo pg R (some (.int (nI (2)))) (trAdd (trAdd (T) (nI (11))) (nI (10)))) := by
  refine gw_M.mk (lv := [some (.ref (a)), some (.ref (ad 0))]) (by decide) (Nat.le_of_ble_eq_true rfl) rfl ?_
  generalize hpost : (qT cy ad sa ta n ln nx sd lb lf lo pg R (some (.int (nI (2)))) (trAdd (trAdd (T) (nI (11))) (nI (10))) : gw_Q) = post
  refine gw_aload_n dX3_cost_0 rfl ?_
  refine gw_bipush (v := nI (11)) dX3_cost_1 (by decide) ?_
  refine gw_callHN (As := [.int (nI (11))]) (st := []) (t_leave l cy ad sa ta n ln nx sd lb lf lo pg R (T) bo hT (nI (11))) ok_X11_leaveBody (bW_has.left) rfl rfl (host := "SpinBench") (by decide +kernel) rfl rfl dX3_cost_3 (by decide) (by decide) (Nat.le_of_ble_eq_true rfl) (fun r3 w3 hp3 => ?_)
  obtain ⟨rfl, bo3, rfl, hT3⟩ := hp3
  refine gw_W.norm (st' := []) (k1 := 0) (k2 := 0) rfl rfl rfl ?_
  refine gw_aload_n dX3_cost_6 rfl ?_
  refine gw_aload_n dX3_cost_7 rfl ?_
  refine gw_callUo (As := [.ref (ad 0)]) (st := []) (ci := 4) (c_co5_4 l cy ad sa ta n ln nx sd lb lf lo pg R (trAdd (T) (nI (11))) bo3 hT3  a p ar x y z t hm) okB_X5_cost wd_673 ((gw_has.right ⟨_, hm⟩)) rfl wd_674 hW rfl rfl (by decide) wd_690 rfl rfl dX3_cost_8 (by decide) (by decide) (Nat.le_of_ble_eq_true rfl) (fun r8 w8 hp8 => ?_)
  obtain ⟨rfl, bo8, rfl, hT8⟩ := hp8
  refine gw_W.norm (st' := [.int (nI (1))]) (k1 := 0) (k2 := 0) rfl rfl rfl ?_
  refine gw_iconst (v := nI (1)) dX3_cost_11 (by decide) ?_
  refine gw_iaddN dX3_cost_12 ?_
  refine gw_topi (y := nI (2)) (rfl) ?_
  refine gw_iret (?_) (by decide) (by decide) rfl dX3_cost_13
  subst hpost
  exact ⟨rfl, _, rfl, hT8⟩
set_option maxHeartbeats 4000000 in
set_option maxRecDepth 100000 in
theorem c_co3_0_open (l : Launch) (cy : Nat → ClassId) (ad sa ta : Nat → Nat) (n ln : Nat) (nx sd lb lf : Int32) (lo : Option Nat) (pg : Nat → Option Nat) (R : va_W) (T : List Int32) (bo : Nat → Int32) (hT : agT T bo) (a : Nat) (p : Int32) (ar : Option Nat) (x y z t : Int32) (hW : OpenWord) (hm : (a, .inr (0, [.int (x), .int (y), .int (z), .int (p), va_rf (ar), .int (t)])) ∈ R) : gw_M l kX3_cost cy [.ref (a), .ref (ad 0)] (tW cy ad sa ta n ln nx sd lb lf lo pg R (T) bo) (qT cy ad sa ta n ln nx sd lb lf lo pg R (some (.int (nI (2)))) (trAdd (trAdd (T) (nI (11))) (nI (10)))) := by
  refine gw_M.mk (lv := [some (.ref (a)), some (.ref (ad 0))]) (by decide) (Nat.le_of_ble_eq_true rfl) rfl ?_
  generalize hpost : (qT cy ad sa ta n ln nx sd lb lf lo pg R (some (.int (nI (2)))) (trAdd (trAdd (T) (nI (11))) (nI (10))) : gw_Q) = post
  refine gw_aload_n dX3_cost_0 rfl ?_
  refine gw_bipush (v := nI (11)) dX3_cost_1 (by decide) ?_
  refine gw_callHN (As := [.int (nI (11))]) (st := []) (t_leave l cy ad sa ta n ln nx sd lb lf lo pg R (T) bo hT (nI (11))) ok_X11_leaveBody (bW_has.left) rfl rfl (host := "SpinBench") (by decide +kernel) rfl rfl dX3_cost_3 (by decide) (by decide) (Nat.le_of_ble_eq_true rfl) (fun r3 w3 hp3 => ?_)
  obtain ⟨rfl, bo3, rfl, hT3⟩ := hp3
  refine gw_W.norm (st' := []) (k1 := 0) (k2 := 0) rfl rfl rfl ?_
  refine gw_aload_n dX3_cost_6 rfl ?_
  refine gw_aload_n dX3_cost_7 rfl ?_
  refine gw_callUo (As := [.ref (ad 0)]) (st := []) (ci := 0) (c_co5_0 l cy ad sa ta n ln nx sd lb lf lo pg R (trAdd (T) (nI (11))) bo3 hT3  a p ar x y z t hm) okB_X5_cost wd_673 ((gw_has.right ⟨_, hm⟩)) rfl wd_674 hW rfl rfl (by decide) wd_690 rfl rfl dX3_cost_8 (by decide) (by decide) (Nat.le_of_ble_eq_true rfl) (fun r8 w8 hp8 => ?_)
  obtain ⟨rfl, bo8, rfl, hT8⟩ := hp8
  refine gw_W.norm (st' := [.int (nI (1))]) (k1 := 0) (k2 := 0) rfl rfl rfl ?_
  refine gw_iconst (v := nI (1)) dX3_cost_11 (by decide) ?_
  refine gw_iaddN dX3_cost_12 ?_
  refine gw_topi (y := nI (2)) (rfl) ?_
  refine gw_iret (?_) (by decide) (by decide) rfl dX3_cost_13
  subst hpost
  exact ⟨rfl, _, rfl, hT8⟩
set_option maxHeartbeats 4000000 in
set_option maxRecDepth 100000 in
theorem c_co3_1_open (l : Launch) (cy : Nat → ClassId) (ad sa ta : Nat → Nat) (n ln : Nat) (nx sd lb lf : Int32) (lo : Option Nat) (pg : Nat → Option Nat) (R : va_W) (T : List Int32) (bo : Nat → Int32) (hT : agT T bo) (a : Nat) (p : Int32) (ar : Option Nat) (x y z t : Int32) (hW : OpenWord) (hm : (a, .inr (1, [.int (p), va_rf (ar), .int (x), .int (y), .int (z)])) ∈ R) : gw_M l kX3_cost cy [.ref (a), .ref (ad 0)] (tW cy ad sa ta n ln nx sd lb lf lo pg R (T) bo) (qT cy ad sa ta n ln nx sd lb lf lo pg R (some (.int (nI (2)))) (trAdd (trAdd (T) (nI (11))) (nI (10)))) := by
  refine gw_M.mk (lv := [some (.ref (a)), some (.ref (ad 0))]) (by decide) (Nat.le_of_ble_eq_true rfl) rfl ?_
  generalize hpost : (qT cy ad sa ta n ln nx sd lb lf lo pg R (some (.int (nI (2)))) (trAdd (trAdd (T) (nI (11))) (nI (10))) : gw_Q) = post
  refine gw_aload_n dX3_cost_0 rfl ?_
  refine gw_bipush (v := nI (11)) dX3_cost_1 (by decide) ?_
  refine gw_callHN (As := [.int (nI (11))]) (st := []) (t_leave l cy ad sa ta n ln nx sd lb lf lo pg R (T) bo hT (nI (11))) ok_X11_leaveBody (bW_has.left) rfl rfl (host := "SpinBench") (by decide +kernel) rfl rfl dX3_cost_3 (by decide) (by decide) (Nat.le_of_ble_eq_true rfl) (fun r3 w3 hp3 => ?_)
  obtain ⟨rfl, bo3, rfl, hT3⟩ := hp3
  refine gw_W.norm (st' := []) (k1 := 0) (k2 := 0) rfl rfl rfl ?_
  refine gw_aload_n dX3_cost_6 rfl ?_
  refine gw_aload_n dX3_cost_7 rfl ?_
  refine gw_callUo (As := [.ref (ad 0)]) (st := []) (ci := 1) (c_co5_1 l cy ad sa ta n ln nx sd lb lf lo pg R (trAdd (T) (nI (11))) bo3 hT3  a p ar x y z t hm) okB_X5_cost wd_673 ((gw_has.right ⟨_, hm⟩)) rfl wd_674 hW rfl rfl (by decide) wd_690 rfl rfl dX3_cost_8 (by decide) (by decide) (Nat.le_of_ble_eq_true rfl) (fun r8 w8 hp8 => ?_)
  obtain ⟨rfl, bo8, rfl, hT8⟩ := hp8
  refine gw_W.norm (st' := [.int (nI (1))]) (k1 := 0) (k2 := 0) rfl rfl rfl ?_
  refine gw_iconst (v := nI (1)) dX3_cost_11 (by decide) ?_
  refine gw_iaddN dX3_cost_12 ?_
  refine gw_topi (y := nI (2)) (rfl) ?_
  refine gw_iret (?_) (by decide) (by decide) rfl dX3_cost_13
  subst hpost
  exact ⟨rfl, _, rfl, hT8⟩
abbrev kX6_cost : gw_K := (yX6_cost, cX6_cost, 2, { frames := 3, cells := 0, slots := 0, locals := 63 }, (some .int))
theorem okB_X6_cost : gw_calB kX6_cost 1 := ⟨wd_684, wd_68, by decide, by decide, by decide +kernel⟩
set_option maxHeartbeats 4000000 in
set_option maxRecDepth 100000 in
theorem c_co6_4_open (l : Launch) (cy : Nat → ClassId) (ad sa ta : Nat → Nat) (n ln : Nat) (nx sd lb lf : Int32) (lo : Option Nat) (pg : Nat → Option Nat) (R : va_W) (T : List Int32) (bo : Nat → Int32) (hT : agT T bo) (a : Nat) (p : Int32) (ar : Option Nat) (x y z t : Int32) (hW : OpenWord) (m : Nat) (hx : x = nI m) (h16 : m < 16) (hm : (a, .inr (4, [.int (p), va_rf (ar), .int (x), .int (y), .int (z)])) ∈ R) : gw_M l kX6_cost cy [.ref (a), .ref (ad 0)] (tW cy ad sa ta n ln nx sd lb lf lo pg R (T) bo) (qT cy ad sa ta n ln nx sd lb lf lo pg R (some (.int (nI (2 * (pc16 m))))) (trAdd (trAdd (trAdd (T) (nI (12))) (nI (11))) (nI (10)))) := by
  refine gw_M.mk (lv := [some (.ref (a)), some (.ref (ad 0))]) (by decide) (Nat.le_of_ble_eq_true rfl) rfl ?_
  generalize hpost : (qT cy ad sa ta n ln nx sd lb lf lo pg R (some (.int (nI (2 * (pc16 m))))) (trAdd (trAdd (trAdd (T) (nI (12))) (nI (11))) (nI (10))) : gw_Q) = post
  refine gw_aload_n dX6_cost_0 rfl ?_
  refine gw_bipush (v := nI (12)) dX6_cost_1 (by decide) ?_
  refine gw_callHN (As := [.int (nI (12))]) (st := []) (t_leave l cy ad sa ta n ln nx sd lb lf lo pg R (T) bo hT (nI (12))) ok_X11_leaveBody (bW_has.left) rfl rfl (host := "SpinBench") (by decide +kernel) rfl rfl dX6_cost_3 (by decide) (by decide) (Nat.le_of_ble_eq_true rfl) (fun r3 w3 hp3 => ?_)
  obtain ⟨rfl, bo3, rfl, hT3⟩ := hp3
  refine gw_W.norm (st' := []) (k1 := 0) (k2 := 0) rfl rfl rfl ?_
  refine gw_aload_n dX6_cost_6 rfl ?_
  refine gw_aload_n dX6_cost_7 rfl ?_
  refine gw_callU (As := [.ref (ad 0)]) (st := []) (ci := 4) (c_co3_4_open l cy ad sa ta n ln nx sd lb lf lo pg R (trAdd (T) (nI (12))) bo3 hT3  a p ar x y z t hW hm) okB_X3_cost wd_687 ((gw_has.right ⟨_, hm⟩)) rfl wd_1166 wd_505 (by decide) wd_686 rfl rfl dX6_cost_8 (by decide) (by decide) (Nat.le_of_ble_eq_true rfl) (fun r8 w8 hp8 => ?_)
  obtain ⟨rfl, bo8, rfl, hT8⟩ := hp8
  refine gw_W.norm (st' := [.int (nI (2))]) (k1 := 0) (k2 := 0) rfl rfl rfl ?_
  refine gw_aload_n dX6_cost_11 rfl ?_
  refine gw_getM (C0 := RX6) (T := TX6) (N := 5) (ref := RX6) (List.mem_append_right _ hm) rfl inX6 2 (by decide) wd_477 (Or.inl rfl) rfl dX6_cost_12 ?_
  refine gw_topi (y := nI (m)) (hx) ?_
  refine gw_callS (As := [.int (nI (m))]) (st := [.int (nI (2))]) (c_bitCount l cy (m) h16 (tW cy ad sa ta n ln nx sd lb lf lo pg R (trAdd (trAdd (trAdd (T) (nI (12))) (nI (11))) (nI (10))) bo8)) ok_J6_bitCount_0f7a4 wd_691 rfl rfl dX6_cost_15 (by decide) (by decide) (Nat.le_of_ble_eq_true rfl) (fun r15 w15 hp15 => ?_)
  obtain ⟨rfl, rfl⟩ := hp15
  refine gw_W.norm (st' := [.int (nI (pc16 (m))), .int (nI (2))]) (k1 := 0) (k2 := 0) rfl rfl rfl ?_
  refine gw_imulN dX6_cost_18 ?_
  refine gw_iret (?_) (by decide) (by decide) rfl dX6_cost_19
  subst hpost
  exact ⟨rfl, _, rfl, hT8⟩
set_option maxHeartbeats 4000000 in
set_option maxRecDepth 100000 in
theorem c_co6_0_open (l : Launch) (cy : Nat → ClassId) (ad sa ta : Nat → Nat) (n ln : Nat) (nx sd lb lf : Int32) (lo : Option Nat) (pg : Nat → Option Nat) (R : va_W) (T : List Int32) (bo : Nat → Int32) (hT : agT T bo) (a : Nat) (p : Int32) (ar : Option Nat) (x y z t : Int32) (hW : OpenWord) (m : Nat) (hx : x = nI m) (h16 : m < 16) (hm : (a, .inr (0, [.int (x), .int (y), .int (z), .int (p), va_rf (ar), .int (t)])) ∈ R) : gw_M l kX6_cost cy [.ref (a), .ref (ad 0)] (tW cy ad sa ta n ln nx sd lb lf lo pg R (T) bo) (qT cy ad sa ta n ln nx sd lb lf lo pg R (some (.int (nI (2 * (pc16 m))))) (trAdd (trAdd (trAdd (T) (nI (12))) (nI (11))) (nI (10)))) := by
  refine gw_M.mk (lv := [some (.ref (a)), some (.ref (ad 0))]) (by decide) (Nat.le_of_ble_eq_true rfl) rfl ?_
  generalize hpost : (qT cy ad sa ta n ln nx sd lb lf lo pg R (some (.int (nI (2 * (pc16 m))))) (trAdd (trAdd (trAdd (T) (nI (12))) (nI (11))) (nI (10))) : gw_Q) = post
  refine gw_aload_n dX6_cost_0 rfl ?_
  refine gw_bipush (v := nI (12)) dX6_cost_1 (by decide) ?_
  refine gw_callHN (As := [.int (nI (12))]) (st := []) (t_leave l cy ad sa ta n ln nx sd lb lf lo pg R (T) bo hT (nI (12))) ok_X11_leaveBody (bW_has.left) rfl rfl (host := "SpinBench") (by decide +kernel) rfl rfl dX6_cost_3 (by decide) (by decide) (Nat.le_of_ble_eq_true rfl) (fun r3 w3 hp3 => ?_)
  obtain ⟨rfl, bo3, rfl, hT3⟩ := hp3
  refine gw_W.norm (st' := []) (k1 := 0) (k2 := 0) rfl rfl rfl ?_
  refine gw_aload_n dX6_cost_6 rfl ?_
  refine gw_aload_n dX6_cost_7 rfl ?_
  refine gw_callU (As := [.ref (ad 0)]) (st := []) (ci := 0) (c_co3_0_open l cy ad sa ta n ln nx sd lb lf lo pg R (trAdd (T) (nI (12))) bo3 hT3  a p ar x y z t hW hm) okB_X3_cost wd_687 ((gw_has.right ⟨_, hm⟩)) rfl wd_1166 wd_505 (by decide) wd_686 rfl rfl dX6_cost_8 (by decide) (by decide) (Nat.le_of_ble_eq_true rfl) (fun r8 w8 hp8 => ?_)
  obtain ⟨rfl, bo8, rfl, hT8⟩ := hp8
  refine gw_W.norm (st' := [.int (nI (2))]) (k1 := 0) (k2 := 0) rfl rfl rfl ?_
  refine gw_aload_n dX6_cost_11 rfl ?_
  refine gw_getM (C0 := RX0) (T := TX0) (N := 6) (ref := RX6) (List.mem_append_right _ hm) rfl inX0 0 (by decide) wd_477 (Or.inl rfl) rfl dX6_cost_12 ?_
  refine gw_topi (y := nI (m)) (hx) ?_
  refine gw_callS (As := [.int (nI (m))]) (st := [.int (nI (2))]) (c_bitCount l cy (m) h16 (tW cy ad sa ta n ln nx sd lb lf lo pg R (trAdd (trAdd (trAdd (T) (nI (12))) (nI (11))) (nI (10))) bo8)) ok_J6_bitCount_0f7a4 wd_691 rfl rfl dX6_cost_15 (by decide) (by decide) (Nat.le_of_ble_eq_true rfl) (fun r15 w15 hp15 => ?_)
  obtain ⟨rfl, rfl⟩ := hp15
  refine gw_W.norm (st' := [.int (nI (pc16 (m))), .int (nI (2))]) (k1 := 0) (k2 := 0) rfl rfl rfl ?_
  refine gw_imulN dX6_cost_18 ?_
  refine gw_iret (?_) (by decide) (by decide) rfl dX6_cost_19
  subst hpost
  exact ⟨rfl, _, rfl, hT8⟩
abbrev kX0_mark : gw_K := (yX0_mark, cX0_mark, 2, { frames := 1, cells := 0, slots := 0, locals := 21 }, (some .int))
theorem okB_X0_mark : gw_calB kX0_mark 1 := ⟨wd_695, wd_69, by decide, by decide, by decide +kernel⟩
set_option maxHeartbeats 4000000 in
set_option maxRecDepth 100000 in
theorem c_ma0 (l : Launch) (cy : Nat → ClassId) (ad sa ta : Nat → Nat) (n ln : Nat) (nx sd lb lf : Int32) (lo : Option Nat) (pg : Nat → Option Nat) (R : va_W) (T : List Int32) (bo : Nat → Int32) (hT : agT T bo) (a : Nat) (p : Int32) (ar : Option Nat) (x y z t : Int32) (hm : (a, .inr (0, [.int (x), .int (y), .int (z), .int (p), va_rf (ar), .int (t)])) ∈ R) : gw_M l kX0_mark cy [.ref (a), .ref (ad 0)] (tW cy ad sa ta n ln nx sd lb lf lo pg R (T) bo) (qT cy ad sa ta n ln nx sd lb lf lo pg R (some (.int (t))) (trAdd (T) (nI (23)))) := by
  refine gw_M.mk (lv := [some (.ref (a)), some (.ref (ad 0))]) (by decide) (Nat.le_of_ble_eq_true rfl) rfl ?_
  generalize hpost : (qT cy ad sa ta n ln nx sd lb lf lo pg R (some (.int (t))) (trAdd (T) (nI (23))) : gw_Q) = post
  refine gw_aload_n dX0_mark_0 rfl ?_
  refine gw_bipush (v := nI (23)) dX0_mark_1 (by decide) ?_
  refine gw_callHN (As := [.int (nI (23))]) (st := []) (t_leave l cy ad sa ta n ln nx sd lb lf lo pg R (T) bo hT (nI (23))) ok_X11_leaveBody (bW_has.left) rfl rfl (host := "SpinBench") (by decide +kernel) rfl rfl dX0_mark_3 (by decide) (by decide) (Nat.le_of_ble_eq_true rfl) (fun r3 w3 hp3 => ?_)
  obtain ⟨rfl, bo3, rfl, hT3⟩ := hp3
  refine gw_W.norm (st' := []) (k1 := 0) (k2 := 0) rfl rfl rfl ?_
  refine gw_aload_n dX0_mark_6 rfl ?_
  refine gw_getM (C0 := RX0) (T := TX0) (N := 6) (ref := RX0) (List.mem_append_right _ hm) rfl inX0 5 (by decide) wd_520 (Or.inl rfl) rfl dX0_mark_7 ?_
  refine gw_iret (?_) (by decide) (by decide) rfl dX0_mark_10
  subst hpost
  exact ⟨rfl, _, rfl, hT3⟩
theorem ok_X0_mark : gw_calV kX0_mark 1 := ⟨⟨wd_695, wd_69, by decide, by decide, by decide +kernel⟩, wd_693, wd_694⟩
abbrev kX0_cost : gw_K := (yX0_cost, cX0_cost, 3, { frames := 4, cells := 0, slots := 0, locals := 84 }, (some .int))
theorem okB_X0_cost : gw_calB kX0_cost 1 := ⟨wd_677, wd_69, by decide, by decide, by decide +kernel⟩
set_option maxHeartbeats 4000000 in
set_option maxRecDepth 100000 in
theorem c_co0_open (l : Launch) (cy : Nat → ClassId) (ad sa ta : Nat → Nat) (n ln : Nat) (nx sd lb lf : Int32) (lo : Option Nat) (pg : Nat → Option Nat) (R : va_W) (T : List Int32) (bo : Nat → Int32) (hT : agT T bo) (a : Nat) (p : Int32) (ar : Option Nat) (x y z t : Int32) (hW : OpenWord) (m : Nat) (hx : x = nI m) (h16 : m < 16) (hm : (a, .inr (0, [.int (x), .int (y), .int (z), .int (p), va_rf (ar), .int (t)])) ∈ R) : gw_M l kX0_cost cy [.ref (a), .ref (ad 0)] (tW cy ad sa ta n ln nx sd lb lf lo pg R (T) bo) (qT cy ad sa ta n ln nx sd lb lf lo pg R (some (.int ((nI (2 * (pc16 m))) + (t)))) (trAdd (trAdd (trAdd (trAdd (trAdd (T) (nI (13))) (nI (12))) (nI (11))) (nI (10))) (nI (23)))) := by
  refine gw_M.mk (lv := [some (.ref (a)), some (.ref (ad 0)), none]) (by decide) (Nat.le_of_ble_eq_true rfl) rfl ?_
  generalize hpost : (qT cy ad sa ta n ln nx sd lb lf lo pg R (some (.int ((nI (2 * (pc16 m))) + (t)))) (trAdd (trAdd (trAdd (trAdd (trAdd (T) (nI (13))) (nI (12))) (nI (11))) (nI (10))) (nI (23))) : gw_Q) = post
  refine gw_aload_n dX0_cost_0 rfl ?_
  refine gw_bipush (v := nI (13)) dX0_cost_1 (by decide) ?_
  refine gw_callHN (As := [.int (nI (13))]) (st := []) (t_leave l cy ad sa ta n ln nx sd lb lf lo pg R (T) bo hT (nI (13))) ok_X11_leaveBody (bW_has.left) rfl rfl (host := "SpinBench") (by decide +kernel) rfl rfl dX0_cost_3 (by decide) (by decide) (Nat.le_of_ble_eq_true rfl) (fun r3 w3 hp3 => ?_)
  obtain ⟨rfl, bo3, rfl, hT3⟩ := hp3
  refine gw_W.norm (st' := []) (k1 := 0) (k2 := 0) rfl rfl rfl ?_
  refine gw_aload_n dX0_cost_6 rfl ?_
  refine gw_aload_n dX0_cost_7 rfl ?_
  refine gw_callU (As := [.ref (ad 0)]) (st := []) (ci := 0) (c_co6_0_open l cy ad sa ta n ln nx sd lb lf lo pg R (trAdd (T) (nI (13))) bo3 hT3  a p ar x y z t hW m hx h16 hm) okB_X6_cost wd_683 ((gw_has.right ⟨_, hm⟩)) rfl wd_1165 wd_528 (by decide) wd_682 rfl rfl dX0_cost_8 (by decide) (by decide) (Nat.le_of_ble_eq_true rfl) (fun r8 w8 hp8 => ?_)
  obtain ⟨rfl, bo8, rfl, hT8⟩ := hp8
  refine gw_W.norm (st' := [.int (nI (2 * (pc16 m)))]) (k1 := 0) (k2 := 0) rfl rfl rfl ?_
  refine gw_istore_n dX0_cost_11 (by decide) rfl ?_
  refine gw_iload_n dX0_cost_12 rfl ?_
  refine gw_aload_n dX0_cost_13 rfl ?_
  refine gw_aload_n dX0_cost_14 rfl ?_
  refine gw_callH (As := [.ref (ad 0)]) (st := [.int (nI (2 * (pc16 m)))]) (c_ma0 l cy ad sa ta n ln nx sd lb lf lo pg R (trAdd (trAdd (trAdd (trAdd (T) (nI (13))) (nI (12))) (nI (11))) (nI (10))) bo8 hT8 a p ar x y z t hm) ok_X0_mark (gw_has.right ⟨_, hm⟩) rfl rfl wd_692 rfl rfl dX0_cost_15 (by decide) (by decide) (Nat.le_of_ble_eq_true rfl) (fun r15 w15 hp15 => ?_)
  obtain ⟨rfl, bo15, rfl, hT15⟩ := hp15
  refine gw_W.norm (st' := [.int (t), .int (nI (2 * (pc16 m)))]) (k1 := 0) (k2 := 0) rfl rfl rfl ?_
  refine gw_iadd dX0_cost_18 ?_
  refine gw_iret (?_) (by decide) (by decide) rfl dX0_cost_19
  subst hpost
  exact ⟨rfl, _, rfl, hT15⟩
abbrev kX5_mark : gw_K := (yX5_mark, cX5_mark, 2, { frames := 1, cells := 0, slots := 0, locals := 21 }, (some .int))
theorem okB_X5_mark : gw_calB kX5_mark 1 := ⟨wd_727, wd_66, by decide, by decide, by decide +kernel⟩
set_option maxHeartbeats 4000000 in
set_option maxRecDepth 100000 in
theorem c_ma5_4 (l : Launch) (cy : Nat → ClassId) (ad sa ta : Nat → Nat) (n ln : Nat) (nx sd lb lf : Int32) (lo : Option Nat) (pg : Nat → Option Nat) (R : va_W) (T : List Int32) (bo : Nat → Int32) (hT : agT T bo) (a : Nat) (p : Int32) (ar : Option Nat) (x y z t : Int32) (hm : (a, .inr (4, [.int (p), va_rf (ar), .int (x), .int (y), .int (z)])) ∈ R) : gw_M l kX5_mark cy [.ref (a), .ref (ad 0)] (tW cy ad sa ta n ln nx sd lb lf lo pg R (T) bo) (qT cy ad sa ta n ln nx sd lb lf lo pg R (some (.int (p))) (trAdd (T) (nI (20)))) := by
  refine gw_M.mk (lv := [some (.ref (a)), some (.ref (ad 0))]) (by decide) (Nat.le_of_ble_eq_true rfl) rfl ?_
  generalize hpost : (qT cy ad sa ta n ln nx sd lb lf lo pg R (some (.int (p))) (trAdd (T) (nI (20))) : gw_Q) = post
  refine gw_aload_n dX5_mark_0 rfl ?_
  refine gw_bipush (v := nI (20)) dX5_mark_1 (by decide) ?_
  refine gw_callHN (As := [.int (nI (20))]) (st := []) (t_leave l cy ad sa ta n ln nx sd lb lf lo pg R (T) bo hT (nI (20))) ok_X11_leaveBody (bW_has.left) rfl rfl (host := "SpinBench") (by decide +kernel) rfl rfl dX5_mark_3 (by decide) (by decide) (Nat.le_of_ble_eq_true rfl) (fun r3 w3 hp3 => ?_)
  obtain ⟨rfl, bo3, rfl, hT3⟩ := hp3
  refine gw_W.norm (st' := []) (k1 := 0) (k2 := 0) rfl rfl rfl ?_
  refine gw_aload_n dX5_mark_6 rfl ?_
  refine gw_getM (C0 := RX6) (T := TX6) (N := 5) (ref := RX5) (List.mem_append_right _ hm) rfl inX6 0 (by decide) wd_483 (Or.inl rfl) rfl dX5_mark_7 ?_
  refine gw_iret (?_) (by decide) (by decide) rfl dX5_mark_10
  subst hpost
  exact ⟨rfl, _, rfl, hT3⟩
set_option maxHeartbeats 4000000 in
set_option maxRecDepth 100000 in
theorem c_ma5_1 (l : Launch) (cy : Nat → ClassId) (ad sa ta : Nat → Nat) (n ln : Nat) (nx sd lb lf : Int32) (lo : Option Nat) (pg : Nat → Option Nat) (R : va_W) (T : List Int32) (bo : Nat → Int32) (hT : agT T bo) (a : Nat) (p : Int32) (ar : Option Nat) (x y z t : Int32) (hm : (a, .inr (1, [.int (p), va_rf (ar), .int (x), .int (y), .int (z)])) ∈ R) : gw_M l kX5_mark cy [.ref (a), .ref (ad 0)] (tW cy ad sa ta n ln nx sd lb lf lo pg R (T) bo) (qT cy ad sa ta n ln nx sd lb lf lo pg R (some (.int (p))) (trAdd (T) (nI (20)))) := by
  refine gw_M.mk (lv := [some (.ref (a)), some (.ref (ad 0))]) (by decide) (Nat.le_of_ble_eq_true rfl) rfl ?_
  generalize hpost : (qT cy ad sa ta n ln nx sd lb lf lo pg R (some (.int (p))) (trAdd (T) (nI (20))) : gw_Q) = post
  refine gw_aload_n dX5_mark_0 rfl ?_
  refine gw_bipush (v := nI (20)) dX5_mark_1 (by decide) ?_
  refine gw_callHN (As := [.int (nI (20))]) (st := []) (t_leave l cy ad sa ta n ln nx sd lb lf lo pg R (T) bo hT (nI (20))) ok_X11_leaveBody (bW_has.left) rfl rfl (host := "SpinBench") (by decide +kernel) rfl rfl dX5_mark_3 (by decide) (by decide) (Nat.le_of_ble_eq_true rfl) (fun r3 w3 hp3 => ?_)
  obtain ⟨rfl, bo3, rfl, hT3⟩ := hp3
  refine gw_W.norm (st' := []) (k1 := 0) (k2 := 0) rfl rfl rfl ?_
  refine gw_aload_n dX5_mark_6 rfl ?_
  refine gw_getM (C0 := RX1) (T := TX1) (N := 5) (ref := RX5) (List.mem_append_right _ hm) rfl inX1 0 (by decide) wd_483 (Or.inl rfl) rfl dX5_mark_7 ?_
  refine gw_iret (?_) (by decide) (by decide) rfl dX5_mark_10
  subst hpost
  exact ⟨rfl, _, rfl, hT3⟩
set_option maxHeartbeats 4000000 in
set_option maxRecDepth 100000 in
theorem c_ma5_5 (l : Launch) (cy : Nat → ClassId) (ad sa ta : Nat → Nat) (n ln : Nat) (nx sd lb lf : Int32) (lo : Option Nat) (pg : Nat → Option Nat) (R : va_W) (T : List Int32) (bo : Nat → Int32) (hT : agT T bo) (a : Nat) (p : Int32) (ar : Option Nat) (x y z t : Int32) (hm : (a, .inr (5, [.int (p), va_rf (ar), .int (x), .int (t)])) ∈ R) : gw_M l kX5_mark cy [.ref (a), .ref (ad 0)] (tW cy ad sa ta n ln nx sd lb lf lo pg R (T) bo) (qT cy ad sa ta n ln nx sd lb lf lo pg R (some (.int (p))) (trAdd (T) (nI (20)))) := by
  refine gw_M.mk (lv := [some (.ref (a)), some (.ref (ad 0))]) (by decide) (Nat.le_of_ble_eq_true rfl) rfl ?_
  generalize hpost : (qT cy ad sa ta n ln nx sd lb lf lo pg R (some (.int (p))) (trAdd (T) (nI (20))) : gw_Q) = post
  refine gw_aload_n dX5_mark_0 rfl ?_
  refine gw_bipush (v := nI (20)) dX5_mark_1 (by decide) ?_
  refine gw_callHN (As := [.int (nI (20))]) (st := []) (t_leave l cy ad sa ta n ln nx sd lb lf lo pg R (T) bo hT (nI (20))) ok_X11_leaveBody (bW_has.left) rfl rfl (host := "SpinBench") (by decide +kernel) rfl rfl dX5_mark_3 (by decide) (by decide) (Nat.le_of_ble_eq_true rfl) (fun r3 w3 hp3 => ?_)
  obtain ⟨rfl, bo3, rfl, hT3⟩ := hp3
  refine gw_W.norm (st' := []) (k1 := 0) (k2 := 0) rfl rfl rfl ?_
  refine gw_aload_n dX5_mark_6 rfl ?_
  refine gw_getM (C0 := RX7) (T := TX7) (N := 4) (ref := RX5) (List.mem_append_right _ hm) rfl inX7 0 (by decide) wd_483 (Or.inl rfl) rfl dX5_mark_7 ?_
  refine gw_iret (?_) (by decide) (by decide) rfl dX5_mark_10
  subst hpost
  exact ⟨rfl, _, rfl, hT3⟩
set_option maxHeartbeats 4000000 in
set_option maxRecDepth 100000 in
theorem c_ma5_2 (l : Launch) (cy : Nat → ClassId) (ad sa ta : Nat → Nat) (n ln : Nat) (nx sd lb lf : Int32) (lo : Option Nat) (pg : Nat → Option Nat) (R : va_W) (T : List Int32) (bo : Nat → Int32) (hT : agT T bo) (a : Nat) (p : Int32) (ar : Option Nat) (x y z t : Int32) (hm : (a, .inr (2, [.int (p), va_rf (ar)])) ∈ R) : gw_M l kX5_mark cy [.ref (a), .ref (ad 0)] (tW cy ad sa ta n ln nx sd lb lf lo pg R (T) bo) (qT cy ad sa ta n ln nx sd lb lf lo pg R (some (.int (p))) (trAdd (T) (nI (20)))) := by
  refine gw_M.mk (lv := [some (.ref (a)), some (.ref (ad 0))]) (by decide) (Nat.le_of_ble_eq_true rfl) rfl ?_
  generalize hpost : (qT cy ad sa ta n ln nx sd lb lf lo pg R (some (.int (p))) (trAdd (T) (nI (20))) : gw_Q) = post
  refine gw_aload_n dX5_mark_0 rfl ?_
  refine gw_bipush (v := nI (20)) dX5_mark_1 (by decide) ?_
  refine gw_callHN (As := [.int (nI (20))]) (st := []) (t_leave l cy ad sa ta n ln nx sd lb lf lo pg R (T) bo hT (nI (20))) ok_X11_leaveBody (bW_has.left) rfl rfl (host := "SpinBench") (by decide +kernel) rfl rfl dX5_mark_3 (by decide) (by decide) (Nat.le_of_ble_eq_true rfl) (fun r3 w3 hp3 => ?_)
  obtain ⟨rfl, bo3, rfl, hT3⟩ := hp3
  refine gw_W.norm (st' := []) (k1 := 0) (k2 := 0) rfl rfl rfl ?_
  refine gw_aload_n dX5_mark_6 rfl ?_
  refine gw_getM (C0 := RX2) (T := TX2) (N := 2) (ref := RX5) (List.mem_append_right _ hm) rfl inX2 0 (by decide) wd_483 (Or.inl rfl) rfl dX5_mark_7 ?_
  refine gw_iret (?_) (by decide) (by decide) rfl dX5_mark_10
  subst hpost
  exact ⟨rfl, _, rfl, hT3⟩
set_option maxHeartbeats 4000000 in
set_option maxRecDepth 100000 in
theorem c_ma5_6 (l : Launch) (cy : Nat → ClassId) (ad sa ta : Nat → Nat) (n ln : Nat) (nx sd lb lf : Int32) (lo : Option Nat) (pg : Nat → Option Nat) (R : va_W) (T : List Int32) (bo : Nat → Int32) (hT : agT T bo) (a : Nat) (p : Int32) (ar : Option Nat) (x y z t : Int32) (hm : (a, .inr (6, [.int (p), va_rf (ar), .int (x), .int (y)])) ∈ R) : gw_M l kX5_mark cy [.ref (a), .ref (ad 0)] (tW cy ad sa ta n ln nx sd lb lf lo pg R (T) bo) (qT cy ad sa ta n ln nx sd lb lf lo pg R (some (.int (p))) (trAdd (T) (nI (20)))) := by
  refine gw_M.mk (lv := [some (.ref (a)), some (.ref (ad 0))]) (by decide) (Nat.le_of_ble_eq_true rfl) rfl ?_
  generalize hpost : (qT cy ad sa ta n ln nx sd lb lf lo pg R (some (.int (p))) (trAdd (T) (nI (20))) : gw_Q) = post
  refine gw_aload_n dX5_mark_0 rfl ?_
  refine gw_bipush (v := nI (20)) dX5_mark_1 (by decide) ?_
  refine gw_callHN (As := [.int (nI (20))]) (st := []) (t_leave l cy ad sa ta n ln nx sd lb lf lo pg R (T) bo hT (nI (20))) ok_X11_leaveBody (bW_has.left) rfl rfl (host := "SpinBench") (by decide +kernel) rfl rfl dX5_mark_3 (by decide) (by decide) (Nat.le_of_ble_eq_true rfl) (fun r3 w3 hp3 => ?_)
  obtain ⟨rfl, bo3, rfl, hT3⟩ := hp3
  refine gw_W.norm (st' := []) (k1 := 0) (k2 := 0) rfl rfl rfl ?_
  refine gw_aload_n dX5_mark_6 rfl ?_
  refine gw_getM (C0 := RX8) (T := TX8) (N := 4) (ref := RX5) (List.mem_append_right _ hm) rfl inX8 0 (by decide) wd_483 (Or.inl rfl) rfl dX5_mark_7 ?_
  refine gw_iret (?_) (by decide) (by decide) rfl dX5_mark_10
  subst hpost
  exact ⟨rfl, _, rfl, hT3⟩
abbrev kX3_mark : gw_K := (yX3_mark, cX3_mark, 3, { frames := 4, cells := 0, slots := 0, locals := 84 }, (some .int))
theorem okB_X3_mark : gw_calB kX3_mark 1 := ⟨wd_716, wd_67, by decide, by decide, by decide +kernel⟩
set_option maxHeartbeats 4000000 in
set_option maxRecDepth 100000 in
theorem c_ma3_4_open (l : Launch) (cy : Nat → ClassId) (ad sa ta : Nat → Nat) (n ln : Nat) (nx sd lb lf : Int32) (lo : Option Nat) (pg : Nat → Option Nat) (R : va_W) (T : List Int32) (bo : Nat → Int32) (hT : agT T bo) (a : Nat) (p : Int32) (ar : Option Nat) (x y z t : Int32) (hW : OpenWord) (m : Nat) (hx : x = nI m) (h16 : m < 16) (hm : (a, .inr (4, [.int (p), va_rf (ar), .int (x), .int (y), .int (z)])) ∈ R) : gw_M l kX3_mark cy [.ref (a), .ref (ad 0)] (tW cy ad sa ta n ln nx sd lb lf lo pg R (T) bo) (qT cy ad sa ta n ln nx sd lb lf lo pg R (some (.int ((p) + (nI (2 * (pc16 m)))))) (trAdd (trAdd (trAdd (trAdd (trAdd (T) (nI (21))) (nI (20))) (nI (12))) (nI (11))) (nI (10)))) := by
  refine gw_M.mk (lv := [some (.ref (a)), some (.ref (ad 0)), none]) (by decide) (Nat.le_of_ble_eq_true rfl) rfl ?_
  generalize hpost : (qT cy ad sa ta n ln nx sd lb lf lo pg R (some (.int ((p) + (nI (2 * (pc16 m)))))) (trAdd (trAdd (trAdd (trAdd (trAdd (T) (nI (21))) (nI (20))) (nI (12))) (nI (11))) (nI (10))) : gw_Q) = post
  refine gw_aload_n dX3_mark_0 rfl ?_
  refine gw_bipush (v := nI (21)) dX3_mark_1 (by decide) ?_
  refine gw_callHN (As := [.int (nI (21))]) (st := []) (t_leave l cy ad sa ta n ln nx sd lb lf lo pg R (T) bo hT (nI (21))) ok_X11_leaveBody (bW_has.left) rfl rfl (host := "SpinBench") (by decide +kernel) rfl rfl dX3_mark_3 (by decide) (by decide) (Nat.le_of_ble_eq_true rfl) (fun r3 w3 hp3 => ?_)
  obtain ⟨rfl, bo3, rfl, hT3⟩ := hp3
  refine gw_W.norm (st' := []) (k1 := 0) (k2 := 0) rfl rfl rfl ?_
  refine gw_aload_n dX3_mark_6 rfl ?_
  refine gw_aload_n dX3_mark_7 rfl ?_
  refine gw_callUo (As := [.ref (ad 0)]) (st := []) (ci := 4) (c_ma5_4 l cy ad sa ta n ln nx sd lb lf lo pg R (trAdd (T) (nI (21))) bo3 hT3  a p ar x y z t hm) okB_X5_mark wd_707 ((gw_has.right ⟨_, hm⟩)) rfl wd_708 hW rfl rfl (by decide) wd_717 rfl rfl dX3_mark_8 (by decide) (by decide) (Nat.le_of_ble_eq_true rfl) (fun r8 w8 hp8 => ?_)
  obtain ⟨rfl, bo8, rfl, hT8⟩ := hp8
  refine gw_W.norm (st' := [.int (p)]) (k1 := 0) (k2 := 0) rfl rfl rfl ?_
  refine gw_istore_n dX3_mark_11 (by decide) rfl ?_
  refine gw_iload_n dX3_mark_12 rfl ?_
  refine gw_aload_n dX3_mark_13 rfl ?_
  refine gw_aload_n dX3_mark_14 rfl ?_
  refine gw_callD (As := [.ref (ad 0)]) (st := [.int (p)]) (ci := 4) (x := ⟨"SpinBench$Lead", "cost", "(LSpinBench;)I"⟩) (owner := "SpinBench$Lead") (c_co6_4_open l cy ad sa ta n ln nx sd lb lf lo pg R (trAdd (trAdd (T) (nI (21))) (nI (20))) bo8 hT8  a p ar x y z t hW m hx h16 hm) okB_X6_cost wd_683 ((gw_has.right ⟨_, hm⟩)) rfl wd_1170 wd_1166 (gw_dec.code wd_687 wd_688) ⟨by decide, by decide⟩ rfl wd_718 rfl rfl dX3_mark_15 (by decide) (by decide) (Nat.le_of_ble_eq_true rfl) (fun r15 w15 hp15 => ?_)
  obtain ⟨rfl, bo15, rfl, hT15⟩ := hp15
  refine gw_W.norm (st' := [.int (nI (2 * (pc16 m))), .int (p)]) (k1 := 0) (k2 := 0) rfl rfl rfl ?_
  refine gw_iadd dX3_mark_18 ?_
  refine gw_iret (?_) (by decide) (by decide) rfl dX3_mark_19
  subst hpost
  exact ⟨rfl, _, rfl, hT15⟩
set_option maxHeartbeats 4000000 in
set_option maxRecDepth 100000 in
theorem c_ma3_1_open (l : Launch) (cy : Nat → ClassId) (ad sa ta : Nat → Nat) (n ln : Nat) (nx sd lb lf : Int32) (lo : Option Nat) (pg : Nat → Option Nat) (R : va_W) (T : List Int32) (bo : Nat → Int32) (hT : agT T bo) (a : Nat) (p : Int32) (ar : Option Nat) (x y z t : Int32) (hW : OpenWord) (hm : (a, .inr (1, [.int (p), va_rf (ar), .int (x), .int (y), .int (z)])) ∈ R) : gw_M l kX3_mark cy [.ref (a), .ref (ad 0)] (tW cy ad sa ta n ln nx sd lb lf lo pg R (T) bo) (qT cy ad sa ta n ln nx sd lb lf lo pg R (some (.int ((p) + (nI (2))))) (trAdd (trAdd (trAdd (trAdd (T) (nI (21))) (nI (20))) (nI (11))) (nI (10)))) := by
  refine gw_M.mk (lv := [some (.ref (a)), some (.ref (ad 0)), none]) (by decide) (Nat.le_of_ble_eq_true rfl) rfl ?_
  generalize hpost : (qT cy ad sa ta n ln nx sd lb lf lo pg R (some (.int ((p) + (nI (2))))) (trAdd (trAdd (trAdd (trAdd (T) (nI (21))) (nI (20))) (nI (11))) (nI (10))) : gw_Q) = post
  refine gw_aload_n dX3_mark_0 rfl ?_
  refine gw_bipush (v := nI (21)) dX3_mark_1 (by decide) ?_
  refine gw_callHN (As := [.int (nI (21))]) (st := []) (t_leave l cy ad sa ta n ln nx sd lb lf lo pg R (T) bo hT (nI (21))) ok_X11_leaveBody (bW_has.left) rfl rfl (host := "SpinBench") (by decide +kernel) rfl rfl dX3_mark_3 (by decide) (by decide) (Nat.le_of_ble_eq_true rfl) (fun r3 w3 hp3 => ?_)
  obtain ⟨rfl, bo3, rfl, hT3⟩ := hp3
  refine gw_W.norm (st' := []) (k1 := 0) (k2 := 0) rfl rfl rfl ?_
  refine gw_aload_n dX3_mark_6 rfl ?_
  refine gw_aload_n dX3_mark_7 rfl ?_
  refine gw_callUo (As := [.ref (ad 0)]) (st := []) (ci := 1) (c_ma5_1 l cy ad sa ta n ln nx sd lb lf lo pg R (trAdd (T) (nI (21))) bo3 hT3  a p ar x y z t hm) okB_X5_mark wd_707 ((gw_has.right ⟨_, hm⟩)) rfl wd_708 hW rfl rfl (by decide) wd_717 rfl rfl dX3_mark_8 (by decide) (by decide) (Nat.le_of_ble_eq_true rfl) (fun r8 w8 hp8 => ?_)
  obtain ⟨rfl, bo8, rfl, hT8⟩ := hp8
  refine gw_W.norm (st' := [.int (p)]) (k1 := 0) (k2 := 0) rfl rfl rfl ?_
  refine gw_istore_n dX3_mark_11 (by decide) rfl ?_
  refine gw_iload_n dX3_mark_12 rfl ?_
  refine gw_aload_n dX3_mark_13 rfl ?_
  refine gw_aload_n dX3_mark_14 rfl ?_
  refine gw_callD (As := [.ref (ad 0)]) (st := [.int (p)]) (ci := 1) (x := ⟨"SpinBench$Lead", "cost", "(LSpinBench;)I"⟩) (owner := "SpinBench$Lead") (c_co3_1_open l cy ad sa ta n ln nx sd lb lf lo pg R (trAdd (trAdd (T) (nI (21))) (nI (20))) bo8 hT8  a p ar x y z t hW hm) okB_X3_cost wd_687 ((gw_has.right ⟨_, hm⟩)) rfl wd_1169 wd_1166 (gw_dec.code wd_687 wd_688) ⟨by decide, by decide⟩ rfl wd_718 rfl rfl dX3_mark_15 (by decide) (by decide) (Nat.le_of_ble_eq_true rfl) (fun r15 w15 hp15 => ?_)
  obtain ⟨rfl, bo15, rfl, hT15⟩ := hp15
  refine gw_W.norm (st' := [.int (nI (2)), .int (p)]) (k1 := 0) (k2 := 0) rfl rfl rfl ?_
  refine gw_iadd dX3_mark_18 ?_
  refine gw_iret (?_) (by decide) (by decide) rfl dX3_mark_19
  subst hpost
  exact ⟨rfl, _, rfl, hT15⟩
abbrev kX1_mark : gw_K := (yX1_mark, cX1_mark, 2, { frames := 5, cells := 0, slots := 0, locals := 106 }, (some .int))
theorem okB_X1_mark : gw_calB kX1_mark 1 := ⟨wd_712, wd_70, by decide, by decide, by decide +kernel⟩
set_option maxHeartbeats 4000000 in
set_option maxRecDepth 100000 in
theorem c_ma1_open (l : Launch) (cy : Nat → ClassId) (ad sa ta : Nat → Nat) (n ln : Nat) (nx sd lb lf : Int32) (lo : Option Nat) (pg : Nat → Option Nat) (R : va_W) (T : List Int32) (bo : Nat → Int32) (hT : agT T bo) (a : Nat) (p : Int32) (ar : Option Nat) (x y z t : Int32) (hW : OpenWord) (hm : (a, .inr (1, [.int (p), va_rf (ar), .int (x), .int (y), .int (z)])) ∈ R) : gw_M l kX1_mark cy [.ref (a), .ref (ad 0)] (tW cy ad sa ta n ln nx sd lb lf lo pg R (T) bo) (qT cy ad sa ta n ln nx sd lb lf lo pg R (some (.int (((p) + (nI (2))) + (y)))) (trAdd (trAdd (trAdd (trAdd (trAdd (T) (nI (22))) (nI (21))) (nI (20))) (nI (11))) (nI (10)))) := by
  refine gw_M.mk (lv := [some (.ref (a)), some (.ref (ad 0))]) (by decide) (Nat.le_of_ble_eq_true rfl) rfl ?_
  generalize hpost : (qT cy ad sa ta n ln nx sd lb lf lo pg R (some (.int (((p) + (nI (2))) + (y)))) (trAdd (trAdd (trAdd (trAdd (trAdd (T) (nI (22))) (nI (21))) (nI (20))) (nI (11))) (nI (10))) : gw_Q) = post
  refine gw_aload_n dX1_mark_0 rfl ?_
  refine gw_bipush (v := nI (22)) dX1_mark_1 (by decide) ?_
  refine gw_callHN (As := [.int (nI (22))]) (st := []) (t_leave l cy ad sa ta n ln nx sd lb lf lo pg R (T) bo hT (nI (22))) ok_X11_leaveBody (bW_has.left) rfl rfl (host := "SpinBench") (by decide +kernel) rfl rfl dX1_mark_3 (by decide) (by decide) (Nat.le_of_ble_eq_true rfl) (fun r3 w3 hp3 => ?_)
  obtain ⟨rfl, bo3, rfl, hT3⟩ := hp3
  refine gw_W.norm (st' := []) (k1 := 0) (k2 := 0) rfl rfl rfl ?_
  refine gw_aload_n dX1_mark_6 rfl ?_
  refine gw_aload_n dX1_mark_7 rfl ?_
  refine gw_callU (As := [.ref (ad 0)]) (st := []) (ci := 1) (c_ma3_1_open l cy ad sa ta n ln nx sd lb lf lo pg R (trAdd (T) (nI (22))) bo3 hT3  a p ar x y z t hW hm) okB_X3_mark wd_715 ((gw_has.right ⟨_, hm⟩)) rfl wd_1167 wd_550 (by decide) wd_714 rfl rfl dX1_mark_8 (by decide) (by decide) (Nat.le_of_ble_eq_true rfl) (fun r8 w8 hp8 => ?_)
  obtain ⟨rfl, bo8, rfl, hT8⟩ := hp8
  refine gw_W.norm (st' := [.int ((p) + (nI (2)))]) (k1 := 0) (k2 := 0) rfl rfl rfl ?_
  refine gw_aload_n dX1_mark_11 rfl ?_
  refine gw_getM (C0 := RX1) (T := TX1) (N := 5) (ref := RX1) (List.mem_append_right _ hm) rfl inX1 3 (by decide) wd_540 (Or.inl rfl) rfl dX1_mark_12 ?_
  refine gw_iadd dX1_mark_15 ?_
  refine gw_iret (?_) (by decide) (by decide) rfl dX1_mark_16
  subst hpost
  exact ⟨rfl, _, rfl, hT8⟩
abbrev kX8_mark : gw_K := (yX8_mark, cX8_mark, 2, { frames := 2, cells := 0, slots := 0, locals := 42 }, (some .int))
theorem okB_X8_mark : gw_calB kX8_mark 1 := ⟨wd_724, wd_73, by decide, by decide, by decide +kernel⟩
set_option maxHeartbeats 4000000 in
set_option maxRecDepth 100000 in
theorem c_ma8 (l : Launch) (cy : Nat → ClassId) (ad sa ta : Nat → Nat) (n ln : Nat) (nx sd lb lf : Int32) (lo : Option Nat) (pg : Nat → Option Nat) (R : va_W) (T : List Int32) (bo : Nat → Int32) (hT : agT T bo) (a : Nat) (p : Int32) (ar : Option Nat) (x y z t : Int32) (hm : (a, .inr (6, [.int (p), va_rf (ar), .int (x), .int (y)])) ∈ R) : gw_M l kX8_mark cy [.ref (a), .ref (ad 0)] (tW cy ad sa ta n ln nx sd lb lf lo pg R (T) bo) (qT cy ad sa ta n ln nx sd lb lf lo pg R (some (.int ((p) + (x)))) (trAdd (trAdd (T) (nI (24))) (nI (20)))) := by
  refine gw_M.mk (lv := [some (.ref (a)), some (.ref (ad 0))]) (by decide) (Nat.le_of_ble_eq_true rfl) rfl ?_
  generalize hpost : (qT cy ad sa ta n ln nx sd lb lf lo pg R (some (.int ((p) + (x)))) (trAdd (trAdd (T) (nI (24))) (nI (20))) : gw_Q) = post
  refine gw_aload_n dX8_mark_0 rfl ?_
  refine gw_bipush (v := nI (24)) dX8_mark_1 (by decide) ?_
  refine gw_callHN (As := [.int (nI (24))]) (st := []) (t_leave l cy ad sa ta n ln nx sd lb lf lo pg R (T) bo hT (nI (24))) ok_X11_leaveBody (bW_has.left) rfl rfl (host := "SpinBench") (by decide +kernel) rfl rfl dX8_mark_3 (by decide) (by decide) (Nat.le_of_ble_eq_true rfl) (fun r3 w3 hp3 => ?_)
  obtain ⟨rfl, bo3, rfl, hT3⟩ := hp3
  refine gw_W.norm (st' := []) (k1 := 0) (k2 := 0) rfl rfl rfl ?_
  refine gw_aload_n dX8_mark_6 rfl ?_
  refine gw_aload_n dX8_mark_7 rfl ?_
  refine gw_callU (As := [.ref (ad 0)]) (st := []) (ci := 6) (c_ma5_6 l cy ad sa ta n ln nx sd lb lf lo pg R (trAdd (T) (nI (24))) bo3 hT3  a p ar x y z t hm) okB_X5_mark wd_707 ((gw_has.right ⟨_, hm⟩)) rfl wd_708 wd_609 (by decide) wd_726 rfl rfl dX8_mark_8 (by decide) (by decide) (Nat.le_of_ble_eq_true rfl) (fun r8 w8 hp8 => ?_)
  obtain ⟨rfl, bo8, rfl, hT8⟩ := hp8
  refine gw_W.norm (st' := [.int (p)]) (k1 := 0) (k2 := 0) rfl rfl rfl ?_
  refine gw_aload_n dX8_mark_11 rfl ?_
  refine gw_getM (C0 := RX8) (T := TX8) (N := 4) (ref := RX8) (List.mem_append_right _ hm) rfl inX8 2 (by decide) wd_601 (Or.inl rfl) rfl dX8_mark_12 ?_
  refine gw_iadd dX8_mark_15 ?_
  refine gw_iret (?_) (by decide) (by decide) rfl dX8_mark_16
  subst hpost
  exact ⟨rfl, _, rfl, hT8⟩
theorem pu_16 {n : Nat} {o : aO} (hn : n ≤ 4) (h : opOK n o) (hk : o.1 < 4) : tI o.2.1 < 2 ^ n ∧ o.2.1 = nI (tI o.2.1) := by
  unfold opOK at h
  have e : ((2 ^ n : Nat) : Int) = 2 ^ n := by rw [Int.natCast_pow]; rfl
  rcases h with h | h | h | h | h
  · obtain ⟨-, h1, h2, -⟩ := h
    exact ⟨by unfold tI; omega, tI_of (by omega)⟩
  · omega
  · omega
  · omega
  · omega
abbrev kX11_ask : gw_K := (yX11_ask, cX11_ask, 4, { frames := 6, cells := 0, slots := 0, locals := 127 }, (some .int))
theorem ok_X11_ask : gw_calV kX11_ask 2 := ⟨⟨wd_671, wd_57, by decide, by decide, by decide +kernel⟩, wd_669, wd_670⟩
set_option maxHeartbeats 4000000 in
set_option maxRecDepth 100000 in
theorem t_cgask_open (l : Launch) (cy : Nat → ClassId) (b : Nat) (σ : aS) (w : va_W) (hI : cInv cy b σ w) (k x : Int32) (hW : OpenWord) : gw_M l kX11_ask cy [.ref (b), .int (k), .int (x)] (w) (cPost cy b (spAsk σ k x)) := by
  obtain ⟨ad, sa, ta, oa, nx, lo, pg, bo, cs, xs, tb, op, td, rfl, hw, hxs, hcs, htb, hop, hN, hbo⟩ := hI
  have hn4 : 1 ≤ σ.1 ∧ σ.1 ≤ 4 := ⟨hN.1, hN.2.1⟩
  refine gw_M.pm hw ?_
  obtain ⟨oc, hoc⟩ := hN.2.2.2.2.1
  have l40 : (sOp σ).length ≤ 40 := hN.2.2.2.1
  have h16 : 2 ^ σ.1 ≤ 16 := by
    have : 2 ^ σ.1 ≤ 2 ^ 4 := Nat.pow_le_pow_right (by decide) hn4.2
    omega
  refine gw_M.mk (lv := [some (.ref (ad 0)), some (.int (k)), some (.int (x)), none]) (by decide) (Nat.le_of_ble_eq_true rfl) rfl ?_
  generalize hpost : (cPost cy (ad 0) (spAsk σ k x) : gw_Q) = post
  refine gw_W.wd (w' := ([(ad 0, .inr (9, [.int (nI (σ.1)), .ref (ad 1), .ref (ad 2), .ref (sa (3 * 0)), .ref (ad 4), .ref (ad 5), .ref (ad 6), .int (nI ((sOp σ).length)), va_rf (lo), .int (nx), .int (σ.2.2.2.2.2.2.1), .int (σ.2.2.2.2.2.2.2), .ref (ad 12), .int (nI ((sTr σ).length)), .int (σ.2.2.2.2.1)])), (ad 1, .inl (cy 3, 9, .inr (.inr (.inr (.inr (fun i => some (sa (3 * i)))))))), (ad 2, .inl (cy 3, 9, .inr (.inr (.inr (.inr (fun i => some (sa (3 * (9 + i))))))))), (ad 5, .inl (cy 4, 8, .inr (.inr (.inr (.inr (fun i => some (ta (2 * i)))))))), (ad 6, .inl (cy 2, 40, .inr (.inr (.inr (.inr (pg)))))), (ad 12, .inl (cy 0, 16, .inl (bo)))] ++ (xs ++ (tb ++ op)))) rfl ?_
  refine gw_aload_n dX11_ask_0 rfl ?_
  refine gw_iload_n dX11_ask_1 rfl ?_
  refine gw_W.wd (w' := bW cy ad sa ta (σ.1) ((sOp σ).length) ((sTr σ).length) nx (σ.2.2.2.2.2.2.1) (σ.2.2.2.2.2.2.2) (σ.2.2.2.2.1) lo pg bo ++ (xs ++ (tb ++ op))) rfl ?_
  refine gw_callV 0 (As := [.int (k)]) (st := []) (c_bopAt l cy ad sa ta (σ.1) ((sOp σ).length) ((sTr σ).length) nx (σ.2.2.2.2.2.2.1) (σ.2.2.2.2.2.2.2) (σ.2.2.2.2.1) lo pg bo (xs ++ (tb ++ op)) (k) l40) ok_X11_opAt rfl rfl rfl wd_614 rfl rfl dX11_ask_2 (by decide) (by decide) (Nat.le_of_ble_eq_true rfl) (fun r2 w2 hp2 => ?_)
  obtain ⟨rfl, rfl⟩ := hp2
  by_cases h2 : inZ (k).toInt 0 (((sOp σ).length : Int) - 1) = true
  · have j9 : tI (k) < (sOp σ).length := by rw [inZ_t] at h2; unfold tI; omega
    rw [if_pos h2, hop.2.2 _ j9]
    have hmj := opP_mem hop j9
    have hko := op_k8 (hN.2.2.2.2.2 _ (opJ_mem j9))
    refine gw_W.norm (st' := [.ref (oa (tI (k)))]) (k1 := 0) (k2 := 0) rfl rfl rfl ?_
    refine gw_W.wd (w' := ([(ad 0, .inr (9, [.int (nI (σ.1)), .ref (ad 1), .ref (ad 2), .ref (sa (3 * 0)), .ref (ad 4), .ref (ad 5), .ref (ad 6), .int (nI ((sOp σ).length)), va_rf (lo), .int (nx), .int (σ.2.2.2.2.2.2.1), .int (σ.2.2.2.2.2.2.2), .ref (ad 12), .int (nI ((sTr σ).length)), .int (σ.2.2.2.2.1)])), (ad 1, .inl (cy 3, 9, .inr (.inr (.inr (.inr (fun i => some (sa (3 * i)))))))), (ad 2, .inl (cy 3, 9, .inr (.inr (.inr (.inr (fun i => some (sa (3 * (9 + i))))))))), (ad 5, .inl (cy 4, 8, .inr (.inr (.inr (.inr (fun i => some (ta (2 * i)))))))), (ad 6, .inl (cy 2, 40, .inr (.inr (.inr (.inr (pg)))))), (ad 12, .inl (cy 0, 16, .inl (bo)))] ++ (xs ++ (tb ++ op)))) rfl ?_
    refine gw_astore_n dX11_ask_5 (by decide) rfl ?_
    refine gw_aload_n dX11_ask_6 rfl ?_
    refine gw_ifnull dX11_ask_7 ?_
    refine gw_iload_n dX11_ask_10 rfl ?_
    refine gw_iconst (v := nI (0)) dX11_ask_11 (by decide) ?_
    refine gw_iconst (v := nI (1)) dX11_ask_12 (by decide) ?_
    refine gw_callS (As := [.int (x), .int (nI (0)), .int (nI (1))]) (st := []) (c_within l cy (x) (nI (0)) (nI (1)) ([(ad 0, .inr (9, [.int (nI (σ.1)), .ref (ad 1), .ref (ad 2), .ref (sa (3 * 0)), .ref (ad 4), .ref (ad 5), .ref (ad 6), .int (nI ((sOp σ).length)), va_rf (lo), .int (nx), .int (σ.2.2.2.2.2.2.1), .int (σ.2.2.2.2.2.2.2), .ref (ad 12), .int (nI ((sTr σ).length)), .int (σ.2.2.2.2.1)])), (ad 1, .inl (cy 3, 9, .inr (.inr (.inr (.inr (fun i => some (sa (3 * i)))))))), (ad 2, .inl (cy 3, 9, .inr (.inr (.inr (.inr (fun i => some (sa (3 * (9 + i))))))))), (ad 5, .inl (cy 4, 8, .inr (.inr (.inr (.inr (fun i => some (ta (2 * i)))))))), (ad 6, .inl (cy 2, 40, .inr (.inr (.inr (.inr (pg)))))), (ad 12, .inl (cy 0, 16, .inl (bo)))] ++ (xs ++ (tb ++ op)))) ok_X11_within wd_230 rfl rfl dX11_ask_13 (by decide) (by decide) (Nat.le_of_ble_eq_true rfl) (fun r13 w13 hp13 => ?_)
    obtain ⟨rfl, rfl⟩ := hp13
    refine gw_W.norm (st' := [.int (bI (inZ (x).toInt (nI (0)).toInt (nI (1)).toInt))]) (k1 := 0) (k2 := 0) rfl rfl rfl ?_
    refine gw_if_ne (tgt := 22) dX11_ask_16 (by decide) (fun c16 => ?_) (fun c16 => ?_)
    · rw [bI_n0] at c16
      have d16 : inZ x.toInt 0 1 = true := c16
      refine gw_aload_n dX11_ask_22 rfl ?_
      refine gw_iconst (v := nI (0)) dX11_ask_23 (by decide) ?_
      refine gw_put (C0 := RX11) (T := TX11) (N := 15) (ref := RX11) (ty := tyX11 13) 0 rfl rfl inX11 13 (by decide) tyX11 tyX11_ok nmX11 wd_189 (Or.inl rfl) rfl (tyX11_ok 13 (by decide)) (rfl) (rfl) (Nat.le_of_ble_eq_true rfl) dX11_ask_24 ?_
      refine gw_W.wd (w' := ([(ad 0, .inr (9, [.int (nI (σ.1)), .ref (ad 1), .ref (ad 2), .ref (sa (3 * 0)), .ref (ad 4), .ref (ad 5), .ref (ad 6), .int (nI ((sOp σ).length)), va_rf (lo), .int (nx), .int (σ.2.2.2.2.2.2.1), .int (σ.2.2.2.2.2.2.2), .ref (ad 12), .int (nI (0)), .int (σ.2.2.2.2.1)])), (ad 1, .inl (cy 3, 9, .inr (.inr (.inr (.inr (fun i => some (sa (3 * i)))))))), (ad 2, .inl (cy 3, 9, .inr (.inr (.inr (.inr (fun i => some (sa (3 * (9 + i))))))))), (ad 5, .inl (cy 4, 8, .inr (.inr (.inr (.inr (fun i => some (ta (2 * i)))))))), (ad 6, .inl (cy 2, 40, .inr (.inr (.inr (.inr (pg)))))), (ad 12, .inl (cy 0, 16, .inl (bo)))] ++ (xs ++ (tb ++ op)))) rfl ?_
      refine gw_iload_n dX11_ask_27 rfl ?_
      refine gw_if_ne (tgt := 39) dX11_ask_28 (by decide) (fun c28 => ?_) (fun c28 => ?_)
      · refine gw_aload_n dX11_ask_39 rfl ?_
        refine gw_aload_n dX11_ask_40 rfl ?_
        rcases (show (opJ (sOp σ) (tI (k))).1 = 2 ∨ (opJ (sOp σ) (tI (k))).1 = 3 ∨ (opJ (sOp σ) (tI (k))).1 = 4 ∨ (opJ (sOp σ) (tI (k))).1 = 5 ∨ (opJ (sOp σ) (tI (k))).1 = 6 ∨ (opJ (sOp σ) (tI (k))).1 = 7 by omega) with hk | hk | hk | hk | hk | hk
        · rw [opCe, if_pos hk] at hmj
          refine gw_W.wd (w' := tW cy ad sa ta σ.1 (sOp σ).length nx σ.2.2.2.2.2.2.1 σ.2.2.2.2.2.2.2 σ.2.2.2.2.1 lo pg (xs ++ (tb ++ op)) [] bo) rfl ?_
          obtain ⟨m16, hx16⟩ := pu_16 hn4.2 (hN.2.2.2.2.2 _ (opJ_mem j9)) (by omega)
          refine gw_callD (As := [.ref (ad 0)]) (st := []) (ci := 4) (x := ⟨"SpinBench$Op", "mark", "(LSpinBench;)I"⟩) (owner := "SpinBench$Op") (c_ma3_4_open l cy ad sa ta σ.1 (sOp σ).length nx σ.2.2.2.2.2.2.1 σ.2.2.2.2.2.2.2 σ.2.2.2.2.1 lo pg (xs ++ (tb ++ op)) [] bo ⟨by decide, fun j hj => absurd hj (Nat.not_lt_zero _)⟩ (oa (tI (k))) (nI (tI (k))) (arOf (sOp σ) oa (tI (k))) (opJ (sOp σ) (tI (k))).2.1 (opJ (sOp σ) (tI (k))).2.2.1 (opJ (sOp σ) (tI (k))).2.2.2.1 0 hW (tI (opJ (sOp σ) (tI (k))).2.1) hx16 (by omega) (List.mem_append_right _ (List.mem_append_right _ hmj))) okB_X3_mark wd_715 (gw_has.right ⟨_, List.mem_append_right _ (List.mem_append_right _ hmj)⟩) rfl wd_720 wd_708 (gw_dec.code wd_707 wd_727) ⟨by decide, by decide⟩ rfl wd_706 rfl rfl dX11_ask_41 (by decide) (by decide) (Nat.le_of_ble_eq_true rfl) (fun r41 w41 hp41 => ?_)
          obtain ⟨rfl, bo9, rfl, hT9⟩ := hp41
          refine gw_W.norm (st' := [.int (((nI (tI (k)))) + (nI (2 * (pc16 (tI (opJ (sOp σ) (tI (k))).2.1)))))]) (k1 := 0) (k2 := 0) rfl rfl rfl ?_
          refine gw_W.wd (w' := ([(ad 0, .inr (9, [.int (nI (σ.1)), .ref (ad 1), .ref (ad 2), .ref (sa (3 * 0)), .ref (ad 4), .ref (ad 5), .ref (ad 6), .int (nI ((sOp σ).length)), va_rf (lo), .int (nx), .int (σ.2.2.2.2.2.2.1), .int (σ.2.2.2.2.2.2.2), .ref (ad 12), .int (nI ((trAdd (trAdd (trAdd (trAdd (trAdd ([]) (nI (21))) (nI (20))) (nI (12))) (nI (11))) (nI (10))).length)), .int (σ.2.2.2.2.1)])), (ad 1, .inl (cy 3, 9, .inr (.inr (.inr (.inr (fun i => some (sa (3 * i)))))))), (ad 2, .inl (cy 3, 9, .inr (.inr (.inr (.inr (fun i => some (sa (3 * (9 + i))))))))), (ad 5, .inl (cy 4, 8, .inr (.inr (.inr (.inr (fun i => some (ta (2 * i)))))))), (ad 6, .inl (cy 2, 40, .inr (.inr (.inr (.inr (pg)))))), (ad 12, .inl (cy 0, 16, .inl (bo9)))] ++ (xs ++ (tb ++ op)))) rfl ?_
          have hk9 : (opA σ k).1 = 2 := hk
          have hpc := pop_pc σ.1 (by omega) (tI (opJ (sOp σ) (tI (k))).2.1) (by omega) m16
          rw [← hx16] at hpc
          have hTT : trAll [] (markL (opA σ k).1) = trAdd (trAdd (trAdd (trAdd (trAdd ([]) (nI (21))) (nI (20))) (nI (12))) (nI (11))) (nI (10)) := by rw [hk9]; rfl
          have hkk : k = nI (tI (k)) := tI_eq h2
          have hVV : markV σ.1 k (opA σ k) = ((nI (tI (k)))) + (nI (2 * (pc16 (tI (opJ (sOp σ) (tI (k))).2.1)))) := by unfold markV; rw [if_neg (by omega), if_neg (by omega), if_neg (by omega)]; unfold markB; rw [if_pos (by omega)]; rw [show costV σ.1 (opA σ k) = nI (2 * (pc16 (tI (opJ (sOp σ) (tI (k))).2.1))) from by unfold costV; rw [if_neg (by omega), if_neg (by omega)]; unfold costB; rw [if_pos (by omega), if_pos (by omega)]; exact hpc]; rw [← hkk]
          refine gw_W.wd (w' := bW cy ad sa ta (σ.1) ((sOp σ).length) ((trAdd (trAdd (trAdd (trAdd (trAdd ([]) (nI (21))) (nI (20))) (nI (12))) (nI (11))) (nI (10))).length) nx (σ.2.2.2.2.2.2.1) (σ.2.2.2.2.2.2.2) (σ.2.2.2.2.1) lo pg bo9 ++ (xs ++ (tb ++ op))) rfl ?_
          refine gw_iret (?_) (by decide) (by decide) rfl dX11_ask_44
          subst hpost
          unfold spAsk
          rw [if_pos ⟨show isO σ k = true from h2, d16⟩]
          first
            | (rw [if_pos c28, hTT]; exact ⟨congrArg (fun z => some (Value.int z)) hVV.symm, ad, sa, ta, oa, nx, lo, pg, bo9, cs, xs, tb, op, td, rfl, List.Perm.refl _, hxs, hcs, htb, hop, ⟨hN.1, hN.2.1, hT9.1, hN.2.2.2⟩, hT9.2⟩)
            | (rw [if_neg c28, hTT]; exact ⟨congrArg (fun z => some (Value.int z)) hVV.symm, ad, sa, ta, oa, nx, lo, pg, bo9, cs, xs, tb, op, td, rfl, List.Perm.refl _, hxs, hcs, htb, hop, ⟨hN.1, hN.2.1, hT9.1, hN.2.2.2⟩, hT9.2⟩)
        · rw [opCe, if_neg (by omega), if_pos hk] at hmj
          refine gw_W.wd (w' := tW cy ad sa ta σ.1 (sOp σ).length nx σ.2.2.2.2.2.2.1 σ.2.2.2.2.2.2.2 σ.2.2.2.2.1 lo pg (xs ++ (tb ++ op)) [] bo) rfl ?_
          refine gw_callD (As := [.ref (ad 0)]) (st := []) (ci := 0) (x := ⟨"SpinBench$Op", "mark", "(LSpinBench;)I"⟩) (owner := "SpinBench$Op") (c_ma0 l cy ad sa ta σ.1 (sOp σ).length nx σ.2.2.2.2.2.2.1 σ.2.2.2.2.2.2.2 σ.2.2.2.2.1 lo pg (xs ++ (tb ++ op)) [] bo ⟨by decide, fun j hj => absurd hj (Nat.not_lt_zero _)⟩ (oa (tI (k))) (nI (tI (k))) (arOf (sOp σ) oa (tI (k))) (opJ (sOp σ) (tI (k))).2.1 (opJ (sOp σ) (tI (k))).2.2.1 (opJ (sOp σ) (tI (k))).2.2.2.1 (opJ (sOp σ) (tI (k))).2.2.2.2 (List.mem_append_right _ (List.mem_append_right _ hmj))) okB_X0_mark wd_693 (gw_has.right ⟨_, List.mem_append_right _ (List.mem_append_right _ hmj)⟩) rfl wd_709 wd_708 (gw_dec.code wd_707 wd_727) ⟨by decide, by decide⟩ rfl wd_706 rfl rfl dX11_ask_41 (by decide) (by decide) (Nat.le_of_ble_eq_true rfl) (fun r41 w41 hp41 => ?_)
          obtain ⟨rfl, bo9, rfl, hT9⟩ := hp41
          refine gw_W.norm (st' := [.int (((opJ (sOp σ) (tI (k))).2.2.2.2))]) (k1 := 0) (k2 := 0) rfl rfl rfl ?_
          refine gw_W.wd (w' := ([(ad 0, .inr (9, [.int (nI (σ.1)), .ref (ad 1), .ref (ad 2), .ref (sa (3 * 0)), .ref (ad 4), .ref (ad 5), .ref (ad 6), .int (nI ((sOp σ).length)), va_rf (lo), .int (nx), .int (σ.2.2.2.2.2.2.1), .int (σ.2.2.2.2.2.2.2), .ref (ad 12), .int (nI ((trAdd ([]) (nI (23))).length)), .int (σ.2.2.2.2.1)])), (ad 1, .inl (cy 3, 9, .inr (.inr (.inr (.inr (fun i => some (sa (3 * i)))))))), (ad 2, .inl (cy 3, 9, .inr (.inr (.inr (.inr (fun i => some (sa (3 * (9 + i))))))))), (ad 5, .inl (cy 4, 8, .inr (.inr (.inr (.inr (fun i => some (ta (2 * i)))))))), (ad 6, .inl (cy 2, 40, .inr (.inr (.inr (.inr (pg)))))), (ad 12, .inl (cy 0, 16, .inl (bo9)))] ++ (xs ++ (tb ++ op)))) rfl ?_
          have hk9 : (opA σ k).1 = 3 := hk
          have hTT : trAll [] (markL (opA σ k).1) = trAdd ([]) (nI (23)) := by rw [hk9]; rfl
          have hkk : k = nI (tI (k)) := tI_eq h2
          have hVV : markV σ.1 k (opA σ k) = ((opJ (sOp σ) (tI (k))).2.2.2.2) := by unfold markV; rw [if_pos hk9]; rfl
          refine gw_W.wd (w' := bW cy ad sa ta (σ.1) ((sOp σ).length) ((trAdd ([]) (nI (23))).length) nx (σ.2.2.2.2.2.2.1) (σ.2.2.2.2.2.2.2) (σ.2.2.2.2.1) lo pg bo9 ++ (xs ++ (tb ++ op))) rfl ?_
          refine gw_iret (?_) (by decide) (by decide) rfl dX11_ask_44
          subst hpost
          unfold spAsk
          rw [if_pos ⟨show isO σ k = true from h2, d16⟩]
          first
            | (rw [if_pos c28, hTT]; exact ⟨congrArg (fun z => some (Value.int z)) hVV.symm, ad, sa, ta, oa, nx, lo, pg, bo9, cs, xs, tb, op, td, rfl, List.Perm.refl _, hxs, hcs, htb, hop, ⟨hN.1, hN.2.1, hT9.1, hN.2.2.2⟩, hT9.2⟩)
            | (rw [if_neg c28, hTT]; exact ⟨congrArg (fun z => some (Value.int z)) hVV.symm, ad, sa, ta, oa, nx, lo, pg, bo9, cs, xs, tb, op, td, rfl, List.Perm.refl _, hxs, hcs, htb, hop, ⟨hN.1, hN.2.1, hT9.1, hN.2.2.2⟩, hT9.2⟩)
        · rw [opCe, if_neg (by omega), if_neg (by omega), if_pos hk] at hmj
          refine gw_W.wd (w' := tW cy ad sa ta σ.1 (sOp σ).length nx σ.2.2.2.2.2.2.1 σ.2.2.2.2.2.2.2 σ.2.2.2.2.1 lo pg (xs ++ (tb ++ op)) [] bo) rfl ?_
          refine gw_callD (As := [.ref (ad 0)]) (st := []) (ci := 1) (x := ⟨"SpinBench$Op", "mark", "(LSpinBench;)I"⟩) (owner := "SpinBench$Op") (c_ma1_open l cy ad sa ta σ.1 (sOp σ).length nx σ.2.2.2.2.2.2.1 σ.2.2.2.2.2.2.2 σ.2.2.2.2.1 lo pg (xs ++ (tb ++ op)) [] bo ⟨by decide, fun j hj => absurd hj (Nat.not_lt_zero _)⟩ (oa (tI (k))) (nI (tI (k))) (arOf (sOp σ) oa (tI (k))) (opJ (sOp σ) (tI (k))).2.1 (opJ (sOp σ) (tI (k))).2.2.1 (opJ (sOp σ) (tI (k))).2.2.2.1 0 hW (List.mem_append_right _ (List.mem_append_right _ hmj))) okB_X1_mark wd_711 (gw_has.right ⟨_, List.mem_append_right _ (List.mem_append_right _ hmj)⟩) rfl wd_710 wd_708 (gw_dec.code wd_707 wd_727) ⟨by decide, by decide⟩ rfl wd_706 rfl rfl dX11_ask_41 (by decide) (by decide) (Nat.le_of_ble_eq_true rfl) (fun r41 w41 hp41 => ?_)
          obtain ⟨rfl, bo9, rfl, hT9⟩ := hp41
          refine gw_W.norm (st' := [.int ((((nI (tI (k)))) + (nI (2))) + (((opJ (sOp σ) (tI (k))).2.2.1)))]) (k1 := 0) (k2 := 0) rfl rfl rfl ?_
          refine gw_W.wd (w' := ([(ad 0, .inr (9, [.int (nI (σ.1)), .ref (ad 1), .ref (ad 2), .ref (sa (3 * 0)), .ref (ad 4), .ref (ad 5), .ref (ad 6), .int (nI ((sOp σ).length)), va_rf (lo), .int (nx), .int (σ.2.2.2.2.2.2.1), .int (σ.2.2.2.2.2.2.2), .ref (ad 12), .int (nI ((trAdd (trAdd (trAdd (trAdd (trAdd ([]) (nI (22))) (nI (21))) (nI (20))) (nI (11))) (nI (10))).length)), .int (σ.2.2.2.2.1)])), (ad 1, .inl (cy 3, 9, .inr (.inr (.inr (.inr (fun i => some (sa (3 * i)))))))), (ad 2, .inl (cy 3, 9, .inr (.inr (.inr (.inr (fun i => some (sa (3 * (9 + i))))))))), (ad 5, .inl (cy 4, 8, .inr (.inr (.inr (.inr (fun i => some (ta (2 * i)))))))), (ad 6, .inl (cy 2, 40, .inr (.inr (.inr (.inr (pg)))))), (ad 12, .inl (cy 0, 16, .inl (bo9)))] ++ (xs ++ (tb ++ op)))) rfl ?_
          have hk9 : (opA σ k).1 = 4 := hk
          have hTT : trAll [] (markL (opA σ k).1) = trAdd (trAdd (trAdd (trAdd (trAdd ([]) (nI (22))) (nI (21))) (nI (20))) (nI (11))) (nI (10)) := by rw [hk9]; rfl
          have hkk : k = nI (tI (k)) := tI_eq h2
          have hVV : markV σ.1 k (opA σ k) = (((nI (tI (k)))) + (nI (2))) + (((opJ (sOp σ) (tI (k))).2.2.1)) := by unfold markV; rw [if_neg (by omega), if_pos hk9]; unfold markB; rw [if_pos (by omega)]; rw [show costV σ.1 (opA σ k) = nI 2 from by unfold costV; rw [if_neg (by omega), if_neg (by omega)]; unfold costB; rw [if_neg (by omega), if_pos (by omega)]]; rw [← hkk]; rfl
          refine gw_W.wd (w' := bW cy ad sa ta (σ.1) ((sOp σ).length) ((trAdd (trAdd (trAdd (trAdd (trAdd ([]) (nI (22))) (nI (21))) (nI (20))) (nI (11))) (nI (10))).length) nx (σ.2.2.2.2.2.2.1) (σ.2.2.2.2.2.2.2) (σ.2.2.2.2.1) lo pg bo9 ++ (xs ++ (tb ++ op))) rfl ?_
          refine gw_iret (?_) (by decide) (by decide) rfl dX11_ask_44
          subst hpost
          unfold spAsk
          rw [if_pos ⟨show isO σ k = true from h2, d16⟩]
          first
            | (rw [if_pos c28, hTT]; exact ⟨congrArg (fun z => some (Value.int z)) hVV.symm, ad, sa, ta, oa, nx, lo, pg, bo9, cs, xs, tb, op, td, rfl, List.Perm.refl _, hxs, hcs, htb, hop, ⟨hN.1, hN.2.1, hT9.1, hN.2.2.2⟩, hT9.2⟩)
            | (rw [if_neg c28, hTT]; exact ⟨congrArg (fun z => some (Value.int z)) hVV.symm, ad, sa, ta, oa, nx, lo, pg, bo9, cs, xs, tb, op, td, rfl, List.Perm.refl _, hxs, hcs, htb, hop, ⟨hN.1, hN.2.1, hT9.1, hN.2.2.2⟩, hT9.2⟩)
        · rw [opCe, if_neg (by omega), if_neg (by omega), if_neg (by omega), if_pos hk] at hmj
          refine gw_W.wd (w' := tW cy ad sa ta σ.1 (sOp σ).length nx σ.2.2.2.2.2.2.1 σ.2.2.2.2.2.2.2 σ.2.2.2.2.1 lo pg (xs ++ (tb ++ op)) [] bo) rfl ?_
          refine gw_callD (As := [.ref (ad 0)]) (st := []) (ci := 5) (x := ⟨"SpinBench$Op", "mark", "(LSpinBench;)I"⟩) (owner := "SpinBench$Op") (c_ma5_5 l cy ad sa ta σ.1 (sOp σ).length nx σ.2.2.2.2.2.2.1 σ.2.2.2.2.2.2.2 σ.2.2.2.2.1 lo pg (xs ++ (tb ++ op)) [] bo ⟨by decide, fun j hj => absurd hj (Nat.not_lt_zero _)⟩ (oa (tI (k))) (nI (tI (k))) (arOf (sOp σ) oa (tI (k))) (opJ (sOp σ) (tI (k))).2.1 0 0 (td (tI (k))) (List.mem_append_right _ (List.mem_append_right _ hmj))) okB_X5_mark wd_707 (gw_has.right ⟨_, List.mem_append_right _ (List.mem_append_right _ hmj)⟩) rfl wd_721 wd_708 (gw_dec.code wd_707 wd_727) ⟨by decide, by decide⟩ rfl wd_706 rfl rfl dX11_ask_41 (by decide) (by decide) (Nat.le_of_ble_eq_true rfl) (fun r41 w41 hp41 => ?_)
          obtain ⟨rfl, bo9, rfl, hT9⟩ := hp41
          refine gw_W.norm (st' := [.int ((nI (tI (k))))]) (k1 := 0) (k2 := 0) rfl rfl rfl ?_
          refine gw_W.wd (w' := ([(ad 0, .inr (9, [.int (nI (σ.1)), .ref (ad 1), .ref (ad 2), .ref (sa (3 * 0)), .ref (ad 4), .ref (ad 5), .ref (ad 6), .int (nI ((sOp σ).length)), va_rf (lo), .int (nx), .int (σ.2.2.2.2.2.2.1), .int (σ.2.2.2.2.2.2.2), .ref (ad 12), .int (nI ((trAdd ([]) (nI (20))).length)), .int (σ.2.2.2.2.1)])), (ad 1, .inl (cy 3, 9, .inr (.inr (.inr (.inr (fun i => some (sa (3 * i)))))))), (ad 2, .inl (cy 3, 9, .inr (.inr (.inr (.inr (fun i => some (sa (3 * (9 + i))))))))), (ad 5, .inl (cy 4, 8, .inr (.inr (.inr (.inr (fun i => some (ta (2 * i)))))))), (ad 6, .inl (cy 2, 40, .inr (.inr (.inr (.inr (pg)))))), (ad 12, .inl (cy 0, 16, .inl (bo9)))] ++ (xs ++ (tb ++ op)))) rfl ?_
          have hk9 : (opA σ k).1 = 5 := hk
          have hTT : trAll [] (markL (opA σ k).1) = trAdd ([]) (nI (20)) := by rw [hk9]; rfl
          have hkk : k = nI (tI (k)) := tI_eq h2
          have hVV : markV σ.1 k (opA σ k) = (nI (tI (k))) := by unfold markV; rw [if_neg (by omega), if_neg (by omega), if_neg (by omega)]; unfold markB; rw [if_neg (by omega)]; rw [show (nI 0 : Int32) = 0 from rfl, Int32.add_zero]; exact hkk
          refine gw_W.wd (w' := bW cy ad sa ta (σ.1) ((sOp σ).length) ((trAdd ([]) (nI (20))).length) nx (σ.2.2.2.2.2.2.1) (σ.2.2.2.2.2.2.2) (σ.2.2.2.2.1) lo pg bo9 ++ (xs ++ (tb ++ op))) rfl ?_
          refine gw_iret (?_) (by decide) (by decide) rfl dX11_ask_44
          subst hpost
          unfold spAsk
          rw [if_pos ⟨show isO σ k = true from h2, d16⟩]
          first
            | (rw [if_pos c28, hTT]; exact ⟨congrArg (fun z => some (Value.int z)) hVV.symm, ad, sa, ta, oa, nx, lo, pg, bo9, cs, xs, tb, op, td, rfl, List.Perm.refl _, hxs, hcs, htb, hop, ⟨hN.1, hN.2.1, hT9.1, hN.2.2.2⟩, hT9.2⟩)
            | (rw [if_neg c28, hTT]; exact ⟨congrArg (fun z => some (Value.int z)) hVV.symm, ad, sa, ta, oa, nx, lo, pg, bo9, cs, xs, tb, op, td, rfl, List.Perm.refl _, hxs, hcs, htb, hop, ⟨hN.1, hN.2.1, hT9.1, hN.2.2.2⟩, hT9.2⟩)
        · rw [opCe, if_neg (by omega), if_neg (by omega), if_neg (by omega), if_neg (by omega), if_pos hk] at hmj
          refine gw_W.wd (w' := tW cy ad sa ta σ.1 (sOp σ).length nx σ.2.2.2.2.2.2.1 σ.2.2.2.2.2.2.2 σ.2.2.2.2.1 lo pg (xs ++ (tb ++ op)) [] bo) rfl ?_
          refine gw_callD (As := [.ref (ad 0)]) (st := []) (ci := 2) (x := ⟨"SpinBench$Op", "mark", "(LSpinBench;)I"⟩) (owner := "SpinBench$Op") (c_ma5_2 l cy ad sa ta σ.1 (sOp σ).length nx σ.2.2.2.2.2.2.1 σ.2.2.2.2.2.2.2 σ.2.2.2.2.1 lo pg (xs ++ (tb ++ op)) [] bo ⟨by decide, fun j hj => absurd hj (Nat.not_lt_zero _)⟩ (oa (tI (k))) (nI (tI (k))) (arOf (sOp σ) oa (tI (k))) 0 0 0 0 (List.mem_append_right _ (List.mem_append_right _ hmj))) okB_X5_mark wd_707 (gw_has.right ⟨_, List.mem_append_right _ (List.mem_append_right _ hmj)⟩) rfl wd_719 wd_708 (gw_dec.code wd_707 wd_727) ⟨by decide, by decide⟩ rfl wd_706 rfl rfl dX11_ask_41 (by decide) (by decide) (Nat.le_of_ble_eq_true rfl) (fun r41 w41 hp41 => ?_)
          obtain ⟨rfl, bo9, rfl, hT9⟩ := hp41
          refine gw_W.norm (st' := [.int ((nI (tI (k))))]) (k1 := 0) (k2 := 0) rfl rfl rfl ?_
          refine gw_W.wd (w' := ([(ad 0, .inr (9, [.int (nI (σ.1)), .ref (ad 1), .ref (ad 2), .ref (sa (3 * 0)), .ref (ad 4), .ref (ad 5), .ref (ad 6), .int (nI ((sOp σ).length)), va_rf (lo), .int (nx), .int (σ.2.2.2.2.2.2.1), .int (σ.2.2.2.2.2.2.2), .ref (ad 12), .int (nI ((trAdd ([]) (nI (20))).length)), .int (σ.2.2.2.2.1)])), (ad 1, .inl (cy 3, 9, .inr (.inr (.inr (.inr (fun i => some (sa (3 * i)))))))), (ad 2, .inl (cy 3, 9, .inr (.inr (.inr (.inr (fun i => some (sa (3 * (9 + i))))))))), (ad 5, .inl (cy 4, 8, .inr (.inr (.inr (.inr (fun i => some (ta (2 * i)))))))), (ad 6, .inl (cy 2, 40, .inr (.inr (.inr (.inr (pg)))))), (ad 12, .inl (cy 0, 16, .inl (bo9)))] ++ (xs ++ (tb ++ op)))) rfl ?_
          have hk9 : (opA σ k).1 = 6 := hk
          have hTT : trAll [] (markL (opA σ k).1) = trAdd ([]) (nI (20)) := by rw [hk9]; rfl
          have hkk : k = nI (tI (k)) := tI_eq h2
          have hVV : markV σ.1 k (opA σ k) = (nI (tI (k))) := by unfold markV; rw [if_neg (by omega), if_neg (by omega), if_neg (by omega)]; unfold markB; rw [if_neg (by omega)]; rw [show (nI 0 : Int32) = 0 from rfl, Int32.add_zero]; exact hkk
          refine gw_W.wd (w' := bW cy ad sa ta (σ.1) ((sOp σ).length) ((trAdd ([]) (nI (20))).length) nx (σ.2.2.2.2.2.2.1) (σ.2.2.2.2.2.2.2) (σ.2.2.2.2.1) lo pg bo9 ++ (xs ++ (tb ++ op))) rfl ?_
          refine gw_iret (?_) (by decide) (by decide) rfl dX11_ask_44
          subst hpost
          unfold spAsk
          rw [if_pos ⟨show isO σ k = true from h2, d16⟩]
          first
            | (rw [if_pos c28, hTT]; exact ⟨congrArg (fun z => some (Value.int z)) hVV.symm, ad, sa, ta, oa, nx, lo, pg, bo9, cs, xs, tb, op, td, rfl, List.Perm.refl _, hxs, hcs, htb, hop, ⟨hN.1, hN.2.1, hT9.1, hN.2.2.2⟩, hT9.2⟩)
            | (rw [if_neg c28, hTT]; exact ⟨congrArg (fun z => some (Value.int z)) hVV.symm, ad, sa, ta, oa, nx, lo, pg, bo9, cs, xs, tb, op, td, rfl, List.Perm.refl _, hxs, hcs, htb, hop, ⟨hN.1, hN.2.1, hT9.1, hN.2.2.2⟩, hT9.2⟩)
        · rw [opCe, if_neg (by omega), if_neg (by omega), if_neg (by omega), if_neg (by omega), if_neg (by omega)] at hmj
          refine gw_W.wd (w' := tW cy ad sa ta σ.1 (sOp σ).length nx σ.2.2.2.2.2.2.1 σ.2.2.2.2.2.2.2 σ.2.2.2.2.1 lo pg (xs ++ (tb ++ op)) [] bo) rfl ?_
          refine gw_callD (As := [.ref (ad 0)]) (st := []) (ci := 6) (x := ⟨"SpinBench$Op", "mark", "(LSpinBench;)I"⟩) (owner := "SpinBench$Op") (c_ma8 l cy ad sa ta σ.1 (sOp σ).length nx σ.2.2.2.2.2.2.1 σ.2.2.2.2.2.2.2 σ.2.2.2.2.1 lo pg (xs ++ (tb ++ op)) [] bo ⟨by decide, fun j hj => absurd hj (Nat.not_lt_zero _)⟩ (oa (tI (k))) (nI (tI (k))) (arOf (sOp σ) oa (tI (k))) (opJ (sOp σ) (tI (k))).2.1 (opJ (sOp σ) (tI (k))).2.2.1 0 0 (List.mem_append_right _ (List.mem_append_right _ hmj))) okB_X8_mark wd_723 (gw_has.right ⟨_, List.mem_append_right _ (List.mem_append_right _ hmj)⟩) rfl wd_722 wd_708 (gw_dec.code wd_707 wd_727) ⟨by decide, by decide⟩ rfl wd_706 rfl rfl dX11_ask_41 (by decide) (by decide) (Nat.le_of_ble_eq_true rfl) (fun r41 w41 hp41 => ?_)
          obtain ⟨rfl, bo9, rfl, hT9⟩ := hp41
          refine gw_W.norm (st' := [.int (((nI (tI (k)))) + (((opJ (sOp σ) (tI (k))).2.1)))]) (k1 := 0) (k2 := 0) rfl rfl rfl ?_
          refine gw_W.wd (w' := ([(ad 0, .inr (9, [.int (nI (σ.1)), .ref (ad 1), .ref (ad 2), .ref (sa (3 * 0)), .ref (ad 4), .ref (ad 5), .ref (ad 6), .int (nI ((sOp σ).length)), va_rf (lo), .int (nx), .int (σ.2.2.2.2.2.2.1), .int (σ.2.2.2.2.2.2.2), .ref (ad 12), .int (nI ((trAdd (trAdd ([]) (nI (24))) (nI (20))).length)), .int (σ.2.2.2.2.1)])), (ad 1, .inl (cy 3, 9, .inr (.inr (.inr (.inr (fun i => some (sa (3 * i)))))))), (ad 2, .inl (cy 3, 9, .inr (.inr (.inr (.inr (fun i => some (sa (3 * (9 + i))))))))), (ad 5, .inl (cy 4, 8, .inr (.inr (.inr (.inr (fun i => some (ta (2 * i)))))))), (ad 6, .inl (cy 2, 40, .inr (.inr (.inr (.inr (pg)))))), (ad 12, .inl (cy 0, 16, .inl (bo9)))] ++ (xs ++ (tb ++ op)))) rfl ?_
          have hk9 : (opA σ k).1 = 7 := hk
          have hTT : trAll [] (markL (opA σ k).1) = trAdd (trAdd ([]) (nI (24))) (nI (20)) := by rw [hk9]; rfl
          have hkk : k = nI (tI (k)) := tI_eq h2
          have hVV : markV σ.1 k (opA σ k) = ((nI (tI (k)))) + (((opJ (sOp σ) (tI (k))).2.1)) := by unfold markV; rw [if_neg (by omega), if_neg (by omega), if_pos hk9]; unfold markB; rw [if_neg (by omega)]; rw [show (nI 0 : Int32) = 0 from rfl, Int32.add_zero]; rw [← hkk]; rfl
          refine gw_W.wd (w' := bW cy ad sa ta (σ.1) ((sOp σ).length) ((trAdd (trAdd ([]) (nI (24))) (nI (20))).length) nx (σ.2.2.2.2.2.2.1) (σ.2.2.2.2.2.2.2) (σ.2.2.2.2.1) lo pg bo9 ++ (xs ++ (tb ++ op))) rfl ?_
          refine gw_iret (?_) (by decide) (by decide) rfl dX11_ask_44
          subst hpost
          unfold spAsk
          rw [if_pos ⟨show isO σ k = true from h2, d16⟩]
          first
            | (rw [if_pos c28, hTT]; exact ⟨congrArg (fun z => some (Value.int z)) hVV.symm, ad, sa, ta, oa, nx, lo, pg, bo9, cs, xs, tb, op, td, rfl, List.Perm.refl _, hxs, hcs, htb, hop, ⟨hN.1, hN.2.1, hT9.1, hN.2.2.2⟩, hT9.2⟩)
            | (rw [if_neg c28, hTT]; exact ⟨congrArg (fun z => some (Value.int z)) hVV.symm, ad, sa, ta, oa, nx, lo, pg, bo9, cs, xs, tb, op, td, rfl, List.Perm.refl _, hxs, hcs, htb, hop, ⟨hN.1, hN.2.1, hT9.1, hN.2.2.2⟩, hT9.2⟩)
      · refine gw_aload_n dX11_ask_31 rfl ?_
        refine gw_aload_n dX11_ask_32 rfl ?_
        rcases (show (opJ (sOp σ) (tI (k))).1 = 2 ∨ (opJ (sOp σ) (tI (k))).1 = 3 ∨ (opJ (sOp σ) (tI (k))).1 = 4 ∨ (opJ (sOp σ) (tI (k))).1 = 5 ∨ (opJ (sOp σ) (tI (k))).1 = 6 ∨ (opJ (sOp σ) (tI (k))).1 = 7 by omega) with hk | hk | hk | hk | hk | hk
        · rw [opCe, if_pos hk] at hmj
          refine gw_W.wd (w' := tW cy ad sa ta σ.1 (sOp σ).length nx σ.2.2.2.2.2.2.1 σ.2.2.2.2.2.2.2 σ.2.2.2.2.1 lo pg (xs ++ (tb ++ op)) [] bo) rfl ?_
          obtain ⟨m16, hx16⟩ := pu_16 hn4.2 (hN.2.2.2.2.2 _ (opJ_mem j9)) (by omega)
          refine gw_callD (As := [.ref (ad 0)]) (st := []) (ci := 4) (x := ⟨"SpinBench$Op", "cost", "(LSpinBench;)I"⟩) (owner := "SpinBench$Op") (c_co6_4_open l cy ad sa ta σ.1 (sOp σ).length nx σ.2.2.2.2.2.2.1 σ.2.2.2.2.2.2.2 σ.2.2.2.2.1 lo pg (xs ++ (tb ++ op)) [] bo ⟨by decide, fun j hj => absurd hj (Nat.not_lt_zero _)⟩ (oa (tI (k))) (nI (tI (k))) (arOf (sOp σ) oa (tI (k))) (opJ (sOp σ) (tI (k))).2.1 (opJ (sOp σ) (tI (k))).2.2.1 (opJ (sOp σ) (tI (k))).2.2.2.1 0 hW (tI (opJ (sOp σ) (tI (k))).2.1) hx16 (by omega) (List.mem_append_right _ (List.mem_append_right _ hmj))) okB_X6_cost wd_683 (gw_has.right ⟨_, List.mem_append_right _ (List.mem_append_right _ hmj)⟩) rfl wd_698 wd_674 (gw_dec.code wd_673 wd_704) ⟨by decide, by decide⟩ rfl wd_672 rfl rfl dX11_ask_33 (by decide) (by decide) (Nat.le_of_ble_eq_true rfl) (fun r33 w33 hp33 => ?_)
          obtain ⟨rfl, bo9, rfl, hT9⟩ := hp33
          refine gw_W.norm (st' := [.int (nI (2 * (pc16 (tI (opJ (sOp σ) (tI (k))).2.1))))]) (k1 := 0) (k2 := 0) rfl rfl rfl ?_
          refine gw_W.wd (w' := ([(ad 0, .inr (9, [.int (nI (σ.1)), .ref (ad 1), .ref (ad 2), .ref (sa (3 * 0)), .ref (ad 4), .ref (ad 5), .ref (ad 6), .int (nI ((sOp σ).length)), va_rf (lo), .int (nx), .int (σ.2.2.2.2.2.2.1), .int (σ.2.2.2.2.2.2.2), .ref (ad 12), .int (nI ((trAdd (trAdd (trAdd ([]) (nI (12))) (nI (11))) (nI (10))).length)), .int (σ.2.2.2.2.1)])), (ad 1, .inl (cy 3, 9, .inr (.inr (.inr (.inr (fun i => some (sa (3 * i)))))))), (ad 2, .inl (cy 3, 9, .inr (.inr (.inr (.inr (fun i => some (sa (3 * (9 + i))))))))), (ad 5, .inl (cy 4, 8, .inr (.inr (.inr (.inr (fun i => some (ta (2 * i)))))))), (ad 6, .inl (cy 2, 40, .inr (.inr (.inr (.inr (pg)))))), (ad 12, .inl (cy 0, 16, .inl (bo9)))] ++ (xs ++ (tb ++ op)))) rfl ?_
          have hk9 : (opA σ k).1 = 2 := hk
          have hpc := pop_pc σ.1 (by omega) (tI (opJ (sOp σ) (tI (k))).2.1) (by omega) m16
          rw [← hx16] at hpc
          have hTT : trAll [] (costL (opA σ k).1) = trAdd (trAdd (trAdd ([]) (nI (12))) (nI (11))) (nI (10)) := by rw [hk9]; rfl
          have hVV : costV σ.1 (opA σ k) = nI (2 * (pc16 (tI (opJ (sOp σ) (tI (k))).2.1))) := by unfold costV; rw [if_neg (by omega), if_neg (by omega)]; unfold costB; rw [if_pos (by omega), if_pos (by omega)]; exact hpc
          refine gw_goto (tgt := 44) dX11_ask_36 (by decide) ?_
          refine gw_W.wd (w' := bW cy ad sa ta (σ.1) ((sOp σ).length) ((trAdd (trAdd (trAdd ([]) (nI (12))) (nI (11))) (nI (10))).length) nx (σ.2.2.2.2.2.2.1) (σ.2.2.2.2.2.2.2) (σ.2.2.2.2.1) lo pg bo9 ++ (xs ++ (tb ++ op))) rfl ?_
          refine gw_iret (?_) (by decide) (by decide) rfl dX11_ask_44
          subst hpost
          unfold spAsk
          rw [if_pos ⟨show isO σ k = true from h2, d16⟩]
          first
            | (rw [if_pos c28, hTT]; exact ⟨congrArg (fun z => some (Value.int z)) hVV.symm, ad, sa, ta, oa, nx, lo, pg, bo9, cs, xs, tb, op, td, rfl, List.Perm.refl _, hxs, hcs, htb, hop, ⟨hN.1, hN.2.1, hT9.1, hN.2.2.2⟩, hT9.2⟩)
            | (rw [if_neg c28, hTT]; exact ⟨congrArg (fun z => some (Value.int z)) hVV.symm, ad, sa, ta, oa, nx, lo, pg, bo9, cs, xs, tb, op, td, rfl, List.Perm.refl _, hxs, hcs, htb, hop, ⟨hN.1, hN.2.1, hT9.1, hN.2.2.2⟩, hT9.2⟩)
        · rw [opCe, if_neg (by omega), if_pos hk] at hmj
          refine gw_W.wd (w' := tW cy ad sa ta σ.1 (sOp σ).length nx σ.2.2.2.2.2.2.1 σ.2.2.2.2.2.2.2 σ.2.2.2.2.1 lo pg (xs ++ (tb ++ op)) [] bo) rfl ?_
          obtain ⟨m16, hx16⟩ := pu_16 hn4.2 (hN.2.2.2.2.2 _ (opJ_mem j9)) (by omega)
          refine gw_callD (As := [.ref (ad 0)]) (st := []) (ci := 0) (x := ⟨"SpinBench$Op", "cost", "(LSpinBench;)I"⟩) (owner := "SpinBench$Op") (c_co0_open l cy ad sa ta σ.1 (sOp σ).length nx σ.2.2.2.2.2.2.1 σ.2.2.2.2.2.2.2 σ.2.2.2.2.1 lo pg (xs ++ (tb ++ op)) [] bo ⟨by decide, fun j hj => absurd hj (Nat.not_lt_zero _)⟩ (oa (tI (k))) (nI (tI (k))) (arOf (sOp σ) oa (tI (k))) (opJ (sOp σ) (tI (k))).2.1 (opJ (sOp σ) (tI (k))).2.2.1 (opJ (sOp σ) (tI (k))).2.2.2.1 (opJ (sOp σ) (tI (k))).2.2.2.2 hW (tI (opJ (sOp σ) (tI (k))).2.1) hx16 (by omega) (List.mem_append_right _ (List.mem_append_right _ hmj))) okB_X0_cost wd_676 (gw_has.right ⟨_, List.mem_append_right _ (List.mem_append_right _ hmj)⟩) rfl wd_675 wd_674 (gw_dec.code wd_673 wd_704) ⟨by decide, by decide⟩ rfl wd_672 rfl rfl dX11_ask_33 (by decide) (by decide) (Nat.le_of_ble_eq_true rfl) (fun r33 w33 hp33 => ?_)
          obtain ⟨rfl, bo9, rfl, hT9⟩ := hp33
          refine gw_W.norm (st' := [.int ((nI (2 * (pc16 (tI (opJ (sOp σ) (tI (k))).2.1)))) + (((opJ (sOp σ) (tI (k))).2.2.2.2)))]) (k1 := 0) (k2 := 0) rfl rfl rfl ?_
          refine gw_W.wd (w' := ([(ad 0, .inr (9, [.int (nI (σ.1)), .ref (ad 1), .ref (ad 2), .ref (sa (3 * 0)), .ref (ad 4), .ref (ad 5), .ref (ad 6), .int (nI ((sOp σ).length)), va_rf (lo), .int (nx), .int (σ.2.2.2.2.2.2.1), .int (σ.2.2.2.2.2.2.2), .ref (ad 12), .int (nI ((trAdd (trAdd (trAdd (trAdd (trAdd ([]) (nI (13))) (nI (12))) (nI (11))) (nI (10))) (nI (23))).length)), .int (σ.2.2.2.2.1)])), (ad 1, .inl (cy 3, 9, .inr (.inr (.inr (.inr (fun i => some (sa (3 * i)))))))), (ad 2, .inl (cy 3, 9, .inr (.inr (.inr (.inr (fun i => some (sa (3 * (9 + i))))))))), (ad 5, .inl (cy 4, 8, .inr (.inr (.inr (.inr (fun i => some (ta (2 * i)))))))), (ad 6, .inl (cy 2, 40, .inr (.inr (.inr (.inr (pg)))))), (ad 12, .inl (cy 0, 16, .inl (bo9)))] ++ (xs ++ (tb ++ op)))) rfl ?_
          have hk9 : (opA σ k).1 = 3 := hk
          have hpc := pop_pc σ.1 (by omega) (tI (opJ (sOp σ) (tI (k))).2.1) (by omega) m16
          rw [← hx16] at hpc
          have hTT : trAll [] (costL (opA σ k).1) = trAdd (trAdd (trAdd (trAdd (trAdd ([]) (nI (13))) (nI (12))) (nI (11))) (nI (10))) (nI (23)) := by rw [hk9]; rfl
          have hVV : costV σ.1 (opA σ k) = (nI (2 * (pc16 (tI (opJ (sOp σ) (tI (k))).2.1)))) + (((opJ (sOp σ) (tI (k))).2.2.2.2)) := by unfold costV; rw [if_neg (by omega), if_pos hk9]; unfold costB; rw [if_pos (by omega), if_pos (by omega)]; exact congrArg (· + (opA σ k).2.2.2.2) hpc
          refine gw_goto (tgt := 44) dX11_ask_36 (by decide) ?_
          refine gw_W.wd (w' := bW cy ad sa ta (σ.1) ((sOp σ).length) ((trAdd (trAdd (trAdd (trAdd (trAdd ([]) (nI (13))) (nI (12))) (nI (11))) (nI (10))) (nI (23))).length) nx (σ.2.2.2.2.2.2.1) (σ.2.2.2.2.2.2.2) (σ.2.2.2.2.1) lo pg bo9 ++ (xs ++ (tb ++ op))) rfl ?_
          refine gw_iret (?_) (by decide) (by decide) rfl dX11_ask_44
          subst hpost
          unfold spAsk
          rw [if_pos ⟨show isO σ k = true from h2, d16⟩]
          first
            | (rw [if_pos c28, hTT]; exact ⟨congrArg (fun z => some (Value.int z)) hVV.symm, ad, sa, ta, oa, nx, lo, pg, bo9, cs, xs, tb, op, td, rfl, List.Perm.refl _, hxs, hcs, htb, hop, ⟨hN.1, hN.2.1, hT9.1, hN.2.2.2⟩, hT9.2⟩)
            | (rw [if_neg c28, hTT]; exact ⟨congrArg (fun z => some (Value.int z)) hVV.symm, ad, sa, ta, oa, nx, lo, pg, bo9, cs, xs, tb, op, td, rfl, List.Perm.refl _, hxs, hcs, htb, hop, ⟨hN.1, hN.2.1, hT9.1, hN.2.2.2⟩, hT9.2⟩)
        · rw [opCe, if_neg (by omega), if_neg (by omega), if_pos hk] at hmj
          refine gw_W.wd (w' := tW cy ad sa ta σ.1 (sOp σ).length nx σ.2.2.2.2.2.2.1 σ.2.2.2.2.2.2.2 σ.2.2.2.2.1 lo pg (xs ++ (tb ++ op)) [] bo) rfl ?_
          refine gw_callD (As := [.ref (ad 0)]) (st := []) (ci := 1) (x := ⟨"SpinBench$Op", "cost", "(LSpinBench;)I"⟩) (owner := "SpinBench$Op") (c_co3_1_open l cy ad sa ta σ.1 (sOp σ).length nx σ.2.2.2.2.2.2.1 σ.2.2.2.2.2.2.2 σ.2.2.2.2.1 lo pg (xs ++ (tb ++ op)) [] bo ⟨by decide, fun j hj => absurd hj (Nat.not_lt_zero _)⟩ (oa (tI (k))) (nI (tI (k))) (arOf (sOp σ) oa (tI (k))) (opJ (sOp σ) (tI (k))).2.1 (opJ (sOp σ) (tI (k))).2.2.1 (opJ (sOp σ) (tI (k))).2.2.2.1 0 hW (List.mem_append_right _ (List.mem_append_right _ hmj))) okB_X3_cost wd_687 (gw_has.right ⟨_, List.mem_append_right _ (List.mem_append_right _ hmj)⟩) rfl wd_696 wd_674 (gw_dec.code wd_673 wd_704) ⟨by decide, by decide⟩ rfl wd_672 rfl rfl dX11_ask_33 (by decide) (by decide) (Nat.le_of_ble_eq_true rfl) (fun r33 w33 hp33 => ?_)
          obtain ⟨rfl, bo9, rfl, hT9⟩ := hp33
          refine gw_W.norm (st' := [.int (nI (2))]) (k1 := 0) (k2 := 0) rfl rfl rfl ?_
          refine gw_W.wd (w' := ([(ad 0, .inr (9, [.int (nI (σ.1)), .ref (ad 1), .ref (ad 2), .ref (sa (3 * 0)), .ref (ad 4), .ref (ad 5), .ref (ad 6), .int (nI ((sOp σ).length)), va_rf (lo), .int (nx), .int (σ.2.2.2.2.2.2.1), .int (σ.2.2.2.2.2.2.2), .ref (ad 12), .int (nI ((trAdd (trAdd ([]) (nI (11))) (nI (10))).length)), .int (σ.2.2.2.2.1)])), (ad 1, .inl (cy 3, 9, .inr (.inr (.inr (.inr (fun i => some (sa (3 * i)))))))), (ad 2, .inl (cy 3, 9, .inr (.inr (.inr (.inr (fun i => some (sa (3 * (9 + i))))))))), (ad 5, .inl (cy 4, 8, .inr (.inr (.inr (.inr (fun i => some (ta (2 * i)))))))), (ad 6, .inl (cy 2, 40, .inr (.inr (.inr (.inr (pg)))))), (ad 12, .inl (cy 0, 16, .inl (bo9)))] ++ (xs ++ (tb ++ op)))) rfl ?_
          have hk9 : (opA σ k).1 = 4 := hk
          have hTT : trAll [] (costL (opA σ k).1) = trAdd (trAdd ([]) (nI (11))) (nI (10)) := by rw [hk9]; rfl
          have hVV : costV σ.1 (opA σ k) = nI (2) := by unfold costV; rw [if_neg (by omega), if_neg (by omega)]; unfold costB; rw [if_neg (by omega), if_pos (by omega)]
          refine gw_goto (tgt := 44) dX11_ask_36 (by decide) ?_
          refine gw_W.wd (w' := bW cy ad sa ta (σ.1) ((sOp σ).length) ((trAdd (trAdd ([]) (nI (11))) (nI (10))).length) nx (σ.2.2.2.2.2.2.1) (σ.2.2.2.2.2.2.2) (σ.2.2.2.2.1) lo pg bo9 ++ (xs ++ (tb ++ op))) rfl ?_
          refine gw_iret (?_) (by decide) (by decide) rfl dX11_ask_44
          subst hpost
          unfold spAsk
          rw [if_pos ⟨show isO σ k = true from h2, d16⟩]
          first
            | (rw [if_pos c28, hTT]; exact ⟨congrArg (fun z => some (Value.int z)) hVV.symm, ad, sa, ta, oa, nx, lo, pg, bo9, cs, xs, tb, op, td, rfl, List.Perm.refl _, hxs, hcs, htb, hop, ⟨hN.1, hN.2.1, hT9.1, hN.2.2.2⟩, hT9.2⟩)
            | (rw [if_neg c28, hTT]; exact ⟨congrArg (fun z => some (Value.int z)) hVV.symm, ad, sa, ta, oa, nx, lo, pg, bo9, cs, xs, tb, op, td, rfl, List.Perm.refl _, hxs, hcs, htb, hop, ⟨hN.1, hN.2.1, hT9.1, hN.2.2.2⟩, hT9.2⟩)
        · rw [opCe, if_neg (by omega), if_neg (by omega), if_neg (by omega), if_pos hk] at hmj
          refine gw_W.wd (w' := tW cy ad sa ta σ.1 (sOp σ).length nx σ.2.2.2.2.2.2.1 σ.2.2.2.2.2.2.2 σ.2.2.2.2.1 lo pg (xs ++ (tb ++ op)) [] bo) rfl ?_
          refine gw_callD (As := [.ref (ad 0)]) (st := []) (ci := 5) (x := ⟨"SpinBench$Op", "cost", "(LSpinBench;)I"⟩) (owner := "SpinBench$Op") (c_co7 l cy ad sa ta σ.1 (sOp σ).length nx σ.2.2.2.2.2.2.1 σ.2.2.2.2.2.2.2 σ.2.2.2.2.1 lo pg (xs ++ (tb ++ op)) [] bo ⟨by decide, fun j hj => absurd hj (Nat.not_lt_zero _)⟩ (oa (tI (k))) (nI (tI (k))) (arOf (sOp σ) oa (tI (k))) (opJ (sOp σ) (tI (k))).2.1 0 0 (td (tI (k))) (List.mem_append_right _ (List.mem_append_right _ hmj))) okB_X7_cost wd_700 (gw_has.right ⟨_, List.mem_append_right _ (List.mem_append_right _ hmj)⟩) rfl wd_699 wd_674 (gw_dec.code wd_673 wd_704) ⟨by decide, by decide⟩ rfl wd_672 rfl rfl dX11_ask_33 (by decide) (by decide) (Nat.le_of_ble_eq_true rfl) (fun r33 w33 hp33 => ?_)
          obtain ⟨rfl, bo9, rfl, hT9⟩ := hp33
          refine gw_W.norm (st' := [.int (((opJ (sOp σ) (tI (k))).2.1))]) (k1 := 0) (k2 := 0) rfl rfl rfl ?_
          refine gw_W.wd (w' := ([(ad 0, .inr (9, [.int (nI (σ.1)), .ref (ad 1), .ref (ad 2), .ref (sa (3 * 0)), .ref (ad 4), .ref (ad 5), .ref (ad 6), .int (nI ((sOp σ).length)), va_rf (lo), .int (nx), .int (σ.2.2.2.2.2.2.1), .int (σ.2.2.2.2.2.2.2), .ref (ad 12), .int (nI ((trAdd ([]) (nI (14))).length)), .int (σ.2.2.2.2.1)])), (ad 1, .inl (cy 3, 9, .inr (.inr (.inr (.inr (fun i => some (sa (3 * i)))))))), (ad 2, .inl (cy 3, 9, .inr (.inr (.inr (.inr (fun i => some (sa (3 * (9 + i))))))))), (ad 5, .inl (cy 4, 8, .inr (.inr (.inr (.inr (fun i => some (ta (2 * i)))))))), (ad 6, .inl (cy 2, 40, .inr (.inr (.inr (.inr (pg)))))), (ad 12, .inl (cy 0, 16, .inl (bo9)))] ++ (xs ++ (tb ++ op)))) rfl ?_
          have hk9 : (opA σ k).1 = 5 := hk
          have hTT : trAll [] (costL (opA σ k).1) = trAdd ([]) (nI (14)) := by rw [hk9]; rfl
          have hVV : costV σ.1 (opA σ k) = ((opJ (sOp σ) (tI (k))).2.1) := by unfold costV; rw [if_pos hk9]; rfl
          refine gw_goto (tgt := 44) dX11_ask_36 (by decide) ?_
          refine gw_W.wd (w' := bW cy ad sa ta (σ.1) ((sOp σ).length) ((trAdd ([]) (nI (14))).length) nx (σ.2.2.2.2.2.2.1) (σ.2.2.2.2.2.2.2) (σ.2.2.2.2.1) lo pg bo9 ++ (xs ++ (tb ++ op))) rfl ?_
          refine gw_iret (?_) (by decide) (by decide) rfl dX11_ask_44
          subst hpost
          unfold spAsk
          rw [if_pos ⟨show isO σ k = true from h2, d16⟩]
          first
            | (rw [if_pos c28, hTT]; exact ⟨congrArg (fun z => some (Value.int z)) hVV.symm, ad, sa, ta, oa, nx, lo, pg, bo9, cs, xs, tb, op, td, rfl, List.Perm.refl _, hxs, hcs, htb, hop, ⟨hN.1, hN.2.1, hT9.1, hN.2.2.2⟩, hT9.2⟩)
            | (rw [if_neg c28, hTT]; exact ⟨congrArg (fun z => some (Value.int z)) hVV.symm, ad, sa, ta, oa, nx, lo, pg, bo9, cs, xs, tb, op, td, rfl, List.Perm.refl _, hxs, hcs, htb, hop, ⟨hN.1, hN.2.1, hT9.1, hN.2.2.2⟩, hT9.2⟩)
        · rw [opCe, if_neg (by omega), if_neg (by omega), if_neg (by omega), if_neg (by omega), if_pos hk] at hmj
          refine gw_W.wd (w' := tW cy ad sa ta σ.1 (sOp σ).length nx σ.2.2.2.2.2.2.1 σ.2.2.2.2.2.2.2 σ.2.2.2.2.1 lo pg (xs ++ (tb ++ op)) [] bo) rfl ?_
          refine gw_callD (As := [.ref (ad 0)]) (st := []) (ci := 2) (x := ⟨"SpinBench$Op", "cost", "(LSpinBench;)I"⟩) (owner := "SpinBench$Op") (c_co5_2 l cy ad sa ta σ.1 (sOp σ).length nx σ.2.2.2.2.2.2.1 σ.2.2.2.2.2.2.2 σ.2.2.2.2.1 lo pg (xs ++ (tb ++ op)) [] bo ⟨by decide, fun j hj => absurd hj (Nat.not_lt_zero _)⟩ (oa (tI (k))) (nI (tI (k))) (arOf (sOp σ) oa (tI (k))) 0 0 0 0 (List.mem_append_right _ (List.mem_append_right _ hmj))) okB_X5_cost wd_673 (gw_has.right ⟨_, List.mem_append_right _ (List.mem_append_right _ hmj)⟩) rfl wd_697 wd_674 (gw_dec.code wd_673 wd_704) ⟨by decide, by decide⟩ rfl wd_672 rfl rfl dX11_ask_33 (by decide) (by decide) (Nat.le_of_ble_eq_true rfl) (fun r33 w33 hp33 => ?_)
          obtain ⟨rfl, bo9, rfl, hT9⟩ := hp33
          refine gw_W.norm (st' := [.int (nI (1))]) (k1 := 0) (k2 := 0) rfl rfl rfl ?_
          refine gw_W.wd (w' := ([(ad 0, .inr (9, [.int (nI (σ.1)), .ref (ad 1), .ref (ad 2), .ref (sa (3 * 0)), .ref (ad 4), .ref (ad 5), .ref (ad 6), .int (nI ((sOp σ).length)), va_rf (lo), .int (nx), .int (σ.2.2.2.2.2.2.1), .int (σ.2.2.2.2.2.2.2), .ref (ad 12), .int (nI ((trAdd ([]) (nI (10))).length)), .int (σ.2.2.2.2.1)])), (ad 1, .inl (cy 3, 9, .inr (.inr (.inr (.inr (fun i => some (sa (3 * i)))))))), (ad 2, .inl (cy 3, 9, .inr (.inr (.inr (.inr (fun i => some (sa (3 * (9 + i))))))))), (ad 5, .inl (cy 4, 8, .inr (.inr (.inr (.inr (fun i => some (ta (2 * i)))))))), (ad 6, .inl (cy 2, 40, .inr (.inr (.inr (.inr (pg)))))), (ad 12, .inl (cy 0, 16, .inl (bo9)))] ++ (xs ++ (tb ++ op)))) rfl ?_
          have hk9 : (opA σ k).1 = 6 := hk
          have hTT : trAll [] (costL (opA σ k).1) = trAdd ([]) (nI (10)) := by rw [hk9]; rfl
          have hVV : costV σ.1 (opA σ k) = nI (1) := by unfold costV; rw [if_neg (by omega), if_neg (by omega)]; unfold costB; rw [if_neg (by omega), if_neg (by omega)]
          refine gw_goto (tgt := 44) dX11_ask_36 (by decide) ?_
          refine gw_W.wd (w' := bW cy ad sa ta (σ.1) ((sOp σ).length) ((trAdd ([]) (nI (10))).length) nx (σ.2.2.2.2.2.2.1) (σ.2.2.2.2.2.2.2) (σ.2.2.2.2.1) lo pg bo9 ++ (xs ++ (tb ++ op))) rfl ?_
          refine gw_iret (?_) (by decide) (by decide) rfl dX11_ask_44
          subst hpost
          unfold spAsk
          rw [if_pos ⟨show isO σ k = true from h2, d16⟩]
          first
            | (rw [if_pos c28, hTT]; exact ⟨congrArg (fun z => some (Value.int z)) hVV.symm, ad, sa, ta, oa, nx, lo, pg, bo9, cs, xs, tb, op, td, rfl, List.Perm.refl _, hxs, hcs, htb, hop, ⟨hN.1, hN.2.1, hT9.1, hN.2.2.2⟩, hT9.2⟩)
            | (rw [if_neg c28, hTT]; exact ⟨congrArg (fun z => some (Value.int z)) hVV.symm, ad, sa, ta, oa, nx, lo, pg, bo9, cs, xs, tb, op, td, rfl, List.Perm.refl _, hxs, hcs, htb, hop, ⟨hN.1, hN.2.1, hT9.1, hN.2.2.2⟩, hT9.2⟩)
        · rw [opCe, if_neg (by omega), if_neg (by omega), if_neg (by omega), if_neg (by omega), if_neg (by omega)] at hmj
          refine gw_W.wd (w' := tW cy ad sa ta σ.1 (sOp σ).length nx σ.2.2.2.2.2.2.1 σ.2.2.2.2.2.2.2 σ.2.2.2.2.1 lo pg (xs ++ (tb ++ op)) [] bo) rfl ?_
          refine gw_callD (As := [.ref (ad 0)]) (st := []) (ci := 6) (x := ⟨"SpinBench$Op", "cost", "(LSpinBench;)I"⟩) (owner := "SpinBench$Op") (c_co5_6 l cy ad sa ta σ.1 (sOp σ).length nx σ.2.2.2.2.2.2.1 σ.2.2.2.2.2.2.2 σ.2.2.2.2.1 lo pg (xs ++ (tb ++ op)) [] bo ⟨by decide, fun j hj => absurd hj (Nat.not_lt_zero _)⟩ (oa (tI (k))) (nI (tI (k))) (arOf (sOp σ) oa (tI (k))) (opJ (sOp σ) (tI (k))).2.1 (opJ (sOp σ) (tI (k))).2.2.1 0 0 (List.mem_append_right _ (List.mem_append_right _ hmj))) okB_X5_cost wd_673 (gw_has.right ⟨_, List.mem_append_right _ (List.mem_append_right _ hmj)⟩) rfl wd_703 wd_674 (gw_dec.code wd_673 wd_704) ⟨by decide, by decide⟩ rfl wd_672 rfl rfl dX11_ask_33 (by decide) (by decide) (Nat.le_of_ble_eq_true rfl) (fun r33 w33 hp33 => ?_)
          obtain ⟨rfl, bo9, rfl, hT9⟩ := hp33
          refine gw_W.norm (st' := [.int (nI (1))]) (k1 := 0) (k2 := 0) rfl rfl rfl ?_
          refine gw_W.wd (w' := ([(ad 0, .inr (9, [.int (nI (σ.1)), .ref (ad 1), .ref (ad 2), .ref (sa (3 * 0)), .ref (ad 4), .ref (ad 5), .ref (ad 6), .int (nI ((sOp σ).length)), va_rf (lo), .int (nx), .int (σ.2.2.2.2.2.2.1), .int (σ.2.2.2.2.2.2.2), .ref (ad 12), .int (nI ((trAdd ([]) (nI (10))).length)), .int (σ.2.2.2.2.1)])), (ad 1, .inl (cy 3, 9, .inr (.inr (.inr (.inr (fun i => some (sa (3 * i)))))))), (ad 2, .inl (cy 3, 9, .inr (.inr (.inr (.inr (fun i => some (sa (3 * (9 + i))))))))), (ad 5, .inl (cy 4, 8, .inr (.inr (.inr (.inr (fun i => some (ta (2 * i)))))))), (ad 6, .inl (cy 2, 40, .inr (.inr (.inr (.inr (pg)))))), (ad 12, .inl (cy 0, 16, .inl (bo9)))] ++ (xs ++ (tb ++ op)))) rfl ?_
          have hk9 : (opA σ k).1 = 7 := hk
          have hTT : trAll [] (costL (opA σ k).1) = trAdd ([]) (nI (10)) := by rw [hk9]; rfl
          have hVV : costV σ.1 (opA σ k) = nI (1) := by unfold costV; rw [if_neg (by omega), if_neg (by omega)]; unfold costB; rw [if_neg (by omega), if_neg (by omega)]
          refine gw_goto (tgt := 44) dX11_ask_36 (by decide) ?_
          refine gw_W.wd (w' := bW cy ad sa ta (σ.1) ((sOp σ).length) ((trAdd ([]) (nI (10))).length) nx (σ.2.2.2.2.2.2.1) (σ.2.2.2.2.2.2.2) (σ.2.2.2.2.1) lo pg bo9 ++ (xs ++ (tb ++ op))) rfl ?_
          refine gw_iret (?_) (by decide) (by decide) rfl dX11_ask_44
          subst hpost
          unfold spAsk
          rw [if_pos ⟨show isO σ k = true from h2, d16⟩]
          first
            | (rw [if_pos c28, hTT]; exact ⟨congrArg (fun z => some (Value.int z)) hVV.symm, ad, sa, ta, oa, nx, lo, pg, bo9, cs, xs, tb, op, td, rfl, List.Perm.refl _, hxs, hcs, htb, hop, ⟨hN.1, hN.2.1, hT9.1, hN.2.2.2⟩, hT9.2⟩)
            | (rw [if_neg c28, hTT]; exact ⟨congrArg (fun z => some (Value.int z)) hVV.symm, ad, sa, ta, oa, nx, lo, pg, bo9, cs, xs, tb, op, td, rfl, List.Perm.refl _, hxs, hcs, htb, hop, ⟨hN.1, hN.2.1, hT9.1, hN.2.2.2⟩, hT9.2⟩)
    · rw [bI_0] at c16
      have d16 : inZ x.toInt 0 1 = false := c16
      refine gw_ldc dX11_ask_19 wd_233 ?_
      refine gw_W.wd (w' := bW cy ad sa ta (σ.1) ((sOp σ).length) ((sTr σ).length) nx (σ.2.2.2.2.2.2.1) (σ.2.2.2.2.2.2.2) (σ.2.2.2.2.1) lo pg bo ++ (xs ++ (tb ++ op))) rfl ?_
      refine gw_iret (?_) (by decide) (by decide) rfl dX11_ask_21
      subst hpost
      unfold spAsk
      rw [if_neg (fun h => by first | exact h2 h.1 | exact absurd (h.2.symm.trans d16) (by decide))]
      exact ⟨rfl, ad, sa, ta, oa, nx, lo, pg, bo, cs, xs, tb, op, td, rfl, List.Perm.refl _, hxs, hcs, htb, hop, hN, hbo⟩
  · rw [if_neg h2]
    refine gw_W.norm (st' := [.null]) (k1 := 0) (k2 := 0) rfl rfl rfl ?_
    refine gw_W.wd (w' := ([(ad 0, .inr (9, [.int (nI (σ.1)), .ref (ad 1), .ref (ad 2), .ref (sa (3 * 0)), .ref (ad 4), .ref (ad 5), .ref (ad 6), .int (nI ((sOp σ).length)), va_rf (lo), .int (nx), .int (σ.2.2.2.2.2.2.1), .int (σ.2.2.2.2.2.2.2), .ref (ad 12), .int (nI ((sTr σ).length)), .int (σ.2.2.2.2.1)])), (ad 1, .inl (cy 3, 9, .inr (.inr (.inr (.inr (fun i => some (sa (3 * i)))))))), (ad 2, .inl (cy 3, 9, .inr (.inr (.inr (.inr (fun i => some (sa (3 * (9 + i))))))))), (ad 5, .inl (cy 4, 8, .inr (.inr (.inr (.inr (fun i => some (ta (2 * i)))))))), (ad 6, .inl (cy 2, 40, .inr (.inr (.inr (.inr (pg)))))), (ad 12, .inl (cy 0, 16, .inl (bo)))] ++ (xs ++ (tb ++ op)))) rfl ?_
    refine gw_astore_nN dX11_ask_5 (by decide) rfl ?_
    refine gw_aload_nN dX11_ask_6 rfl ?_
    refine gw_ifnullN (tgt := 19) dX11_ask_7 (by decide) ?_
    refine gw_ldc dX11_ask_19 wd_233 ?_
    refine gw_W.wd (w' := bW cy ad sa ta (σ.1) ((sOp σ).length) ((sTr σ).length) nx (σ.2.2.2.2.2.2.1) (σ.2.2.2.2.2.2.2) (σ.2.2.2.2.1) lo pg bo ++ (xs ++ (tb ++ op))) rfl ?_
    refine gw_iret (?_) (by decide) (by decide) rfl dX11_ask_21
    subst hpost
    unfold spAsk
    rw [if_neg (fun h => by first | exact h2 h.1 | exact absurd (h.2.symm.trans d16) (by decide))]
    exact ⟨rfl, ad, sa, ta, oa, nx, lo, pg, bo, cs, xs, tb, op, td, rfl, List.Perm.refl _, hxs, hcs, htb, hop, hN, hbo⟩
