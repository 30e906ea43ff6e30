/-! kind, spins; is, over the word that the tables lack (OpenWord) -/
/-- what no word of the tables says: the direct superclass of SpinBench$Lead. Rows that end in _open rest on it -/
def OpenWord : Prop := ∀ (args : Array Value) (s : State), gw_E s → (Cond.superclass "SpinBench$Lead" "SpinBench$Op").before args s = true
theorem gw_callUo {l : Launch} {κ : gw_K} {cy : Nat → ClassId} {Z : gw_Z} {w : va_W} {n1 n2 pc : Nat} {lv : List (Option Value)} {st : List Value} {κ' : gw_K} {index n : Nat} {As stk : List Value} {post : gw_Q} {b ci : Nat} {q : vw_C} (hM : gw_M l κ' cy (.ref b :: As) w post) (hc : gw_calB κ' n) (hin : Cond.instanceMethod κ'.1 ∈ gw_All) (hh : gw_has w b ci) (hq : vwCl[ci]? = some q) (hsm : Cond.sameMethod κ'.1.cls κ'.1.cls κ'.1.name κ'.1.desc ∈ gw_All) (hsu : OpenWord) (hs1 : κ.1.cls = "SpinBench$Lead") (hs2 : κ'.1.cls = "SpinBench$Op") (hni : κ'.1.name ≠ "<init>") (hk : Cond.methodLink κ.1.cls index κ'.1 ∈ gw_All) (hn : As.length = n) (hs : stk = As.reverse ++ .ref b :: st) (hd : decode κ.2.1 pc = .ok (.invokespecial index, 3)) (hR : κ'.2.2.2.1.frames + 1 ≤ κ.2.2.2.1.frames ∧ 8 + (κ'.2.2.1 + 11) + κ'.2.2.2.1.locals ≤ κ.2.2.2.1.locals) (hf : n1 + κ'.2.2.2.1.cells ≤ κ.2.2.2.1.cells ∧ n2 + κ'.2.2.2.1.slots ≤ κ.2.2.2.1.slots) (hr : (st.map fun v => v.category).sum ≤ 8) (k : ∀ (r : Option Value) (w' : va_W), post r w' → gw_W l κ cy Z w' (n1 + κ'.2.2.2.1.cells) (n2 + κ'.2.2.2.1.slots) (pc + 3) lv (r.toList ++ st)) : gw_W l κ cy Z w n1 n2 pc lv stk := by
  obtain ⟨fs, hm⟩ := hh
  obtain ⟨q0, he⟩ := List.getElem?_of_mem hm
  intro p e s m args below meth c D A Q H locs ls C z hP hD hS hl
  have hrc := va_recv C.2.2.2.2.2.2.2.2.1 hP hq he
  have hpre := gw_preS (av := .ref b :: As) hP C.2.2.2.2.2.2.2.2.1 C.2.2.2.2.2.2.2.2.2.1 hD
  have ht := C.2.2.2.2.2.1
  have hlen : ∀ sig, parseMethodDescriptor κ'.1.desc = some sig → n = sig.parameters.length := by
    intro sig h
    have h2 := hc.2.2.2.2
    rw [h] at h2
    exact (Option.some.inj h2).symm
  exact gw_go (va_runSU (As := As) (rest := st) (C.2.2.2.2.2.2.2.2.1.1 ci q hq).2 ⟨C.1, C.2.1, C.2.2.2.1, C.2.2.2.2.1, C.2.2.2.2.2.1⟩ (hM D H.size) ⟨⟨rfl, rfl, hR.1, hR.2, pay_in ht (gw_goodws hc.1), List.mem_cons_self⟩, ht _ hk, ht _ hsm, (show (Cond.superclass κ.1.cls κ'.1.cls).before args s = true from by rw [hs1, hs2]; exact hsu args s C.2.2.2.2.2.2.2.2.2.1), ht _ hin, ht _ hc.2.1, ht _ hc.1, hni, hlen⟩ ⟨hpre.1, hrc, hpre.2⟩ rfl hn hl.1 hs (lv_room hr) hd hf) hS hD C.2.2.2.2.2.2.2.2.2.2 (fun r w' H1 locs1 hp hP1 hD1 hS1 => k r w' hp p e s m args below meth c D A Q H1 locs1 ls C z hP1 hD1 hS1 hl)
abbrev kX6_ownKind : gw_K := (yX6_ownKind, cX6_ownKind, 1, { frames := 0, cells := 0, slots := 0, locals := 0 }, (some .int))
theorem okB_X6_ownKind : gw_calB kX6_ownKind 0 := ⟨wd_636, wd_68, by decide, by decide, by decide +kernel⟩
set_option maxHeartbeats 4000000 in
set_option maxRecDepth 100000 in
theorem c_own_4 (l : Launch) (cy : Nat → ClassId) (a : Nat) (w : va_W) : gw_M l kX6_ownKind cy [.ref (a)] w (fun r w' => r = some (.int (nI 2)) ∧ w' = w) := by
  refine gw_M.mk (lv := [some (.ref (a))]) (by decide) (Nat.le_of_ble_eq_true rfl) rfl ?_
  generalize hpost : (fun r w' => r = some (.int (nI 2)) ∧ w' = w : gw_Q) = post
  refine gw_iconst (v := nI (2)) dX6_ownKind_0 (by decide) ?_
  refine gw_iret (?_) (by decide) (by decide) rfl dX6_ownKind_1
  subst hpost
  exact ⟨rfl, rfl⟩
abbrev kX0_ownKind : gw_K := (yX0_ownKind, cX0_ownKind, 1, { frames := 0, cells := 0, slots := 0, locals := 0 }, (some .int))
theorem okB_X0_ownKind : gw_calB kX0_ownKind 0 := ⟨wd_627, wd_69, by decide, by decide, by decide +kernel⟩
set_option maxHeartbeats 4000000 in
set_option maxRecDepth 100000 in
theorem c_own_0 (l : Launch) (cy : Nat → ClassId) (a : Nat) (w : va_W) : gw_M l kX0_ownKind cy [.ref (a)] w (fun r w' => r = some (.int (nI 3)) ∧ w' = w) := by
  refine gw_M.mk (lv := [some (.ref (a))]) (by decide) (Nat.le_of_ble_eq_true rfl) rfl ?_
  generalize hpost : (fun r w' => r = some (.int (nI 3)) ∧ w' = w : gw_Q) = post
  refine gw_iconst (v := nI (3)) dX0_ownKind_0 (by decide) ?_
  refine gw_iret (?_) (by decide) (by decide) rfl dX0_ownKind_1
  subst hpost
  exact ⟨rfl, rfl⟩
abbrev kX1_ownKind : gw_K := (yX1_ownKind, cX1_ownKind, 1, { frames := 0, cells := 0, slots := 0, locals := 0 }, (some .int))
theorem okB_X1_ownKind : gw_calB kX1_ownKind 0 := ⟨wd_630, wd_70, by decide, by decide, by decide +kernel⟩
set_option maxHeartbeats 4000000 in
set_option maxRecDepth 100000 in
theorem c_own_1 (l : Launch) (cy : Nat → ClassId) (a : Nat) (w : va_W) : gw_M l kX1_ownKind cy [.ref (a)] w (fun r w' => r = some (.int (nI 4)) ∧ w' = w) := by
  refine gw_M.mk (lv := [some (.ref (a))]) (by decide) (Nat.le_of_ble_eq_true rfl) rfl ?_
  generalize hpost : (fun r w' => r = some (.int (nI 4)) ∧ w' = w : gw_Q) = post
  refine gw_iconst (v := nI (4)) dX1_ownKind_0 (by decide) ?_
  refine gw_iret (?_) (by decide) (by decide) rfl dX1_ownKind_1
  subst hpost
  exact ⟨rfl, rfl⟩
abbrev kX7_ownKind : gw_K := (yX7_ownKind, cX7_ownKind, 1, { frames := 0, cells := 0, slots := 0, locals := 0 }, (some .int))
theorem okB_X7_ownKind : gw_calB kX7_ownKind 0 := ⟨wd_639, wd_71, by decide, by decide, by decide +kernel⟩
set_option maxHeartbeats 4000000 in
set_option maxRecDepth 100000 in
theorem c_own_5 (l : Launch) (cy : Nat → ClassId) (a : Nat) (w : va_W) : gw_M l kX7_ownKind cy [.ref (a)] w (fun r w' => r = some (.int (nI 5)) ∧ w' = w) := by
  refine gw_M.mk (lv := [some (.ref (a))]) (by decide) (Nat.le_of_ble_eq_true rfl) rfl ?_
  generalize hpost : (fun r w' => r = some (.int (nI 5)) ∧ w' = w : gw_Q) = post
  refine gw_iconst (v := nI (5)) dX7_ownKind_0 (by decide) ?_
  refine gw_iret (?_) (by decide) (by decide) rfl dX7_ownKind_1
  subst hpost
  exact ⟨rfl, rfl⟩
abbrev kX2_ownKind : gw_K := (yX2_ownKind, cX2_ownKind, 1, { frames := 0, cells := 0, slots := 0, locals := 0 }, (some .int))
theorem okB_X2_ownKind : gw_calB kX2_ownKind 0 := ⟨wd_633, wd_72, by decide, by decide, by decide +kernel⟩
set_option maxHeartbeats 4000000 in
set_option maxRecDepth 100000 in
theorem c_own_2 (l : Launch) (cy : Nat → ClassId) (a : Nat) (w : va_W) : gw_M l kX2_ownKind cy [.ref (a)] w (fun r w' => r = some (.int (nI 6)) ∧ w' = w) := by
  refine gw_M.mk (lv := [some (.ref (a))]) (by decide) (Nat.le_of_ble_eq_true rfl) rfl ?_
  generalize hpost : (fun r w' => r = some (.int (nI 6)) ∧ w' = w : gw_Q) = post
  refine gw_bipush (v := nI (6)) dX2_ownKind_0 (by decide) ?_
  refine gw_iret (?_) (by decide) (by decide) rfl dX2_ownKind_2
  subst hpost
  exact ⟨rfl, rfl⟩
abbrev kX8_ownKind : gw_K := (yX8_ownKind, cX8_ownKind, 1, { frames := 0, cells := 0, slots := 0, locals := 0 }, (some .int))
theorem okB_X8_ownKind : gw_calB kX8_ownKind 0 := ⟨wd_642, wd_73, by decide, by decide, by decide +kernel⟩
set_option maxHeartbeats 4000000 in
set_option maxRecDepth 100000 in
theorem c_own_6 (l : Launch) (cy : Nat → ClassId) (a : Nat) (w : va_W) : gw_M l kX8_ownKind cy [.ref (a)] w (fun r w' => r = some (.int (nI 7)) ∧ w' = w) := by
  refine gw_M.mk (lv := [some (.ref (a))]) (by decide) (Nat.le_of_ble_eq_true rfl) rfl ?_
  generalize hpost : (fun r w' => r = some (.int (nI 7)) ∧ w' = w : gw_Q) = post
  refine gw_bipush (v := nI (7)) dX8_ownKind_0 (by decide) ?_
  refine gw_iret (?_) (by decide) (by decide) rfl dX8_ownKind_2
  subst hpost
  exact ⟨rfl, rfl⟩
abbrev kX5_isOfKind : gw_K := (yX5_isOfKind, cX5_isOfKind, 2, { frames := 1, cells := 0, slots := 0, locals := 20 }, (some .boolean))
theorem okB_X5_isOfKind : gw_calB kX5_isOfKind 1 := ⟨wd_662, wd_66, by decide, by decide, by decide +kernel⟩
set_option maxHeartbeats 4000000 in
set_option maxRecDepth 100000 in
theorem c_isk5_4 (l : Launch) (cy : Nat → ClassId) (a : Nat) (w : va_W) (x : Int32) (hh : gw_has w a 4) : gw_M l kX5_isOfKind cy [.ref (a), .int (x)] w (fun r w' => r = some (.int (bI (decide (x = 0 ∨ x = nI 2)))) ∧ w' = w) := by
  refine gw_M.mk (lv := [some (.ref (a)), some (.int (x))]) (by decide) (Nat.le_of_ble_eq_true rfl) rfl ?_
  generalize hpost : (fun r w' => r = some (.int (bI (decide (x = 0 ∨ x = nI 2)))) ∧ w' = w : gw_Q) = post
  refine gw_iload_n dX5_isOfKind_0 rfl ?_
  refine gw_if_eq (tgt := 12) dX5_isOfKind_1 (by decide) (fun c1 => ?_) (fun c1 => ?_)
  · refine gw_iconst (v := nI (1)) dX5_isOfKind_12 (by decide) ?_
    refine gw_goto (tgt := 17) dX5_isOfKind_13 (by decide) ?_
    refine gw_zret (?_) (by decide) (by decide) rfl (by decide) dX5_isOfKind_17
    subst hpost
    refine ⟨?_, rfl⟩
    first
      | (rw [show decide (x = 0 ∨ x = nI 2) = true from decide_eq_true (by first | exact Or.inl (by assumption) | exact Or.inr (by assumption) | assumption)]; rfl)
      | (rw [show decide (x = 0 ∨ x = nI 2) = false from decide_eq_false (by rintro (h | h) <;> contradiction)]; rfl)
  · refine gw_iload_n dX5_isOfKind_4 rfl ?_
    refine gw_aload_n dX5_isOfKind_5 rfl ?_
    refine gw_callD (As := []) (st := [.int (x)]) (ci := 4) (x := ⟨"SpinBench$Op", "ownKind", "()I"⟩) (owner := "SpinBench$Op") (c_own_4 l cy a w) okB_X6_ownKind wd_635 (hh) rfl wd_634 wd_624 (gw_dec.abs (by decide +kernel)) ⟨by decide, by decide⟩ rfl wd_663 rfl rfl dX5_isOfKind_6 (by decide) (by decide) (Nat.le_of_ble_eq_true rfl) (fun r6 w6 hp6 => ?_)
    obtain ⟨rfl, rfl⟩ := hp6
    refine gw_W.norm (st' := [.int (nI (2)), .int (x)]) (k1 := 0) (k2 := 0) rfl rfl rfl ?_
    refine gw_icmp_ne (tgt := 16) dX5_isOfKind_9 (by decide) (fun c9 => ?_) (fun c9 => ?_)
    · refine gw_iconst (v := nI (0)) dX5_isOfKind_16 (by decide) ?_
      refine gw_zret (?_) (by decide) (by decide) rfl (by decide) dX5_isOfKind_17
      subst hpost
      refine ⟨?_, rfl⟩
      first
        | (rw [show decide (x = 0 ∨ x = nI 2) = true from decide_eq_true (by first | exact Or.inl (by assumption) | exact Or.inr (by assumption) | assumption)]; rfl)
        | (rw [show decide (x = 0 ∨ x = nI 2) = false from decide_eq_false (by rintro (h | h) <;> contradiction)]; rfl)
    · refine gw_iconst (v := nI (1)) dX5_isOfKind_12 (by decide) ?_
      refine gw_goto (tgt := 17) dX5_isOfKind_13 (by decide) ?_
      refine gw_zret (?_) (by decide) (by decide) rfl (by decide) dX5_isOfKind_17
      subst hpost
      refine ⟨?_, rfl⟩
      first
        | (rw [show decide (x = 0 ∨ x = nI 2) = true from decide_eq_true (by first | exact Or.inl (by assumption) | exact Or.inr (by assumption) | assumption)]; rfl)
        | (rw [show decide (x = 0 ∨ x = nI 2) = false from decide_eq_false (by rintro (h | h) <;> contradiction)]; rfl)
set_option maxHeartbeats 4000000 in
set_option maxRecDepth 100000 in
theorem c_isk5_0 (l : Launch) (cy : Nat → ClassId) (a : Nat) (w : va_W) (x : Int32) (hh : gw_has w a 0) : gw_M l kX5_isOfKind cy [.ref (a), .int (x)] w (fun r w' => r = some (.int (bI (decide (x = 0 ∨ x = nI 3)))) ∧ w' = w) := by
  refine gw_M.mk (lv := [some (.ref (a)), some (.int (x))]) (by decide) (Nat.le_of_ble_eq_true rfl) rfl ?_
  generalize hpost : (fun r w' => r = some (.int (bI (decide (x = 0 ∨ x = nI 3)))) ∧ w' = w : gw_Q) = post
  refine gw_iload_n dX5_isOfKind_0 rfl ?_
  refine gw_if_eq (tgt := 12) dX5_isOfKind_1 (by decide) (fun c1 => ?_) (fun c1 => ?_)
  · refine gw_iconst (v := nI (1)) dX5_isOfKind_12 (by decide) ?_
    refine gw_goto (tgt := 17) dX5_isOfKind_13 (by decide) ?_
    refine gw_zret (?_) (by decide) (by decide) rfl (by decide) dX5_isOfKind_17
    subst hpost
    refine ⟨?_, rfl⟩
    first
      | (rw [show decide (x = 0 ∨ x = nI 3) = true from decide_eq_true (by first | exact Or.inl (by assumption) | exact Or.inr (by assumption) | assumption)]; rfl)
      | (rw [show decide (x = 0 ∨ x = nI 3) = false from decide_eq_false (by rintro (h | h) <;> contradiction)]; rfl)
  · refine gw_iload_n dX5_isOfKind_4 rfl ?_
    refine gw_aload_n dX5_isOfKind_5 rfl ?_
    refine gw_callD (As := []) (st := [.int (x)]) (ci := 0) (x := ⟨"SpinBench$Op", "ownKind", "()I"⟩) (owner := "SpinBench$Op") (c_own_0 l cy a w) okB_X0_ownKind wd_626 (hh) rfl wd_625 wd_624 (gw_dec.abs (by decide +kernel)) ⟨by decide, by decide⟩ rfl wd_663 rfl rfl dX5_isOfKind_6 (by decide) (by decide) (Nat.le_of_ble_eq_true rfl) (fun r6 w6 hp6 => ?_)
    obtain ⟨rfl, rfl⟩ := hp6
    refine gw_W.norm (st' := [.int (nI (3)), .int (x)]) (k1 := 0) (k2 := 0) rfl rfl rfl ?_
    refine gw_icmp_ne (tgt := 16) dX5_isOfKind_9 (by decide) (fun c9 => ?_) (fun c9 => ?_)
    · refine gw_iconst (v := nI (0)) dX5_isOfKind_16 (by decide) ?_
      refine gw_zret (?_) (by decide) (by decide) rfl (by decide) dX5_isOfKind_17
      subst hpost
      refine ⟨?_, rfl⟩
      first
        | (rw [show decide (x = 0 ∨ x = nI 3) = true from decide_eq_true (by first | exact Or.inl (by assumption) | exact Or.inr (by assumption) | assumption)]; rfl)
        | (rw [show decide (x = 0 ∨ x = nI 3) = false from decide_eq_false (by rintro (h | h) <;> contradiction)]; rfl)
    · refine gw_iconst (v := nI (1)) dX5_isOfKind_12 (by decide) ?_
      refine gw_goto (tgt := 17) dX5_isOfKind_13 (by decide) ?_
      refine gw_zret (?_) (by decide) (by decide) rfl (by decide) dX5_isOfKind_17
      subst hpost
      refine ⟨?_, rfl⟩
      first
        | (rw [show decide (x = 0 ∨ x = nI 3) = true from decide_eq_true (by first | exact Or.inl (by assumption) | exact Or.inr (by assumption) | assumption)]; rfl)
        | (rw [show decide (x = 0 ∨ x = nI 3) = false from decide_eq_false (by rintro (h | h) <;> contradiction)]; rfl)
set_option maxHeartbeats 4000000 in
set_option maxRecDepth 100000 in
theorem c_isk5_1 (l : Launch) (cy : Nat → ClassId) (a : Nat) (w : va_W) (x : Int32) (hh : gw_has w a 1) : gw_M l kX5_isOfKind cy [.ref (a), .int (x)] w (fun r w' => r = some (.int (bI (decide (x = 0 ∨ x = nI 4)))) ∧ w' = w) := by
  refine gw_M.mk (lv := [some (.ref (a)), some (.int (x))]) (by decide) (Nat.le_of_ble_eq_true rfl) rfl ?_
  generalize hpost : (fun r w' => r = some (.int (bI (decide (x = 0 ∨ x = nI 4)))) ∧ w' = w : gw_Q) = post
  refine gw_iload_n dX5_isOfKind_0 rfl ?_
  refine gw_if_eq (tgt := 12) dX5_isOfKind_1 (by decide) (fun c1 => ?_) (fun c1 => ?_)
  · refine gw_iconst (v := nI (1)) dX5_isOfKind_12 (by decide) ?_
    refine gw_goto (tgt := 17) dX5_isOfKind_13 (by decide) ?_
    refine gw_zret (?_) (by decide) (by decide) rfl (by decide) dX5_isOfKind_17
    subst hpost
    refine ⟨?_, rfl⟩
    first
      | (rw [show decide (x = 0 ∨ x = nI 4) = true from decide_eq_true (by first | exact Or.inl (by assumption) | exact Or.inr (by assumption) | assumption)]; rfl)
      | (rw [show decide (x = 0 ∨ x = nI 4) = false from decide_eq_false (by rintro (h | h) <;> contradiction)]; rfl)
  · refine gw_iload_n dX5_isOfKind_4 rfl ?_
    refine gw_aload_n dX5_isOfKind_5 rfl ?_
    refine gw_callD (As := []) (st := [.int (x)]) (ci := 1) (x := ⟨"SpinBench$Op", "ownKind", "()I"⟩) (owner := "SpinBench$Op") (c_own_1 l cy a w) okB_X1_ownKind wd_629 (hh) rfl wd_628 wd_624 (gw_dec.abs (by decide +kernel)) ⟨by decide, by decide⟩ rfl wd_663 rfl rfl dX5_isOfKind_6 (by decide) (by decide) (Nat.le_of_ble_eq_true rfl) (fun r6 w6 hp6 => ?_)
    obtain ⟨rfl, rfl⟩ := hp6
    refine gw_W.norm (st' := [.int (nI (4)), .int (x)]) (k1 := 0) (k2 := 0) rfl rfl rfl ?_
    refine gw_icmp_ne (tgt := 16) dX5_isOfKind_9 (by decide) (fun c9 => ?_) (fun c9 => ?_)
    · refine gw_iconst (v := nI (0)) dX5_isOfKind_16 (by decide) ?_
      refine gw_zret (?_) (by decide) (by decide) rfl (by decide) dX5_isOfKind_17
      subst hpost
      refine ⟨?_, rfl⟩
      first
        | (rw [show decide (x = 0 ∨ x = nI 4) = true from decide_eq_true (by first | exact Or.inl (by assumption) | exact Or.inr (by assumption) | assumption)]; rfl)
        | (rw [show decide (x = 0 ∨ x = nI 4) = false from decide_eq_false (by rintro (h | h) <;> contradiction)]; rfl)
    · refine gw_iconst (v := nI (1)) dX5_isOfKind_12 (by decide) ?_
      refine gw_goto (tgt := 17) dX5_isOfKind_13 (by decide) ?_
      refine gw_zret (?_) (by decide) (by decide) rfl (by decide) dX5_isOfKind_17
      subst hpost
      refine ⟨?_, rfl⟩
      first
        | (rw [show decide (x = 0 ∨ x = nI 4) = true from decide_eq_true (by first | exact Or.inl (by assumption) | exact Or.inr (by assumption) | assumption)]; rfl)
        | (rw [show decide (x = 0 ∨ x = nI 4) = false from decide_eq_false (by rintro (h | h) <;> contradiction)]; rfl)
set_option maxHeartbeats 4000000 in
set_option maxRecDepth 100000 in
theorem c_isk5_5 (l : Launch) (cy : Nat → ClassId) (a : Nat) (w : va_W) (x : Int32) (hh : gw_has w a 5) : gw_M l kX5_isOfKind cy [.ref (a), .int (x)] w (fun r w' => r = some (.int (bI (decide (x = 0 ∨ x = nI 5)))) ∧ w' = w) := by
  refine gw_M.mk (lv := [some (.ref (a)), some (.int (x))]) (by decide) (Nat.le_of_ble_eq_true rfl) rfl ?_
  generalize hpost : (fun r w' => r = some (.int (bI (decide (x = 0 ∨ x = nI 5)))) ∧ w' = w : gw_Q) = post
  refine gw_iload_n dX5_isOfKind_0 rfl ?_
  refine gw_if_eq (tgt := 12) dX5_isOfKind_1 (by decide) (fun c1 => ?_) (fun c1 => ?_)
  · refine gw_iconst (v := nI (1)) dX5_isOfKind_12 (by decide) ?_
    refine gw_goto (tgt := 17) dX5_isOfKind_13 (by decide) ?_
    refine gw_zret (?_) (by decide) (by decide) rfl (by decide) dX5_isOfKind_17
    subst hpost
    refine ⟨?_, rfl⟩
    first
      | (rw [show decide (x = 0 ∨ x = nI 5) = true from decide_eq_true (by first | exact Or.inl (by assumption) | exact Or.inr (by assumption) | assumption)]; rfl)
      | (rw [show decide (x = 0 ∨ x = nI 5) = false from decide_eq_false (by rintro (h | h) <;> contradiction)]; rfl)
  · refine gw_iload_n dX5_isOfKind_4 rfl ?_
    refine gw_aload_n dX5_isOfKind_5 rfl ?_
    refine gw_callD (As := []) (st := [.int (x)]) (ci := 5) (x := ⟨"SpinBench$Op", "ownKind", "()I"⟩) (owner := "SpinBench$Op") (c_own_5 l cy a w) okB_X7_ownKind wd_638 (hh) rfl wd_637 wd_624 (gw_dec.abs (by decide +kernel)) ⟨by decide, by decide⟩ rfl wd_663 rfl rfl dX5_isOfKind_6 (by decide) (by decide) (Nat.le_of_ble_eq_true rfl) (fun r6 w6 hp6 => ?_)
    obtain ⟨rfl, rfl⟩ := hp6
    refine gw_W.norm (st' := [.int (nI (5)), .int (x)]) (k1 := 0) (k2 := 0) rfl rfl rfl ?_
    refine gw_icmp_ne (tgt := 16) dX5_isOfKind_9 (by decide) (fun c9 => ?_) (fun c9 => ?_)
    · refine gw_iconst (v := nI (0)) dX5_isOfKind_16 (by decide) ?_
      refine gw_zret (?_) (by decide) (by decide) rfl (by decide) dX5_isOfKind_17
      subst hpost
      refine ⟨?_, rfl⟩
      first
        | (rw [show decide (x = 0 ∨ x = nI 5) = true from decide_eq_true (by first | exact Or.inl (by assumption) | exact Or.inr (by assumption) | assumption)]; rfl)
        | (rw [show decide (x = 0 ∨ x = nI 5) = false from decide_eq_false (by rintro (h | h) <;> contradiction)]; rfl)
    · refine gw_iconst (v := nI (1)) dX5_isOfKind_12 (by decide) ?_
      refine gw_goto (tgt := 17) dX5_isOfKind_13 (by decide) ?_
      refine gw_zret (?_) (by decide) (by decide) rfl (by decide) dX5_isOfKind_17
      subst hpost
      refine ⟨?_, rfl⟩
      first
        | (rw [show decide (x = 0 ∨ x = nI 5) = true from decide_eq_true (by first | exact Or.inl (by assumption) | exact Or.inr (by assumption) | assumption)]; rfl)
        | (rw [show decide (x = 0 ∨ x = nI 5) = false from decide_eq_false (by rintro (h | h) <;> contradiction)]; rfl)
set_option maxHeartbeats 4000000 in
set_option maxRecDepth 100000 in
theorem c_isk5_2 (l : Launch) (cy : Nat → ClassId) (a : Nat) (w : va_W) (x : Int32) (hh : gw_has w a 2) : gw_M l kX5_isOfKind cy [.ref (a), .int (x)] w (fun r w' => r = some (.int (bI (decide (x = 0 ∨ x = nI 6)))) ∧ w' = w) := by
  refine gw_M.mk (lv := [some (.ref (a)), some (.int (x))]) (by decide) (Nat.le_of_ble_eq_true rfl) rfl ?_
  generalize hpost : (fun r w' => r = some (.int (bI (decide (x = 0 ∨ x = nI 6)))) ∧ w' = w : gw_Q) = post
  refine gw_iload_n dX5_isOfKind_0 rfl ?_
  refine gw_if_eq (tgt := 12) dX5_isOfKind_1 (by decide) (fun c1 => ?_) (fun c1 => ?_)
  · refine gw_iconst (v := nI (1)) dX5_isOfKind_12 (by decide) ?_
    refine gw_goto (tgt := 17) dX5_isOfKind_13 (by decide) ?_
    refine gw_zret (?_) (by decide) (by decide) rfl (by decide) dX5_isOfKind_17
    subst hpost
    refine ⟨?_, rfl⟩
    first
      | (rw [show decide (x = 0 ∨ x = nI 6) = true from decide_eq_true (by first | exact Or.inl (by assumption) | exact Or.inr (by assumption) | assumption)]; rfl)
      | (rw [show decide (x = 0 ∨ x = nI 6) = false from decide_eq_false (by rintro (h | h) <;> contradiction)]; rfl)
  · refine gw_iload_n dX5_isOfKind_4 rfl ?_
    refine gw_aload_n dX5_isOfKind_5 rfl ?_
    refine gw_callD (As := []) (st := [.int (x)]) (ci := 2) (x := ⟨"SpinBench$Op", "ownKind", "()I"⟩) (owner := "SpinBench$Op") (c_own_2 l cy a w) okB_X2_ownKind wd_632 (hh) rfl wd_631 wd_624 (gw_dec.abs (by decide +kernel)) ⟨by decide, by decide⟩ rfl wd_663 rfl rfl dX5_isOfKind_6 (by decide) (by decide) (Nat.le_of_ble_eq_true rfl) (fun r6 w6 hp6 => ?_)
    obtain ⟨rfl, rfl⟩ := hp6
    refine gw_W.norm (st' := [.int (nI (6)), .int (x)]) (k1 := 0) (k2 := 0) rfl rfl rfl ?_
    refine gw_icmp_ne (tgt := 16) dX5_isOfKind_9 (by decide) (fun c9 => ?_) (fun c9 => ?_)
    · refine gw_iconst (v := nI (0)) dX5_isOfKind_16 (by decide) ?_
      refine gw_zret (?_) (by decide) (by decide) rfl (by decide) dX5_isOfKind_17
      subst hpost
      refine ⟨?_, rfl⟩
      first
        | (rw [show decide (x = 0 ∨ x = nI 6) = true from decide_eq_true (by first | exact Or.inl (by assumption) | exact Or.inr (by assumption) | assumption)]; rfl)
        | (rw [show decide (x = 0 ∨ x = nI 6) = false from decide_eq_false (by rintro (h | h) <;> contradiction)]; rfl)
    · refine gw_iconst (v := nI (1)) dX5_isOfKind_12 (by decide) ?_
      refine gw_goto (tgt := 17) dX5_isOfKind_13 (by decide) ?_
      refine gw_zret (?_) (by decide) (by decide) rfl (by decide) dX5_isOfKind_17
      subst hpost
      refine ⟨?_, rfl⟩
      first
        | (rw [show decide (x = 0 ∨ x = nI 6) = true from decide_eq_true (by first | exact Or.inl (by assumption) | exact Or.inr (by assumption) | assumption)]; rfl)
        | (rw [show decide (x = 0 ∨ x = nI 6) = false from decide_eq_false (by rintro (h | h) <;> contradiction)]; rfl)
set_option maxHeartbeats 4000000 in
set_option maxRecDepth 100000 in
theorem c_isk5_6 (l : Launch) (cy : Nat → ClassId) (a : Nat) (w : va_W) (x : Int32) (hh : gw_has w a 6) : gw_M l kX5_isOfKind cy [.ref (a), .int (x)] w (fun r w' => r = some (.int (bI (decide (x = 0 ∨ x = nI 7)))) ∧ w' = w) := by
  refine gw_M.mk (lv := [some (.ref (a)), some (.int (x))]) (by decide) (Nat.le_of_ble_eq_true rfl) rfl ?_
  generalize hpost : (fun r w' => r = some (.int (bI (decide (x = 0 ∨ x = nI 7)))) ∧ w' = w : gw_Q) = post
  refine gw_iload_n dX5_isOfKind_0 rfl ?_
  refine gw_if_eq (tgt := 12) dX5_isOfKind_1 (by decide) (fun c1 => ?_) (fun c1 => ?_)
  · refine gw_iconst (v := nI (1)) dX5_isOfKind_12 (by decide) ?_
    refine gw_goto (tgt := 17) dX5_isOfKind_13 (by decide) ?_
    refine gw_zret (?_) (by decide) (by decide) rfl (by decide) dX5_isOfKind_17
    subst hpost
    refine ⟨?_, rfl⟩
    first
      | (rw [show decide (x = 0 ∨ x = nI 7) = true from decide_eq_true (by first | exact Or.inl (by assumption) | exact Or.inr (by assumption) | assumption)]; rfl)
      | (rw [show decide (x = 0 ∨ x = nI 7) = false from decide_eq_false (by rintro (h | h) <;> contradiction)]; rfl)
  · refine gw_iload_n dX5_isOfKind_4 rfl ?_
    refine gw_aload_n dX5_isOfKind_5 rfl ?_
    refine gw_callD (As := []) (st := [.int (x)]) (ci := 6) (x := ⟨"SpinBench$Op", "ownKind", "()I"⟩) (owner := "SpinBench$Op") (c_own_6 l cy a w) okB_X8_ownKind wd_641 (hh) rfl wd_640 wd_624 (gw_dec.abs (by decide +kernel)) ⟨by decide, by decide⟩ rfl wd_663 rfl rfl dX5_isOfKind_6 (by decide) (by decide) (Nat.le_of_ble_eq_true rfl) (fun r6 w6 hp6 => ?_)
    obtain ⟨rfl, rfl⟩ := hp6
    refine gw_W.norm (st' := [.int (nI (7)), .int (x)]) (k1 := 0) (k2 := 0) rfl rfl rfl ?_
    refine gw_icmp_ne (tgt := 16) dX5_isOfKind_9 (by decide) (fun c9 => ?_) (fun c9 => ?_)
    · refine gw_iconst (v := nI (0)) dX5_isOfKind_16 (by decide) ?_
      refine gw_zret (?_) (by decide) (by decide) rfl (by decide) dX5_isOfKind_17
      subst hpost
      refine ⟨?_, rfl⟩
      first
        | (rw [show decide (x = 0 ∨ x = nI 7) = true from decide_eq_true (by first | exact Or.inl (by assumption) | exact Or.inr (by assumption) | assumption)]; rfl)
        | (rw [show decide (x = 0 ∨ x = nI 7) = false from decide_eq_false (by rintro (h | h) <;> contradiction)]; rfl)
    · refine gw_iconst (v := nI (1)) dX5_isOfKind_12 (by decide) ?_
      refine gw_goto (tgt := 17) dX5_isOfKind_13 (by decide) ?_
      refine gw_zret (?_) (by decide) (by decide) rfl (by decide) dX5_isOfKind_17
      subst hpost
      refine ⟨?_, rfl⟩
      first
        | (rw [show decide (x = 0 ∨ x = nI 7) = true from decide_eq_true (by first | exact Or.inl (by assumption) | exact Or.inr (by assumption) | assumption)]; rfl)
        | (rw [show decide (x = 0 ∨ x = nI 7) = false from decide_eq_false (by rintro (h | h) <;> contradiction)]; rfl)
abbrev kX3_isOfKind : gw_K := (yX3_isOfKind, cX3_isOfKind, 2, { frames := 2, cells := 0, slots := 0, locals := 41 }, (some .boolean))
theorem okB_X3_isOfKind : gw_calB kX3_isOfKind 1 := ⟨wd_655, wd_67, by decide, by decide, by decide +kernel⟩
set_option maxHeartbeats 4000000 in
set_option maxRecDepth 100000 in
theorem c_isk3_4_open (l : Launch) (cy : Nat → ClassId) (a : Nat) (w : va_W) (x : Int32) (hh : gw_has w a 4) (hW : OpenWord) : gw_M l kX3_isOfKind cy [.ref (a), .int (x)] w (fun r w' => r = some (.int (bI (decide (x = nI 1 ∨ (x = 0 ∨ x = nI 2))))) ∧ w' = w) := by
  refine gw_M.mk (lv := [some (.ref (a)), some (.int (x))]) (by decide) (Nat.le_of_ble_eq_true rfl) rfl ?_
  generalize hpost : (fun r w' => r = some (.int (bI (decide (x = nI 1 ∨ (x = 0 ∨ x = nI 2))))) ∧ w' = w : gw_Q) = post
  refine gw_iload_n dX3_isOfKind_0 rfl ?_
  refine gw_iconst (v := nI (1)) dX3_isOfKind_1 (by decide) ?_
  refine gw_icmp_eq (tgt := 13) dX3_isOfKind_2 (by decide) (fun c2 => ?_) (fun c2 => ?_)
  · refine gw_iconst (v := nI (1)) dX3_isOfKind_13 (by decide) ?_
    refine gw_goto (tgt := 18) dX3_isOfKind_14 (by decide) ?_
    refine gw_zret (?_) (by decide) (by decide) rfl (by decide) dX3_isOfKind_18
    subst hpost
    refine ⟨?_, rfl⟩
    first
      | (rw [show decide (x = nI 1 ∨ (x = 0 ∨ x = nI 2)) = true from decide_eq_true (by first | exact Or.inl (by assumption) | exact Or.inr (by assumption) | assumption)]; rfl)
      | (rw [show decide (x = nI 1 ∨ (x = 0 ∨ x = nI 2)) = false from decide_eq_false (by rintro (h | h) <;> contradiction)]; rfl)
  · refine gw_aload_n dX3_isOfKind_5 rfl ?_
    refine gw_iload_n dX3_isOfKind_6 rfl ?_
    refine gw_callUo (As := [.int (x)]) (st := []) (ci := 4) (c_isk5_4 l cy a w x hh) okB_X5_isOfKind wd_648 (hh) rfl wd_649 hW rfl rfl (by decide) wd_656 rfl rfl dX3_isOfKind_7 (by decide) (by decide) (Nat.le_of_ble_eq_true rfl) (fun r7 w7 hp7 => ?_)
    obtain ⟨rfl, rfl⟩ := hp7
    refine gw_W.norm (st' := [.int (bI (decide (x = 0 ∨ x = nI 2)))]) (k1 := 0) (k2 := 0) rfl rfl rfl ?_
    refine gw_if_eq (tgt := 17) dX3_isOfKind_10 (by decide) (fun c10 => ?_) (fun c10 => ?_)
    · rw [bI_0] at c10
      have c10 := of_decide_eq_false c10
      refine gw_iconst (v := nI (0)) dX3_isOfKind_17 (by decide) ?_
      refine gw_zret (?_) (by decide) (by decide) rfl (by decide) dX3_isOfKind_18
      subst hpost
      refine ⟨?_, rfl⟩
      first
        | (rw [show decide (x = nI 1 ∨ (x = 0 ∨ x = nI 2)) = true from decide_eq_true (by first | exact Or.inl (by assumption) | exact Or.inr (by assumption) | assumption)]; rfl)
        | (rw [show decide (x = nI 1 ∨ (x = 0 ∨ x = nI 2)) = false from decide_eq_false (by rintro (h | h) <;> contradiction)]; rfl)
    · rw [bI_n0] at c10
      have c10 := of_decide_eq_true c10
      refine gw_iconst (v := nI (1)) dX3_isOfKind_13 (by decide) ?_
      refine gw_goto (tgt := 18) dX3_isOfKind_14 (by decide) ?_
      refine gw_zret (?_) (by decide) (by decide) rfl (by decide) dX3_isOfKind_18
      subst hpost
      refine ⟨?_, rfl⟩
      first
        | (rw [show decide (x = nI 1 ∨ (x = 0 ∨ x = nI 2)) = true from decide_eq_true (by first | exact Or.inl (by assumption) | exact Or.inr (by assumption) | assumption)]; rfl)
        | (rw [show decide (x = nI 1 ∨ (x = 0 ∨ x = nI 2)) = false from decide_eq_false (by rintro (h | h) <;> contradiction)]; rfl)
set_option maxHeartbeats 4000000 in
set_option maxRecDepth 100000 in
theorem c_isk3_0_open (l : Launch) (cy : Nat → ClassId) (a : Nat) (w : va_W) (x : Int32) (hh : gw_has w a 0) (hW : OpenWord) : gw_M l kX3_isOfKind cy [.ref (a), .int (x)] w (fun r w' => r = some (.int (bI (decide (x = nI 1 ∨ (x = 0 ∨ x = nI 3))))) ∧ w' = w) := by
  refine gw_M.mk (lv := [some (.ref (a)), some (.int (x))]) (by decide) (Nat.le_of_ble_eq_true rfl) rfl ?_
  generalize hpost : (fun r w' => r = some (.int (bI (decide (x = nI 1 ∨ (x = 0 ∨ x = nI 3))))) ∧ w' = w : gw_Q) = post
  refine gw_iload_n dX3_isOfKind_0 rfl ?_
  refine gw_iconst (v := nI (1)) dX3_isOfKind_1 (by decide) ?_
  refine gw_icmp_eq (tgt := 13) dX3_isOfKind_2 (by decide) (fun c2 => ?_) (fun c2 => ?_)
  · refine gw_iconst (v := nI (1)) dX3_isOfKind_13 (by decide) ?_
    refine gw_goto (tgt := 18) dX3_isOfKind_14 (by decide) ?_
    refine gw_zret (?_) (by decide) (by decide) rfl (by decide) dX3_isOfKind_18
    subst hpost
    refine ⟨?_, rfl⟩
    first
      | (rw [show decide (x = nI 1 ∨ (x = 0 ∨ x = nI 3)) = true from decide_eq_true (by first | exact Or.inl (by assumption) | exact Or.inr (by assumption) | assumption)]; rfl)
      | (rw [show decide (x = nI 1 ∨ (x = 0 ∨ x = nI 3)) = false from decide_eq_false (by rintro (h | h) <;> contradiction)]; rfl)
  · refine gw_aload_n dX3_isOfKind_5 rfl ?_
    refine gw_iload_n dX3_isOfKind_6 rfl ?_
    refine gw_callUo (As := [.int (x)]) (st := []) (ci := 0) (c_isk5_0 l cy a w x hh) okB_X5_isOfKind wd_648 (hh) rfl wd_649 hW rfl rfl (by decide) wd_656 rfl rfl dX3_isOfKind_7 (by decide) (by decide) (Nat.le_of_ble_eq_true rfl) (fun r7 w7 hp7 => ?_)
    obtain ⟨rfl, rfl⟩ := hp7
    refine gw_W.norm (st' := [.int (bI (decide (x = 0 ∨ x = nI 3)))]) (k1 := 0) (k2 := 0) rfl rfl rfl ?_
    refine gw_if_eq (tgt := 17) dX3_isOfKind_10 (by decide) (fun c10 => ?_) (fun c10 => ?_)
    · rw [bI_0] at c10
      have c10 := of_decide_eq_false c10
      refine gw_iconst (v := nI (0)) dX3_isOfKind_17 (by decide) ?_
      refine gw_zret (?_) (by decide) (by decide) rfl (by decide) dX3_isOfKind_18
      subst hpost
      refine ⟨?_, rfl⟩
      first
        | (rw [show decide (x = nI 1 ∨ (x = 0 ∨ x = nI 3)) = true from decide_eq_true (by first | exact Or.inl (by assumption) | exact Or.inr (by assumption) | assumption)]; rfl)
        | (rw [show decide (x = nI 1 ∨ (x = 0 ∨ x = nI 3)) = false from decide_eq_false (by rintro (h | h) <;> contradiction)]; rfl)
    · rw [bI_n0] at c10
      have c10 := of_decide_eq_true c10
      refine gw_iconst (v := nI (1)) dX3_isOfKind_13 (by decide) ?_
      refine gw_goto (tgt := 18) dX3_isOfKind_14 (by decide) ?_
      refine gw_zret (?_) (by decide) (by decide) rfl (by decide) dX3_isOfKind_18
      subst hpost
      refine ⟨?_, rfl⟩
      first
        | (rw [show decide (x = nI 1 ∨ (x = 0 ∨ x = nI 3)) = true from decide_eq_true (by first | exact Or.inl (by assumption) | exact Or.inr (by assumption) | assumption)]; rfl)
        | (rw [show decide (x = nI 1 ∨ (x = 0 ∨ x = nI 3)) = false from decide_eq_false (by rintro (h | h) <;> contradiction)]; rfl)
set_option maxHeartbeats 4000000 in
set_option maxRecDepth 100000 in
theorem c_isk3_1_open (l : Launch) (cy : Nat → ClassId) (a : Nat) (w : va_W) (x : Int32) (hh : gw_has w a 1) (hW : OpenWord) : gw_M l kX3_isOfKind cy [.ref (a), .int (x)] w (fun r w' => r = some (.int (bI (decide (x = nI 1 ∨ (x = 0 ∨ x = nI 4))))) ∧ w' = w) := by
  refine gw_M.mk (lv := [some (.ref (a)), some (.int (x))]) (by decide) (Nat.le_of_ble_eq_true rfl) rfl ?_
  generalize hpost : (fun r w' => r = some (.int (bI (decide (x = nI 1 ∨ (x = 0 ∨ x = nI 4))))) ∧ w' = w : gw_Q) = post
  refine gw_iload_n dX3_isOfKind_0 rfl ?_
  refine gw_iconst (v := nI (1)) dX3_isOfKind_1 (by decide) ?_
  refine gw_icmp_eq (tgt := 13) dX3_isOfKind_2 (by decide) (fun c2 => ?_) (fun c2 => ?_)
  · refine gw_iconst (v := nI (1)) dX3_isOfKind_13 (by decide) ?_
    refine gw_goto (tgt := 18) dX3_isOfKind_14 (by decide) ?_
    refine gw_zret (?_) (by decide) (by decide) rfl (by decide) dX3_isOfKind_18
    subst hpost
    refine ⟨?_, rfl⟩
    first
      | (rw [show decide (x = nI 1 ∨ (x = 0 ∨ x = nI 4)) = true from decide_eq_true (by first | exact Or.inl (by assumption) | exact Or.inr (by assumption) | assumption)]; rfl)
      | (rw [show decide (x = nI 1 ∨ (x = 0 ∨ x = nI 4)) = false from decide_eq_false (by rintro (h | h) <;> contradiction)]; rfl)
  · refine gw_aload_n dX3_isOfKind_5 rfl ?_
    refine gw_iload_n dX3_isOfKind_6 rfl ?_
    refine gw_callUo (As := [.int (x)]) (st := []) (ci := 1) (c_isk5_1 l cy a w x hh) okB_X5_isOfKind wd_648 (hh) rfl wd_649 hW rfl rfl (by decide) wd_656 rfl rfl dX3_isOfKind_7 (by decide) (by decide) (Nat.le_of_ble_eq_true rfl) (fun r7 w7 hp7 => ?_)
    obtain ⟨rfl, rfl⟩ := hp7
    refine gw_W.norm (st' := [.int (bI (decide (x = 0 ∨ x = nI 4)))]) (k1 := 0) (k2 := 0) rfl rfl rfl ?_
    refine gw_if_eq (tgt := 17) dX3_isOfKind_10 (by decide) (fun c10 => ?_) (fun c10 => ?_)
    · rw [bI_0] at c10
      have c10 := of_decide_eq_false c10
      refine gw_iconst (v := nI (0)) dX3_isOfKind_17 (by decide) ?_
      refine gw_zret (?_) (by decide) (by decide) rfl (by decide) dX3_isOfKind_18
      subst hpost
      refine ⟨?_, rfl⟩
      first
        | (rw [show decide (x = nI 1 ∨ (x = 0 ∨ x = nI 4)) = true from decide_eq_true (by first | exact Or.inl (by assumption) | exact Or.inr (by assumption) | assumption)]; rfl)
        | (rw [show decide (x = nI 1 ∨ (x = 0 ∨ x = nI 4)) = false from decide_eq_false (by rintro (h | h) <;> contradiction)]; rfl)
    · rw [bI_n0] at c10
      have c10 := of_decide_eq_true c10
      refine gw_iconst (v := nI (1)) dX3_isOfKind_13 (by decide) ?_
      refine gw_goto (tgt := 18) dX3_isOfKind_14 (by decide) ?_
      refine gw_zret (?_) (by decide) (by decide) rfl (by decide) dX3_isOfKind_18
      subst hpost
      refine ⟨?_, rfl⟩
      first
        | (rw [show decide (x = nI 1 ∨ (x = 0 ∨ x = nI 4)) = true from decide_eq_true (by first | exact Or.inl (by assumption) | exact Or.inr (by assumption) | assumption)]; rfl)
        | (rw [show decide (x = nI 1 ∨ (x = 0 ∨ x = nI 4)) = false from decide_eq_false (by rintro (h | h) <;> contradiction)]; rfl)
abbrev kX6_isOfKind : gw_K := (yX6_isOfKind, cX6_isOfKind, 2, { frames := 3, cells := 0, slots := 0, locals := 62 }, (some .boolean))
theorem okB_X6_isOfKind : gw_calB kX6_isOfKind 1 := ⟨wd_652, wd_68, by decide, by decide, by decide +kernel⟩
set_option maxHeartbeats 4000000 in
set_option maxRecDepth 100000 in
theorem c_isk6_4_open (l : Launch) (cy : Nat → ClassId) (a : Nat) (w : va_W) (x : Int32) (hh : gw_has w a 4) (hW : OpenWord) : gw_M l kX6_isOfKind cy [.ref (a), .int (x)] w (fun r w' => r = some (.int (bI (decide (x = nI 2 ∨ (x = nI 1 ∨ (x = 0 ∨ x = nI 2)))))) ∧ w' = w) := by
  refine gw_M.mk (lv := [some (.ref (a)), some (.int (x))]) (by decide) (Nat.le_of_ble_eq_true rfl) rfl ?_
  generalize hpost : (fun r w' => r = some (.int (bI (decide (x = nI 2 ∨ (x = nI 1 ∨ (x = 0 ∨ x = nI 2)))))) ∧ w' = w : gw_Q) = post
  refine gw_iload_n dX6_isOfKind_0 rfl ?_
  refine gw_iconst (v := nI (2)) dX6_isOfKind_1 (by decide) ?_
  refine gw_icmp_eq (tgt := 13) dX6_isOfKind_2 (by decide) (fun c2 => ?_) (fun c2 => ?_)
  · refine gw_iconst (v := nI (1)) dX6_isOfKind_13 (by decide) ?_
    refine gw_goto (tgt := 18) dX6_isOfKind_14 (by decide) ?_
    refine gw_zret (?_) (by decide) (by decide) rfl (by decide) dX6_isOfKind_18
    subst hpost
    refine ⟨?_, rfl⟩
    first
      | (rw [show decide (x = nI 2 ∨ (x = nI 1 ∨ (x = 0 ∨ x = nI 2))) = true from decide_eq_true (by first | exact Or.inl (by assumption) | exact Or.inr (by assumption) | assumption)]; rfl)
      | (rw [show decide (x = nI 2 ∨ (x = nI 1 ∨ (x = 0 ∨ x = nI 2))) = false from decide_eq_false (by rintro (h | h) <;> contradiction)]; rfl)
  · refine gw_aload_n dX6_isOfKind_5 rfl ?_
    refine gw_iload_n dX6_isOfKind_6 rfl ?_
    refine gw_callU (As := [.int (x)]) (st := []) (ci := 4) (c_isk3_4_open l cy a w x hh hW) okB_X3_isOfKind wd_654 (hh) rfl wd_1164 wd_505 (by decide) wd_653 rfl rfl dX6_isOfKind_7 (by decide) (by decide) (Nat.le_of_ble_eq_true rfl) (fun r7 w7 hp7 => ?_)
    obtain ⟨rfl, rfl⟩ := hp7
    refine gw_W.norm (st' := [.int (bI (decide (x = nI 1 ∨ (x = 0 ∨ x = nI 2))))]) (k1 := 0) (k2 := 0) rfl rfl rfl ?_
    refine gw_if_eq (tgt := 17) dX6_isOfKind_10 (by decide) (fun c10 => ?_) (fun c10 => ?_)
    · rw [bI_0] at c10
      have c10 := of_decide_eq_false c10
      refine gw_iconst (v := nI (0)) dX6_isOfKind_17 (by decide) ?_
      refine gw_zret (?_) (by decide) (by decide) rfl (by decide) dX6_isOfKind_18
      subst hpost
      refine ⟨?_, rfl⟩
      first
        | (rw [show decide (x = nI 2 ∨ (x = nI 1 ∨ (x = 0 ∨ x = nI 2))) = true from decide_eq_true (by first | exact Or.inl (by assumption) | exact Or.inr (by assumption) | assumption)]; rfl)
        | (rw [show decide (x = nI 2 ∨ (x = nI 1 ∨ (x = 0 ∨ x = nI 2))) = false from decide_eq_false (by rintro (h | h) <;> contradiction)]; rfl)
    · rw [bI_n0] at c10
      have c10 := of_decide_eq_true c10
      refine gw_iconst (v := nI (1)) dX6_isOfKind_13 (by decide) ?_
      refine gw_goto (tgt := 18) dX6_isOfKind_14 (by decide) ?_
      refine gw_zret (?_) (by decide) (by decide) rfl (by decide) dX6_isOfKind_18
      subst hpost
      refine ⟨?_, rfl⟩
      first
        | (rw [show decide (x = nI 2 ∨ (x = nI 1 ∨ (x = 0 ∨ x = nI 2))) = true from decide_eq_true (by first | exact Or.inl (by assumption) | exact Or.inr (by assumption) | assumption)]; rfl)
        | (rw [show decide (x = nI 2 ∨ (x = nI 1 ∨ (x = 0 ∨ x = nI 2))) = false from decide_eq_false (by rintro (h | h) <;> contradiction)]; rfl)
set_option maxHeartbeats 4000000 in
set_option maxRecDepth 100000 in
theorem c_isk6_0_open (l : Launch) (cy : Nat → ClassId) (a : Nat) (w : va_W) (x : Int32) (hh : gw_has w a 0) (hW : OpenWord) : gw_M l kX6_isOfKind cy [.ref (a), .int (x)] w (fun r w' => r = some (.int (bI (decide (x = nI 2 ∨ (x = nI 1 ∨ (x = 0 ∨ x = nI 3)))))) ∧ w' = w) := by
  refine gw_M.mk (lv := [some (.ref (a)), some (.int (x))]) (by decide) (Nat.le_of_ble_eq_true rfl) rfl ?_
  generalize hpost : (fun r w' => r = some (.int (bI (decide (x = nI 2 ∨ (x = nI 1 ∨ (x = 0 ∨ x = nI 3)))))) ∧ w' = w : gw_Q) = post
  refine gw_iload_n dX6_isOfKind_0 rfl ?_
  refine gw_iconst (v := nI (2)) dX6_isOfKind_1 (by decide) ?_
  refine gw_icmp_eq (tgt := 13) dX6_isOfKind_2 (by decide) (fun c2 => ?_) (fun c2 => ?_)
  · refine gw_iconst (v := nI (1)) dX6_isOfKind_13 (by decide) ?_
    refine gw_goto (tgt := 18) dX6_isOfKind_14 (by decide) ?_
    refine gw_zret (?_) (by decide) (by decide) rfl (by decide) dX6_isOfKind_18
    subst hpost
    refine ⟨?_, rfl⟩
    first
      | (rw [show decide (x = nI 2 ∨ (x = nI 1 ∨ (x = 0 ∨ x = nI 3))) = true from decide_eq_true (by first | exact Or.inl (by assumption) | exact Or.inr (by assumption) | assumption)]; rfl)
      | (rw [show decide (x = nI 2 ∨ (x = nI 1 ∨ (x = 0 ∨ x = nI 3))) = false from decide_eq_false (by rintro (h | h) <;> contradiction)]; rfl)
  · refine gw_aload_n dX6_isOfKind_5 rfl ?_
    refine gw_iload_n dX6_isOfKind_6 rfl ?_
    refine gw_callU (As := [.int (x)]) (st := []) (ci := 0) (c_isk3_0_open l cy a w x hh hW) okB_X3_isOfKind wd_654 (hh) rfl wd_1164 wd_505 (by decide) wd_653 rfl rfl dX6_isOfKind_7 (by decide) (by decide) (Nat.le_of_ble_eq_true rfl) (fun r7 w7 hp7 => ?_)
    obtain ⟨rfl, rfl⟩ := hp7
    refine gw_W.norm (st' := [.int (bI (decide (x = nI 1 ∨ (x = 0 ∨ x = nI 3))))]) (k1 := 0) (k2 := 0) rfl rfl rfl ?_
    refine gw_if_eq (tgt := 17) dX6_isOfKind_10 (by decide) (fun c10 => ?_) (fun c10 => ?_)
    · rw [bI_0] at c10
      have c10 := of_decide_eq_false c10
      refine gw_iconst (v := nI (0)) dX6_isOfKind_17 (by decide) ?_
      refine gw_zret (?_) (by decide) (by decide) rfl (by decide) dX6_isOfKind_18
      subst hpost
      refine ⟨?_, rfl⟩
      first
        | (rw [show decide (x = nI 2 ∨ (x = nI 1 ∨ (x = 0 ∨ x = nI 3))) = true from decide_eq_true (by first | exact Or.inl (by assumption) | exact Or.inr (by assumption) | assumption)]; rfl)
        | (rw [show decide (x = nI 2 ∨ (x = nI 1 ∨ (x = 0 ∨ x = nI 3))) = false from decide_eq_false (by rintro (h | h) <;> contradiction)]; rfl)
    · rw [bI_n0] at c10
      have c10 := of_decide_eq_true c10
      refine gw_iconst (v := nI (1)) dX6_isOfKind_13 (by decide) ?_
      refine gw_goto (tgt := 18) dX6_isOfKind_14 (by decide) ?_
      refine gw_zret (?_) (by decide) (by decide) rfl (by decide) dX6_isOfKind_18
      subst hpost
      refine ⟨?_, rfl⟩
      first
        | (rw [show decide (x = nI 2 ∨ (x = nI 1 ∨ (x = 0 ∨ x = nI 3))) = true from decide_eq_true (by first | exact Or.inl (by assumption) | exact Or.inr (by assumption) | assumption)]; rfl)
        | (rw [show decide (x = nI 2 ∨ (x = nI 1 ∨ (x = 0 ∨ x = nI 3))) = false from decide_eq_false (by rintro (h | h) <;> contradiction)]; rfl)
abbrev kX11_kind : gw_K := (yX11_kind, cX11_kind, 3, { frames := 2, cells := 0, slots := 0, locals := 43 }, (some .int))
theorem ok_X11_kind : gw_calV kX11_kind 1 := ⟨⟨wd_621, wd_57, by decide, by decide, by decide +kernel⟩, wd_619, wd_620⟩
set_option maxHeartbeats 4000000 in
set_option maxRecDepth 100000 in
theorem t_cgkind (l : Launch) (cy : Nat → ClassId) (b : Nat) (σ : aS) (w : va_W) (hI : cInv cy b σ w) (k : Int32) : gw_M l kX11_kind cy [.ref (b), .int (k)] (w) (cPost cy b (spKind σ k)) := by
  obtain ⟨ad, sa, ta, oa, nx, lo, pg, bo, cs, xs, tb, op, td, rfl, hw, hxs, hcs, htb, hop, hN, hbo⟩ := hI
  have hn4 : 1 ≤ σ.1 ∧ σ.1 ≤ 4 := ⟨hN.1, hN.2.1⟩
  refine gw_M.pm hw ?_
  obtain ⟨oc, hoc⟩ := hN.2.2.2.2.1
  have l40 : (sOp σ).length ≤ 40 := hN.2.2.2.1
  refine gw_M.mk (lv := [some (.ref (ad 0)), some (.int (k)), none]) (by decide) (Nat.le_of_ble_eq_true rfl) rfl ?_
  generalize hpost : (cPost cy (ad 0) (spKind σ k) : gw_Q) = post
  refine gw_W.wd (w' := ([(ad 0, .inr (9, [.int (nI (σ.1)), .ref (ad 1), .ref (ad 2), .ref (sa (3 * 0)), .ref (ad 4), .ref (ad 5), .ref (ad 6), .int (nI ((sOp σ).length)), va_rf (lo), .int (nx), .int (σ.2.2.2.2.2.2.1), .int (σ.2.2.2.2.2.2.2), .ref (ad 12), .int (nI ((sTr σ).length)), .int (σ.2.2.2.2.1)])), (ad 1, .inl (cy 3, 9, .inr (.inr (.inr (.inr (fun i => some (sa (3 * i)))))))), (ad 2, .inl (cy 3, 9, .inr (.inr (.inr (.inr (fun i => some (sa (3 * (9 + i))))))))), (ad 5, .inl (cy 4, 8, .inr (.inr (.inr (.inr (fun i => some (ta (2 * i)))))))), (ad 6, .inl (cy 2, 40, .inr (.inr (.inr (.inr (pg)))))), (ad 12, .inl (cy 0, 16, .inl (bo)))] ++ (xs ++ (tb ++ op)))) rfl ?_
  refine gw_aload_n dX11_kind_0 rfl ?_
  refine gw_iload_n dX11_kind_1 rfl ?_
  refine gw_W.wd (w' := bW cy ad sa ta (σ.1) ((sOp σ).length) ((sTr σ).length) nx (σ.2.2.2.2.2.2.1) (σ.2.2.2.2.2.2.2) (σ.2.2.2.2.1) lo pg bo ++ (xs ++ (tb ++ op))) rfl ?_
  refine gw_callV 0 (As := [.int (k)]) (st := []) (c_bopAt l cy ad sa ta (σ.1) ((sOp σ).length) ((sTr σ).length) nx (σ.2.2.2.2.2.2.1) (σ.2.2.2.2.2.2.2) (σ.2.2.2.2.1) lo pg bo (xs ++ (tb ++ op)) (k) l40) ok_X11_opAt rfl rfl rfl wd_614 rfl rfl dX11_kind_2 (by decide) (by decide) (Nat.le_of_ble_eq_true rfl) (fun r2 w2 hp2 => ?_)
  obtain ⟨rfl, rfl⟩ := hp2
  by_cases h2 : inZ (k).toInt 0 (((sOp σ).length : Int) - 1) = true
  · have j9 : tI (k) < (sOp σ).length := by rw [inZ_t] at h2; unfold tI; omega
    rw [if_pos h2, hop.2.2 _ j9]
    have hmj := opP_mem hop j9
    have hko := op_k8 (hN.2.2.2.2.2 _ (opJ_mem j9))
    refine gw_W.norm (st' := [.ref (oa (tI (k)))]) (k1 := 0) (k2 := 0) rfl rfl rfl ?_
    refine gw_W.wd (w' := ([(ad 0, .inr (9, [.int (nI (σ.1)), .ref (ad 1), .ref (ad 2), .ref (sa (3 * 0)), .ref (ad 4), .ref (ad 5), .ref (ad 6), .int (nI ((sOp σ).length)), va_rf (lo), .int (nx), .int (σ.2.2.2.2.2.2.1), .int (σ.2.2.2.2.2.2.2), .ref (ad 12), .int (nI ((sTr σ).length)), .int (σ.2.2.2.2.1)])), (ad 1, .inl (cy 3, 9, .inr (.inr (.inr (.inr (fun i => some (sa (3 * i)))))))), (ad 2, .inl (cy 3, 9, .inr (.inr (.inr (.inr (fun i => some (sa (3 * (9 + i))))))))), (ad 5, .inl (cy 4, 8, .inr (.inr (.inr (.inr (fun i => some (ta (2 * i)))))))), (ad 6, .inl (cy 2, 40, .inr (.inr (.inr (.inr (pg)))))), (ad 12, .inl (cy 0, 16, .inl (bo)))] ++ (xs ++ (tb ++ op)))) rfl ?_
    refine gw_astore_n dX11_kind_5 (by decide) rfl ?_
    refine gw_aload_n dX11_kind_6 rfl ?_
    refine gw_ifnonnull (tgt := 15) dX11_kind_7 (by decide) ?_
    refine gw_aload_n dX11_kind_15 rfl ?_
    rcases (show (opJ (sOp σ) (tI (k))).1 = 2 ∨ (opJ (sOp σ) (tI (k))).1 = 3 ∨ (opJ (sOp σ) (tI (k))).1 = 4 ∨ (opJ (sOp σ) (tI (k))).1 = 5 ∨ (opJ (sOp σ) (tI (k))).1 = 6 ∨ (opJ (sOp σ) (tI (k))).1 = 7 by omega) with hk | hk | hk | hk | hk | hk
    · rw [opCe, if_pos hk] at hmj
      refine gw_callD (As := []) (st := []) (ci := 4) (x := ⟨"SpinBench$Op", "ownKind", "()I"⟩) (owner := "SpinBench$Op") (c_own_4 l cy (oa (tI (k))) ([(ad 0, .inr (9, [.int (nI (σ.1)), .ref (ad 1), .ref (ad 2), .ref (sa (3 * 0)), .ref (ad 4), .ref (ad 5), .ref (ad 6), .int (nI ((sOp σ).length)), va_rf (lo), .int (nx), .int (σ.2.2.2.2.2.2.1), .int (σ.2.2.2.2.2.2.2), .ref (ad 12), .int (nI ((sTr σ).length)), .int (σ.2.2.2.2.1)])), (ad 1, .inl (cy 3, 9, .inr (.inr (.inr (.inr (fun i => some (sa (3 * i)))))))), (ad 2, .inl (cy 3, 9, .inr (.inr (.inr (.inr (fun i => some (sa (3 * (9 + i))))))))), (ad 5, .inl (cy 4, 8, .inr (.inr (.inr (.inr (fun i => some (ta (2 * i)))))))), (ad 6, .inl (cy 2, 40, .inr (.inr (.inr (.inr (pg)))))), (ad 12, .inl (cy 0, 16, .inl (bo)))] ++ (xs ++ (tb ++ op)))) okB_X6_ownKind wd_635 (⟨_, List.mem_append_right _ (List.mem_append_right _ (List.mem_append_right _ hmj))⟩) rfl wd_634 wd_624 (gw_dec.abs (by decide +kernel)) ⟨by decide, by decide⟩ rfl wd_622 rfl rfl dX11_kind_16 (by decide) (by decide) (Nat.le_of_ble_eq_true rfl) (fun r16 w16 hp16 => ?_)
      obtain ⟨rfl, rfl⟩ := hp16
      refine gw_W.norm (st' := [.int (nI (2))]) (k1 := 0) (k2 := 0) rfl rfl rfl ?_
      refine gw_W.wd (w' := ([(ad 0, .inr (9, [.int (nI (σ.1)), .ref (ad 1), .ref (ad 2), .ref (sa (3 * 0)), .ref (ad 4), .ref (ad 5), .ref (ad 6), .int (nI ((sOp σ).length)), va_rf (lo), .int (nx), .int (σ.2.2.2.2.2.2.1), .int (σ.2.2.2.2.2.2.2), .ref (ad 12), .int (nI ((sTr σ).length)), .int (σ.2.2.2.2.1)])), (ad 1, .inl (cy 3, 9, .inr (.inr (.inr (.inr (fun i => some (sa (3 * i)))))))), (ad 2, .inl (cy 3, 9, .inr (.inr (.inr (.inr (fun i => some (sa (3 * (9 + i))))))))), (ad 5, .inl (cy 4, 8, .inr (.inr (.inr (.inr (fun i => some (ta (2 * i)))))))), (ad 6, .inl (cy 2, 40, .inr (.inr (.inr (.inr (pg)))))), (ad 12, .inl (cy 0, 16, .inl (bo)))] ++ (xs ++ (tb ++ op)))) rfl ?_
      refine gw_W.wd (w' := bW cy ad sa ta (σ.1) ((sOp σ).length) ((sTr σ).length) nx (σ.2.2.2.2.2.2.1) (σ.2.2.2.2.2.2.2) (σ.2.2.2.2.1) lo pg bo ++ (xs ++ (tb ++ op))) rfl ?_
      refine gw_iret (?_) (by decide) (by decide) rfl dX11_kind_19
      subst hpost
      unfold spKind
      first
        | (rw [if_neg (show ¬ isO σ k = true from h2)]; exact ⟨rfl, ad, sa, ta, oa, nx, lo, pg, bo, cs, xs, tb, op, td, rfl, List.Perm.refl _, hxs, hcs, htb, hop, hN, hbo⟩)
        | (rw [if_pos (show isO σ k = true from h2), show (opA σ k).1 = _ from hk]; exact ⟨rfl, ad, sa, ta, oa, nx, lo, pg, bo, cs, xs, tb, op, td, rfl, List.Perm.refl _, hxs, hcs, htb, hop, hN, hbo⟩)
    · rw [opCe, if_neg (by omega), if_pos hk] at hmj
      refine gw_callD (As := []) (st := []) (ci := 0) (x := ⟨"SpinBench$Op", "ownKind", "()I"⟩) (owner := "SpinBench$Op") (c_own_0 l cy (oa (tI (k))) ([(ad 0, .inr (9, [.int (nI (σ.1)), .ref (ad 1), .ref (ad 2), .ref (sa (3 * 0)), .ref (ad 4), .ref (ad 5), .ref (ad 6), .int (nI ((sOp σ).length)), va_rf (lo), .int (nx), .int (σ.2.2.2.2.2.2.1), .int (σ.2.2.2.2.2.2.2), .ref (ad 12), .int (nI ((sTr σ).length)), .int (σ.2.2.2.2.1)])), (ad 1, .inl (cy 3, 9, .inr (.inr (.inr (.inr (fun i => some (sa (3 * i)))))))), (ad 2, .inl (cy 3, 9, .inr (.inr (.inr (.inr (fun i => some (sa (3 * (9 + i))))))))), (ad 5, .inl (cy 4, 8, .inr (.inr (.inr (.inr (fun i => some (ta (2 * i)))))))), (ad 6, .inl (cy 2, 40, .inr (.inr (.inr (.inr (pg)))))), (ad 12, .inl (cy 0, 16, .inl (bo)))] ++ (xs ++ (tb ++ op)))) okB_X0_ownKind wd_626 (⟨_, List.mem_append_right _ (List.mem_append_right _ (List.mem_append_right _ hmj))⟩) rfl wd_625 wd_624 (gw_dec.abs (by decide +kernel)) ⟨by decide, by decide⟩ rfl wd_622 rfl rfl dX11_kind_16 (by decide) (by decide) (Nat.le_of_ble_eq_true rfl) (fun r16 w16 hp16 => ?_)
      obtain ⟨rfl, rfl⟩ := hp16
      refine gw_W.norm (st' := [.int (nI (3))]) (k1 := 0) (k2 := 0) rfl rfl rfl ?_
      refine gw_W.wd (w' := ([(ad 0, .inr (9, [.int (nI (σ.1)), .ref (ad 1), .ref (ad 2), .ref (sa (3 * 0)), .ref (ad 4), .ref (ad 5), .ref (ad 6), .int (nI ((sOp σ).length)), va_rf (lo), .int (nx), .int (σ.2.2.2.2.2.2.1), .int (σ.2.2.2.2.2.2.2), .ref (ad 12), .int (nI ((sTr σ).length)), .int (σ.2.2.2.2.1)])), (ad 1, .inl (cy 3, 9, .inr (.inr (.inr (.inr (fun i => some (sa (3 * i)))))))), (ad 2, .inl (cy 3, 9, .inr (.inr (.inr (.inr (fun i => some (sa (3 * (9 + i))))))))), (ad 5, .inl (cy 4, 8, .inr (.inr (.inr (.inr (fun i => some (ta (2 * i)))))))), (ad 6, .inl (cy 2, 40, .inr (.inr (.inr (.inr (pg)))))), (ad 12, .inl (cy 0, 16, .inl (bo)))] ++ (xs ++ (tb ++ op)))) rfl ?_
      refine gw_W.wd (w' := bW cy ad sa ta (σ.1) ((sOp σ).length) ((sTr σ).length) nx (σ.2.2.2.2.2.2.1) (σ.2.2.2.2.2.2.2) (σ.2.2.2.2.1) lo pg bo ++ (xs ++ (tb ++ op))) rfl ?_
      refine gw_iret (?_) (by decide) (by decide) rfl dX11_kind_19
      subst hpost
      unfold spKind
      first
        | (rw [if_neg (show ¬ isO σ k = true from h2)]; exact ⟨rfl, ad, sa, ta, oa, nx, lo, pg, bo, cs, xs, tb, op, td, rfl, List.Perm.refl _, hxs, hcs, htb, hop, hN, hbo⟩)
        | (rw [if_pos (show isO σ k = true from h2), show (opA σ k).1 = _ from hk]; exact ⟨rfl, ad, sa, ta, oa, nx, lo, pg, bo, cs, xs, tb, op, td, rfl, List.Perm.refl _, hxs, hcs, htb, hop, hN, hbo⟩)
    · rw [opCe, if_neg (by omega), if_neg (by omega), if_pos hk] at hmj
      refine gw_callD (As := []) (st := []) (ci := 1) (x := ⟨"SpinBench$Op", "ownKind", "()I"⟩) (owner := "SpinBench$Op") (c_own_1 l cy (oa (tI (k))) ([(ad 0, .inr (9, [.int (nI (σ.1)), .ref (ad 1), .ref (ad 2), .ref (sa (3 * 0)), .ref (ad 4), .ref (ad 5), .ref (ad 6), .int (nI ((sOp σ).length)), va_rf (lo), .int (nx), .int (σ.2.2.2.2.2.2.1), .int (σ.2.2.2.2.2.2.2), .ref (ad 12), .int (nI ((sTr σ).length)), .int (σ.2.2.2.2.1)])), (ad 1, .inl (cy 3, 9, .inr (.inr (.inr (.inr (fun i => some (sa (3 * i)))))))), (ad 2, .inl (cy 3, 9, .inr (.inr (.inr (.inr (fun i => some (sa (3 * (9 + i))))))))), (ad 5, .inl (cy 4, 8, .inr (.inr (.inr (.inr (fun i => some (ta (2 * i)))))))), (ad 6, .inl (cy 2, 40, .inr (.inr (.inr (.inr (pg)))))), (ad 12, .inl (cy 0, 16, .inl (bo)))] ++ (xs ++ (tb ++ op)))) okB_X1_ownKind wd_629 (⟨_, List.mem_append_right _ (List.mem_append_right _ (List.mem_append_right _ hmj))⟩) rfl wd_628 wd_624 (gw_dec.abs (by decide +kernel)) ⟨by decide, by decide⟩ rfl wd_622 rfl rfl dX11_kind_16 (by decide) (by decide) (Nat.le_of_ble_eq_true rfl) (fun r16 w16 hp16 => ?_)
      obtain ⟨rfl, rfl⟩ := hp16
      refine gw_W.norm (st' := [.int (nI (4))]) (k1 := 0) (k2 := 0) rfl rfl rfl ?_
      refine gw_W.wd (w' := ([(ad 0, .inr (9, [.int (nI (σ.1)), .ref (ad 1), .ref (ad 2), .ref (sa (3 * 0)), .ref (ad 4), .ref (ad 5), .ref (ad 6), .int (nI ((sOp σ).length)), va_rf (lo), .int (nx), .int (σ.2.2.2.2.2.2.1), .int (σ.2.2.2.2.2.2.2), .ref (ad 12), .int (nI ((sTr σ).length)), .int (σ.2.2.2.2.1)])), (ad 1, .inl (cy 3, 9, .inr (.inr (.inr (.inr (fun i => some (sa (3 * i)))))))), (ad 2, .inl (cy 3, 9, .inr (.inr (.inr (.inr (fun i => some (sa (3 * (9 + i))))))))), (ad 5, .inl (cy 4, 8, .inr (.inr (.inr (.inr (fun i => some (ta (2 * i)))))))), (ad 6, .inl (cy 2, 40, .inr (.inr (.inr (.inr (pg)))))), (ad 12, .inl (cy 0, 16, .inl (bo)))] ++ (xs ++ (tb ++ op)))) rfl ?_
      refine gw_W.wd (w' := bW cy ad sa ta (σ.1) ((sOp σ).length) ((sTr σ).length) nx (σ.2.2.2.2.2.2.1) (σ.2.2.2.2.2.2.2) (σ.2.2.2.2.1) lo pg bo ++ (xs ++ (tb ++ op))) rfl ?_
      refine gw_iret (?_) (by decide) (by decide) rfl dX11_kind_19
      subst hpost
      unfold spKind
      first
        | (rw [if_neg (show ¬ isO σ k = true from h2)]; exact ⟨rfl, ad, sa, ta, oa, nx, lo, pg, bo, cs, xs, tb, op, td, rfl, List.Perm.refl _, hxs, hcs, htb, hop, hN, hbo⟩)
        | (rw [if_pos (show isO σ k = true from h2), show (opA σ k).1 = _ from hk]; exact ⟨rfl, ad, sa, ta, oa, nx, lo, pg, bo, cs, xs, tb, op, td, rfl, List.Perm.refl _, hxs, hcs, htb, hop, hN, hbo⟩)
    · rw [opCe, if_neg (by omega), if_neg (by omega), if_neg (by omega), if_pos hk] at hmj
      refine gw_callD (As := []) (st := []) (ci := 5) (x := ⟨"SpinBench$Op", "ownKind", "()I"⟩) (owner := "SpinBench$Op") (c_own_5 l cy (oa (tI (k))) ([(ad 0, .inr (9, [.int (nI (σ.1)), .ref (ad 1), .ref (ad 2), .ref (sa (3 * 0)), .ref (ad 4), .ref (ad 5), .ref (ad 6), .int (nI ((sOp σ).length)), va_rf (lo), .int (nx), .int (σ.2.2.2.2.2.2.1), .int (σ.2.2.2.2.2.2.2), .ref (ad 12), .int (nI ((sTr σ).length)), .int (σ.2.2.2.2.1)])), (ad 1, .inl (cy 3, 9, .inr (.inr (.inr (.inr (fun i => some (sa (3 * i)))))))), (ad 2, .inl (cy 3, 9, .inr (.inr (.inr (.inr (fun i => some (sa (3 * (9 + i))))))))), (ad 5, .inl (cy 4, 8, .inr (.inr (.inr (.inr (fun i => some (ta (2 * i)))))))), (ad 6, .inl (cy 2, 40, .inr (.inr (.inr (.inr (pg)))))), (ad 12, .inl (cy 0, 16, .inl (bo)))] ++ (xs ++ (tb ++ op)))) okB_X7_ownKind wd_638 (⟨_, List.mem_append_right _ (List.mem_append_right _ (List.mem_append_right _ hmj))⟩) rfl wd_637 wd_624 (gw_dec.abs (by decide +kernel)) ⟨by decide, by decide⟩ rfl wd_622 rfl rfl dX11_kind_16 (by decide) (by decide) (Nat.le_of_ble_eq_true rfl) (fun r16 w16 hp16 => ?_)
      obtain ⟨rfl, rfl⟩ := hp16
      refine gw_W.norm (st' := [.int (nI (5))]) (k1 := 0) (k2 := 0) rfl rfl rfl ?_
      refine gw_W.wd (w' := ([(ad 0, .inr (9, [.int (nI (σ.1)), .ref (ad 1), .ref (ad 2), .ref (sa (3 * 0)), .ref (ad 4), .ref (ad 5), .ref (ad 6), .int (nI ((sOp σ).length)), va_rf (lo), .int (nx), .int (σ.2.2.2.2.2.2.1), .int (σ.2.2.2.2.2.2.2), .ref (ad 12), .int (nI ((sTr σ).length)), .int (σ.2.2.2.2.1)])), (ad 1, .inl (cy 3, 9, .inr (.inr (.inr (.inr (fun i => some (sa (3 * i)))))))), (ad 2, .inl (cy 3, 9, .inr (.inr (.inr (.inr (fun i => some (sa (3 * (9 + i))))))))), (ad 5, .inl (cy 4, 8, .inr (.inr (.inr (.inr (fun i => some (ta (2 * i)))))))), (ad 6, .inl (cy 2, 40, .inr (.inr (.inr (.inr (pg)))))), (ad 12, .inl (cy 0, 16, .inl (bo)))] ++ (xs ++ (tb ++ op)))) rfl ?_
      refine gw_W.wd (w' := bW cy ad sa ta (σ.1) ((sOp σ).length) ((sTr σ).length) nx (σ.2.2.2.2.2.2.1) (σ.2.2.2.2.2.2.2) (σ.2.2.2.2.1) lo pg bo ++ (xs ++ (tb ++ op))) rfl ?_
      refine gw_iret (?_) (by decide) (by decide) rfl dX11_kind_19
      subst hpost
      unfold spKind
      first
        | (rw [if_neg (show ¬ isO σ k = true from h2)]; exact ⟨rfl, ad, sa, ta, oa, nx, lo, pg, bo, cs, xs, tb, op, td, rfl, List.Perm.refl _, hxs, hcs, htb, hop, hN, hbo⟩)
        | (rw [if_pos (show isO σ k = true from h2), show (opA σ k).1 = _ from hk]; exact ⟨rfl, ad, sa, ta, oa, nx, lo, pg, bo, cs, xs, tb, op, td, rfl, List.Perm.refl _, hxs, hcs, htb, hop, hN, hbo⟩)
    · rw [opCe, if_neg (by omega), if_neg (by omega), if_neg (by omega), if_neg (by omega), if_pos hk] at hmj
      refine gw_callD (As := []) (st := []) (ci := 2) (x := ⟨"SpinBench$Op", "ownKind", "()I"⟩) (owner := "SpinBench$Op") (c_own_2 l cy (oa (tI (k))) ([(ad 0, .inr (9, [.int (nI (σ.1)), .ref (ad 1), .ref (ad 2), .ref (sa (3 * 0)), .ref (ad 4), .ref (ad 5), .ref (ad 6), .int (nI ((sOp σ).length)), va_rf (lo), .int (nx), .int (σ.2.2.2.2.2.2.1), .int (σ.2.2.2.2.2.2.2), .ref (ad 12), .int (nI ((sTr σ).length)), .int (σ.2.2.2.2.1)])), (ad 1, .inl (cy 3, 9, .inr (.inr (.inr (.inr (fun i => some (sa (3 * i)))))))), (ad 2, .inl (cy 3, 9, .inr (.inr (.inr (.inr (fun i => some (sa (3 * (9 + i))))))))), (ad 5, .inl (cy 4, 8, .inr (.inr (.inr (.inr (fun i => some (ta (2 * i)))))))), (ad 6, .inl (cy 2, 40, .inr (.inr (.inr (.inr (pg)))))), (ad 12, .inl (cy 0, 16, .inl (bo)))] ++ (xs ++ (tb ++ op)))) okB_X2_ownKind wd_632 (⟨_, List.mem_append_right _ (List.mem_append_right _ (List.mem_append_right _ hmj))⟩) rfl wd_631 wd_624 (gw_dec.abs (by decide +kernel)) ⟨by decide, by decide⟩ rfl wd_622 rfl rfl dX11_kind_16 (by decide) (by decide) (Nat.le_of_ble_eq_true rfl) (fun r16 w16 hp16 => ?_)
      obtain ⟨rfl, rfl⟩ := hp16
      refine gw_W.norm (st' := [.int (nI (6))]) (k1 := 0) (k2 := 0) rfl rfl rfl ?_
      refine gw_W.wd (w' := ([(ad 0, .inr (9, [.int (nI (σ.1)), .ref (ad 1), .ref (ad 2), .ref (sa (3 * 0)), .ref (ad 4), .ref (ad 5), .ref (ad 6), .int (nI ((sOp σ).length)), va_rf (lo), .int (nx), .int (σ.2.2.2.2.2.2.1), .int (σ.2.2.2.2.2.2.2), .ref (ad 12), .int (nI ((sTr σ).length)), .int (σ.2.2.2.2.1)])), (ad 1, .inl (cy 3, 9, .inr (.inr (.inr (.inr (fun i => some (sa (3 * i)))))))), (ad 2, .inl (cy 3, 9, .inr (.inr (.inr (.inr (fun i => some (sa (3 * (9 + i))))))))), (ad 5, .inl (cy 4, 8, .inr (.inr (.inr (.inr (fun i => some (ta (2 * i)))))))), (ad 6, .inl (cy 2, 40, .inr (.inr (.inr (.inr (pg)))))), (ad 12, .inl (cy 0, 16, .inl (bo)))] ++ (xs ++ (tb ++ op)))) rfl ?_
      refine gw_W.wd (w' := bW cy ad sa ta (σ.1) ((sOp σ).length) ((sTr σ).length) nx (σ.2.2.2.2.2.2.1) (σ.2.2.2.2.2.2.2) (σ.2.2.2.2.1) lo pg bo ++ (xs ++ (tb ++ op))) rfl ?_
      refine gw_iret (?_) (by decide) (by decide) rfl dX11_kind_19
      subst hpost
      unfold spKind
      first
        | (rw [if_neg (show ¬ isO σ k = true from h2)]; exact ⟨rfl, ad, sa, ta, oa, nx, lo, pg, bo, cs, xs, tb, op, td, rfl, List.Perm.refl _, hxs, hcs, htb, hop, hN, hbo⟩)
        | (rw [if_pos (show isO σ k = true from h2), show (opA σ k).1 = _ from hk]; exact ⟨rfl, ad, sa, ta, oa, nx, lo, pg, bo, cs, xs, tb, op, td, rfl, List.Perm.refl _, hxs, hcs, htb, hop, hN, hbo⟩)
    · rw [opCe, if_neg (by omega), if_neg (by omega), if_neg (by omega), if_neg (by omega), if_neg (by omega)] at hmj
      refine gw_callD (As := []) (st := []) (ci := 6) (x := ⟨"SpinBench$Op", "ownKind", "()I"⟩) (owner := "SpinBench$Op") (c_own_6 l cy (oa (tI (k))) ([(ad 0, .inr (9, [.int (nI (σ.1)), .ref (ad 1), .ref (ad 2), .ref (sa (3 * 0)), .ref (ad 4), .ref (ad 5), .ref (ad 6), .int (nI ((sOp σ).length)), va_rf (lo), .int (nx), .int (σ.2.2.2.2.2.2.1), .int (σ.2.2.2.2.2.2.2), .ref (ad 12), .int (nI ((sTr σ).length)), .int (σ.2.2.2.2.1)])), (ad 1, .inl (cy 3, 9, .inr (.inr (.inr (.inr (fun i => some (sa (3 * i)))))))), (ad 2, .inl (cy 3, 9, .inr (.inr (.inr (.inr (fun i => some (sa (3 * (9 + i))))))))), (ad 5, .inl (cy 4, 8, .inr (.inr (.inr (.inr (fun i => some (ta (2 * i)))))))), (ad 6, .inl (cy 2, 40, .inr (.inr (.inr (.inr (pg)))))), (ad 12, .inl (cy 0, 16, .inl (bo)))] ++ (xs ++ (tb ++ op)))) okB_X8_ownKind wd_641 (⟨_, List.mem_append_right _ (List.mem_append_right _ (List.mem_append_right _ hmj))⟩) rfl wd_640 wd_624 (gw_dec.abs (by decide +kernel)) ⟨by decide, by decide⟩ rfl wd_622 rfl rfl dX11_kind_16 (by decide) (by decide) (Nat.le_of_ble_eq_true rfl) (fun r16 w16 hp16 => ?_)
      obtain ⟨rfl, rfl⟩ := hp16
      refine gw_W.norm (st' := [.int (nI (7))]) (k1 := 0) (k2 := 0) rfl rfl rfl ?_
      refine gw_W.wd (w' := ([(ad 0, .inr (9, [.int (nI (σ.1)), .ref (ad 1), .ref (ad 2), .ref (sa (3 * 0)), .ref (ad 4), .ref (ad 5), .ref (ad 6), .int (nI ((sOp σ).length)), va_rf (lo), .int (nx), .int (σ.2.2.2.2.2.2.1), .int (σ.2.2.2.2.2.2.2), .ref (ad 12), .int (nI ((sTr σ).length)), .int (σ.2.2.2.2.1)])), (ad 1, .inl (cy 3, 9, .inr (.inr (.inr (.inr (fun i => some (sa (3 * i)))))))), (ad 2, .inl (cy 3, 9, .inr (.inr (.inr (.inr (fun i => some (sa (3 * (9 + i))))))))), (ad 5, .inl (cy 4, 8, .inr (.inr (.inr (.inr (fun i => some (ta (2 * i)))))))), (ad 6, .inl (cy 2, 40, .inr (.inr (.inr (.inr (pg)))))), (ad 12, .inl (cy 0, 16, .inl (bo)))] ++ (xs ++ (tb ++ op)))) rfl ?_
      refine gw_W.wd (w' := bW cy ad sa ta (σ.1) ((sOp σ).length) ((sTr σ).length) nx (σ.2.2.2.2.2.2.1) (σ.2.2.2.2.2.2.2) (σ.2.2.2.2.1) lo pg bo ++ (xs ++ (tb ++ op))) rfl ?_
      refine gw_iret (?_) (by decide) (by decide) rfl dX11_kind_19
      subst hpost
      unfold spKind
      first
        | (rw [if_neg (show ¬ isO σ k = true from h2)]; exact ⟨rfl, ad, sa, ta, oa, nx, lo, pg, bo, cs, xs, tb, op, td, rfl, List.Perm.refl _, hxs, hcs, htb, hop, hN, hbo⟩)
        | (rw [if_pos (show isO σ k = true from h2), show (opA σ k).1 = _ from hk]; exact ⟨rfl, ad, sa, ta, oa, nx, lo, pg, bo, cs, xs, tb, op, td, rfl, List.Perm.refl _, hxs, hcs, htb, hop, hN, hbo⟩)
  · rw [if_neg h2]
    refine gw_W.norm (st' := [.null]) (k1 := 0) (k2 := 0) rfl rfl rfl ?_
    refine gw_W.wd (w' := ([(ad 0, .inr (9, [.int (nI (σ.1)), .ref (ad 1), .ref (ad 2), .ref (sa (3 * 0)), .ref (ad 4), .ref (ad 5), .ref (ad 6), .int (nI ((sOp σ).length)), va_rf (lo), .int (nx), .int (σ.2.2.2.2.2.2.1), .int (σ.2.2.2.2.2.2.2), .ref (ad 12), .int (nI ((sTr σ).length)), .int (σ.2.2.2.2.1)])), (ad 1, .inl (cy 3, 9, .inr (.inr (.inr (.inr (fun i => some (sa (3 * i)))))))), (ad 2, .inl (cy 3, 9, .inr (.inr (.inr (.inr (fun i => some (sa (3 * (9 + i))))))))), (ad 5, .inl (cy 4, 8, .inr (.inr (.inr (.inr (fun i => some (ta (2 * i)))))))), (ad 6, .inl (cy 2, 40, .inr (.inr (.inr (.inr (pg)))))), (ad 12, .inl (cy 0, 16, .inl (bo)))] ++ (xs ++ (tb ++ op)))) rfl ?_
    refine gw_astore_nN dX11_kind_5 (by decide) rfl ?_
    refine gw_aload_nN dX11_kind_6 rfl ?_
    refine gw_ifnonnullN dX11_kind_7 ?_
    refine gw_ldc dX11_kind_10 wd_233 ?_
    refine gw_goto (tgt := 19) dX11_kind_12 (by decide) ?_
    refine gw_W.wd (w' := bW cy ad sa ta (σ.1) ((sOp σ).length) ((sTr σ).length) nx (σ.2.2.2.2.2.2.1) (σ.2.2.2.2.2.2.2) (σ.2.2.2.2.1) lo pg bo ++ (xs ++ (tb ++ op))) rfl ?_
    refine gw_iret (?_) (by decide) (by decide) rfl dX11_kind_19
    subst hpost
    unfold spKind
    first
      | (rw [if_neg (show ¬ isO σ k = true from h2)]; exact ⟨rfl, ad, sa, ta, oa, nx, lo, pg, bo, cs, xs, tb, op, td, rfl, List.Perm.refl _, hxs, hcs, htb, hop, hN, hbo⟩)
      | (rw [if_pos (show isO σ k = true from h2), show (opA σ k).1 = _ from hk]; exact ⟨rfl, ad, sa, ta, oa, nx, lo, pg, bo, cs, xs, tb, op, td, rfl, List.Perm.refl _, hxs, hcs, htb, hop, hN, hbo⟩)
abbrev kX11_spins : gw_K := (yX11_spins, cX11_spins, 4, { frames := 2, cells := 0, slots := 0, locals := 43 }, (some .int))
theorem ok_X11_spins : gw_calV kX11_spins 1 := ⟨⟨wd_667, wd_57, by decide, by decide, by decide +kernel⟩, wd_665, wd_666⟩
set_option maxHeartbeats 4000000 in
set_option maxRecDepth 100000 in
theorem t_cgspins (l : Launch) (cy : Nat → ClassId) (b : Nat) (σ : aS) (w : va_W) (hI : cInv cy b σ w) (k : Int32) : gw_M l kX11_spins cy [.ref (b), .int (k)] (w) (cPost cy b (spSpins σ k)) := by
  obtain ⟨ad, sa, ta, oa, nx, lo, pg, bo, cs, xs, tb, op, td, rfl, hw, hxs, hcs, htb, hop, hN, hbo⟩ := hI
  have hn4 : 1 ≤ σ.1 ∧ σ.1 ≤ 4 := ⟨hN.1, hN.2.1⟩
  refine gw_M.pm hw ?_
  obtain ⟨oc, hoc⟩ := hN.2.2.2.2.1
  have l40 : (sOp σ).length ≤ 40 := hN.2.2.2.1
  refine gw_M.mk (lv := [some (.ref (ad 0)), some (.int (k)), none, none]) (by decide) (Nat.le_of_ble_eq_true rfl) rfl ?_
  generalize hpost : (cPost cy (ad 0) (spSpins σ k) : gw_Q) = post
  refine gw_W.wd (w' := ([(ad 0, .inr (9, [.int (nI (σ.1)), .ref (ad 1), .ref (ad 2), .ref (sa (3 * 0)), .ref (ad 4), .ref (ad 5), .ref (ad 6), .int (nI ((sOp σ).length)), va_rf (lo), .int (nx), .int (σ.2.2.2.2.2.2.1), .int (σ.2.2.2.2.2.2.2), .ref (ad 12), .int (nI ((sTr σ).length)), .int (σ.2.2.2.2.1)])), (ad 1, .inl (cy 3, 9, .inr (.inr (.inr (.inr (fun i => some (sa (3 * i)))))))), (ad 2, .inl (cy 3, 9, .inr (.inr (.inr (.inr (fun i => some (sa (3 * (9 + i))))))))), (ad 5, .inl (cy 4, 8, .inr (.inr (.inr (.inr (fun i => some (ta (2 * i)))))))), (ad 6, .inl (cy 2, 40, .inr (.inr (.inr (.inr (pg)))))), (ad 12, .inl (cy 0, 16, .inl (bo)))] ++ (xs ++ (tb ++ op)))) rfl ?_
  refine gw_aload_n dX11_spins_0 rfl ?_
  refine gw_iload_n dX11_spins_1 rfl ?_
  refine gw_W.wd (w' := bW cy ad sa ta (σ.1) ((sOp σ).length) ((sTr σ).length) nx (σ.2.2.2.2.2.2.1) (σ.2.2.2.2.2.2.2) (σ.2.2.2.2.1) lo pg bo ++ (xs ++ (tb ++ op))) rfl ?_
  refine gw_callV 0 (As := [.int (k)]) (st := []) (c_bopAt l cy ad sa ta (σ.1) ((sOp σ).length) ((sTr σ).length) nx (σ.2.2.2.2.2.2.1) (σ.2.2.2.2.2.2.2) (σ.2.2.2.2.1) lo pg bo (xs ++ (tb ++ op)) (k) l40) ok_X11_opAt rfl rfl rfl wd_614 rfl rfl dX11_spins_2 (by decide) (by decide) (Nat.le_of_ble_eq_true rfl) (fun r2 w2 hp2 => ?_)
  obtain ⟨rfl, rfl⟩ := hp2
  by_cases h2 : inZ (k).toInt 0 (((sOp σ).length : Int) - 1) = true
  · have j9 : tI (k) < (sOp σ).length := by rw [inZ_t] at h2; unfold tI; omega
    rw [if_pos h2, hop.2.2 _ j9]
    have hmj := opP_mem hop j9
    have hko := op_k8 (hN.2.2.2.2.2 _ (opJ_mem j9))
    refine gw_W.norm (st' := [.ref (oa (tI (k)))]) (k1 := 0) (k2 := 0) rfl rfl rfl ?_
    refine gw_W.wd (w' := ([(ad 0, .inr (9, [.int (nI (σ.1)), .ref (ad 1), .ref (ad 2), .ref (sa (3 * 0)), .ref (ad 4), .ref (ad 5), .ref (ad 6), .int (nI ((sOp σ).length)), va_rf (lo), .int (nx), .int (σ.2.2.2.2.2.2.1), .int (σ.2.2.2.2.2.2.2), .ref (ad 12), .int (nI ((sTr σ).length)), .int (σ.2.2.2.2.1)])), (ad 1, .inl (cy 3, 9, .inr (.inr (.inr (.inr (fun i => some (sa (3 * i)))))))), (ad 2, .inl (cy 3, 9, .inr (.inr (.inr (.inr (fun i => some (sa (3 * (9 + i))))))))), (ad 5, .inl (cy 4, 8, .inr (.inr (.inr (.inr (fun i => some (ta (2 * i)))))))), (ad 6, .inl (cy 2, 40, .inr (.inr (.inr (.inr (pg)))))), (ad 12, .inl (cy 0, 16, .inl (bo)))] ++ (xs ++ (tb ++ op)))) rfl ?_
    refine gw_astore_n dX11_spins_5 (by decide) rfl ?_
    refine gw_aload_n dX11_spins_6 rfl ?_
    refine gw_ifnonnull (tgt := 13) dX11_spins_7 (by decide) ?_
    refine gw_aload_n dX11_spins_13 rfl ?_
    rcases (show (opJ (sOp σ) (tI (k))).1 = 2 ∨ (opJ (sOp σ) (tI (k))).1 = 3 ∨ (opJ (sOp σ) (tI (k))).1 = 4 ∨ (opJ (sOp σ) (tI (k))).1 = 5 ∨ (opJ (sOp σ) (tI (k))).1 = 6 ∨ (opJ (sOp σ) (tI (k))).1 = 7 by omega) with hk | hk | hk | hk | hk | hk
    · rw [opCe, if_pos hk] at hmj
      refine gw_instY (ci := 4) ⟨_, List.mem_append_right _ (List.mem_append_right _ (List.mem_append_right _ hmj))⟩ rfl wd_465 (Or.inl rfl) dX11_spins_14 ?_
      refine gw_W.rst (st' := [.int (nI (1))]) rfl ?_
      refine gw_ifN_eq (tgt := 34) dX11_spins_17 (by decide) (by omega) (fun h => absurd h (by decide)) (fun _ => ?_)
      refine gw_aload_n dX11_spins_20 rfl ?_
      refine gw_castY (ci := 4) ⟨_, List.mem_append_right _ (List.mem_append_right _ (List.mem_append_right _ hmj))⟩ rfl wd_465 (Or.inl rfl) dX11_spins_21 ?_
      refine gw_astore_n dX11_spins_24 (by decide) rfl ?_
      refine gw_aload_n dX11_spins_25 rfl ?_
      refine gw_aload_n dX11_spins_26 rfl ?_
      refine gw_getM (C0 := RX6) (T := TX6) (N := 5) (ref := RX6) (List.mem_append_right _ (List.mem_append_right _ (List.mem_append_right _ hmj))) rfl inX6 2 (by decide) wd_478 (Or.inl rfl) rfl dX11_spins_27 ?_
      refine gw_W.wd (w' := bW cy ad sa ta (σ.1) ((sOp σ).length) ((sTr σ).length) nx (σ.2.2.2.2.2.2.1) (σ.2.2.2.2.2.2.2) (σ.2.2.2.2.1) lo pg bo ++ (xs ++ (tb ++ op))) rfl ?_
      refine gw_callV 0 (As := [.int ((opJ (sOp σ) (tI (k))).2.1)]) (st := []) (c_bnotFound l cy ad sa ta (σ.1) ((sOp σ).length) ((sTr σ).length) nx (σ.2.2.2.2.2.2.1) (σ.2.2.2.2.2.2.2) (σ.2.2.2.2.1) lo pg bo (xs ++ (tb ++ op)) ((opJ (sOp σ) (tI (k))).2.1)) ok_X11_notFound rfl rfl rfl wd_246 rfl rfl dX11_spins_30 (by decide) (by decide) (Nat.le_of_ble_eq_true rfl) (fun r30 w30 hp30 => ?_)
      obtain ⟨rfl, rfl⟩ := hp30
      refine gw_W.norm (st' := [.int ((opJ (sOp σ) (tI (k))).2.1)]) (k1 := 0) (k2 := 0) rfl rfl rfl ?_
      refine gw_W.wd (w' := ([(ad 0, .inr (9, [.int (nI (σ.1)), .ref (ad 1), .ref (ad 2), .ref (sa (3 * 0)), .ref (ad 4), .ref (ad 5), .ref (ad 6), .int (nI ((sOp σ).length)), va_rf (lo), .int (nx), .int (σ.2.2.2.2.2.2.1), .int (σ.2.2.2.2.2.2.2), .ref (ad 12), .int (nI ((sTr σ).length)), .int (0)])), (ad 1, .inl (cy 3, 9, .inr (.inr (.inr (.inr (fun i => some (sa (3 * i)))))))), (ad 2, .inl (cy 3, 9, .inr (.inr (.inr (.inr (fun i => some (sa (3 * (9 + i))))))))), (ad 5, .inl (cy 4, 8, .inr (.inr (.inr (.inr (fun i => some (ta (2 * i)))))))), (ad 6, .inl (cy 2, 40, .inr (.inr (.inr (.inr (pg)))))), (ad 12, .inl (cy 0, 16, .inl (bo)))] ++ (xs ++ (tb ++ op)))) rfl ?_
      refine gw_W.wd (w' := bW cy ad sa ta (σ.1) ((sOp σ).length) ((sTr σ).length) nx (σ.2.2.2.2.2.2.1) (σ.2.2.2.2.2.2.2) 0 lo pg bo ++ (xs ++ (tb ++ op))) rfl ?_
      refine gw_iret (?_) (by decide) (by decide) rfl dX11_spins_33
      subst hpost
      unfold spSpins
      rw [if_pos (show isO σ k = true from h2), if_pos (show (opA σ k).1 = 2 ∨ (opA σ k).1 = 3 from by first | exact Or.inl hk | exact Or.inr hk)]
      exact ⟨rfl, ad, sa, ta, oa, nx, lo, pg, bo, cs, xs, tb, op, td, rfl, List.Perm.refl _, hxs, hcs, htb, hop, hN, hbo⟩
    · rw [opCe, if_neg (by omega), if_pos hk] at hmj
      refine gw_instY (ci := 0) ⟨_, List.mem_append_right _ (List.mem_append_right _ (List.mem_append_right _ hmj))⟩ rfl wd_465 (Or.inr (by decide +kernel)) dX11_spins_14 ?_
      refine gw_W.rst (st' := [.int (nI (1))]) rfl ?_
      refine gw_ifN_eq (tgt := 34) dX11_spins_17 (by decide) (by omega) (fun h => absurd h (by decide)) (fun _ => ?_)
      refine gw_aload_n dX11_spins_20 rfl ?_
      refine gw_castY (ci := 0) ⟨_, List.mem_append_right _ (List.mem_append_right _ (List.mem_append_right _ hmj))⟩ rfl wd_465 (Or.inr (by decide +kernel)) dX11_spins_21 ?_
      refine gw_astore_n dX11_spins_24 (by decide) rfl ?_
      refine gw_aload_n dX11_spins_25 rfl ?_
      refine gw_aload_n dX11_spins_26 rfl ?_
      refine gw_getM (C0 := RX0) (T := TX0) (N := 6) (ref := RX6) (List.mem_append_right _ (List.mem_append_right _ (List.mem_append_right _ hmj))) rfl inX0 0 (by decide) wd_478 (Or.inl rfl) rfl dX11_spins_27 ?_
      refine gw_W.wd (w' := bW cy ad sa ta (σ.1) ((sOp σ).length) ((sTr σ).length) nx (σ.2.2.2.2.2.2.1) (σ.2.2.2.2.2.2.2) (σ.2.2.2.2.1) lo pg bo ++ (xs ++ (tb ++ op))) rfl ?_
      refine gw_callV 0 (As := [.int ((opJ (sOp σ) (tI (k))).2.1)]) (st := []) (c_bnotFound l cy ad sa ta (σ.1) ((sOp σ).length) ((sTr σ).length) nx (σ.2.2.2.2.2.2.1) (σ.2.2.2.2.2.2.2) (σ.2.2.2.2.1) lo pg bo (xs ++ (tb ++ op)) ((opJ (sOp σ) (tI (k))).2.1)) ok_X11_notFound rfl rfl rfl wd_246 rfl rfl dX11_spins_30 (by decide) (by decide) (Nat.le_of_ble_eq_true rfl) (fun r30 w30 hp30 => ?_)
      obtain ⟨rfl, rfl⟩ := hp30
      refine gw_W.norm (st' := [.int ((opJ (sOp σ) (tI (k))).2.1)]) (k1 := 0) (k2 := 0) rfl rfl rfl ?_
      refine gw_W.wd (w' := ([(ad 0, .inr (9, [.int (nI (σ.1)), .ref (ad 1), .ref (ad 2), .ref (sa (3 * 0)), .ref (ad 4), .ref (ad 5), .ref (ad 6), .int (nI ((sOp σ).length)), va_rf (lo), .int (nx), .int (σ.2.2.2.2.2.2.1), .int (σ.2.2.2.2.2.2.2), .ref (ad 12), .int (nI ((sTr σ).length)), .int (0)])), (ad 1, .inl (cy 3, 9, .inr (.inr (.inr (.inr (fun i => some (sa (3 * i)))))))), (ad 2, .inl (cy 3, 9, .inr (.inr (.inr (.inr (fun i => some (sa (3 * (9 + i))))))))), (ad 5, .inl (cy 4, 8, .inr (.inr (.inr (.inr (fun i => some (ta (2 * i)))))))), (ad 6, .inl (cy 2, 40, .inr (.inr (.inr (.inr (pg)))))), (ad 12, .inl (cy 0, 16, .inl (bo)))] ++ (xs ++ (tb ++ op)))) rfl ?_
      refine gw_W.wd (w' := bW cy ad sa ta (σ.1) ((sOp σ).length) ((sTr σ).length) nx (σ.2.2.2.2.2.2.1) (σ.2.2.2.2.2.2.2) 0 lo pg bo ++ (xs ++ (tb ++ op))) rfl ?_
      refine gw_iret (?_) (by decide) (by decide) rfl dX11_spins_33
      subst hpost
      unfold spSpins
      rw [if_pos (show isO σ k = true from h2), if_pos (show (opA σ k).1 = 2 ∨ (opA σ k).1 = 3 from by first | exact Or.inl hk | exact Or.inr hk)]
      exact ⟨rfl, ad, sa, ta, oa, nx, lo, pg, bo, cs, xs, tb, op, td, rfl, List.Perm.refl _, hxs, hcs, htb, hop, hN, hbo⟩
    · rw [opCe, if_neg (by omega), if_neg (by omega), if_pos hk] at hmj
      refine gw_instN (ci := 1) ⟨_, List.mem_append_right _ (List.mem_append_right _ (List.mem_append_right _ hmj))⟩ rfl wd_465 (fun U hU => hU.2.2.1) dX11_spins_14 ?_
      refine gw_W.rst (st' := [.int (nI (0))]) rfl ?_
      refine gw_ifN_eq (tgt := 34) dX11_spins_17 (by decide) (by omega) (fun _ => ?_) (fun h => absurd h (by decide))
      refine gw_aload_n dX11_spins_34 rfl ?_
      refine gw_iconst (v := nI (3)) dX11_spins_35 (by decide) ?_
      refine gw_W.wd (w' := bW cy ad sa ta (σ.1) ((sOp σ).length) ((sTr σ).length) nx (σ.2.2.2.2.2.2.1) (σ.2.2.2.2.2.2.2) (σ.2.2.2.2.1) lo pg bo ++ (xs ++ (tb ++ op))) rfl ?_
      refine gw_callV 0 (As := [.int (nI (3))]) (st := []) (c_bfound l cy ad sa ta (σ.1) ((sOp σ).length) ((sTr σ).length) nx (σ.2.2.2.2.2.2.1) (σ.2.2.2.2.2.2.2) (σ.2.2.2.2.1) lo pg bo (xs ++ (tb ++ op)) (nI (3))) ok_X11_found rfl rfl rfl wd_234 rfl rfl dX11_spins_36 (by decide) (by decide) (Nat.le_of_ble_eq_true rfl) (fun r36 w36 hp36 => ?_)
      obtain ⟨rfl, rfl⟩ := hp36
      refine gw_W.norm (st' := [.int ((-1000010) - (nI (3)))]) (k1 := 0) (k2 := 0) rfl rfl rfl ?_
      refine gw_W.wd (w' := ([(ad 0, .inr (9, [.int (nI (σ.1)), .ref (ad 1), .ref (ad 2), .ref (sa (3 * 0)), .ref (ad 4), .ref (ad 5), .ref (ad 6), .int (nI ((sOp σ).length)), va_rf (lo), .int (nx), .int (σ.2.2.2.2.2.2.1), .int (σ.2.2.2.2.2.2.2), .ref (ad 12), .int (nI ((sTr σ).length)), .int (nI (3))])), (ad 1, .inl (cy 3, 9, .inr (.inr (.inr (.inr (fun i => some (sa (3 * i)))))))), (ad 2, .inl (cy 3, 9, .inr (.inr (.inr (.inr (fun i => some (sa (3 * (9 + i))))))))), (ad 5, .inl (cy 4, 8, .inr (.inr (.inr (.inr (fun i => some (ta (2 * i)))))))), (ad 6, .inl (cy 2, 40, .inr (.inr (.inr (.inr (pg)))))), (ad 12, .inl (cy 0, 16, .inl (bo)))] ++ (xs ++ (tb ++ op)))) rfl ?_
      refine gw_W.wd (w' := bW cy ad sa ta (σ.1) ((sOp σ).length) ((sTr σ).length) nx (σ.2.2.2.2.2.2.1) (σ.2.2.2.2.2.2.2) (nI (3)) lo pg bo ++ (xs ++ (tb ++ op))) rfl ?_
      refine gw_iret (?_) (by decide) (by decide) rfl dX11_spins_39
      subst hpost
      unfold spSpins
      rw [if_pos (show isO σ k = true from h2), if_neg (show ¬ ((opA σ k).1 = 2 ∨ (opA σ k).1 = 3) from by have hk2 : (opA σ k).1 = _ := hk; omega)]
      exact ⟨rfl, ad, sa, ta, oa, nx, lo, pg, bo, cs, xs, tb, op, td, rfl, List.Perm.refl _, hxs, hcs, htb, hop, hN, hbo⟩
    · rw [opCe, if_neg (by omega), if_neg (by omega), if_neg (by omega), if_pos hk] at hmj
      refine gw_instN (ci := 5) ⟨_, List.mem_append_right _ (List.mem_append_right _ (List.mem_append_right _ hmj))⟩ rfl wd_465 (fun U hU => hU.2.2.2.2.1) dX11_spins_14 ?_
      refine gw_W.rst (st' := [.int (nI (0))]) rfl ?_
      refine gw_ifN_eq (tgt := 34) dX11_spins_17 (by decide) (by omega) (fun _ => ?_) (fun h => absurd h (by decide))
      refine gw_aload_n dX11_spins_34 rfl ?_
      refine gw_iconst (v := nI (3)) dX11_spins_35 (by decide) ?_
      refine gw_W.wd (w' := bW cy ad sa ta (σ.1) ((sOp σ).length) ((sTr σ).length) nx (σ.2.2.2.2.2.2.1) (σ.2.2.2.2.2.2.2) (σ.2.2.2.2.1) lo pg bo ++ (xs ++ (tb ++ op))) rfl ?_
      refine gw_callV 0 (As := [.int (nI (3))]) (st := []) (c_bfound l cy ad sa ta (σ.1) ((sOp σ).length) ((sTr σ).length) nx (σ.2.2.2.2.2.2.1) (σ.2.2.2.2.2.2.2) (σ.2.2.2.2.1) lo pg bo (xs ++ (tb ++ op)) (nI (3))) ok_X11_found rfl rfl rfl wd_234 rfl rfl dX11_spins_36 (by decide) (by decide) (Nat.le_of_ble_eq_true rfl) (fun r36 w36 hp36 => ?_)
      obtain ⟨rfl, rfl⟩ := hp36
      refine gw_W.norm (st' := [.int ((-1000010) - (nI (3)))]) (k1 := 0) (k2 := 0) rfl rfl rfl ?_
      refine gw_W.wd (w' := ([(ad 0, .inr (9, [.int (nI (σ.1)), .ref (ad 1), .ref (ad 2), .ref (sa (3 * 0)), .ref (ad 4), .ref (ad 5), .ref (ad 6), .int (nI ((sOp σ).length)), va_rf (lo), .int (nx), .int (σ.2.2.2.2.2.2.1), .int (σ.2.2.2.2.2.2.2), .ref (ad 12), .int (nI ((sTr σ).length)), .int (nI (3))])), (ad 1, .inl (cy 3, 9, .inr (.inr (.inr (.inr (fun i => some (sa (3 * i)))))))), (ad 2, .inl (cy 3, 9, .inr (.inr (.inr (.inr (fun i => some (sa (3 * (9 + i))))))))), (ad 5, .inl (cy 4, 8, .inr (.inr (.inr (.inr (fun i => some (ta (2 * i)))))))), (ad 6, .inl (cy 2, 40, .inr (.inr (.inr (.inr (pg)))))), (ad 12, .inl (cy 0, 16, .inl (bo)))] ++ (xs ++ (tb ++ op)))) rfl ?_
      refine gw_W.wd (w' := bW cy ad sa ta (σ.1) ((sOp σ).length) ((sTr σ).length) nx (σ.2.2.2.2.2.2.1) (σ.2.2.2.2.2.2.2) (nI (3)) lo pg bo ++ (xs ++ (tb ++ op))) rfl ?_
      refine gw_iret (?_) (by decide) (by decide) rfl dX11_spins_39
      subst hpost
      unfold spSpins
      rw [if_pos (show isO σ k = true from h2), if_neg (show ¬ ((opA σ k).1 = 2 ∨ (opA σ k).1 = 3) from by have hk2 : (opA σ k).1 = _ := hk; omega)]
      exact ⟨rfl, ad, sa, ta, oa, nx, lo, pg, bo, cs, xs, tb, op, td, rfl, List.Perm.refl _, hxs, hcs, htb, hop, hN, hbo⟩
    · rw [opCe, if_neg (by omega), if_neg (by omega), if_neg (by omega), if_neg (by omega), if_pos hk] at hmj
      refine gw_instN (ci := 2) ⟨_, List.mem_append_right _ (List.mem_append_right _ (List.mem_append_right _ hmj))⟩ rfl wd_465 (fun U hU => hU.2.2.2.1) dX11_spins_14 ?_
      refine gw_W.rst (st' := [.int (nI (0))]) rfl ?_
      refine gw_ifN_eq (tgt := 34) dX11_spins_17 (by decide) (by omega) (fun _ => ?_) (fun h => absurd h (by decide))
      refine gw_aload_n dX11_spins_34 rfl ?_
      refine gw_iconst (v := nI (3)) dX11_spins_35 (by decide) ?_
      refine gw_W.wd (w' := bW cy ad sa ta (σ.1) ((sOp σ).length) ((sTr σ).length) nx (σ.2.2.2.2.2.2.1) (σ.2.2.2.2.2.2.2) (σ.2.2.2.2.1) lo pg bo ++ (xs ++ (tb ++ op))) rfl ?_
      refine gw_callV 0 (As := [.int (nI (3))]) (st := []) (c_bfound l cy ad sa ta (σ.1) ((sOp σ).length) ((sTr σ).length) nx (σ.2.2.2.2.2.2.1) (σ.2.2.2.2.2.2.2) (σ.2.2.2.2.1) lo pg bo (xs ++ (tb ++ op)) (nI (3))) ok_X11_found rfl rfl rfl wd_234 rfl rfl dX11_spins_36 (by decide) (by decide) (Nat.le_of_ble_eq_true rfl) (fun r36 w36 hp36 => ?_)
      obtain ⟨rfl, rfl⟩ := hp36
      refine gw_W.norm (st' := [.int ((-1000010) - (nI (3)))]) (k1 := 0) (k2 := 0) rfl rfl rfl ?_
      refine gw_W.wd (w' := ([(ad 0, .inr (9, [.int (nI (σ.1)), .ref (ad 1), .ref (ad 2), .ref (sa (3 * 0)), .ref (ad 4), .ref (ad 5), .ref (ad 6), .int (nI ((sOp σ).length)), va_rf (lo), .int (nx), .int (σ.2.2.2.2.2.2.1), .int (σ.2.2.2.2.2.2.2), .ref (ad 12), .int (nI ((sTr σ).length)), .int (nI (3))])), (ad 1, .inl (cy 3, 9, .inr (.inr (.inr (.inr (fun i => some (sa (3 * i)))))))), (ad 2, .inl (cy 3, 9, .inr (.inr (.inr (.inr (fun i => some (sa (3 * (9 + i))))))))), (ad 5, .inl (cy 4, 8, .inr (.inr (.inr (.inr (fun i => some (ta (2 * i)))))))), (ad 6, .inl (cy 2, 40, .inr (.inr (.inr (.inr (pg)))))), (ad 12, .inl (cy 0, 16, .inl (bo)))] ++ (xs ++ (tb ++ op)))) rfl ?_
      refine gw_W.wd (w' := bW cy ad sa ta (σ.1) ((sOp σ).length) ((sTr σ).length) nx (σ.2.2.2.2.2.2.1) (σ.2.2.2.2.2.2.2) (nI (3)) lo pg bo ++ (xs ++ (tb ++ op))) rfl ?_
      refine gw_iret (?_) (by decide) (by decide) rfl dX11_spins_39
      subst hpost
      unfold spSpins
      rw [if_pos (show isO σ k = true from h2), if_neg (show ¬ ((opA σ k).1 = 2 ∨ (opA σ k).1 = 3) from by have hk2 : (opA σ k).1 = _ := hk; omega)]
      exact ⟨rfl, ad, sa, ta, oa, nx, lo, pg, bo, cs, xs, tb, op, td, rfl, List.Perm.refl _, hxs, hcs, htb, hop, hN, hbo⟩
    · rw [opCe, if_neg (by omega), if_neg (by omega), if_neg (by omega), if_neg (by omega), if_neg (by omega)] at hmj
      refine gw_instN (ci := 6) ⟨_, List.mem_append_right _ (List.mem_append_right _ (List.mem_append_right _ hmj))⟩ rfl wd_465 (fun U hU => hU.2.2.2.2.2) dX11_spins_14 ?_
      refine gw_W.rst (st' := [.int (nI (0))]) rfl ?_
      refine gw_ifN_eq (tgt := 34) dX11_spins_17 (by decide) (by omega) (fun _ => ?_) (fun h => absurd h (by decide))
      refine gw_aload_n dX11_spins_34 rfl ?_
      refine gw_iconst (v := nI (3)) dX11_spins_35 (by decide) ?_
      refine gw_W.wd (w' := bW cy ad sa ta (σ.1) ((sOp σ).length) ((sTr σ).length) nx (σ.2.2.2.2.2.2.1) (σ.2.2.2.2.2.2.2) (σ.2.2.2.2.1) lo pg bo ++ (xs ++ (tb ++ op))) rfl ?_
      refine gw_callV 0 (As := [.int (nI (3))]) (st := []) (c_bfound l cy ad sa ta (σ.1) ((sOp σ).length) ((sTr σ).length) nx (σ.2.2.2.2.2.2.1) (σ.2.2.2.2.2.2.2) (σ.2.2.2.2.1) lo pg bo (xs ++ (tb ++ op)) (nI (3))) ok_X11_found rfl rfl rfl wd_234 rfl rfl dX11_spins_36 (by decide) (by decide) (Nat.le_of_ble_eq_true rfl) (fun r36 w36 hp36 => ?_)
      obtain ⟨rfl, rfl⟩ := hp36
      refine gw_W.norm (st' := [.int ((-1000010) - (nI (3)))]) (k1 := 0) (k2 := 0) rfl rfl rfl ?_
      refine gw_W.wd (w' := ([(ad 0, .inr (9, [.int (nI (σ.1)), .ref (ad 1), .ref (ad 2), .ref (sa (3 * 0)), .ref (ad 4), .ref (ad 5), .ref (ad 6), .int (nI ((sOp σ).length)), va_rf (lo), .int (nx), .int (σ.2.2.2.2.2.2.1), .int (σ.2.2.2.2.2.2.2), .ref (ad 12), .int (nI ((sTr σ).length)), .int (nI (3))])), (ad 1, .inl (cy 3, 9, .inr (.inr (.inr (.inr (fun i => some (sa (3 * i)))))))), (ad 2, .inl (cy 3, 9, .inr (.inr (.inr (.inr (fun i => some (sa (3 * (9 + i))))))))), (ad 5, .inl (cy 4, 8, .inr (.inr (.inr (.inr (fun i => some (ta (2 * i)))))))), (ad 6, .inl (cy 2, 40, .inr (.inr (.inr (.inr (pg)))))), (ad 12, .inl (cy 0, 16, .inl (bo)))] ++ (xs ++ (tb ++ op)))) rfl ?_
      refine gw_W.wd (w' := bW cy ad sa ta (σ.1) ((sOp σ).length) ((sTr σ).length) nx (σ.2.2.2.2.2.2.1) (σ.2.2.2.2.2.2.2) (nI (3)) lo pg bo ++ (xs ++ (tb ++ op))) rfl ?_
      refine gw_iret (?_) (by decide) (by decide) rfl dX11_spins_39
      subst hpost
      unfold spSpins
      rw [if_pos (show isO σ k = true from h2), if_neg (show ¬ ((opA σ k).1 = 2 ∨ (opA σ k).1 = 3) from by have hk2 : (opA σ k).1 = _ := hk; omega)]
      exact ⟨rfl, ad, sa, ta, oa, nx, lo, pg, bo, cs, xs, tb, op, td, rfl, List.Perm.refl _, hxs, hcs, htb, hop, hN, hbo⟩
  · rw [if_neg h2]
    refine gw_W.norm (st' := [.null]) (k1 := 0) (k2 := 0) rfl rfl rfl ?_
    refine gw_W.wd (w' := ([(ad 0, .inr (9, [.int (nI (σ.1)), .ref (ad 1), .ref (ad 2), .ref (sa (3 * 0)), .ref (ad 4), .ref (ad 5), .ref (ad 6), .int (nI ((sOp σ).length)), va_rf (lo), .int (nx), .int (σ.2.2.2.2.2.2.1), .int (σ.2.2.2.2.2.2.2), .ref (ad 12), .int (nI ((sTr σ).length)), .int (σ.2.2.2.2.1)])), (ad 1, .inl (cy 3, 9, .inr (.inr (.inr (.inr (fun i => some (sa (3 * i)))))))), (ad 2, .inl (cy 3, 9, .inr (.inr (.inr (.inr (fun i => some (sa (3 * (9 + i))))))))), (ad 5, .inl (cy 4, 8, .inr (.inr (.inr (.inr (fun i => some (ta (2 * i)))))))), (ad 6, .inl (cy 2, 40, .inr (.inr (.inr (.inr (pg)))))), (ad 12, .inl (cy 0, 16, .inl (bo)))] ++ (xs ++ (tb ++ op)))) rfl ?_
    refine gw_astore_nN dX11_spins_5 (by decide) rfl ?_
    refine gw_aload_nN dX11_spins_6 rfl ?_
    refine gw_ifnonnullN dX11_spins_7 ?_
    refine gw_ldc dX11_spins_10 wd_233 ?_
    refine gw_W.wd (w' := bW cy ad sa ta (σ.1) ((sOp σ).length) ((sTr σ).length) nx (σ.2.2.2.2.2.2.1) (σ.2.2.2.2.2.2.2) (σ.2.2.2.2.1) lo pg bo ++ (xs ++ (tb ++ op))) rfl ?_
    refine gw_iret (?_) (by decide) (by decide) rfl dX11_spins_12
    subst hpost
    unfold spSpins
    rw [if_neg (show ¬ isO σ k = true from h2)]
    exact ⟨rfl, ad, sa, ta, oa, nx, lo, pg, bo, cs, xs, tb, op, td, rfl, List.Perm.refl _, hxs, hcs, htb, hop, hN, hbo⟩
theorem isK_v {K : Nat} {x : Int32} (hx : inZ x.toInt 0 7 = true) (hK : 2 ≤ K ∧ K ≤ 7) (hd : Bool) (h : hd = true ↔ (x = 0 ∨ x = nI K ∨ (x = nI 1 ∧ K < 5) ∨ (x = nI 2 ∧ K < 4))) : bI hd = bI (isK K (tI x)) := by
  have e : x = nI (tI x) := tI_eq hx
  have l8 : tI x < 8 := tI_lt hx
  have key : hd = isK K (tI x) := by
    rw [Bool.eq_iff_iff, h]
    unfold isK
    rw [decide_eq_true_eq]
    have q : ∀ m, m < 8 → (x = nI m ↔ tI x = m) := fun m hm => ⟨fun e2 => by rw [e2]; unfold tI; rw [nI_toInt (by omega)]; omega, fun e2 => by rw [← e2]; exact e⟩
    rw [show (x = 0) = (x = nI 0) from rfl, q 0 (by omega), q K (by omega), q 1 (by omega), q 2 (by omega)]
    omega
  rw [key]
abbrev kX11_is : gw_K := (yX11_is, cX11_is, 4, { frames := 4, cells := 0, slots := 0, locals := 83 }, (some .int))
theorem ok_X11_is : gw_calV kX11_is 2 := ⟨⟨wd_646, wd_57, by decide, by decide, by decide +kernel⟩, wd_644, wd_645⟩
set_option maxHeartbeats 4000000 in
set_option maxRecDepth 100000 in
theorem t_cgis_open (l : Launch) (cy : Nat → ClassId) (b : Nat) (σ : aS) (w : va_W) (hI : cInv cy b σ w) (k x : Int32) (hW : OpenWord) : gw_M l kX11_is cy [.ref (b), .int (k), .int (x)] (w) (cPost cy b (spIs σ k x)) := by
  obtain ⟨ad, sa, ta, oa, nx, lo, pg, bo, cs, xs, tb, op, td, rfl, hw, hxs, hcs, htb, hop, hN, hbo⟩ := hI
  have hn4 : 1 ≤ σ.1 ∧ σ.1 ≤ 4 := ⟨hN.1, hN.2.1⟩
  refine gw_M.pm hw ?_
  obtain ⟨oc, hoc⟩ := hN.2.2.2.2.1
  have l40 : (sOp σ).length ≤ 40 := hN.2.2.2.1
  refine gw_M.mk (lv := [some (.ref (ad 0)), some (.int (k)), some (.int (x)), none]) (by decide) (Nat.le_of_ble_eq_true rfl) rfl ?_
  generalize hpost : (cPost cy (ad 0) (spIs σ k x) : gw_Q) = post
  refine gw_W.wd (w' := ([(ad 0, .inr (9, [.int (nI (σ.1)), .ref (ad 1), .ref (ad 2), .ref (sa (3 * 0)), .ref (ad 4), .ref (ad 5), .ref (ad 6), .int (nI ((sOp σ).length)), va_rf (lo), .int (nx), .int (σ.2.2.2.2.2.2.1), .int (σ.2.2.2.2.2.2.2), .ref (ad 12), .int (nI ((sTr σ).length)), .int (σ.2.2.2.2.1)])), (ad 1, .inl (cy 3, 9, .inr (.inr (.inr (.inr (fun i => some (sa (3 * i)))))))), (ad 2, .inl (cy 3, 9, .inr (.inr (.inr (.inr (fun i => some (sa (3 * (9 + i))))))))), (ad 5, .inl (cy 4, 8, .inr (.inr (.inr (.inr (fun i => some (ta (2 * i)))))))), (ad 6, .inl (cy 2, 40, .inr (.inr (.inr (.inr (pg)))))), (ad 12, .inl (cy 0, 16, .inl (bo)))] ++ (xs ++ (tb ++ op)))) rfl ?_
  refine gw_aload_n dX11_is_0 rfl ?_
  refine gw_iload_n dX11_is_1 rfl ?_
  refine gw_W.wd (w' := bW cy ad sa ta (σ.1) ((sOp σ).length) ((sTr σ).length) nx (σ.2.2.2.2.2.2.1) (σ.2.2.2.2.2.2.2) (σ.2.2.2.2.1) lo pg bo ++ (xs ++ (tb ++ op))) rfl ?_
  refine gw_callV 0 (As := [.int (k)]) (st := []) (c_bopAt l cy ad sa ta (σ.1) ((sOp σ).length) ((sTr σ).length) nx (σ.2.2.2.2.2.2.1) (σ.2.2.2.2.2.2.2) (σ.2.2.2.2.1) lo pg bo (xs ++ (tb ++ op)) (k) l40) ok_X11_opAt rfl rfl rfl wd_614 rfl rfl dX11_is_2 (by decide) (by decide) (Nat.le_of_ble_eq_true rfl) (fun r2 w2 hp2 => ?_)
  obtain ⟨rfl, rfl⟩ := hp2
  by_cases h2 : inZ (k).toInt 0 (((sOp σ).length : Int) - 1) = true
  · have j9 : tI (k) < (sOp σ).length := by rw [inZ_t] at h2; unfold tI; omega
    rw [if_pos h2, hop.2.2 _ j9]
    have hmj := opP_mem hop j9
    have hko := op_k8 (hN.2.2.2.2.2 _ (opJ_mem j9))
    refine gw_W.norm (st' := [.ref (oa (tI (k)))]) (k1 := 0) (k2 := 0) rfl rfl rfl ?_
    refine gw_W.wd (w' := ([(ad 0, .inr (9, [.int (nI (σ.1)), .ref (ad 1), .ref (ad 2), .ref (sa (3 * 0)), .ref (ad 4), .ref (ad 5), .ref (ad 6), .int (nI ((sOp σ).length)), va_rf (lo), .int (nx), .int (σ.2.2.2.2.2.2.1), .int (σ.2.2.2.2.2.2.2), .ref (ad 12), .int (nI ((sTr σ).length)), .int (σ.2.2.2.2.1)])), (ad 1, .inl (cy 3, 9, .inr (.inr (.inr (.inr (fun i => some (sa (3 * i)))))))), (ad 2, .inl (cy 3, 9, .inr (.inr (.inr (.inr (fun i => some (sa (3 * (9 + i))))))))), (ad 5, .inl (cy 4, 8, .inr (.inr (.inr (.inr (fun i => some (ta (2 * i)))))))), (ad 6, .inl (cy 2, 40, .inr (.inr (.inr (.inr (pg)))))), (ad 12, .inl (cy 0, 16, .inl (bo)))] ++ (xs ++ (tb ++ op)))) rfl ?_
    refine gw_astore_n dX11_is_5 (by decide) rfl ?_
    refine gw_aload_n dX11_is_6 rfl ?_
    refine gw_ifnull dX11_is_7 ?_
    refine gw_iload_n dX11_is_10 rfl ?_
    refine gw_iconst (v := nI (0)) dX11_is_11 (by decide) ?_
    refine gw_bipush (v := nI (7)) dX11_is_12 (by decide) ?_
    refine gw_callS (As := [.int (x), .int (nI (0)), .int (nI (7))]) (st := []) (c_within l cy (x) (nI (0)) (nI (7)) ([(ad 0, .inr (9, [.int (nI (σ.1)), .ref (ad 1), .ref (ad 2), .ref (sa (3 * 0)), .ref (ad 4), .ref (ad 5), .ref (ad 6), .int (nI ((sOp σ).length)), va_rf (lo), .int (nx), .int (σ.2.2.2.2.2.2.1), .int (σ.2.2.2.2.2.2.2), .ref (ad 12), .int (nI ((sTr σ).length)), .int (σ.2.2.2.2.1)])), (ad 1, .inl (cy 3, 9, .inr (.inr (.inr (.inr (fun i => some (sa (3 * i)))))))), (ad 2, .inl (cy 3, 9, .inr (.inr (.inr (.inr (fun i => some (sa (3 * (9 + i))))))))), (ad 5, .inl (cy 4, 8, .inr (.inr (.inr (.inr (fun i => some (ta (2 * i)))))))), (ad 6, .inl (cy 2, 40, .inr (.inr (.inr (.inr (pg)))))), (ad 12, .inl (cy 0, 16, .inl (bo)))] ++ (xs ++ (tb ++ op)))) ok_X11_within wd_230 rfl rfl dX11_is_14 (by decide) (by decide) (Nat.le_of_ble_eq_true rfl) (fun r14 w14 hp14 => ?_)
    obtain ⟨rfl, rfl⟩ := hp14
    refine gw_W.norm (st' := [.int (bI (inZ (x).toInt (nI (0)).toInt (nI (7)).toInt))]) (k1 := 0) (k2 := 0) rfl rfl rfl ?_
    refine gw_if_ne (tgt := 23) dX11_is_17 (by decide) (fun c17 => ?_) (fun c17 => ?_)
    · rw [bI_n0] at c17
      have d17 : inZ x.toInt 0 7 = true := c17
      refine gw_aload_n dX11_is_23 rfl ?_
      refine gw_iload_n dX11_is_24 rfl ?_
      rcases (show (opJ (sOp σ) (tI (k))).1 = 2 ∨ (opJ (sOp σ) (tI (k))).1 = 3 ∨ (opJ (sOp σ) (tI (k))).1 = 4 ∨ (opJ (sOp σ) (tI (k))).1 = 5 ∨ (opJ (sOp σ) (tI (k))).1 = 6 ∨ (opJ (sOp σ) (tI (k))).1 = 7 by omega) with hk | hk | hk | hk | hk | hk
      · rw [opCe, if_pos hk] at hmj
        refine gw_callD (As := [.int (x)]) (st := []) (ci := 4) (x := ⟨"SpinBench$Op", "isOfKind", "(I)Z"⟩) (owner := "SpinBench$Op") (c_isk6_4_open l cy (oa (tI (k))) ([(ad 0, .inr (9, [.int (nI (σ.1)), .ref (ad 1), .ref (ad 2), .ref (sa (3 * 0)), .ref (ad 4), .ref (ad 5), .ref (ad 6), .int (nI ((sOp σ).length)), va_rf (lo), .int (nx), .int (σ.2.2.2.2.2.2.1), .int (σ.2.2.2.2.2.2.2), .ref (ad 12), .int (nI ((sTr σ).length)), .int (σ.2.2.2.2.1)])), (ad 1, .inl (cy 3, 9, .inr (.inr (.inr (.inr (fun i => some (sa (3 * i)))))))), (ad 2, .inl (cy 3, 9, .inr (.inr (.inr (.inr (fun i => some (sa (3 * (9 + i))))))))), (ad 5, .inl (cy 4, 8, .inr (.inr (.inr (.inr (fun i => some (ta (2 * i)))))))), (ad 6, .inl (cy 2, 40, .inr (.inr (.inr (.inr (pg)))))), (ad 12, .inl (cy 0, 16, .inl (bo)))] ++ (xs ++ (tb ++ op))) x ⟨_, List.mem_append_right _ (List.mem_append_right _ (List.mem_append_right _ hmj))⟩ hW) okB_X6_isOfKind wd_651 (⟨_, List.mem_append_right _ (List.mem_append_right _ (List.mem_append_right _ hmj))⟩) rfl wd_659 wd_649 (gw_dec.code wd_648 wd_662) ⟨by decide, by decide⟩ rfl wd_647 rfl rfl dX11_is_25 (by decide) (by decide) (Nat.le_of_ble_eq_true rfl) (fun r25 w25 hp25 => ?_)
        obtain ⟨rfl, rfl⟩ := hp25
        refine gw_W.norm (st' := [.int (bI (decide (x = nI 2 ∨ (x = nI 1 ∨ (x = 0 ∨ x = nI 2)))))]) (k1 := 0) (k2 := 0) rfl rfl rfl ?_
        refine gw_W.wd (w' := ([(ad 0, .inr (9, [.int (nI (σ.1)), .ref (ad 1), .ref (ad 2), .ref (sa (3 * 0)), .ref (ad 4), .ref (ad 5), .ref (ad 6), .int (nI ((sOp σ).length)), va_rf (lo), .int (nx), .int (σ.2.2.2.2.2.2.1), .int (σ.2.2.2.2.2.2.2), .ref (ad 12), .int (nI ((sTr σ).length)), .int (σ.2.2.2.2.1)])), (ad 1, .inl (cy 3, 9, .inr (.inr (.inr (.inr (fun i => some (sa (3 * i)))))))), (ad 2, .inl (cy 3, 9, .inr (.inr (.inr (.inr (fun i => some (sa (3 * (9 + i))))))))), (ad 5, .inl (cy 4, 8, .inr (.inr (.inr (.inr (fun i => some (ta (2 * i)))))))), (ad 6, .inl (cy 2, 40, .inr (.inr (.inr (.inr (pg)))))), (ad 12, .inl (cy 0, 16, .inl (bo)))] ++ (xs ++ (tb ++ op)))) rfl ?_
        have hv : bI (decide (x = nI 2 ∨ (x = nI 1 ∨ (x = 0 ∨ x = nI 2)))) = bI (isK (opA σ k).1 (tI x)) := isK_v d17 hko _ (by
          rw [decide_eq_true_eq, hk]
          generalize (x = 0) = p0
          generalize (x = nI 1) = p1
          generalize (x = nI 2) = p2
          by_cases q0 : p0 <;> by_cases q1 : p1 <;> by_cases q2 : p2 <;> simp [q0, q1, q2])
        refine gw_if_eq (tgt := 35) dX11_is_28 (by decide) (fun c28 => ?_) (fun c28 => ?_)
        · rw [hv] at c28
          refine gw_iconst (v := nI (0)) dX11_is_35 (by decide) ?_
          refine gw_W.wd (w' := bW cy ad sa ta (σ.1) ((sOp σ).length) ((sTr σ).length) nx (σ.2.2.2.2.2.2.1) (σ.2.2.2.2.2.2.2) (σ.2.2.2.2.1) lo pg bo ++ (xs ++ (tb ++ op))) rfl ?_
          refine gw_iret (?_) (by decide) (by decide) rfl dX11_is_36
          subst hpost
          unfold spIs
          rw [if_pos ⟨show isO σ k = true from h2, d17⟩]
          first
            | (rw [bI_0] at c28; rw [c28]; exact ⟨rfl, ad, sa, ta, oa, nx, lo, pg, bo, cs, xs, tb, op, td, rfl, List.Perm.refl _, hxs, hcs, htb, hop, hN, hbo⟩)
            | (rw [bI_n0] at c28; rw [c28]; exact ⟨rfl, ad, sa, ta, oa, nx, lo, pg, bo, cs, xs, tb, op, td, rfl, List.Perm.refl _, hxs, hcs, htb, hop, hN, hbo⟩)
        · rw [hv] at c28
          refine gw_iconst (v := nI (1)) dX11_is_31 (by decide) ?_
          refine gw_goto (tgt := 36) dX11_is_32 (by decide) ?_
          refine gw_W.wd (w' := bW cy ad sa ta (σ.1) ((sOp σ).length) ((sTr σ).length) nx (σ.2.2.2.2.2.2.1) (σ.2.2.2.2.2.2.2) (σ.2.2.2.2.1) lo pg bo ++ (xs ++ (tb ++ op))) rfl ?_
          refine gw_iret (?_) (by decide) (by decide) rfl dX11_is_36
          subst hpost
          unfold spIs
          rw [if_pos ⟨show isO σ k = true from h2, d17⟩]
          first
            | (rw [bI_0] at c28; rw [c28]; exact ⟨rfl, ad, sa, ta, oa, nx, lo, pg, bo, cs, xs, tb, op, td, rfl, List.Perm.refl _, hxs, hcs, htb, hop, hN, hbo⟩)
            | (rw [bI_n0] at c28; rw [c28]; exact ⟨rfl, ad, sa, ta, oa, nx, lo, pg, bo, cs, xs, tb, op, td, rfl, List.Perm.refl _, hxs, hcs, htb, hop, hN, hbo⟩)
      · rw [opCe, if_neg (by omega), if_pos hk] at hmj
        refine gw_callD (As := [.int (x)]) (st := []) (ci := 0) (x := ⟨"SpinBench$Op", "isOfKind", "(I)Z"⟩) (owner := "SpinBench$Op") (c_isk6_0_open l cy (oa (tI (k))) ([(ad 0, .inr (9, [.int (nI (σ.1)), .ref (ad 1), .ref (ad 2), .ref (sa (3 * 0)), .ref (ad 4), .ref (ad 5), .ref (ad 6), .int (nI ((sOp σ).length)), va_rf (lo), .int (nx), .int (σ.2.2.2.2.2.2.1), .int (σ.2.2.2.2.2.2.2), .ref (ad 12), .int (nI ((sTr σ).length)), .int (σ.2.2.2.2.1)])), (ad 1, .inl (cy 3, 9, .inr (.inr (.inr (.inr (fun i => some (sa (3 * i)))))))), (ad 2, .inl (cy 3, 9, .inr (.inr (.inr (.inr (fun i => some (sa (3 * (9 + i))))))))), (ad 5, .inl (cy 4, 8, .inr (.inr (.inr (.inr (fun i => some (ta (2 * i)))))))), (ad 6, .inl (cy 2, 40, .inr (.inr (.inr (.inr (pg)))))), (ad 12, .inl (cy 0, 16, .inl (bo)))] ++ (xs ++ (tb ++ op))) x ⟨_, List.mem_append_right _ (List.mem_append_right _ (List.mem_append_right _ hmj))⟩ hW) okB_X6_isOfKind wd_651 (⟨_, List.mem_append_right _ (List.mem_append_right _ (List.mem_append_right _ hmj))⟩) rfl wd_650 wd_649 (gw_dec.code wd_648 wd_662) ⟨by decide, by decide⟩ rfl wd_647 rfl rfl dX11_is_25 (by decide) (by decide) (Nat.le_of_ble_eq_true rfl) (fun r25 w25 hp25 => ?_)
        obtain ⟨rfl, rfl⟩ := hp25
        refine gw_W.norm (st' := [.int (bI (decide (x = nI 2 ∨ (x = nI 1 ∨ (x = 0 ∨ x = nI 3)))))]) (k1 := 0) (k2 := 0) rfl rfl rfl ?_
        refine gw_W.wd (w' := ([(ad 0, .inr (9, [.int (nI (σ.1)), .ref (ad 1), .ref (ad 2), .ref (sa (3 * 0)), .ref (ad 4), .ref (ad 5), .ref (ad 6), .int (nI ((sOp σ).length)), va_rf (lo), .int (nx), .int (σ.2.2.2.2.2.2.1), .int (σ.2.2.2.2.2.2.2), .ref (ad 12), .int (nI ((sTr σ).length)), .int (σ.2.2.2.2.1)])), (ad 1, .inl (cy 3, 9, .inr (.inr (.inr (.inr (fun i => some (sa (3 * i)))))))), (ad 2, .inl (cy 3, 9, .inr (.inr (.inr (.inr (fun i => some (sa (3 * (9 + i))))))))), (ad 5, .inl (cy 4, 8, .inr (.inr (.inr (.inr (fun i => some (ta (2 * i)))))))), (ad 6, .inl (cy 2, 40, .inr (.inr (.inr (.inr (pg)))))), (ad 12, .inl (cy 0, 16, .inl (bo)))] ++ (xs ++ (tb ++ op)))) rfl ?_
        have hv : bI (decide (x = nI 2 ∨ (x = nI 1 ∨ (x = 0 ∨ x = nI 3)))) = bI (isK (opA σ k).1 (tI x)) := isK_v d17 hko _ (by
          rw [decide_eq_true_eq, hk]
          generalize (x = 0) = p0
          generalize (x = nI 1) = p1
          generalize (x = nI 2) = p2
          generalize (x = nI 3) = p3
          by_cases q0 : p0 <;> by_cases q1 : p1 <;> by_cases q2 : p2 <;> by_cases q3 : p3 <;> simp [q0, q1, q2, q3])
        refine gw_if_eq (tgt := 35) dX11_is_28 (by decide) (fun c28 => ?_) (fun c28 => ?_)
        · rw [hv] at c28
          refine gw_iconst (v := nI (0)) dX11_is_35 (by decide) ?_
          refine gw_W.wd (w' := bW cy ad sa ta (σ.1) ((sOp σ).length) ((sTr σ).length) nx (σ.2.2.2.2.2.2.1) (σ.2.2.2.2.2.2.2) (σ.2.2.2.2.1) lo pg bo ++ (xs ++ (tb ++ op))) rfl ?_
          refine gw_iret (?_) (by decide) (by decide) rfl dX11_is_36
          subst hpost
          unfold spIs
          rw [if_pos ⟨show isO σ k = true from h2, d17⟩]
          first
            | (rw [bI_0] at c28; rw [c28]; exact ⟨rfl, ad, sa, ta, oa, nx, lo, pg, bo, cs, xs, tb, op, td, rfl, List.Perm.refl _, hxs, hcs, htb, hop, hN, hbo⟩)
            | (rw [bI_n0] at c28; rw [c28]; exact ⟨rfl, ad, sa, ta, oa, nx, lo, pg, bo, cs, xs, tb, op, td, rfl, List.Perm.refl _, hxs, hcs, htb, hop, hN, hbo⟩)
        · rw [hv] at c28
          refine gw_iconst (v := nI (1)) dX11_is_31 (by decide) ?_
          refine gw_goto (tgt := 36) dX11_is_32 (by decide) ?_
          refine gw_W.wd (w' := bW cy ad sa ta (σ.1) ((sOp σ).length) ((sTr σ).length) nx (σ.2.2.2.2.2.2.1) (σ.2.2.2.2.2.2.2) (σ.2.2.2.2.1) lo pg bo ++ (xs ++ (tb ++ op))) rfl ?_
          refine gw_iret (?_) (by decide) (by decide) rfl dX11_is_36
          subst hpost
          unfold spIs
          rw [if_pos ⟨show isO σ k = true from h2, d17⟩]
          first
            | (rw [bI_0] at c28; rw [c28]; exact ⟨rfl, ad, sa, ta, oa, nx, lo, pg, bo, cs, xs, tb, op, td, rfl, List.Perm.refl _, hxs, hcs, htb, hop, hN, hbo⟩)
            | (rw [bI_n0] at c28; rw [c28]; exact ⟨rfl, ad, sa, ta, oa, nx, lo, pg, bo, cs, xs, tb, op, td, rfl, List.Perm.refl _, hxs, hcs, htb, hop, hN, hbo⟩)
      · rw [opCe, if_neg (by omega), if_neg (by omega), if_pos hk] at hmj
        refine gw_callD (As := [.int (x)]) (st := []) (ci := 1) (x := ⟨"SpinBench$Op", "isOfKind", "(I)Z"⟩) (owner := "SpinBench$Op") (c_isk3_1_open l cy (oa (tI (k))) ([(ad 0, .inr (9, [.int (nI (σ.1)), .ref (ad 1), .ref (ad 2), .ref (sa (3 * 0)), .ref (ad 4), .ref (ad 5), .ref (ad 6), .int (nI ((sOp σ).length)), va_rf (lo), .int (nx), .int (σ.2.2.2.2.2.2.1), .int (σ.2.2.2.2.2.2.2), .ref (ad 12), .int (nI ((sTr σ).length)), .int (σ.2.2.2.2.1)])), (ad 1, .inl (cy 3, 9, .inr (.inr (.inr (.inr (fun i => some (sa (3 * i)))))))), (ad 2, .inl (cy 3, 9, .inr (.inr (.inr (.inr (fun i => some (sa (3 * (9 + i))))))))), (ad 5, .inl (cy 4, 8, .inr (.inr (.inr (.inr (fun i => some (ta (2 * i)))))))), (ad 6, .inl (cy 2, 40, .inr (.inr (.inr (.inr (pg)))))), (ad 12, .inl (cy 0, 16, .inl (bo)))] ++ (xs ++ (tb ++ op))) x ⟨_, List.mem_append_right _ (List.mem_append_right _ (List.mem_append_right _ hmj))⟩ hW) okB_X3_isOfKind wd_654 (⟨_, List.mem_append_right _ (List.mem_append_right _ (List.mem_append_right _ hmj))⟩) rfl wd_657 wd_649 (gw_dec.code wd_648 wd_662) ⟨by decide, by decide⟩ rfl wd_647 rfl rfl dX11_is_25 (by decide) (by decide) (Nat.le_of_ble_eq_true rfl) (fun r25 w25 hp25 => ?_)
        obtain ⟨rfl, rfl⟩ := hp25
        refine gw_W.norm (st' := [.int (bI (decide (x = nI 1 ∨ (x = 0 ∨ x = nI 4))))]) (k1 := 0) (k2 := 0) rfl rfl rfl ?_
        refine gw_W.wd (w' := ([(ad 0, .inr (9, [.int (nI (σ.1)), .ref (ad 1), .ref (ad 2), .ref (sa (3 * 0)), .ref (ad 4), .ref (ad 5), .ref (ad 6), .int (nI ((sOp σ).length)), va_rf (lo), .int (nx), .int (σ.2.2.2.2.2.2.1), .int (σ.2.2.2.2.2.2.2), .ref (ad 12), .int (nI ((sTr σ).length)), .int (σ.2.2.2.2.1)])), (ad 1, .inl (cy 3, 9, .inr (.inr (.inr (.inr (fun i => some (sa (3 * i)))))))), (ad 2, .inl (cy 3, 9, .inr (.inr (.inr (.inr (fun i => some (sa (3 * (9 + i))))))))), (ad 5, .inl (cy 4, 8, .inr (.inr (.inr (.inr (fun i => some (ta (2 * i)))))))), (ad 6, .inl (cy 2, 40, .inr (.inr (.inr (.inr (pg)))))), (ad 12, .inl (cy 0, 16, .inl (bo)))] ++ (xs ++ (tb ++ op)))) rfl ?_
        have hv : bI (decide (x = nI 1 ∨ (x = 0 ∨ x = nI 4))) = bI (isK (opA σ k).1 (tI x)) := isK_v d17 hko _ (by
          rw [decide_eq_true_eq, hk]
          generalize (x = 0) = p0
          generalize (x = nI 1) = p1
          generalize (x = nI 2) = p2
          generalize (x = nI 4) = p3
          by_cases q0 : p0 <;> by_cases q1 : p1 <;> by_cases q2 : p2 <;> by_cases q3 : p3 <;> simp [q0, q1, q2, q3])
        refine gw_if_eq (tgt := 35) dX11_is_28 (by decide) (fun c28 => ?_) (fun c28 => ?_)
        · rw [hv] at c28
          refine gw_iconst (v := nI (0)) dX11_is_35 (by decide) ?_
          refine gw_W.wd (w' := bW cy ad sa ta (σ.1) ((sOp σ).length) ((sTr σ).length) nx (σ.2.2.2.2.2.2.1) (σ.2.2.2.2.2.2.2) (σ.2.2.2.2.1) lo pg bo ++ (xs ++ (tb ++ op))) rfl ?_
          refine gw_iret (?_) (by decide) (by decide) rfl dX11_is_36
          subst hpost
          unfold spIs
          rw [if_pos ⟨show isO σ k = true from h2, d17⟩]
          first
            | (rw [bI_0] at c28; rw [c28]; exact ⟨rfl, ad, sa, ta, oa, nx, lo, pg, bo, cs, xs, tb, op, td, rfl, List.Perm.refl _, hxs, hcs, htb, hop, hN, hbo⟩)
            | (rw [bI_n0] at c28; rw [c28]; exact ⟨rfl, ad, sa, ta, oa, nx, lo, pg, bo, cs, xs, tb, op, td, rfl, List.Perm.refl _, hxs, hcs, htb, hop, hN, hbo⟩)
        · rw [hv] at c28
          refine gw_iconst (v := nI (1)) dX11_is_31 (by decide) ?_
          refine gw_goto (tgt := 36) dX11_is_32 (by decide) ?_
          refine gw_W.wd (w' := bW cy ad sa ta (σ.1) ((sOp σ).length) ((sTr σ).length) nx (σ.2.2.2.2.2.2.1) (σ.2.2.2.2.2.2.2) (σ.2.2.2.2.1) lo pg bo ++ (xs ++ (tb ++ op))) rfl ?_
          refine gw_iret (?_) (by decide) (by decide) rfl dX11_is_36
          subst hpost
          unfold spIs
          rw [if_pos ⟨show isO σ k = true from h2, d17⟩]
          first
            | (rw [bI_0] at c28; rw [c28]; exact ⟨rfl, ad, sa, ta, oa, nx, lo, pg, bo, cs, xs, tb, op, td, rfl, List.Perm.refl _, hxs, hcs, htb, hop, hN, hbo⟩)
            | (rw [bI_n0] at c28; rw [c28]; exact ⟨rfl, ad, sa, ta, oa, nx, lo, pg, bo, cs, xs, tb, op, td, rfl, List.Perm.refl _, hxs, hcs, htb, hop, hN, hbo⟩)
      · rw [opCe, if_neg (by omega), if_neg (by omega), if_neg (by omega), if_pos hk] at hmj
        refine gw_callD (As := [.int (x)]) (st := []) (ci := 5) (x := ⟨"SpinBench$Op", "isOfKind", "(I)Z"⟩) (owner := "SpinBench$Op") (c_isk5_5 l cy (oa (tI (k))) ([(ad 0, .inr (9, [.int (nI (σ.1)), .ref (ad 1), .ref (ad 2), .ref (sa (3 * 0)), .ref (ad 4), .ref (ad 5), .ref (ad 6), .int (nI ((sOp σ).length)), va_rf (lo), .int (nx), .int (σ.2.2.2.2.2.2.1), .int (σ.2.2.2.2.2.2.2), .ref (ad 12), .int (nI ((sTr σ).length)), .int (σ.2.2.2.2.1)])), (ad 1, .inl (cy 3, 9, .inr (.inr (.inr (.inr (fun i => some (sa (3 * i)))))))), (ad 2, .inl (cy 3, 9, .inr (.inr (.inr (.inr (fun i => some (sa (3 * (9 + i))))))))), (ad 5, .inl (cy 4, 8, .inr (.inr (.inr (.inr (fun i => some (ta (2 * i)))))))), (ad 6, .inl (cy 2, 40, .inr (.inr (.inr (.inr (pg)))))), (ad 12, .inl (cy 0, 16, .inl (bo)))] ++ (xs ++ (tb ++ op))) x ⟨_, List.mem_append_right _ (List.mem_append_right _ (List.mem_append_right _ hmj))⟩) okB_X5_isOfKind wd_648 (⟨_, List.mem_append_right _ (List.mem_append_right _ (List.mem_append_right _ hmj))⟩) rfl wd_660 wd_649 (gw_dec.code wd_648 wd_662) ⟨by decide, by decide⟩ rfl wd_647 rfl rfl dX11_is_25 (by decide) (by decide) (Nat.le_of_ble_eq_true rfl) (fun r25 w25 hp25 => ?_)
        obtain ⟨rfl, rfl⟩ := hp25
        refine gw_W.norm (st' := [.int (bI (decide (x = 0 ∨ x = nI 5)))]) (k1 := 0) (k2 := 0) rfl rfl rfl ?_
        refine gw_W.wd (w' := ([(ad 0, .inr (9, [.int (nI (σ.1)), .ref (ad 1), .ref (ad 2), .ref (sa (3 * 0)), .ref (ad 4), .ref (ad 5), .ref (ad 6), .int (nI ((sOp σ).length)), va_rf (lo), .int (nx), .int (σ.2.2.2.2.2.2.1), .int (σ.2.2.2.2.2.2.2), .ref (ad 12), .int (nI ((sTr σ).length)), .int (σ.2.2.2.2.1)])), (ad 1, .inl (cy 3, 9, .inr (.inr (.inr (.inr (fun i => some (sa (3 * i)))))))), (ad 2, .inl (cy 3, 9, .inr (.inr (.inr (.inr (fun i => some (sa (3 * (9 + i))))))))), (ad 5, .inl (cy 4, 8, .inr (.inr (.inr (.inr (fun i => some (ta (2 * i)))))))), (ad 6, .inl (cy 2, 40, .inr (.inr (.inr (.inr (pg)))))), (ad 12, .inl (cy 0, 16, .inl (bo)))] ++ (xs ++ (tb ++ op)))) rfl ?_
        have hv : bI (decide (x = 0 ∨ x = nI 5)) = bI (isK (opA σ k).1 (tI x)) := isK_v d17 hko _ (by
          rw [decide_eq_true_eq, hk]
          generalize (x = 0) = p0
          generalize (x = nI 1) = p1
          generalize (x = nI 2) = p2
          generalize (x = nI 5) = p3
          by_cases q0 : p0 <;> by_cases q1 : p1 <;> by_cases q2 : p2 <;> by_cases q3 : p3 <;> simp [q0, q1, q2, q3])
        refine gw_if_eq (tgt := 35) dX11_is_28 (by decide) (fun c28 => ?_) (fun c28 => ?_)
        · rw [hv] at c28
          refine gw_iconst (v := nI (0)) dX11_is_35 (by decide) ?_
          refine gw_W.wd (w' := bW cy ad sa ta (σ.1) ((sOp σ).length) ((sTr σ).length) nx (σ.2.2.2.2.2.2.1) (σ.2.2.2.2.2.2.2) (σ.2.2.2.2.1) lo pg bo ++ (xs ++ (tb ++ op))) rfl ?_
          refine gw_iret (?_) (by decide) (by decide) rfl dX11_is_36
          subst hpost
          unfold spIs
          rw [if_pos ⟨show isO σ k = true from h2, d17⟩]
          first
            | (rw [bI_0] at c28; rw [c28]; exact ⟨rfl, ad, sa, ta, oa, nx, lo, pg, bo, cs, xs, tb, op, td, rfl, List.Perm.refl _, hxs, hcs, htb, hop, hN, hbo⟩)
            | (rw [bI_n0] at c28; rw [c28]; exact ⟨rfl, ad, sa, ta, oa, nx, lo, pg, bo, cs, xs, tb, op, td, rfl, List.Perm.refl _, hxs, hcs, htb, hop, hN, hbo⟩)
        · rw [hv] at c28
          refine gw_iconst (v := nI (1)) dX11_is_31 (by decide) ?_
          refine gw_goto (tgt := 36) dX11_is_32 (by decide) ?_
          refine gw_W.wd (w' := bW cy ad sa ta (σ.1) ((sOp σ).length) ((sTr σ).length) nx (σ.2.2.2.2.2.2.1) (σ.2.2.2.2.2.2.2) (σ.2.2.2.2.1) lo pg bo ++ (xs ++ (tb ++ op))) rfl ?_
          refine gw_iret (?_) (by decide) (by decide) rfl dX11_is_36
          subst hpost
          unfold spIs
          rw [if_pos ⟨show isO σ k = true from h2, d17⟩]
          first
            | (rw [bI_0] at c28; rw [c28]; exact ⟨rfl, ad, sa, ta, oa, nx, lo, pg, bo, cs, xs, tb, op, td, rfl, List.Perm.refl _, hxs, hcs, htb, hop, hN, hbo⟩)
            | (rw [bI_n0] at c28; rw [c28]; exact ⟨rfl, ad, sa, ta, oa, nx, lo, pg, bo, cs, xs, tb, op, td, rfl, List.Perm.refl _, hxs, hcs, htb, hop, hN, hbo⟩)
      · rw [opCe, if_neg (by omega), if_neg (by omega), if_neg (by omega), if_neg (by omega), if_pos hk] at hmj
        refine gw_callD (As := [.int (x)]) (st := []) (ci := 2) (x := ⟨"SpinBench$Op", "isOfKind", "(I)Z"⟩) (owner := "SpinBench$Op") (c_isk5_2 l cy (oa (tI (k))) ([(ad 0, .inr (9, [.int (nI (σ.1)), .ref (ad 1), .ref (ad 2), .ref (sa (3 * 0)), .ref (ad 4), .ref (ad 5), .ref (ad 6), .int (nI ((sOp σ).length)), va_rf (lo), .int (nx), .int (σ.2.2.2.2.2.2.1), .int (σ.2.2.2.2.2.2.2), .ref (ad 12), .int (nI ((sTr σ).length)), .int (σ.2.2.2.2.1)])), (ad 1, .inl (cy 3, 9, .inr (.inr (.inr (.inr (fun i => some (sa (3 * i)))))))), (ad 2, .inl (cy 3, 9, .inr (.inr (.inr (.inr (fun i => some (sa (3 * (9 + i))))))))), (ad 5, .inl (cy 4, 8, .inr (.inr (.inr (.inr (fun i => some (ta (2 * i)))))))), (ad 6, .inl (cy 2, 40, .inr (.inr (.inr (.inr (pg)))))), (ad 12, .inl (cy 0, 16, .inl (bo)))] ++ (xs ++ (tb ++ op))) x ⟨_, List.mem_append_right _ (List.mem_append_right _ (List.mem_append_right _ hmj))⟩) okB_X5_isOfKind wd_648 (⟨_, List.mem_append_right _ (List.mem_append_right _ (List.mem_append_right _ hmj))⟩) rfl wd_658 wd_649 (gw_dec.code wd_648 wd_662) ⟨by decide, by decide⟩ rfl wd_647 rfl rfl dX11_is_25 (by decide) (by decide) (Nat.le_of_ble_eq_true rfl) (fun r25 w25 hp25 => ?_)
        obtain ⟨rfl, rfl⟩ := hp25
        refine gw_W.norm (st' := [.int (bI (decide (x = 0 ∨ x = nI 6)))]) (k1 := 0) (k2 := 0) rfl rfl rfl ?_
        refine gw_W.wd (w' := ([(ad 0, .inr (9, [.int (nI (σ.1)), .ref (ad 1), .ref (ad 2), .ref (sa (3 * 0)), .ref (ad 4), .ref (ad 5), .ref (ad 6), .int (nI ((sOp σ).length)), va_rf (lo), .int (nx), .int (σ.2.2.2.2.2.2.1), .int (σ.2.2.2.2.2.2.2), .ref (ad 12), .int (nI ((sTr σ).length)), .int (σ.2.2.2.2.1)])), (ad 1, .inl (cy 3, 9, .inr (.inr (.inr (.inr (fun i => some (sa (3 * i)))))))), (ad 2, .inl (cy 3, 9, .inr (.inr (.inr (.inr (fun i => some (sa (3 * (9 + i))))))))), (ad 5, .inl (cy 4, 8, .inr (.inr (.inr (.inr (fun i => some (ta (2 * i)))))))), (ad 6, .inl (cy 2, 40, .inr (.inr (.inr (.inr (pg)))))), (ad 12, .inl (cy 0, 16, .inl (bo)))] ++ (xs ++ (tb ++ op)))) rfl ?_
        have hv : bI (decide (x = 0 ∨ x = nI 6)) = bI (isK (opA σ k).1 (tI x)) := isK_v d17 hko _ (by
          rw [decide_eq_true_eq, hk]
          generalize (x = 0) = p0
          generalize (x = nI 1) = p1
          generalize (x = nI 2) = p2
          generalize (x = nI 6) = p3
          by_cases q0 : p0 <;> by_cases q1 : p1 <;> by_cases q2 : p2 <;> by_cases q3 : p3 <;> simp [q0, q1, q2, q3])
        refine gw_if_eq (tgt := 35) dX11_is_28 (by decide) (fun c28 => ?_) (fun c28 => ?_)
        · rw [hv] at c28
          refine gw_iconst (v := nI (0)) dX11_is_35 (by decide) ?_
          refine gw_W.wd (w' := bW cy ad sa ta (σ.1) ((sOp σ).length) ((sTr σ).length) nx (σ.2.2.2.2.2.2.1) (σ.2.2.2.2.2.2.2) (σ.2.2.2.2.1) lo pg bo ++ (xs ++ (tb ++ op))) rfl ?_
          refine gw_iret (?_) (by decide) (by decide) rfl dX11_is_36
          subst hpost
          unfold spIs
          rw [if_pos ⟨show isO σ k = true from h2, d17⟩]
          first
            | (rw [bI_0] at c28; rw [c28]; exact ⟨rfl, ad, sa, ta, oa, nx, lo, pg, bo, cs, xs, tb, op, td, rfl, List.Perm.refl _, hxs, hcs, htb, hop, hN, hbo⟩)
            | (rw [bI_n0] at c28; rw [c28]; exact ⟨rfl, ad, sa, ta, oa, nx, lo, pg, bo, cs, xs, tb, op, td, rfl, List.Perm.refl _, hxs, hcs, htb, hop, hN, hbo⟩)
        · rw [hv] at c28
          refine gw_iconst (v := nI (1)) dX11_is_31 (by decide) ?_
          refine gw_goto (tgt := 36) dX11_is_32 (by decide) ?_
          refine gw_W.wd (w' := bW cy ad sa ta (σ.1) ((sOp σ).length) ((sTr σ).length) nx (σ.2.2.2.2.2.2.1) (σ.2.2.2.2.2.2.2) (σ.2.2.2.2.1) lo pg bo ++ (xs ++ (tb ++ op))) rfl ?_
          refine gw_iret (?_) (by decide) (by decide) rfl dX11_is_36
          subst hpost
          unfold spIs
          rw [if_pos ⟨show isO σ k = true from h2, d17⟩]
          first
            | (rw [bI_0] at c28; rw [c28]; exact ⟨rfl, ad, sa, ta, oa, nx, lo, pg, bo, cs, xs, tb, op, td, rfl, List.Perm.refl _, hxs, hcs, htb, hop, hN, hbo⟩)
            | (rw [bI_n0] at c28; rw [c28]; exact ⟨rfl, ad, sa, ta, oa, nx, lo, pg, bo, cs, xs, tb, op, td, rfl, List.Perm.refl _, hxs, hcs, htb, hop, hN, hbo⟩)
      · rw [opCe, if_neg (by omega), if_neg (by omega), if_neg (by omega), if_neg (by omega), if_neg (by omega)] at hmj
        refine gw_callD (As := [.int (x)]) (st := []) (ci := 6) (x := ⟨"SpinBench$Op", "isOfKind", "(I)Z"⟩) (owner := "SpinBench$Op") (c_isk5_6 l cy (oa (tI (k))) ([(ad 0, .inr (9, [.int (nI (σ.1)), .ref (ad 1), .ref (ad 2), .ref (sa (3 * 0)), .ref (ad 4), .ref (ad 5), .ref (ad 6), .int (nI ((sOp σ).length)), va_rf (lo), .int (nx), .int (σ.2.2.2.2.2.2.1), .int (σ.2.2.2.2.2.2.2), .ref (ad 12), .int (nI ((sTr σ).length)), .int (σ.2.2.2.2.1)])), (ad 1, .inl (cy 3, 9, .inr (.inr (.inr (.inr (fun i => some (sa (3 * i)))))))), (ad 2, .inl (cy 3, 9, .inr (.inr (.inr (.inr (fun i => some (sa (3 * (9 + i))))))))), (ad 5, .inl (cy 4, 8, .inr (.inr (.inr (.inr (fun i => some (ta (2 * i)))))))), (ad 6, .inl (cy 2, 40, .inr (.inr (.inr (.inr (pg)))))), (ad 12, .inl (cy 0, 16, .inl (bo)))] ++ (xs ++ (tb ++ op))) x ⟨_, List.mem_append_right _ (List.mem_append_right _ (List.mem_append_right _ hmj))⟩) okB_X5_isOfKind wd_648 (⟨_, List.mem_append_right _ (List.mem_append_right _ (List.mem_append_right _ hmj))⟩) rfl wd_661 wd_649 (gw_dec.code wd_648 wd_662) ⟨by decide, by decide⟩ rfl wd_647 rfl rfl dX11_is_25 (by decide) (by decide) (Nat.le_of_ble_eq_true rfl) (fun r25 w25 hp25 => ?_)
        obtain ⟨rfl, rfl⟩ := hp25
        refine gw_W.norm (st' := [.int (bI (decide (x = 0 ∨ x = nI 7)))]) (k1 := 0) (k2 := 0) rfl rfl rfl ?_
        refine gw_W.wd (w' := ([(ad 0, .inr (9, [.int (nI (σ.1)), .ref (ad 1), .ref (ad 2), .ref (sa (3 * 0)), .ref (ad 4), .ref (ad 5), .ref (ad 6), .int (nI ((sOp σ).length)), va_rf (lo), .int (nx), .int (σ.2.2.2.2.2.2.1), .int (σ.2.2.2.2.2.2.2), .ref (ad 12), .int (nI ((sTr σ).length)), .int (σ.2.2.2.2.1)])), (ad 1, .inl (cy 3, 9, .inr (.inr (.inr (.inr (fun i => some (sa (3 * i)))))))), (ad 2, .inl (cy 3, 9, .inr (.inr (.inr (.inr (fun i => some (sa (3 * (9 + i))))))))), (ad 5, .inl (cy 4, 8, .inr (.inr (.inr (.inr (fun i => some (ta (2 * i)))))))), (ad 6, .inl (cy 2, 40, .inr (.inr (.inr (.inr (pg)))))), (ad 12, .inl (cy 0, 16, .inl (bo)))] ++ (xs ++ (tb ++ op)))) rfl ?_
        have hv : bI (decide (x = 0 ∨ x = nI 7)) = bI (isK (opA σ k).1 (tI x)) := isK_v d17 hko _ (by
          rw [decide_eq_true_eq, hk]
          generalize (x = 0) = p0
          generalize (x = nI 1) = p1
          generalize (x = nI 2) = p2
          generalize (x = nI 7) = p3
          by_cases q0 : p0 <;> by_cases q1 : p1 <;> by_cases q2 : p2 <;> by_cases q3 : p3 <;> simp [q0, q1, q2, q3])
        refine gw_if_eq (tgt := 35) dX11_is_28 (by decide) (fun c28 => ?_) (fun c28 => ?_)
        · rw [hv] at c28
          refine gw_iconst (v := nI (0)) dX11_is_35 (by decide) ?_
          refine gw_W.wd (w' := bW cy ad sa ta (σ.1) ((sOp σ).length) ((sTr σ).length) nx (σ.2.2.2.2.2.2.1) (σ.2.2.2.2.2.2.2) (σ.2.2.2.2.1) lo pg bo ++ (xs ++ (tb ++ op))) rfl ?_
          refine gw_iret (?_) (by decide) (by decide) rfl dX11_is_36
          subst hpost
          unfold spIs
          rw [if_pos ⟨show isO σ k = true from h2, d17⟩]
          first
            | (rw [bI_0] at c28; rw [c28]; exact ⟨rfl, ad, sa, ta, oa, nx, lo, pg, bo, cs, xs, tb, op, td, rfl, List.Perm.refl _, hxs, hcs, htb, hop, hN, hbo⟩)
            | (rw [bI_n0] at c28; rw [c28]; exact ⟨rfl, ad, sa, ta, oa, nx, lo, pg, bo, cs, xs, tb, op, td, rfl, List.Perm.refl _, hxs, hcs, htb, hop, hN, hbo⟩)
        · rw [hv] at c28
          refine gw_iconst (v := nI (1)) dX11_is_31 (by decide) ?_
          refine gw_goto (tgt := 36) dX11_is_32 (by decide) ?_
          refine gw_W.wd (w' := bW cy ad sa ta (σ.1) ((sOp σ).length) ((sTr σ).length) nx (σ.2.2.2.2.2.2.1) (σ.2.2.2.2.2.2.2) (σ.2.2.2.2.1) lo pg bo ++ (xs ++ (tb ++ op))) rfl ?_
          refine gw_iret (?_) (by decide) (by decide) rfl dX11_is_36
          subst hpost
          unfold spIs
          rw [if_pos ⟨show isO σ k = true from h2, d17⟩]
          first
            | (rw [bI_0] at c28; rw [c28]; exact ⟨rfl, ad, sa, ta, oa, nx, lo, pg, bo, cs, xs, tb, op, td, rfl, List.Perm.refl _, hxs, hcs, htb, hop, hN, hbo⟩)
            | (rw [bI_n0] at c28; rw [c28]; exact ⟨rfl, ad, sa, ta, oa, nx, lo, pg, bo, cs, xs, tb, op, td, rfl, List.Perm.refl _, hxs, hcs, htb, hop, hN, hbo⟩)
    · rw [bI_0] at c17
      have d17 : inZ x.toInt 0 7 = false := c17
      refine gw_ldc dX11_is_20 wd_233 ?_
      refine gw_W.wd (w' := bW cy ad sa ta (σ.1) ((sOp σ).length) ((sTr σ).length) nx (σ.2.2.2.2.2.2.1) (σ.2.2.2.2.2.2.2) (σ.2.2.2.2.1) lo pg bo ++ (xs ++ (tb ++ op))) rfl ?_
      refine gw_iret (?_) (by decide) (by decide) rfl dX11_is_22
      subst hpost
      unfold spIs
      rw [if_neg (fun h => by first | exact h2 h.1 | exact absurd (h.2.symm.trans d17) (by decide))]
      exact ⟨rfl, ad, sa, ta, oa, nx, lo, pg, bo, cs, xs, tb, op, td, rfl, List.Perm.refl _, hxs, hcs, htb, hop, hN, hbo⟩
  · rw [if_neg h2]
    refine gw_W.norm (st' := [.null]) (k1 := 0) (k2 := 0) rfl rfl rfl ?_
    refine gw_W.wd (w' := ([(ad 0, .inr (9, [.int (nI (σ.1)), .ref (ad 1), .ref (ad 2), .ref (sa (3 * 0)), .ref (ad 4), .ref (ad 5), .ref (ad 6), .int (nI ((sOp σ).length)), va_rf (lo), .int (nx), .int (σ.2.2.2.2.2.2.1), .int (σ.2.2.2.2.2.2.2), .ref (ad 12), .int (nI ((sTr σ).length)), .int (σ.2.2.2.2.1)])), (ad 1, .inl (cy 3, 9, .inr (.inr (.inr (.inr (fun i => some (sa (3 * i)))))))), (ad 2, .inl (cy 3, 9, .inr (.inr (.inr (.inr (fun i => some (sa (3 * (9 + i))))))))), (ad 5, .inl (cy 4, 8, .inr (.inr (.inr (.inr (fun i => some (ta (2 * i)))))))), (ad 6, .inl (cy 2, 40, .inr (.inr (.inr (.inr (pg)))))), (ad 12, .inl (cy 0, 16, .inl (bo)))] ++ (xs ++ (tb ++ op)))) rfl ?_
    refine gw_astore_nN dX11_is_5 (by decide) rfl ?_
    refine gw_aload_nN dX11_is_6 rfl ?_
    refine gw_ifnullN (tgt := 20) dX11_is_7 (by decide) ?_
    refine gw_ldc dX11_is_20 wd_233 ?_
    refine gw_W.wd (w' := bW cy ad sa ta (σ.1) ((sOp σ).length) ((sTr σ).length) nx (σ.2.2.2.2.2.2.1) (σ.2.2.2.2.2.2.2) (σ.2.2.2.2.1) lo pg bo ++ (xs ++ (tb ++ op))) rfl ?_
    refine gw_iret (?_) (by decide) (by decide) rfl dX11_is_22
    subst hpost
    unfold spIs
    rw [if_neg (fun h => by first | exact h2 h.1 | exact absurd (h.2.symm.trans d17) (by decide))]
    exact ⟨rfl, ad, sa, ta, oa, nx, lo, pg, bo, cs, xs, tb, op, td, rfl, List.Perm.refl _, hxs, hcs, htb, hop, hN, hbo⟩
