def isO (σ : aS) (k : Int32) : Bool := inZ k.toInt 0 (((sOp σ).length : Int) - 1)
def opA (σ : aS) (k : Int32) : aO := (sOp σ).getD (tI k) (0, 0, 0, 0, 0)
def spKind (σ : aS) (k : Int32) : Int32 × aS := if isO σ k = true then (nI (opA σ k).1, σ) else (-1000001, σ)
theorem isO_t {n : Nat} {σ : aS} {k v12 v18 : Int32} {a13 a14 a15 a16 a17 : Nat → Int32} (h : mI4 n σ.2.2.2.1 v12 v18 a13 a14 a15 a16 a17) (hk : isO σ k = true) : k = nI (tI k) ∧ tI k < 40 ∧ a13 (tI k) = nI (opA σ k).1 ∧ a14 (tI k) = (opA σ k).2.1 ∧ a15 (tI k) = (opA σ k).2.2.1 ∧ a16 (tI k) = (opA σ k).2.2.2.1 ∧ a17 (tI k) = (opA σ k).2.2.2.2 ∧ opOK n (opA σ k) := by
  obtain ⟨h1, h2, -, h4, h5⟩ := h
  unfold isO at hk
  have e1 := tI_eq hk
  rw [inZ_t] at hk
  have h6 : tI k < σ.2.2.2.1.length := by unfold tI; have e : (sOp σ).length = σ.2.2.2.1.length := rfl; omega
  have e2 : opA σ k = σ.2.2.2.1[tI k] := by
    show σ.2.2.2.1.getD (tI k) (0, 0, 0, 0, 0) = _
    rw [List.getD_eq_getElem?_getD, List.getElem?_eq_getElem h6]; rfl
  have h7 := h5 (tI k) h6
  rw [← e2] at h7
  exact ⟨e1, by omega, h7.1, h7.2.1, h7.2.2.1, h7.2.2.2.1, h7.2.2.2.2, by rw [e2]; exact h4 _ (List.getElem_mem h6)⟩
abbrev kX12_kind : gw_K := (yX12_kind, cX12_kind, 2, { frames := 2, cells := 0, slots := 0, locals := 46 }, (some .int))
theorem ok_X12_kind : gw_calV kX12_kind 1 := ⟨⟨wd_1103, wd_62, by decide, by decide, by decide +kernel⟩, wd_1101, wd_1102⟩
set_option maxHeartbeats 4000000 in
set_option maxRecDepth 100000 in
theorem t_mkind (l : Launch) (cy : Nat → ClassId) (ad : Nat → Nat) (iv : Nat → Int32) (ia : Nat → Nat → Int32) (la : Nat → Nat → Int64) (σ : aS) (hI : mInv σ iv ia la) (k : Int32) : gw_M l kX12_kind cy [.ref (ad 0), .int (k)] (mW cy ad iv ia la) (mPost cy ad (spKind σ k)) := by
  refine gw_M.mk (lv := [some (.ref (ad 0)), some (.int (k))]) (by decide) (Nat.le_of_ble_eq_true rfl) rfl ?_
  generalize hpost : (mPost cy ad (spKind σ k) : gw_Q) = post
  obtain ⟨i1, i2, i3, i4, i5, i6, i7, i8⟩ := hI
  refine gw_aload_n dX12_kind_0 rfl ?_
  refine gw_iload_n dX12_kind_1 rfl ?_
  refine gw_callV 0 (As := [.int (k)]) (st := []) (c_misOp l cy ad iv ia la (k) (sOp σ).length i4.2.1 (Nat.lt_of_le_of_lt i4.1 (by decide))) ok_X12_isOp rfl rfl rfl wd_1104 rfl rfl dX12_kind_2 (by decide) (by decide) (Nat.le_of_ble_eq_true rfl) (fun r2 w2 hp2 => ?_)
  obtain ⟨rfl, rfl⟩ := hp2
  refine gw_W.norm (st' := [.int (bI (isO σ (k)))]) (k1 := 0) (k2 := 0) rfl rfl rfl ?_
  refine gw_if_eq (tgt := 17) dX12_kind_5 (by decide) (fun c5 => ?_) (fun c5 => ?_)
  · rw [bI_0] at c5
    refine gw_ldc dX12_kind_17 wd_903 ?_
    refine gw_iret (?_) (by decide) (by decide) rfl dX12_kind_19
    subst hpost
    unfold spKind
    first
      | (rw [if_pos c5]; exact ⟨rfl, iv, ia, la, rfl, i1, i2, i3, i4, i5, i6, i7, i8⟩)
      | (rw [if_neg (by rw [c5]; decide)]; exact ⟨rfl, iv, ia, la, rfl, i1, i2, i3, i4, i5, i6, i7, i8⟩)
  · rw [bI_n0] at c5
    obtain ⟨d1, d2, d3, d4, d5, d6, d7, d8⟩ := isO_t i4 c5
    refine gw_aload_n dX12_kind_8 rfl ?_
    refine gm_get_kind rfl dX12_kind_9 ?_
    refine gw_iload_n dX12_kind_12 rfl ?_
    refine gm_ld_kind (j := tI k) (d1) (d2) dX12_kind_13 ?_
    refine gw_topi (y := nI ((opA σ k).1)) (d3) ?_
    refine gw_goto (tgt := 19) dX12_kind_14 (by decide) ?_
    refine gw_iret (?_) (by decide) (by decide) rfl dX12_kind_19
    subst hpost
    unfold spKind
    first
      | (rw [if_pos c5]; exact ⟨rfl, iv, ia, la, rfl, i1, i2, i3, i4, i5, i6, i7, i8⟩)
      | (rw [if_neg (by rw [c5]; decide)]; exact ⟨rfl, iv, ia, la, rfl, i1, i2, i3, i4, i5, i6, i7, i8⟩)
theorem op_k8 {n : Nat} {o : aO} (h : opOK n o) : 2 ≤ o.1 ∧ o.1 ≤ 7 := by
  rcases h with h | h | h | h | h <;> omega
def spSpins (σ : aS) (k : Int32) : Int32 × aS := if isO σ k = true then (if (opA σ k).1 = 2 ∨ (opA σ k).1 = 3 then ((opA σ k).2.1, setSt σ 0) else (-1000013, setSt σ 3)) else (-1000001, σ)
abbrev kX12_spins : gw_K := (yX12_spins, cX12_spins, 2, { frames := 2, cells := 0, slots := 0, locals := 46 }, (some .int))
theorem ok_X12_spins : gw_calV kX12_spins 1 := ⟨⟨wd_1115, wd_62, by decide, by decide, by decide +kernel⟩, wd_1113, wd_1114⟩
set_option maxHeartbeats 4000000 in
set_option maxRecDepth 100000 in
theorem t_mspins (l : Launch) (cy : Nat → ClassId) (ad : Nat → Nat) (iv : Nat → Int32) (ia : Nat → Nat → Int32) (la : Nat → Nat → Int64) (σ : aS) (hI : mInv σ iv ia la) (k : Int32) : gw_M l kX12_spins cy [.ref (ad 0), .int (k)] (mW cy ad iv ia la) (mPost cy ad (spSpins σ k)) := by
  refine gw_M.mk (lv := [some (.ref (ad 0)), some (.int (k))]) (by decide) (Nat.le_of_ble_eq_true rfl) rfl ?_
  generalize hpost : (mPost cy ad (spSpins σ k) : gw_Q) = post
  obtain ⟨i1, i2, i3, i4, i5, i6, i7, i8⟩ := hI
  refine gw_aload_n dX12_spins_0 rfl ?_
  refine gw_iload_n dX12_spins_1 rfl ?_
  refine gw_callV 0 (As := [.int (k)]) (st := []) (c_misOp l cy ad iv ia la (k) (sOp σ).length i4.2.1 (Nat.lt_of_le_of_lt i4.1 (by decide))) ok_X12_isOp rfl rfl rfl wd_1104 rfl rfl dX12_spins_2 (by decide) (by decide) (Nat.le_of_ble_eq_true rfl) (fun r2 w2 hp2 => ?_)
  obtain ⟨rfl, rfl⟩ := hp2
  refine gw_W.norm (st' := [.int (bI (isO σ (k)))]) (k1 := 0) (k2 := 0) rfl rfl rfl ?_
  refine gw_if_ne (tgt := 11) dX12_spins_5 (by decide) (fun c5 => ?_) (fun c5 => ?_)
  · rw [bI_n0] at c5
    obtain ⟨d1, d2, d3, d4, d5, d6, d7, d8⟩ := isO_t i4 c5
    refine gw_aload_n dX12_spins_11 rfl ?_
    refine gm_get_kind rfl dX12_spins_12 ?_
    refine gw_iload_n dX12_spins_15 rfl ?_
    refine gm_ld_kind (j := tI k) (d1) (d2) dX12_spins_16 ?_
    refine gw_topi (y := nI ((opA σ k).1)) (d3) ?_
    refine gw_iconst (v := nI (2)) dX12_spins_17 (by decide) ?_
    refine gw_icmpN_eq (tgt := 31) dX12_spins_18 (by decide) (by have := op_k8 d8; omega) (by omega) (fun c18 => ?_) (fun c18 => ?_)
    · refine gw_aload_n dX12_spins_31 rfl ?_
      refine gw_aload_n dX12_spins_32 rfl ?_
      refine gm_get_set rfl dX12_spins_33 ?_
      refine gw_iload_n dX12_spins_36 rfl ?_
      refine gm_ld_set (j := tI k) (d1) (d2) dX12_spins_37 ?_
      refine gw_topi (y := (opA σ k).2.1) (d4) ?_
      refine gw_callV 0 (As := [.int ((opA σ k).2.1)]) (st := []) (c_mwell l cy ad iv ia la ((opA σ k).2.1)) ok_X12_well rfl rfl rfl wd_909 rfl rfl dX12_spins_38 (by decide) (by decide) (Nat.le_of_ble_eq_true rfl) (fun r38 w38 hp38 => ?_)
      obtain ⟨rfl, rfl⟩ := hp38
      refine gw_W.wd (w' := (mW cy ad (va_up iv 19 (0)) ia la)) rfl ?_
      refine gw_W.norm (st' := [.int ((opA σ k).2.1)]) (k1 := 0) (k2 := 0) rfl rfl rfl ?_
      refine gw_goto (tgt := 49) dX12_spins_41 (by decide) ?_
      refine gw_iret (?_) (by decide) (by decide) rfl dX12_spins_49
      subst hpost
      unfold spSpins
      rw [if_pos c5]
      first
        | (rw [if_pos (Or.inl c18)]; exact ⟨rfl, _, _, _, rfl, i1, i2, i3, i4, rfl, i6, i7, i8⟩)
        | (rw [if_pos (Or.inr c28)]; exact ⟨rfl, _, _, _, rfl, i1, i2, i3, i4, rfl, i6, i7, i8⟩)
        | (rw [if_neg (fun h => h.elim c18 c28)]; exact ⟨rfl, _, _, _, rfl, i1, i2, i3, i4, rfl, i6, i7, i8⟩)
    · refine gw_aload_n dX12_spins_21 rfl ?_
      refine gm_get_kind rfl dX12_spins_22 ?_
      refine gw_iload_n dX12_spins_25 rfl ?_
      refine gm_ld_kind (j := tI k) (d1) (d2) dX12_spins_26 ?_
      refine gw_topi (y := nI ((opA σ k).1)) (d3) ?_
      refine gw_iconst (v := nI (3)) dX12_spins_27 (by decide) ?_
      refine gw_icmpN_ne (tgt := 44) dX12_spins_28 (by decide) (by have := op_k8 d8; omega) (by omega) (fun c28 => ?_) (fun c28 => ?_)
      · refine gw_aload_n dX12_spins_44 rfl ?_
        refine gw_iconst (v := nI (3)) dX12_spins_45 (by decide) ?_
        refine gw_callV 0 (As := [.int (nI (3))]) (st := []) (c_mfinds l cy ad iv ia la (nI (3))) ok_X12_finds rfl rfl rfl wd_904 rfl rfl dX12_spins_46 (by decide) (by decide) (Nat.le_of_ble_eq_true rfl) (fun r46 w46 hp46 => ?_)
        obtain ⟨rfl, rfl⟩ := hp46
        refine gw_W.wd (w' := (mW cy ad (va_up iv 19 (nI (3))) ia la)) rfl ?_
        refine gw_W.norm (st' := [.int ((-1000010) - (nI (3)))]) (k1 := 0) (k2 := 0) rfl rfl rfl ?_
        refine gw_iret (?_) (by decide) (by decide) rfl dX12_spins_49
        subst hpost
        unfold spSpins
        rw [if_pos c5]
        first
          | (rw [if_pos (Or.inl c18)]; exact ⟨rfl, _, _, _, rfl, i1, i2, i3, i4, rfl, i6, i7, i8⟩)
          | (rw [if_pos (Or.inr c28)]; exact ⟨rfl, _, _, _, rfl, i1, i2, i3, i4, rfl, i6, i7, i8⟩)
          | (rw [if_neg (fun h => h.elim c18 c28)]; exact ⟨rfl, _, _, _, rfl, i1, i2, i3, i4, rfl, i6, i7, i8⟩)
      · refine gw_aload_n dX12_spins_31 rfl ?_
        refine gw_aload_n dX12_spins_32 rfl ?_
        refine gm_get_set rfl dX12_spins_33 ?_
        refine gw_iload_n dX12_spins_36 rfl ?_
        refine gm_ld_set (j := tI k) (d1) (d2) dX12_spins_37 ?_
        refine gw_topi (y := (opA σ k).2.1) (d4) ?_
        refine gw_callV 0 (As := [.int ((opA σ k).2.1)]) (st := []) (c_mwell l cy ad iv ia la ((opA σ k).2.1)) ok_X12_well rfl rfl rfl wd_909 rfl rfl dX12_spins_38 (by decide) (by decide) (Nat.le_of_ble_eq_true rfl) (fun r38 w38 hp38 => ?_)
        obtain ⟨rfl, rfl⟩ := hp38
        refine gw_W.wd (w' := (mW cy ad (va_up iv 19 (0)) ia la)) rfl ?_
        refine gw_W.norm (st' := [.int ((opA σ k).2.1)]) (k1 := 0) (k2 := 0) rfl rfl rfl ?_
        refine gw_goto (tgt := 49) dX12_spins_41 (by decide) ?_
        refine gw_iret (?_) (by decide) (by decide) rfl dX12_spins_49
        subst hpost
        unfold spSpins
        rw [if_pos c5]
        first
          | (rw [if_pos (Or.inl c18)]; exact ⟨rfl, _, _, _, rfl, i1, i2, i3, i4, rfl, i6, i7, i8⟩)
          | (rw [if_pos (Or.inr c28)]; exact ⟨rfl, _, _, _, rfl, i1, i2, i3, i4, rfl, i6, i7, i8⟩)
          | (rw [if_neg (fun h => h.elim c18 c28)]; exact ⟨rfl, _, _, _, rfl, i1, i2, i3, i4, rfl, i6, i7, i8⟩)
  · rw [bI_0] at c5
    refine gw_ldc dX12_spins_8 wd_903 ?_
    refine gw_iret (?_) (by decide) (by decide) rfl dX12_spins_10
    subst hpost
    unfold spSpins
    rw [if_neg (by rw [c5]; decide)]
    exact ⟨rfl, iv, ia, la, rfl, i1, i2, i3, i4, i5, i6, i7, i8⟩
