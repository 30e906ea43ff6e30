def isO (σ : aS) (k : Int32) : Bool := inZ k.toInt 0 (((sOp σ).length : Int) - 1)
def opA (σ : aS) (k : Int32) : aO := (sOp σ).getD (tI k) (0, 0, 0, 0, 0)
def spKind (σ : aS) (k : Int32) : Int32 × aS := if isO σ k = true then (nI (opA σ k).1, σ) else (-1000001, σ)
theorem isO_t {n : Nat} {σ : aS} {k v12 v18 : Int32} {a13 a14 a15 a16 a17 : Nat → Int32} (h : mI4 n σ.2.2.2.1 v12 v18 a13 a14 a15 a16 a17) (hk : isO σ k = true) : k = nI (tI k) ∧ tI k < 40 ∧ a13 (tI k) = nI (opA σ k).1 ∧ a14 (tI k) = (opA σ k).2.1 ∧ a15 (tI k) = (opA σ k).2.2.1 ∧ a16 (tI k) = (opA σ k).2.2.2.1 ∧ a17 (tI k) = (opA σ k).2.2.2.2 ∧ opOK n (opA σ k) := by
  obtain ⟨h1, h2, -, h4, h5⟩ := h
  unfold isO at hk
  have e1 := tI_eq hk
  rw [inZ_t] at hk
  have h6 : tI k < σ.2.2.2.1.length := by unfold tI; have e : (sOp σ).length = σ.2.2.2.1.length := rfl; omega
  have e2 : opA σ k = σ.2.2.2.1[tI k] := by
    show σ.2.2.2.1.getD (tI k) (0, 0, 0, 0, 0) = _
    rw [List.getD_eq_getElem?_getD, List.getElem?_eq_getElem h6]; rfl
  have h7 := h5 (tI k) h6
  rw [← e2] at h7
  exact ⟨e1, by omega, h7.1, h7.2.1, h7.2.2.1, h7.2.2.2.1, h7.2.2.2.2, by rw [e2]; exact h4 _ (List.getElem_mem h6)⟩
abbrev kX12_kind : gw_K := (yX12_kind, cX12_kind, 2, { frames := 2, cells := 0, slots := 0, locals := 46 }, (some .int))
theorem ok_X12_kind : gw_calV kX12_kind 1 := ⟨⟨wd_1103, wd_62, by decide, by decide, by decide +kernel⟩, wd_1101, wd_1102⟩
set_option maxHeartbeats 4000000 in
set_option maxRecDepth 100000 in
theorem t_mkind (l : Launch) (cy : Nat → ClassId) (ad : Nat → Nat) (iv : Nat → Int32) (ia : Nat → Nat → Int32) (la : Nat → Nat → Int64) (σ : aS) (hI : mInv σ iv ia la) (k : Int32) : gw_M l kX12_kind cy [.ref (ad 0), .int (k)] (mW cy ad iv ia la) (mPost cy ad (spKind σ k)) := by
  refine gw_M.mk (lv := [some (.ref (ad 0)), some (.int (k))]) (by decide) (Nat.le_of_ble_eq_true rfl) rfl ?_
  generalize hpost : (mPost cy ad (spKind σ k) : gw_Q) = post
  obtain ⟨i1, i2, i3, i4, i5, i6, i7, i8⟩ := hI
  refine gw_aload_n dX12_kind_0 rfl ?_
  refine gw_iload_n dX12_kind_1 rfl ?_
  refine gw_callV 0 (As := [.int (k)]) (st := []) (c_misOp l cy ad iv ia la (k) (sOp σ).length i4.2.1 (Nat.lt_of_le_of_lt i4.1 (by decide))) ok_X12_isOp rfl rfl rfl wd_1104 rfl rfl dX12_kind_2 (by decide) (by decide) (Nat.le_of_ble_eq_true rfl) (fun r2 w2 hp2 => ?_)
  obtain ⟨rfl, rfl⟩ := hp2
  refine gw_W.norm (st' := [.int (bI (isO σ (k)))]) (k1 := 0) (k2 := 0) rfl rfl rfl ?_
  refine gw_if_eq (tgt := 17) dX12_kind_5 (by decide) (fun c5 => ?_) (fun c5 => ?_)
  · rw [bI_0] at c5
    refine gw_ldc dX12_kind_17 wd_903 ?_
    refine gw_iret (?_) (by decide) (by decide) rfl dX12_kind_19
    subst hpost
    unfold spKind
    first
      | (rw [if_pos c5]; exact ⟨rfl, iv, ia, la, rfl, i1, i2, i3, i4, i5, i6, i7, i8⟩)
      | (rw [if_neg (by rw [c5]; decide)]; exact ⟨rfl, iv, ia, la, rfl, i1, i2, i3, i4, i5, i6, i7, i8⟩)
  · rw [bI_n0] at c5
    obtain ⟨d1, d2, d3, d4, d5, d6, d7, d8⟩ := isO_t i4 c5
    refine gw_aload_n dX12_kind_8 rfl ?_
    refine gm_get_kind rfl dX12_kind_9 ?_
    refine gw_iload_n dX12_kind_12 rfl ?_
    refine gm_ld_kind (j := tI k) (d1) (d2) dX12_kind_13 ?_
    refine gw_topi (y := nI ((opA σ k).1)) (d3) ?_
    refine gw_goto (tgt := 19) dX12_kind_14 (by decide) ?_
    refine gw_iret (?_) (by decide) (by decide) rfl dX12_kind_19
    subst hpost
    unfold spKind
    first
      | (rw [if_pos c5]; exact ⟨rfl, iv, ia, la, rfl, i1, i2, i3, i4, i5, i6, i7, i8⟩)
      | (rw [if_neg (by rw [c5]; decide)]; exact ⟨rfl, iv, ia, la, rfl, i1, i2, i3, i4, i5, i6, i7, i8⟩)
theorem op_k8 {n : Nat} {o : aO} (h : opOK n o) : 2 ≤ o.1 ∧ o.1 ≤ 7 := by
  rcases h with h | h | h | h | h <;> omega
def spSpins (σ : aS) (k : Int32) : Int32 × aS := if isO σ k = true then (if (opA σ k).1 = 2 ∨ (opA σ k).1 = 3 then ((opA σ k).2.1, setSt σ 0) else (-1000013, setSt σ 3)) else (-1000001, σ)
abbrev kX12_spins : gw_K := (yX12_spins, cX12_spins, 2, { frames := 2, cells := 0, slots := 0, locals := 46 }, (some .int))
theorem ok_X12_spins : gw_calV kX12_spins 1 := ⟨⟨wd_1115, wd_62, by decide, by decide, by decide +kernel⟩, wd_1113, wd_1114⟩
set_option maxHeartbeats 4000000 in
set_option maxRecDepth 100000 in
theorem t_mspins (l : Launch) (cy : Nat → ClassId) (ad : Nat → Nat) (iv : Nat → Int32) (ia : Nat → Nat → Int32) (la : Nat → Nat → Int64) (σ : aS) (hI : mInv σ iv ia la) (k : Int32) : gw_M l kX12_spins cy [.ref (ad 0), .int (k)] (mW cy ad iv ia la) (mPost cy ad (spSpins σ k)) := by
  refine gw_M.mk (lv := [some (.ref (ad 0)), some (.int (k))]) (by decide) (Nat.le_of_ble_eq_true rfl) rfl ?_
  generalize hpost : (mPost cy ad (spSpins σ k) : gw_Q) = post
  obtain ⟨i1, i2, i3, i4, i5, i6, i7, i8⟩ := hI
  refine gw_aload_n dX12_spins_0 rfl ?_
  refine gw_iload_n dX12_spins_1 rfl ?_
  refine gw_callV 0 (As := [.int (k)]) (st := []) (c_misOp l cy ad iv ia la (k) (sOp σ).length i4.2.1 (Nat.lt_of_le_of_lt i4.1 (by decide))) ok_X12_isOp rfl rfl rfl wd_1104 rfl rfl dX12_spins_2 (by decide) (by decide) (Nat.le_of_ble_eq_true rfl) (fun r2 w2 hp2 => ?_)
  obtain ⟨rfl, rfl⟩ := hp2
  refine gw_W.norm (st' := [.int (bI (isO σ (k)))]) (k1 := 0) (k2 := 0) rfl rfl rfl ?_
  refine gw_if_ne (tgt := 11) dX12_spins_5 (by decide) (fun c5 => ?_) (fun c5 => ?_)
  · rw [bI_n0] at c5
    obtain ⟨d1, d2, d3, d4, d5, d6, d7, d8⟩ := isO_t i4 c5
    refine gw_aload_n dX12_spins_11 rfl ?_
    refine gm_get_kind rfl dX12_spins_12 ?_
    refine gw_iload_n dX12_spins_15 rfl ?_
    refine gm_ld_kind (j := tI k) (d1) (d2) dX12_spins_16 ?_
    refine gw_topi (y := nI ((opA σ k).1)) (d3) ?_
    refine gw_iconst (v := nI (2)) dX12_spins_17 (by decide) ?_
    refine gw_icmpN_eq (tgt := 31) dX12_spins_18 (by decide) (by have := op_k8 d8; omega) (by omega) (fun c18 => ?_) (fun c18 => ?_)
    · refine gw_aload_n dX12_spins_31 rfl ?_
      refine gw_aload_n dX12_spins_32 rfl ?_
      refine gm_get_set rfl dX12_spins_33 ?_
      refine gw_iload_n dX12_spins_36 rfl ?_
      refine gm_ld_set (j := tI k) (d1) (d2) dX12_spins_37 ?_
      refine gw_topi (y := (opA σ k).2.1) (d4) ?_
      refine gw_callV 0 (As := [.int ((opA σ k).2.1)]) (st := []) (c_mwell l cy ad iv ia la ((opA σ k).2.1)) ok_X12_well rfl rfl rfl wd_909 rfl rfl dX12_spins_38 (by decide) (by decide) (Nat.le_of_ble_eq_true rfl) (fun r38 w38 hp38 => ?_)
      obtain ⟨rfl, rfl⟩ := hp38
      refine gw_W.wd (w' := (mW cy ad (va_up iv 19 (0)) ia la)) rfl ?_
      refine gw_W.norm (st' := [.int ((opA σ k).2.1)]) (k1 := 0) (k2 := 0) rfl rfl rfl ?_
      refine gw_goto (tgt := 49) dX12_spins_41 (by decide) ?_
      refine gw_iret (?_) (by decide) (by decide) rfl dX12_spins_49
      subst hpost
      unfold spSpins
      rw [if_pos c5]
      first
        | (rw [if_pos (Or.inl c18)]; exact ⟨rfl, _, _, _, rfl, i1, i2, i3, i4, rfl, i6, i7, i8⟩)
        | (rw [if_pos (Or.inr c28)]; exact ⟨rfl, _, _, _, rfl, i1, i2, i3, i4, rfl, i6, i7, i8⟩)
        | (rw [if_neg (fun h => h.elim c18 c28)]; exact ⟨rfl, _, _, _, rfl, i1, i2, i3, i4, rfl, i6, i7, i8⟩)
    · refine gw_aload_n dX12_spins_21 rfl ?_
      refine gm_get_kind rfl dX12_spins_22 ?_
      refine gw_iload_n dX12_spins_25 rfl ?_
      refine gm_ld_kind (j := tI k) (d1) (d2) dX12_spins_26 ?_
      refine gw_topi (y := nI ((opA σ k).1)) (d3) ?_
      refine gw_iconst (v := nI (3)) dX12_spins_27 (by decide) ?_
      refine gw_icmpN_ne (tgt := 44) dX12_spins_28 (by decide) (by have := op_k8 d8; omega) (by omega) (fun c28 => ?_) (fun c28 => ?_)
      · refine gw_aload_n dX12_spins_44 rfl ?_
        refine gw_iconst (v := nI (3)) dX12_spins_45 (by decide) ?_
        refine gw_callV 0 (As := [.int (nI (3))]) (st := []) (c_mfinds l cy ad iv ia la (nI (3))) ok_X12_finds rfl rfl rfl wd_904 rfl rfl dX12_spins_46 (by decide) (by decide) (Nat.le_of_ble_eq_true rfl) (fun r46 w46 hp46 => ?_)
        obtain ⟨rfl, rfl⟩ := hp46
        refine gw_W.wd (w' := (mW cy ad (va_up iv 19 (nI (3))) ia la)) rfl ?_
        refine gw_W.norm (st' := [.int ((-1000010) - (nI (3)))]) (k1 := 0) (k2 := 0) rfl rfl rfl ?_
        refine gw_iret (?_) (by decide) (by decide) rfl dX12_spins_49
        subst hpost
        unfold spSpins
        rw [if_pos c5]
        first
          | (rw [if_pos (Or.inl c18)]; exact ⟨rfl, _, _, _, rfl, i1, i2, i3, i4, rfl, i6, i7, i8⟩)
          | (rw [if_pos (Or.inr c28)]; exact ⟨rfl, _, _, _, rfl, i1, i2, i3, i4, rfl, i6, i7, i8⟩)
          | (rw [if_neg (fun h => h.elim c18 c28)]; exact ⟨rfl, _, _, _, rfl, i1, i2, i3, i4, rfl, i6, i7, i8⟩)
      · refine gw_aload_n dX12_spins_31 rfl ?_
        refine gw_aload_n dX12_spins_32 rfl ?_
        refine gm_get_set rfl dX12_spins_33 ?_
        refine gw_iload_n dX12_spins_36 rfl ?_
        refine gm_ld_set (j := tI k) (d1) (d2) dX12_spins_37 ?_
        refine gw_topi (y := (opA σ k).2.1) (d4) ?_
        refine gw_callV 0 (As := [.int ((opA σ k).2.1)]) (st := []) (c_mwell l cy ad iv ia la ((opA σ k).2.1)) ok_X12_well rfl rfl rfl wd_909 rfl rfl dX12_spins_38 (by decide) (by decide) (Nat.le_of_ble_eq_true rfl) (fun r38 w38 hp38 => ?_)
        obtain ⟨rfl, rfl⟩ := hp38
        refine gw_W.wd (w' := (mW cy ad (va_up iv 19 (0)) ia la)) rfl ?_
        refine gw_W.norm (st' := [.int ((opA σ k).2.1)]) (k1 := 0) (k2 := 0) rfl rfl rfl ?_
        refine gw_goto (tgt := 49) dX12_spins_41 (by decide) ?_
        refine gw_iret (?_) (by decide) (by decide) rfl dX12_spins_49
        subst hpost
        unfold spSpins
        rw [if_pos c5]
        first
          | (rw [if_pos (Or.inl c18)]; exact ⟨rfl, _, _, _, rfl, i1, i2, i3, i4, rfl, i6, i7, i8⟩)
          | (rw [if_pos (Or.inr c28)]; exact ⟨rfl, _, _, _, rfl, i1, i2, i3, i4, rfl, i6, i7, i8⟩)
          | (rw [if_neg (fun h => h.elim c18 c28)]; exact ⟨rfl, _, _, _, rfl, i1, i2, i3, i4, rfl, i6, i7, i8⟩)
  · rw [bI_0] at c5
    refine gw_ldc dX12_spins_8 wd_903 ?_
    refine gw_iret (?_) (by decide) (by decide) rfl dX12_spins_10
    subst hpost
    unfold spSpins
    rw [if_neg (by rw [c5]; decide)]
    exact ⟨rfl, iv, ia, la, rfl, i1, i2, i3, i4, i5, i6, i7, i8⟩
def isK (own kd : Nat) : Bool := decide (own = kd ∨ kd = 0 ∨ (kd = 1 ∧ own < 5) ∨ (kd = 2 ∧ own = 3))
def spIs (σ : aS) (k v : Int32) : Int32 × aS := if isO σ k = true ∧ inZ v.toInt 0 7 = true then (bI (isK (opA σ k).1 (tI v)), σ) else (-1000001, σ)
abbrev kX12_is : gw_K := (yX12_is, cX12_is, 4, { frames := 2, cells := 0, slots := 0, locals := 46 }, (some .int))
theorem ok_X12_is : gw_calV kX12_is 2 := ⟨⟨wd_1111, wd_62, by decide, by decide, by decide +kernel⟩, wd_1109, wd_1110⟩
set_option maxHeartbeats 4000000 in
set_option maxRecDepth 100000 in
theorem t_mis (l : Launch) (cy : Nat → ClassId) (ad : Nat → Nat) (iv : Nat → Int32) (ia : Nat → Nat → Int32) (la : Nat → Nat → Int64) (σ : aS) (hI : mInv σ iv ia la) (k v : Int32) : gw_M l kX12_is cy [.ref (ad 0), .int (k), .int (v)] (mW cy ad iv ia la) (mPost cy ad (spIs σ k v)) := by
  refine gw_M.mk (lv := [some (.ref (ad 0)), some (.int (k)), some (.int (v)), none]) (by decide) (Nat.le_of_ble_eq_true rfl) rfl ?_
  generalize hpost : (mPost cy ad (spIs σ k v) : gw_Q) = post
  obtain ⟨i1, i2, i3, i4, i5, i6, i7, i8⟩ := hI
  refine gw_aload_n dX12_is_0 rfl ?_
  refine gw_iload_n dX12_is_1 rfl ?_
  refine gw_callV 0 (As := [.int (k)]) (st := []) (c_misOp l cy ad iv ia la (k) (sOp σ).length i4.2.1 (Nat.lt_of_le_of_lt i4.1 (by decide))) ok_X12_isOp rfl rfl rfl wd_1104 rfl rfl dX12_is_2 (by decide) (by decide) (Nat.le_of_ble_eq_true rfl) (fun r2 w2 hp2 => ?_)
  obtain ⟨rfl, rfl⟩ := hp2
  refine gw_W.norm (st' := [.int (bI (isO σ (k)))]) (k1 := 0) (k2 := 0) rfl rfl rfl ?_
  refine gw_if_eq (tgt := 20) dX12_is_5 (by decide) (fun c5 => ?_) (fun c5 => ?_)
  · rw [bI_0] at c5
    refine gw_ldc dX12_is_20 wd_903 ?_
    refine gw_iret (?_) (by decide) (by decide) rfl dX12_is_22
    subst hpost
    unfold spIs
    rw [if_neg (fun h => by first | exact absurd h.1 (by rw [c5]; decide) | exact absurd h.2 (by rw [cv]; decide))]
    exact ⟨rfl, iv, ia, la, rfl, i1, i2, i3, i4, i5, i6, i7, i8⟩
  · rw [bI_n0] at c5
    obtain ⟨d1, d2, d3, d4, d5, d6, d7, d8⟩ := isO_t i4 c5
    refine gw_iload_n dX12_is_8 rfl ?_
    refine gw_i2l dX12_is_9 rfl ?_
    refine gw_lconst (v := (0 : Int64)) dX12_is_10 (by decide) ?_
    refine gw_ldc2 dX12_is_11 wd_898 ?_
    refine gw_callS (As := [.long ((v).toInt64), .long ((0 : Int64)), .long ((7 : Int64))]) (st := []) (c_min l cy ((v).toInt64) ((0 : Int64)) ((7 : Int64)) (mW cy ad iv ia la)) ok_X12_in wd_899 rfl rfl dX12_is_14 (by decide) (by decide) (Nat.le_of_ble_eq_true rfl) (fun r14 w14 hp14 => ?_)
    obtain ⟨rfl, rfl⟩ := hp14
    refine gw_W.norm (st' := [.int (bI (inZ ((v).toInt64).toInt ((0 : Int64)).toInt ((7 : Int64)).toInt))]) (k1 := 0) (k2 := 0) rfl rfl rfl ?_
    refine gw_if_ne (tgt := 23) dX12_is_17 (by decide) (fun c17 => ?_) (fun c17 => ?_)
    · rw [bI_n0, i64_of] at c17
      have cv : inZ v.toInt 0 7 = true := c17
      have v9 := tI_eq cv
      have v8 : tI v < 8 := tI_lt cv
      refine gw_aload_n dX12_is_23 rfl ?_
      refine gm_get_kind rfl dX12_is_24 ?_
      refine gw_iload_n dX12_is_27 rfl ?_
      refine gm_ld_kind (j := tI k) (d1) (d2) dX12_is_28 ?_
      refine gw_topi (y := nI ((opA σ k).1)) (d3) ?_
      refine gw_istore_n dX12_is_29 (by decide) rfl ?_
      refine gw_iload_n dX12_is_30 rfl ?_
      refine gw_iload_n dX12_is_31 rfl ?_
      refine gw_topi (y := nI (tI v)) (v9) ?_
      refine gw_icmpN_eq (tgt := 59) dX12_is_32 (by decide) (by have := op_k8 d8; omega) (by omega) (fun c32 => ?_) (fun c32 => ?_)
      · refine gw_iconst (v := nI (1)) dX12_is_59 (by decide) ?_
        refine gw_goto (tgt := 64) dX12_is_60 (by decide) ?_
        refine gw_iret (?_) (by decide) (by decide) rfl dX12_is_64
        subst hpost
        unfold spIs
        rw [if_pos ⟨c5, cv⟩]
        first
          | (exact ⟨by rw [show isK (opA σ k).1 (tI v) = true from decide_eq_true (by omega)]; rfl, iv, ia, la, rfl, i1, i2, i3, i4, i5, i6, i7, i8⟩)
          | (exact ⟨by rw [show isK (opA σ k).1 (tI v) = false from decide_eq_false (by omega)]; rfl, iv, ia, la, rfl, i1, i2, i3, i4, i5, i6, i7, i8⟩)
      · refine gw_iload_n dX12_is_35 rfl ?_
        refine gw_topi (y := nI (tI v)) (v9) ?_
        refine gw_ifN_eq (tgt := 59) dX12_is_36 (by decide) (by omega) (fun c36 => ?_) (fun c36 => ?_)
        · refine gw_iconst (v := nI (1)) dX12_is_59 (by decide) ?_
          refine gw_goto (tgt := 64) dX12_is_60 (by decide) ?_
          refine gw_iret (?_) (by decide) (by decide) rfl dX12_is_64
          subst hpost
          unfold spIs
          rw [if_pos ⟨c5, cv⟩]
          first
            | (exact ⟨by rw [show isK (opA σ k).1 (tI v) = true from decide_eq_true (by omega)]; rfl, iv, ia, la, rfl, i1, i2, i3, i4, i5, i6, i7, i8⟩)
            | (exact ⟨by rw [show isK (opA σ k).1 (tI v) = false from decide_eq_false (by omega)]; rfl, iv, ia, la, rfl, i1, i2, i3, i4, i5, i6, i7, i8⟩)
        · refine gw_iload_n dX12_is_39 rfl ?_
          refine gw_topi (y := nI (tI v)) (v9) ?_
          refine gw_iconst (v := nI (1)) dX12_is_40 (by decide) ?_
          refine gw_icmpN_ne (tgt := 49) dX12_is_41 (by decide) (by omega) (by omega) (fun c41 => ?_) (fun c41 => ?_)
          · refine gw_iload_n dX12_is_49 rfl ?_
            refine gw_topi (y := nI (tI v)) (v9) ?_
            refine gw_iconst (v := nI (2)) dX12_is_50 (by decide) ?_
            refine gw_icmpN_ne (tgt := 63) dX12_is_51 (by decide) (by omega) (by omega) (fun c51 => ?_) (fun c51 => ?_)
            · refine gw_iconst (v := nI (0)) dX12_is_63 (by decide) ?_
              refine gw_iret (?_) (by decide) (by decide) rfl dX12_is_64
              subst hpost
              unfold spIs
              rw [if_pos ⟨c5, cv⟩]
              first
                | (exact ⟨by rw [show isK (opA σ k).1 (tI v) = true from decide_eq_true (by omega)]; rfl, iv, ia, la, rfl, i1, i2, i3, i4, i5, i6, i7, i8⟩)
                | (exact ⟨by rw [show isK (opA σ k).1 (tI v) = false from decide_eq_false (by omega)]; rfl, iv, ia, la, rfl, i1, i2, i3, i4, i5, i6, i7, i8⟩)
            · refine gw_iload_n dX12_is_54 rfl ?_
              refine gw_iconst (v := nI (3)) dX12_is_55 (by decide) ?_
              refine gw_icmpN_ne (tgt := 63) dX12_is_56 (by decide) (by have := op_k8 d8; omega) (by omega) (fun c56 => ?_) (fun c56 => ?_)
              · refine gw_iconst (v := nI (0)) dX12_is_63 (by decide) ?_
                refine gw_iret (?_) (by decide) (by decide) rfl dX12_is_64
                subst hpost
                unfold spIs
                rw [if_pos ⟨c5, cv⟩]
                first
                  | (exact ⟨by rw [show isK (opA σ k).1 (tI v) = true from decide_eq_true (by omega)]; rfl, iv, ia, la, rfl, i1, i2, i3, i4, i5, i6, i7, i8⟩)
                  | (exact ⟨by rw [show isK (opA σ k).1 (tI v) = false from decide_eq_false (by omega)]; rfl, iv, ia, la, rfl, i1, i2, i3, i4, i5, i6, i7, i8⟩)
              · refine gw_iconst (v := nI (1)) dX12_is_59 (by decide) ?_
                refine gw_goto (tgt := 64) dX12_is_60 (by decide) ?_
                refine gw_iret (?_) (by decide) (by decide) rfl dX12_is_64
                subst hpost
                unfold spIs
                rw [if_pos ⟨c5, cv⟩]
                first
                  | (exact ⟨by rw [show isK (opA σ k).1 (tI v) = true from decide_eq_true (by omega)]; rfl, iv, ia, la, rfl, i1, i2, i3, i4, i5, i6, i7, i8⟩)
                  | (exact ⟨by rw [show isK (opA σ k).1 (tI v) = false from decide_eq_false (by omega)]; rfl, iv, ia, la, rfl, i1, i2, i3, i4, i5, i6, i7, i8⟩)
          · refine gw_iload_n dX12_is_44 rfl ?_
            refine gw_iconst (v := nI (5)) dX12_is_45 (by decide) ?_
            refine gw_icmpN_lt (tgt := 59) dX12_is_46 (by decide) (by have := op_k8 d8; omega) (by omega) (fun c46 => ?_) (fun c46 => ?_)
            · refine gw_iconst (v := nI (1)) dX12_is_59 (by decide) ?_
              refine gw_goto (tgt := 64) dX12_is_60 (by decide) ?_
              refine gw_iret (?_) (by decide) (by decide) rfl dX12_is_64
              subst hpost
              unfold spIs
              rw [if_pos ⟨c5, cv⟩]
              first
                | (exact ⟨by rw [show isK (opA σ k).1 (tI v) = true from decide_eq_true (by omega)]; rfl, iv, ia, la, rfl, i1, i2, i3, i4, i5, i6, i7, i8⟩)
                | (exact ⟨by rw [show isK (opA σ k).1 (tI v) = false from decide_eq_false (by omega)]; rfl, iv, ia, la, rfl, i1, i2, i3, i4, i5, i6, i7, i8⟩)
            · refine gw_iload_n dX12_is_49 rfl ?_
              refine gw_topi (y := nI (tI v)) (v9) ?_
              refine gw_iconst (v := nI (2)) dX12_is_50 (by decide) ?_
              refine gw_icmpN_ne (tgt := 63) dX12_is_51 (by decide) (by omega) (by omega) (fun c51 => ?_) (fun c51 => ?_)
              · refine gw_iconst (v := nI (0)) dX12_is_63 (by decide) ?_
                refine gw_iret (?_) (by decide) (by decide) rfl dX12_is_64
                subst hpost
                unfold spIs
                rw [if_pos ⟨c5, cv⟩]
                first
                  | (exact ⟨by rw [show isK (opA σ k).1 (tI v) = true from decide_eq_true (by omega)]; rfl, iv, ia, la, rfl, i1, i2, i3, i4, i5, i6, i7, i8⟩)
                  | (exact ⟨by rw [show isK (opA σ k).1 (tI v) = false from decide_eq_false (by omega)]; rfl, iv, ia, la, rfl, i1, i2, i3, i4, i5, i6, i7, i8⟩)
              · refine gw_iload_n dX12_is_54 rfl ?_
                refine gw_iconst (v := nI (3)) dX12_is_55 (by decide) ?_
                refine gw_icmpN_ne (tgt := 63) dX12_is_56 (by decide) (by have := op_k8 d8; omega) (by omega) (fun c56 => ?_) (fun c56 => ?_)
                · refine gw_iconst (v := nI (0)) dX12_is_63 (by decide) ?_
                  refine gw_iret (?_) (by decide) (by decide) rfl dX12_is_64
                  subst hpost
                  unfold spIs
                  rw [if_pos ⟨c5, cv⟩]
                  first
                    | (exact ⟨by rw [show isK (opA σ k).1 (tI v) = true from decide_eq_true (by omega)]; rfl, iv, ia, la, rfl, i1, i2, i3, i4, i5, i6, i7, i8⟩)
                    | (exact ⟨by rw [show isK (opA σ k).1 (tI v) = false from decide_eq_false (by omega)]; rfl, iv, ia, la, rfl, i1, i2, i3, i4, i5, i6, i7, i8⟩)
                · refine gw_iconst (v := nI (1)) dX12_is_59 (by decide) ?_
                  refine gw_goto (tgt := 64) dX12_is_60 (by decide) ?_
                  refine gw_iret (?_) (by decide) (by decide) rfl dX12_is_64
                  subst hpost
                  unfold spIs
                  rw [if_pos ⟨c5, cv⟩]
                  first
                    | (exact ⟨by rw [show isK (opA σ k).1 (tI v) = true from decide_eq_true (by omega)]; rfl, iv, ia, la, rfl, i1, i2, i3, i4, i5, i6, i7, i8⟩)
                    | (exact ⟨by rw [show isK (opA σ k).1 (tI v) = false from decide_eq_false (by omega)]; rfl, iv, ia, la, rfl, i1, i2, i3, i4, i5, i6, i7, i8⟩)
    · rw [bI_0, i64_of] at c17
      have cv : inZ v.toInt 0 7 = false := c17
      refine gw_ldc dX12_is_20 wd_903 ?_
      refine gw_iret (?_) (by decide) (by decide) rfl dX12_is_22
      subst hpost
      unfold spIs
      rw [if_neg (fun h => by first | exact absurd h.1 (by rw [c5]; decide) | exact absurd h.2 (by rw [cv]; decide))]
      exact ⟨rfl, iv, ia, la, rfl, i1, i2, i3, i4, i5, i6, i7, i8⟩
def spTrace (σ : aS) (i : Int32) : Int32 × aS := if inZ i.toInt 0 (((sTr σ).length : Int) - 1) = true then ((sTr σ).getD (tI i) 0, σ) else (-1000000, σ)
abbrev kX12_trace : gw_K := (yX12_trace, cX12_trace, 2, { frames := 1, cells := 0, slots := 0, locals := 25 }, (some .int))
theorem ok_X12_trace : gw_calV kX12_trace 1 := ⟨⟨wd_1139, wd_62, by decide, by decide, by decide +kernel⟩, wd_1137, wd_1138⟩
set_option maxHeartbeats 4000000 in
set_option maxRecDepth 100000 in
theorem t_mtrace (l : Launch) (cy : Nat → ClassId) (ad : Nat → Nat) (iv : Nat → Int32) (ia : Nat → Nat → Int32) (la : Nat → Nat → Int64) (σ : aS) (hI : mInv σ iv ia la) (i : Int32) : gw_M l kX12_trace cy [.ref (ad 0), .int (i)] (mW cy ad iv ia la) (mPost cy ad (spTrace σ i)) := by
  refine gw_M.mk (lv := [some (.ref (ad 0)), some (.int (i))]) (by decide) (Nat.le_of_ble_eq_true rfl) rfl ?_
  generalize hpost : (mPost cy ad (spTrace σ i) : gw_Q) = post
  obtain ⟨i1, i2, i3, i4, i5, i6, i7, i8⟩ := hI
  have t1 : (sTr σ).length ≤ 16 := i6.1
  have t2 : iv 21 = nI (sTr σ).length := i6.2.1
  refine gw_iload_n dX12_trace_0 rfl ?_
  refine gw_i2l dX12_trace_1 rfl ?_
  refine gw_lconst (v := (0 : Int64)) dX12_trace_2 (by decide) ?_
  refine gw_aload_n dX12_trace_3 rfl ?_
  refine gm_get_traced rfl dX12_trace_4 ?_
  refine gw_topi (y := nI ((sTr σ).length)) (t2) ?_
  refine gw_iconst (v := nI (1)) dX12_trace_7 (by decide) ?_
  refine gw_isub dX12_trace_8 ?_
  refine gw_i2l dX12_trace_9 rfl ?_
  refine gw_callS (As := [.long ((i).toInt64), .long ((0 : Int64)), .long (((nI ((sTr σ).length)) - (nI (1))).toInt64)]) (st := []) (c_min l cy ((i).toInt64) ((0 : Int64)) (((nI ((sTr σ).length)) - (nI (1))).toInt64) (mW cy ad iv ia la)) ok_X12_in wd_899 rfl rfl dX12_trace_10 (by decide) (by decide) (Nat.le_of_ble_eq_true rfl) (fun r10 w10 hp10 => ?_)
  obtain ⟨rfl, rfl⟩ := hp10
  refine gw_W.norm (st' := [.int (bI (inZ ((i).toInt64).toInt ((0 : Int64)).toInt (((nI ((sTr σ).length)) - (nI (1))).toInt64).toInt))]) (k1 := 0) (k2 := 0) rfl rfl rfl ?_
  refine gw_if_eq (tgt := 25) dX12_trace_13 (by decide) (fun c13 => ?_) (fun c13 => ?_)
  · rw [bI_0, i64_of, i64_of, i32_sub1 _ (by omega)] at c13
    have ct : inZ i.toInt 0 (((sTr σ).length : Int) - 1) = false := c13
    refine gw_ldc dX12_trace_25 wd_805 ?_
    refine gw_iret (?_) (by decide) (by decide) rfl dX12_trace_27
    subst hpost
    unfold spTrace
    first
      | (rw [if_pos ct]; exact ⟨rfl, iv, ia, la, rfl, i1, i2, i3, i4, i5, i6, i7, i8⟩)
      | (rw [if_neg (by rw [ct]; decide)]; exact ⟨rfl, iv, ia, la, rfl, i1, i2, i3, i4, i5, i6, i7, i8⟩)
  · rw [bI_n0, i64_of, i64_of, i32_sub1 _ (by omega)] at c13
    have ct : inZ i.toInt 0 (((sTr σ).length : Int) - 1) = true := c13
    have t3 : tI i < (sTr σ).length := by rw [inZ_t] at ct; unfold tI; omega
    refine gw_aload_n dX12_trace_16 rfl ?_
    refine gm_get_trace rfl dX12_trace_17 ?_
    refine gw_iload_n dX12_trace_20 rfl ?_
    refine gm_ld_trace (j := tI i) (tI_eq ct) (by omega) dX12_trace_21 ?_
    refine gw_topi (y := (sTr σ).getD (tI i) 0) (i6.2.2 (tI i) t3) ?_
    refine gw_goto (tgt := 27) dX12_trace_22 (by decide) ?_
    refine gw_iret (?_) (by decide) (by decide) rfl dX12_trace_27
    subst hpost
    unfold spTrace
    first
      | (rw [if_pos ct]; exact ⟨rfl, iv, ia, la, rfl, i1, i2, i3, i4, i5, i6, i7, i8⟩)
      | (rw [if_neg (by rw [ct]; decide)]; exact ⟨rfl, iv, ia, la, rfl, i1, i2, i3, i4, i5, i6, i7, i8⟩)
