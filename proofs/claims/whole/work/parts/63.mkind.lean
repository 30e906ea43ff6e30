def isO (σ : aS) (k : Int32) : Bool := inZ k.toInt 0 (((sOp σ).length : Int) - 1)
def opA (σ : aS) (k : Int32) : aO := (sOp σ).getD (tI k) (0, 0, 0, 0, 0)
def spKind (σ : aS) (k : Int32) : Int32 × aS := if isO σ k = true then (nI (opA σ k).1, σ) else (-1000001, σ)
theorem isO_t {n : Nat} {σ : aS} {k v12 v18 : Int32} {a13 a14 a15 a16 a17 : Nat → Int32} (h : mI4 n σ.2.2.2.1 v12 v18 a13 a14 a15 a16 a17) (hk : isO σ k = true) : k = nI (tI k) ∧ tI k < 40 ∧ a13 (tI k) = nI (opA σ k).1 ∧ a14 (tI k) = (opA σ k).2.1 ∧ a15 (tI k) = (opA σ k).2.2.1 ∧ a16 (tI k) = (opA σ k).2.2.2.1 ∧ a17 (tI k) = (opA σ k).2.2.2.2 ∧ opOK n (opA σ k) := by
  obtain ⟨h1, h2, -, h4, h5⟩ := h
  unfold isO at hk
  have e1 := tI_eq hk
  rw [inZ_t] at hk
  have h6 : tI k < σ.2.2.2.1.length := by unfold tI; have e : (sOp σ).length = σ.2.2.2.1.length := rfl; omega
  have e2 : opA σ k = σ.2.2.2.1[tI k] := by
    show σ.2.2.2.1.getD (tI k) (0, 0, 0, 0, 0) = _
    rw [List.getD_eq_getElem?_getD, List.getElem?_eq_getElem h6]; rfl
  have h7 := h5 (tI k) h6
  rw [← e2] at h7
  exact ⟨e1, by omega, h7.1, h7.2.1, h7.2.2.1, h7.2.2.2.1, h7.2.2.2.2, by rw [e2]; exact h4 _ (List.getElem_mem h6)⟩
abbrev kX12_kind : gw_K := (yX12_kind, cX12_kind, 2, { frames := 2, cells := 0, slots := 0, locals := 46 }, (some .int))
theorem ok_X12_kind : gw_calV kX12_kind 1 := ⟨⟨wd_1103, wd_62, by decide, by decide, by decide +kernel⟩, wd_1101, wd_1102⟩
set_option maxHeartbeats 4000000 in
set_option maxRecDepth 100000 in
theorem t_mkind (l : Launch) (cy : Nat → ClassId) (ad : Nat → Nat) (iv : Nat → Int32) (ia : Nat → Nat → Int32) (la : Nat → Nat → Int64) (σ : aS) (hI : mInv σ iv ia la) (k : Int32) : gw_M l kX12_kind cy [.ref (ad 0), .int (k)] (mW cy ad iv ia la) (mPost cy ad (spKind σ k)) := by
  refine gw_M.mk (lv := [some (.ref (ad 0)), some (.int (k))]) (by decide) (Nat.le_of_ble_eq_true rfl) rfl ?_
  generalize hpost : (mPost cy ad (spKind σ k) : gw_Q) = post
  obtain ⟨i1, i2, i3, i4, i5, i6, i7, i8⟩ := hI
  refine gw_aload_n dX12_kind_0 rfl ?_
  refine gw_iload_n dX12_kind_1 rfl ?_
  refine gw_callV 0 (As := [.int (k)]) (st := []) (c_misOp l cy ad iv ia la (k) (sOp σ).length i4.2.1 (Nat.lt_of_le_of_lt i4.1 (by decide))) ok_X12_isOp rfl rfl rfl wd_1104 rfl rfl dX12_kind_2 (by decide) (by decide) (Nat.le_of_ble_eq_true rfl) (fun r2 w2 hp2 => ?_)
  obtain ⟨rfl, rfl⟩ := hp2
  refine gw_W.norm (st' := [.int (bI (isO σ (k)))]) (k1 := 0) (k2 := 0) rfl rfl rfl ?_
  refine gw_if_eq (tgt := 17) dX12_kind_5 (by decide) (fun c5 => ?_) (fun c5 => ?_)
  · rw [bI_0] at c5
    refine gw_ldc dX12_kind_17 wd_903 ?_
    refine gw_iret (?_) (by decide) (by decide) rfl dX12_kind_19
    subst hpost
    unfold spKind
    first
      | (rw [if_pos c5]; exact ⟨rfl, iv, ia, la, rfl, i1, i2, i3, i4, i5, i6, i7, i8⟩)
      | (rw [if_neg (by rw [c5]; decide)]; exact ⟨rfl, iv, ia, la, rfl, i1, i2, i3, i4, i5, i6, i7, i8⟩)
  · rw [bI_n0] at c5
    obtain ⟨d1, d2, d3, d4, d5, d6, d7, d8⟩ := isO_t i4 c5
    refine gw_aload_n dX12_kind_8 rfl ?_
    refine gm_get_kind rfl dX12_kind_9 ?_
    refine gw_iload_n dX12_kind_12 rfl ?_
    refine gm_ld_kind (j := tI k) (d1) (d2) dX12_kind_13 ?_
    refine gw_topi (y := nI ((opA σ k).1)) (d3) ?_
    refine gw_goto (tgt := 19) dX12_kind_14 (by decide) ?_
    refine gw_iret (?_) (by decide) (by decide) rfl dX12_kind_19
    subst hpost
    unfold spKind
    first
      | (rw [if_pos c5]; exact ⟨rfl, iv, ia, la, rfl, i1, i2, i3, i4, i5, i6, i7, i8⟩)
      | (rw [if_neg (by rw [c5]; decide)]; exact ⟨rfl, iv, ia, la, rfl, i1, i2, i3, i4, i5, i6, i7, i8⟩)
