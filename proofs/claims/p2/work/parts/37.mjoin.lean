/-- behind keep(t): the sum at t is what is kept of C, or nothing has changed but the made row -/
def qm_kept (cy : Nat → ClassId) (ad : Nat → Nat) (iv : Nat → Int32) (ia : Nat → Nat → Int32) (la : Nat → Nat → Int64) (C : List sT) (t : Nat) (ans : Option (List sT) → Option Value) : gw_Q := fun r w' => r = ans (keepS C) ∧ ∃ (m : Nat) (k1 : Nat → Int32) (n1 : Nat → Int64), (keepS C = none → w' = mW cy ad (va_up iv 9 (nI m)) (va_up ia 10 k1) (va_up la 11 n1)) ∧ ∀ S, keepS C = some S → ∃ (kk : Nat → Int32) (nn : Nat → Int64), w' = mW cy ad (va_up iv 9 (nI m)) (va_up (va_up (va_up ia 6 (upd (ia 6) t (nI S.length))) 7 kk) 10 k1) (va_up (va_up la 8 nn) 11 n1) ∧ takeS kk nn (300 * t) S.length = S ∧ ∀ j, (j < 300 * t ∨ 300 * t + 300 ≤ j) → kk j = ia 7 j ∧ nn j = la 8 j
def ansN (F : Option (List sT)) : Option Value := some (.int (match F with | some S => nI S.length | none => -1000003))
def ansB (F : Option (List sT)) : Option Value := some (.int (bI F.isSome))
def ansV (_ : Option (List sT)) : Option Value := none
abbrev kX12_joined : gw_K := (yX12_joined, cX12_joined, 4, { frames := 2, cells := 0, slots := 0, locals := 50 }, (some .boolean))
theorem ok_X12_joined : gw_calV kX12_joined 3 := ⟨⟨wd_983, wd_62, by decide, by decide, by decide +kernel⟩, wd_982, wd_40⟩
set_option maxHeartbeats 4000000 in
set_option maxRecDepth 100000 in
theorem c_mjoined (l : Launch) (cy : Nat → ClassId) (ad : Nat → Nat) (iv : Nat → Int32) (ia : Nat → Nat → Int32) (la : Nat → Nat → Int64) (t f c e : Nat) (v : Int32) (hc : ia 6 t = nI c) (he : ia 6 f = nI e) (ht : t < 18) (hf : f < 18) (hc3 : c ≤ 300) (he3 : e ≤ 300) : gw_M l kX12_joined cy [.ref (ad 0), .int (nI (t)), .int (nI (f)), .int (v)] (mW cy ad iv ia la) (qm_kept cy ad iv ia la (sPuts (sPuts [] (sScale 1 (takeS (ia 7) (la 8) (300 * t) c))) (sScale v.toInt64 (takeS (ia 7) (la 8) (300 * f) e))) t ansB) := by
  refine gw_M.mk (lv := [some (.ref (ad 0)), some (.int (nI (t))), some (.int (nI (f))), some (.int (v))]) (by decide) (Nat.le_of_ble_eq_true rfl) rfl ?_
  generalize hpost : (qm_kept cy ad iv ia la (sPuts (sPuts [] (sScale 1 (takeS (ia 7) (la 8) (300 * t) c))) (sScale v.toInt64 (takeS (ia 7) (la 8) (300 * f) e))) t ansB : gw_Q) = post
  refine gw_aload_n dX12_joined_0 rfl ?_
  refine gw_iconst (v := nI (0)) dX12_joined_1 (by decide) ?_
  refine gm_put_made rfl dX12_joined_2 ?_
  refine gw_W.wd (w' := (mW cy ad (va_up iv 9 (nI (0))) ia la)) rfl ?_
  refine gw_aload_n dX12_joined_5 rfl ?_
  refine gw_iload_n dX12_joined_6 rfl ?_
  refine gw_lconst (v := (1 : Int64)) dX12_joined_7 (by decide) ?_
  refine gw_callV 0 (As := [.int (nI (t)), .long ((1 : Int64))]) (st := []) (c_mputAll l cy ad (va_up iv 9 (nI (0))) ia la (0) (t) (c) ((1 : Int64)) (rfl) (hc) (ht) (hc3) (by omega) (by exact List.Pairwise.nil)) ok_X12_putAll rfl rfl rfl wd_944 rfl rfl dX12_joined_8 (by decide) (by decide) (Nat.le_of_ble_eq_true rfl) (fun r8 w8 hp8 => ?_)
  obtain ⟨rfl, m8, kk8, nn8, rfl, hT8⟩ := hp8
  have hT8 : takeS kk8 nn8 0 m8 = sPuts (takeS (ia 10) (la 11) 0 (0)) (sScale ((1 : Int64)) (takeS (ia 7) (la 8) (300 * (t)) (c))) := hT8
  refine gw_W.wd (w' := (mW cy ad (va_up iv 9 (nI (m8))) (va_up ia 10 (kk8)) (va_up la 11 (nn8)))) rfl ?_
  refine gw_W.norm (st' := []) (k1 := 0) (k2 := 0) rfl rfl rfl ?_
  have hT8 : takeS kk8 nn8 0 m8 = sPuts [] (sScale 1 (takeS (ia 7) (la 8) (300 * t) c)) := hT8
  have hs8 : sOrd (takeS kk8 nn8 0 m8) := by rw [hT8]; exact sPuts_ord List.Pairwise.nil
  have hm8 : m8 + e ≤ 1000 := by
    have q1 := congrArg List.length hT8
    have q2 := sPuts_len [] (sScale 1 (takeS (ia 7) (la 8) (300 * t) c))
    rw [takeS_len] at q1
    simp only [sScale, List.length_map, takeS_len, List.length_nil] at q2; simp only [sScale] at q1; omega
  refine gw_aload_n dX12_joined_11 rfl ?_
  refine gw_iload_n dX12_joined_12 rfl ?_
  refine gw_iload_n dX12_joined_13 rfl ?_
  refine gw_i2l dX12_joined_14 rfl ?_
  refine gw_callV 0 (As := [.int (nI (f)), .long ((v).toInt64)]) (st := []) (c_mputAll l cy ad (va_up iv 9 (nI (m8))) (va_up ia 10 (kk8)) (va_up la 11 (nn8)) (m8) (f) (e) ((v).toInt64) (rfl) (he) (hf) (he3) (hm8) (hs8)) ok_X12_putAll rfl rfl rfl wd_944 rfl rfl dX12_joined_15 (by decide) (by decide) (Nat.le_of_ble_eq_true rfl) (fun r15 w15 hp15 => ?_)
  obtain ⟨rfl, m15, kk15, nn15, rfl, hT15⟩ := hp15
  have hT15 : takeS kk15 nn15 0 m15 = sPuts (takeS (kk8) (nn8) 0 (m8)) (sScale ((v).toInt64) (takeS (ia 7) (la 8) (300 * (f)) (e))) := hT15
  refine gw_W.wd (w' := (mW cy ad (va_up iv 9 (nI (m15))) (va_up ia 10 (kk15)) (va_up la 11 (nn15)))) rfl ?_
  refine gw_W.norm (st' := []) (k1 := 0) (k2 := 0) rfl rfl rfl ?_
  have hT15 : takeS kk15 nn15 0 m15 = (sPuts (sPuts [] (sScale 1 (takeS (ia 7) (la 8) (300 * t) c))) (sScale v.toInt64 (takeS (ia 7) (la 8) (300 * f) e))) := by rw [hT15, hT8]
  have hm15 : m15 ≤ 1000 := by
    have q1 := congrArg List.length hT15
    have q2 := sPuts_len (sPuts [] (sScale 1 (takeS (ia 7) (la 8) (300 * t) c))) (sScale v.toInt64 (takeS (ia 7) (la 8) (300 * f) e))
    have q3 := sPuts_len [] (sScale 1 (takeS (ia 7) (la 8) (300 * t) c))
    rw [takeS_len] at q1
    simp only [sScale, List.length_map, takeS_len, List.length_nil] at q2 q3; simp only [sScale] at q1; omega
  refine gw_aload_n dX12_joined_18 rfl ?_
  refine gw_iload_n dX12_joined_19 rfl ?_
  refine gw_callV 0 (As := [.int (nI (t))]) (st := []) (c_mkeep l cy ad (va_up iv 9 (nI (m15))) (va_up ia 10 (kk15)) (va_up la 11 (nn15)) (m15) (t) (rfl) (hm15) (ht)) ok_X12_keep rfl rfl rfl wd_956 rfl rfl dX12_joined_20 (by decide) (by decide) (Nat.le_of_ble_eq_true rfl) (fun r20 w20 hp20 => ?_)
  obtain ⟨F20, hF20, rfl, hN20, hS20⟩ := hp20
  cases F20 with
  | none =>
    obtain rfl := hN20 rfl
    refine gw_W.norm (st' := [.int (nI (0))]) (k1 := 0) (k2 := 0) rfl rfl rfl ?_
    refine gw_zret (?_) (by decide) (by decide) rfl (by decide) dX12_joined_23
    subst hpost
    have eC := hF20.trans (congrArg keepS hT15)
    first
      | exact ⟨by rw [← eC]; rfl, m15, kk15, nn15, fun _ => rfl, fun S h => by rw [← eC] at h; cases h⟩
      | exact ⟨by rw [← eC]; rfl, m15, kk15, nn15, fun h => (by rw [← eC] at h; cases h), fun S h => (by
          rw [← eC] at h; cases h
          exact ⟨kk20, nn20, rfl, hT20, hO20⟩)⟩
  | some S20 =>
    obtain ⟨kk20, nn20, rfl, hT20, hO20⟩ := hS20 S20 rfl
    refine gw_W.norm (st' := [.int (nI (1))]) (k1 := 0) (k2 := 0) rfl rfl rfl ?_
    refine gw_W.wd (w' := (mW cy ad (va_up iv 9 (nI (m15))) (va_up (va_up (va_up ia 6 (upd (ia 6) (t) (nI (S20.length)))) 7 (kk20)) 10 (kk15)) (va_up (va_up la 8 (nn20)) 11 (nn15)))) rfl ?_
    refine gw_zret (?_) (by decide) (by decide) rfl (by decide) dX12_joined_23
    subst hpost
    have eC := hF20.trans (congrArg keepS hT15)
    first
      | exact ⟨by rw [← eC]; rfl, m15, kk15, nn15, fun _ => rfl, fun S h => by rw [← eC] at h; cases h⟩
      | exact ⟨by rw [← eC]; rfl, m15, kk15, nn15, fun h => (by rw [← eC] at h; cases h), fun S h => (by
          rw [← eC] at h; cases h
          exact ⟨kk20, nn20, rfl, hT20, hO20⟩)⟩
