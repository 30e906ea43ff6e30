/-! ops come, rounds open and end, the last op goes: against the state -/
theorem nar_rf (x : Option Nat) : narrow (tyX11 8) (va_rf x) = va_rf x := by cases x <;> rfl
theorem fit_rf (x : Option Nat) : fits (tyX11 8) (va_rf x) = true := by cases x <;> rfl
theorem cInv_push {cy : Nat → ClassId} {ad sa ta oa : Nat → Nat} {σ : aS} {nx : Int32} {lo : Option Nat} {pg : Nat → Option Nat} {bo : Nat → Int32} {cs : Nat → List sT} {xs tb op : va_W} {td : Nat → Int32} (hxs : xsP cy (ad 4) sa cs xs) (hcs : csS σ cs) (htb : tbP cy ta (sTb σ) tb) (hop : opP oa (sOp σ) lo pg td op) (hN : cN σ) (hbo : ∀ j, j < (sTr σ).length → bo j = (sTr σ).getD j 0) (o : aO) (q : Nat) (t0 : Int32) (ho : opOK σ.1 o) {c : Nat} (hc : opStep (opn (sOp σ)) o = some c) (hl : ¬ (sOp σ).length = 40) {lo' : Option Nat} (hlo : lo' = arOf (sOp σ ++ [o]) (va_up oa (sOp σ).length q) ((sOp σ).length + 1)) : cInv cy (ad 0) (setOp σ (sOp σ ++ [o])) (bW cy ad sa ta σ.1 ((sOp σ).length + 1) (sTr σ).length nx σ.2.2.2.2.2.2.1 σ.2.2.2.2.2.2.2 σ.2.2.2.2.1 lo' (va_up pg (sOp σ).length (some q)) bo ++ ([(q, .inr (opCe o (sOp σ).length lo t0))] ++ (xs ++ (tb ++ op)))) := by
  obtain ⟨n1, n2, n3, n4, n5, n6⟩ := hN
  have hP := opP_push hop o q t0 (List.Perm.refl _) hlo
  refine ⟨ad, sa, ta, _, nx, lo', _, bo, cs, xs, tb, _, _, rfl, ?_, hxs, hcs, htb, hP, ⟨n1, n2, n3, ?_, ⟨c, ?_⟩, fun x hx => ?_⟩, hbo⟩
  · show List.Perm _ (bW cy ad sa ta σ.1 (sOp σ ++ [o]).length (sTr σ).length nx σ.2.2.2.2.2.2.1 σ.2.2.2.2.2.2.2 σ.2.2.2.2.1 lo' (va_up pg (sOp σ).length (some q)) bo ++ (xs ++ (tb ++ (op ++ [(q, .inr (opCe o (sOp σ).length lo t0))]))))
    rw [List.length_append, List.length_singleton]
    refine List.Perm.append_left _ ?_
    refine List.perm_append_comm.trans ?_
    rw [List.append_assoc, List.append_assoc]
  · show (sOp σ ++ [o]).length ≤ 40
    rw [List.length_append, List.length_singleton]
    omega
  · show opn (sOp σ ++ [o]) = some c
    rw [opn_snoc]; exact hc
  · have hx : x ∈ sOp σ ++ [o] := hx
    rcases List.mem_append.mp hx with hx | hx
    · exact n6 x hx
    · rw [List.mem_singleton] at hx; rw [hx]; exact ho
theorem pu_ok {n : Nat} {a f q : Int32} (h : isPu n a f q = true) : opOK n (2, a, f, q, 0) := by
  obtain ⟨h1, h2, h3, h4, h5, h6⟩ := isPu_t h
  exact Or.inl ⟨Or.inl rfl, h1, h2, h3, h4, h5, h6, show (0 : Int) ≤ (0 : Int32).toInt from by decide, show (0 : Int32).toInt < 8 from by decide⟩
theorem ro_ok {n : Nat} {v : Int32} (h : inZ v.toInt 1 8 = true) : opOK n (5, v, 0, 0, 0) := by
  rw [inZ_t] at h; exact Or.inr (Or.inr (Or.inl ⟨rfl, h.1, h.2⟩))
theorem perm_op {α : Type} {A R C : List α} : ((A ++ C) ++ R).Perm (C ++ (A ++ R)) := by
  rw [← List.append_assoc]
  exact List.perm_append_comm.append_right R
theorem perm_sn2 {α : Type} {A R C : List α} : ((A ++ R) ++ C).Perm ((A ++ C) ++ R) := by
  rw [List.append_assoc, List.append_assoc]
  exact List.Perm.append_left A List.perm_append_comm
abbrev kX5_init : gw_K := (yX5_init, cX5_init, 3, { frames := 1, cells := 0, slots := 0, locals := 20 }, none)
theorem ok_X5_init : gw_calI kX5_init 2 := ⟨⟨wd_475, wd_66, by decide, by decide, by decide +kernel⟩, wd_474, rfl, rfl⟩
set_option maxHeartbeats 4000000 in
set_option maxRecDepth 100000 in
theorem c_o5_4 (l : Launch) (cy : Nat → ClassId) (a : Nat) (p : Int32) : gw_M l kX5_init cy [.ref (a), .int (p), .null] [(a, .inr (4, [.int ((0 : Int32)), .null, .int ((0 : Int32)), .int ((0 : Int32)), .int ((0 : Int32))]))] (fun r w' => r = none ∧ w' = [(a, .inr (4, [.int (p), .null, .int ((0 : Int32)), .int ((0 : Int32)), .int ((0 : Int32))]))]) := by
  refine gw_M.mk (lv := [some (.ref (a)), some (.int (p)), some (.null)]) (by decide) (Nat.le_of_ble_eq_true rfl) rfl ?_
  generalize hpost : (fun r w' => r = none ∧ w' = [(a, .inr (4, [.int (p), .null, .int ((0 : Int32)), .int ((0 : Int32)), .int ((0 : Int32))]))] : gw_Q) = post
  refine gw_aload_n dX5_init_0 rfl ?_
  refine gw_objInit wd_476 wd_80 wd_81 (by decide) dX5_init_1 ?_
  refine gw_aload_n dX5_init_4 rfl ?_
  refine gw_iload_n dX5_init_5 rfl ?_
  refine gw_putF (C0 := RX6) (T := TX6) (N := 5) (ref := RX5) (ty := tyX6 0) 0 rfl rfl inX6 0 (by decide) tyX6 tyX6_ok nmX6 wd_483 (Or.inl rfl) rfl rfl rfl (tyX6_ok 0 (by decide)) (rfl) (rfl) (Nat.le_of_ble_eq_true rfl) dX5_init_6 ?_
  refine gw_W.wd (w' := [(a, .inr (4, [.int (p), .null, .int ((0 : Int32)), .int ((0 : Int32)), .int ((0 : Int32))]))]) rfl ?_
  refine gw_aload_n dX5_init_9 rfl ?_
  refine gw_aload_nN dX5_init_10 rfl ?_
  refine gw_putF (C0 := RX6) (T := TX6) (N := 5) (ref := RX5) (ty := tyX6 1) 0 rfl rfl inX6 1 (by decide) tyX6 tyX6_ok nmX6 wd_487 (Or.inl rfl) rfl rfl rfl (tyX6_ok 1 (by decide)) (rfl) (rfl) (Nat.le_of_ble_eq_true rfl) dX5_init_11 ?_
  refine gw_W.wd (w' := [(a, .inr (4, [.int (p), .null, .int ((0 : Int32)), .int ((0 : Int32)), .int ((0 : Int32))]))]) rfl ?_
  refine gw_vret (?_) (by decide) (by decide) rfl dX5_init_14
  subst hpost
  exact ⟨rfl, rfl⟩
set_option maxHeartbeats 4000000 in
set_option maxRecDepth 100000 in
theorem c_o5_0 (l : Launch) (cy : Nat → ClassId) (a : Nat) (p : Int32) : gw_M l kX5_init cy [.ref (a), .int (p), .null] [(a, .inr (0, [.int ((0 : Int32)), .int ((0 : Int32)), .int ((0 : Int32)), .int ((0 : Int32)), .null, .int ((0 : Int32))]))] (fun r w' => r = none ∧ w' = [(a, .inr (0, [.int ((0 : Int32)), .int ((0 : Int32)), .int ((0 : Int32)), .int (p), .null, .int ((0 : Int32))]))]) := by
  refine gw_M.mk (lv := [some (.ref (a)), some (.int (p)), some (.null)]) (by decide) (Nat.le_of_ble_eq_true rfl) rfl ?_
  generalize hpost : (fun r w' => r = none ∧ w' = [(a, .inr (0, [.int ((0 : Int32)), .int ((0 : Int32)), .int ((0 : Int32)), .int (p), .null, .int ((0 : Int32))]))] : gw_Q) = post
  refine gw_aload_n dX5_init_0 rfl ?_
  refine gw_objInit wd_476 wd_80 wd_81 (by decide) dX5_init_1 ?_
  refine gw_aload_n dX5_init_4 rfl ?_
  refine gw_iload_n dX5_init_5 rfl ?_
  refine gw_putF (C0 := RX0) (T := TX0) (N := 6) (ref := RX5) (ty := tyX0 3) 0 rfl rfl inX0 3 (by decide) tyX0 tyX0_ok nmX0 wd_483 (Or.inl rfl) rfl rfl rfl (tyX0_ok 3 (by decide)) (rfl) (rfl) (Nat.le_of_ble_eq_true rfl) dX5_init_6 ?_
  refine gw_W.wd (w' := [(a, .inr (0, [.int ((0 : Int32)), .int ((0 : Int32)), .int ((0 : Int32)), .int (p), .null, .int ((0 : Int32))]))]) rfl ?_
  refine gw_aload_n dX5_init_9 rfl ?_
  refine gw_aload_nN dX5_init_10 rfl ?_
  refine gw_putF (C0 := RX0) (T := TX0) (N := 6) (ref := RX5) (ty := tyX0 4) 0 rfl rfl inX0 4 (by decide) tyX0 tyX0_ok nmX0 wd_487 (Or.inl rfl) rfl rfl rfl (tyX0_ok 4 (by decide)) (rfl) (rfl) (Nat.le_of_ble_eq_true rfl) dX5_init_11 ?_
  refine gw_W.wd (w' := [(a, .inr (0, [.int ((0 : Int32)), .int ((0 : Int32)), .int ((0 : Int32)), .int (p), .null, .int ((0 : Int32))]))]) rfl ?_
  refine gw_vret (?_) (by decide) (by decide) rfl dX5_init_14
  subst hpost
  exact ⟨rfl, rfl⟩
set_option maxHeartbeats 4000000 in
set_option maxRecDepth 100000 in
theorem c_o5_1 (l : Launch) (cy : Nat → ClassId) (a : Nat) (p : Int32) : gw_M l kX5_init cy [.ref (a), .int (p), .null] [(a, .inr (1, [.int ((0 : Int32)), .null, .int ((0 : Int32)), .int ((0 : Int32)), .int ((0 : Int32))]))] (fun r w' => r = none ∧ w' = [(a, .inr (1, [.int (p), .null, .int ((0 : Int32)), .int ((0 : Int32)), .int ((0 : Int32))]))]) := by
  refine gw_M.mk (lv := [some (.ref (a)), some (.int (p)), some (.null)]) (by decide) (Nat.le_of_ble_eq_true rfl) rfl ?_
  generalize hpost : (fun r w' => r = none ∧ w' = [(a, .inr (1, [.int (p), .null, .int ((0 : Int32)), .int ((0 : Int32)), .int ((0 : Int32))]))] : gw_Q) = post
  refine gw_aload_n dX5_init_0 rfl ?_
  refine gw_objInit wd_476 wd_80 wd_81 (by decide) dX5_init_1 ?_
  refine gw_aload_n dX5_init_4 rfl ?_
  refine gw_iload_n dX5_init_5 rfl ?_
  refine gw_putF (C0 := RX1) (T := TX1) (N := 5) (ref := RX5) (ty := tyX1 0) 0 rfl rfl inX1 0 (by decide) tyX1 tyX1_ok nmX1 wd_483 (Or.inl rfl) rfl rfl rfl (tyX1_ok 0 (by decide)) (rfl) (rfl) (Nat.le_of_ble_eq_true rfl) dX5_init_6 ?_
  refine gw_W.wd (w' := [(a, .inr (1, [.int (p), .null, .int ((0 : Int32)), .int ((0 : Int32)), .int ((0 : Int32))]))]) rfl ?_
  refine gw_aload_n dX5_init_9 rfl ?_
  refine gw_aload_nN dX5_init_10 rfl ?_
  refine gw_putF (C0 := RX1) (T := TX1) (N := 5) (ref := RX5) (ty := tyX1 1) 0 rfl rfl inX1 1 (by decide) tyX1 tyX1_ok nmX1 wd_487 (Or.inl rfl) rfl rfl rfl (tyX1_ok 1 (by decide)) (rfl) (rfl) (Nat.le_of_ble_eq_true rfl) dX5_init_11 ?_
  refine gw_W.wd (w' := [(a, .inr (1, [.int (p), .null, .int ((0 : Int32)), .int ((0 : Int32)), .int ((0 : Int32))]))]) rfl ?_
  refine gw_vret (?_) (by decide) (by decide) rfl dX5_init_14
  subst hpost
  exact ⟨rfl, rfl⟩
set_option maxHeartbeats 4000000 in
set_option maxRecDepth 100000 in
theorem c_o5_5 (l : Launch) (cy : Nat → ClassId) (a : Nat) (p : Int32) : gw_M l kX5_init cy [.ref (a), .int (p), .null] [(a, .inr (5, [.int ((0 : Int32)), .null, .int ((0 : Int32)), .int ((0 : Int32))]))] (fun r w' => r = none ∧ w' = [(a, .inr (5, [.int (p), .null, .int ((0 : Int32)), .int ((0 : Int32))]))]) := by
  refine gw_M.mk (lv := [some (.ref (a)), some (.int (p)), some (.null)]) (by decide) (Nat.le_of_ble_eq_true rfl) rfl ?_
  generalize hpost : (fun r w' => r = none ∧ w' = [(a, .inr (5, [.int (p), .null, .int ((0 : Int32)), .int ((0 : Int32))]))] : gw_Q) = post
  refine gw_aload_n dX5_init_0 rfl ?_
  refine gw_objInit wd_476 wd_80 wd_81 (by decide) dX5_init_1 ?_
  refine gw_aload_n dX5_init_4 rfl ?_
  refine gw_iload_n dX5_init_5 rfl ?_
  refine gw_putF (C0 := RX7) (T := TX7) (N := 4) (ref := RX5) (ty := tyX7 0) 0 rfl rfl inX7 0 (by decide) tyX7 tyX7_ok nmX7 wd_483 (Or.inl rfl) rfl rfl rfl (tyX7_ok 0 (by decide)) (rfl) (rfl) (Nat.le_of_ble_eq_true rfl) dX5_init_6 ?_
  refine gw_W.wd (w' := [(a, .inr (5, [.int (p), .null, .int ((0 : Int32)), .int ((0 : Int32))]))]) rfl ?_
  refine gw_aload_n dX5_init_9 rfl ?_
  refine gw_aload_nN dX5_init_10 rfl ?_
  refine gw_putF (C0 := RX7) (T := TX7) (N := 4) (ref := RX5) (ty := tyX7 1) 0 rfl rfl inX7 1 (by decide) tyX7 tyX7_ok nmX7 wd_487 (Or.inl rfl) rfl rfl rfl (tyX7_ok 1 (by decide)) (rfl) (rfl) (Nat.le_of_ble_eq_true rfl) dX5_init_11 ?_
  refine gw_W.wd (w' := [(a, .inr (5, [.int (p), .null, .int ((0 : Int32)), .int ((0 : Int32))]))]) rfl ?_
  refine gw_vret (?_) (by decide) (by decide) rfl dX5_init_14
  subst hpost
  exact ⟨rfl, rfl⟩
set_option maxHeartbeats 4000000 in
set_option maxRecDepth 100000 in
theorem c_o5_6 (l : Launch) (cy : Nat → ClassId) (a : Nat) (p : Int32) : gw_M l kX5_init cy [.ref (a), .int (p), .null] [(a, .inr (6, [.int ((0 : Int32)), .null, .int ((0 : Int32)), .int ((0 : Int32))]))] (fun r w' => r = none ∧ w' = [(a, .inr (6, [.int (p), .null, .int ((0 : Int32)), .int ((0 : Int32))]))]) := by
  refine gw_M.mk (lv := [some (.ref (a)), some (.int (p)), some (.null)]) (by decide) (Nat.le_of_ble_eq_true rfl) rfl ?_
  generalize hpost : (fun r w' => r = none ∧ w' = [(a, .inr (6, [.int (p), .null, .int ((0 : Int32)), .int ((0 : Int32))]))] : gw_Q) = post
  refine gw_aload_n dX5_init_0 rfl ?_
  refine gw_objInit wd_476 wd_80 wd_81 (by decide) dX5_init_1 ?_
  refine gw_aload_n dX5_init_4 rfl ?_
  refine gw_iload_n dX5_init_5 rfl ?_
  refine gw_putF (C0 := RX8) (T := TX8) (N := 4) (ref := RX5) (ty := tyX8 0) 0 rfl rfl inX8 0 (by decide) tyX8 tyX8_ok nmX8 wd_483 (Or.inl rfl) rfl rfl rfl (tyX8_ok 0 (by decide)) (rfl) (rfl) (Nat.le_of_ble_eq_true rfl) dX5_init_6 ?_
  refine gw_W.wd (w' := [(a, .inr (6, [.int (p), .null, .int ((0 : Int32)), .int ((0 : Int32))]))]) rfl ?_
  refine gw_aload_n dX5_init_9 rfl ?_
  refine gw_aload_nN dX5_init_10 rfl ?_
  refine gw_putF (C0 := RX8) (T := TX8) (N := 4) (ref := RX5) (ty := tyX8 1) 0 rfl rfl inX8 1 (by decide) tyX8 tyX8_ok nmX8 wd_487 (Or.inl rfl) rfl rfl rfl (tyX8_ok 1 (by decide)) (rfl) (rfl) (Nat.le_of_ble_eq_true rfl) dX5_init_11 ?_
  refine gw_W.wd (w' := [(a, .inr (6, [.int (p), .null, .int ((0 : Int32)), .int ((0 : Int32))]))]) rfl ?_
  refine gw_vret (?_) (by decide) (by decide) rfl dX5_init_14
  subst hpost
  exact ⟨rfl, rfl⟩
abbrev kX3_init : gw_K := (yX3_init, cX3_init, 3, { frames := 2, cells := 0, slots := 0, locals := 42 }, none)
theorem ok_X3_init : gw_calI kX3_init 2 := ⟨⟨wd_472, wd_67, by decide, by decide, by decide +kernel⟩, wd_471, rfl, rfl⟩
set_option maxHeartbeats 4000000 in
set_option maxRecDepth 100000 in
theorem c_o3_4 (l : Launch) (cy : Nat → ClassId) (a : Nat) (p : Int32) : gw_M l kX3_init cy [.ref (a), .int (p), .null] [(a, .inr (4, [.int ((0 : Int32)), .null, .int ((0 : Int32)), .int ((0 : Int32)), .int ((0 : Int32))]))] (fun r w' => r = none ∧ w' = [(a, .inr (4, [.int (p), .null, .int ((0 : Int32)), .int ((0 : Int32)), .int ((0 : Int32))]))]) := by
  refine gw_M.mk (lv := [some (.ref (a)), some (.int (p)), some (.null)]) (by decide) (Nat.le_of_ble_eq_true rfl) rfl ?_
  generalize hpost : (fun r w' => r = none ∧ w' = [(a, .inr (4, [.int (p), .null, .int ((0 : Int32)), .int ((0 : Int32)), .int ((0 : Int32))]))] : gw_Q) = post
  refine gw_aload_n dX3_init_0 rfl ?_
  refine gw_iload_n dX3_init_1 rfl ?_
  refine gw_aload_nN dX3_init_2 rfl ?_
  refine gw_callI (As := [.int (p), .null]) (st := []) (c_o5_4 l cy a p) ok_X5_init wd_473 rfl rfl dX3_init_3 (by decide) (by decide) (Nat.le_of_ble_eq_true rfl) (fun r3 w3 hp3 => ?_)
  obtain ⟨rfl, rfl⟩ := hp3
  refine gw_W.norm (st' := []) (k1 := 0) (k2 := 0) rfl rfl rfl ?_
  refine gw_vret (?_) (by decide) (by decide) rfl dX3_init_6
  subst hpost
  exact ⟨rfl, rfl⟩
set_option maxHeartbeats 4000000 in
set_option maxRecDepth 100000 in
theorem c_o3_0 (l : Launch) (cy : Nat → ClassId) (a : Nat) (p : Int32) : gw_M l kX3_init cy [.ref (a), .int (p), .null] [(a, .inr (0, [.int ((0 : Int32)), .int ((0 : Int32)), .int ((0 : Int32)), .int ((0 : Int32)), .null, .int ((0 : Int32))]))] (fun r w' => r = none ∧ w' = [(a, .inr (0, [.int ((0 : Int32)), .int ((0 : Int32)), .int ((0 : Int32)), .int (p), .null, .int ((0 : Int32))]))]) := by
  refine gw_M.mk (lv := [some (.ref (a)), some (.int (p)), some (.null)]) (by decide) (Nat.le_of_ble_eq_true rfl) rfl ?_
  generalize hpost : (fun r w' => r = none ∧ w' = [(a, .inr (0, [.int ((0 : Int32)), .int ((0 : Int32)), .int ((0 : Int32)), .int (p), .null, .int ((0 : Int32))]))] : gw_Q) = post
  refine gw_aload_n dX3_init_0 rfl ?_
  refine gw_iload_n dX3_init_1 rfl ?_
  refine gw_aload_nN dX3_init_2 rfl ?_
  refine gw_callI (As := [.int (p), .null]) (st := []) (c_o5_0 l cy a p) ok_X5_init wd_473 rfl rfl dX3_init_3 (by decide) (by decide) (Nat.le_of_ble_eq_true rfl) (fun r3 w3 hp3 => ?_)
  obtain ⟨rfl, rfl⟩ := hp3
  refine gw_W.norm (st' := []) (k1 := 0) (k2 := 0) rfl rfl rfl ?_
  refine gw_vret (?_) (by decide) (by decide) rfl dX3_init_6
  subst hpost
  exact ⟨rfl, rfl⟩
set_option maxHeartbeats 4000000 in
set_option maxRecDepth 100000 in
theorem c_o3_1 (l : Launch) (cy : Nat → ClassId) (a : Nat) (p : Int32) : gw_M l kX3_init cy [.ref (a), .int (p), .null] [(a, .inr (1, [.int ((0 : Int32)), .null, .int ((0 : Int32)), .int ((0 : Int32)), .int ((0 : Int32))]))] (fun r w' => r = none ∧ w' = [(a, .inr (1, [.int (p), .null, .int ((0 : Int32)), .int ((0 : Int32)), .int ((0 : Int32))]))]) := by
  refine gw_M.mk (lv := [some (.ref (a)), some (.int (p)), some (.null)]) (by decide) (Nat.le_of_ble_eq_true rfl) rfl ?_
  generalize hpost : (fun r w' => r = none ∧ w' = [(a, .inr (1, [.int (p), .null, .int ((0 : Int32)), .int ((0 : Int32)), .int ((0 : Int32))]))] : gw_Q) = post
  refine gw_aload_n dX3_init_0 rfl ?_
  refine gw_iload_n dX3_init_1 rfl ?_
  refine gw_aload_nN dX3_init_2 rfl ?_
  refine gw_callI (As := [.int (p), .null]) (st := []) (c_o5_1 l cy a p) ok_X5_init wd_473 rfl rfl dX3_init_3 (by decide) (by decide) (Nat.le_of_ble_eq_true rfl) (fun r3 w3 hp3 => ?_)
  obtain ⟨rfl, rfl⟩ := hp3
  refine gw_W.norm (st' := []) (k1 := 0) (k2 := 0) rfl rfl rfl ?_
  refine gw_vret (?_) (by decide) (by decide) rfl dX3_init_6
  subst hpost
  exact ⟨rfl, rfl⟩
abbrev kX6_init : gw_K := (yX6_init, cX6_init, 6, { frames := 3, cells := 0, slots := 0, locals := 64 }, none)
theorem ok_X6_init : gw_calI kX6_init 5 := ⟨⟨wd_469, wd_68, by decide, by decide, by decide +kernel⟩, wd_468, rfl, rfl⟩
set_option maxHeartbeats 4000000 in
set_option maxRecDepth 100000 in
theorem c_o6_4 (l : Launch) (cy : Nat → ClassId) (a : Nat) (p x y z : Int32) : gw_M l kX6_init cy [.ref (a), .int (p), .null, .int (x), .int (y), .int (z)] [(a, .inr (4, [.int ((0 : Int32)), .null, .int ((0 : Int32)), .int ((0 : Int32)), .int ((0 : Int32))]))] (fun r w' => r = none ∧ w' = [(a, .inr (4, [.int (p), .null, .int (x), .int (y), .int (z)]))]) := by
  refine gw_M.mk (lv := [some (.ref (a)), some (.int (p)), some (.null), some (.int (x)), some (.int (y)), some (.int (z))]) (by decide) (Nat.le_of_ble_eq_true rfl) rfl ?_
  generalize hpost : (fun r w' => r = none ∧ w' = [(a, .inr (4, [.int (p), .null, .int (x), .int (y), .int (z)]))] : gw_Q) = post
  refine gw_aload_n dX6_init_0 rfl ?_
  refine gw_iload_n dX6_init_1 rfl ?_
  refine gw_aload_nN dX6_init_2 rfl ?_
  refine gw_callI (As := [.int (p), .null]) (st := []) (c_o3_4 l cy a p) ok_X3_init wd_470 rfl rfl dX6_init_3 (by decide) (by decide) (Nat.le_of_ble_eq_true rfl) (fun r3 w3 hp3 => ?_)
  obtain ⟨rfl, rfl⟩ := hp3
  refine gw_W.norm (st' := []) (k1 := 0) (k2 := 0) rfl rfl rfl ?_
  refine gw_aload_n dX6_init_6 rfl ?_
  refine gw_iload_n dX6_init_7 rfl ?_
  refine gw_putF (C0 := RX6) (T := TX6) (N := 5) (ref := RX6) (ty := tyX6 2) 0 rfl rfl inX6 2 (by decide) tyX6 tyX6_ok nmX6 wd_477 (Or.inl rfl) rfl rfl rfl (tyX6_ok 2 (by decide)) (rfl) (rfl) (Nat.le_of_ble_eq_true rfl) dX6_init_8 ?_
  refine gw_W.wd (w' := [(a, .inr (4, [.int (p), .null, .int (x), .int ((0 : Int32)), .int ((0 : Int32))]))]) rfl ?_
  refine gw_aload_n dX6_init_11 rfl ?_
  refine gw_iload dX6_init_12 rfl ?_
  refine gw_putF (C0 := RX6) (T := TX6) (N := 5) (ref := RX6) (ty := tyX6 3) 0 rfl rfl inX6 3 (by decide) tyX6 tyX6_ok nmX6 wd_479 (Or.inl rfl) rfl rfl rfl (tyX6_ok 3 (by decide)) (rfl) (rfl) (Nat.le_of_ble_eq_true rfl) dX6_init_14 ?_
  refine gw_W.wd (w' := [(a, .inr (4, [.int (p), .null, .int (x), .int (y), .int ((0 : Int32))]))]) rfl ?_
  refine gw_aload_n dX6_init_17 rfl ?_
  refine gw_iload dX6_init_18 rfl ?_
  refine gw_putF (C0 := RX6) (T := TX6) (N := 5) (ref := RX6) (ty := tyX6 4) 0 rfl rfl inX6 4 (by decide) tyX6 tyX6_ok nmX6 wd_482 (Or.inl rfl) rfl rfl rfl (tyX6_ok 4 (by decide)) (rfl) (rfl) (Nat.le_of_ble_eq_true rfl) dX6_init_20 ?_
  refine gw_W.wd (w' := [(a, .inr (4, [.int (p), .null, .int (x), .int (y), .int (z)]))]) rfl ?_
  refine gw_vret (?_) (by decide) (by decide) rfl dX6_init_23
  subst hpost
  exact ⟨rfl, rfl⟩
set_option maxHeartbeats 4000000 in
set_option maxRecDepth 100000 in
theorem c_o6_0 (l : Launch) (cy : Nat → ClassId) (a : Nat) (p x y z : Int32) : gw_M l kX6_init cy [.ref (a), .int (p), .null, .int (x), .int (y), .int (z)] [(a, .inr (0, [.int ((0 : Int32)), .int ((0 : Int32)), .int ((0 : Int32)), .int ((0 : Int32)), .null, .int ((0 : Int32))]))] (fun r w' => r = none ∧ w' = [(a, .inr (0, [.int (x), .int (y), .int (z), .int (p), .null, .int ((0 : Int32))]))]) := by
  refine gw_M.mk (lv := [some (.ref (a)), some (.int (p)), some (.null), some (.int (x)), some (.int (y)), some (.int (z))]) (by decide) (Nat.le_of_ble_eq_true rfl) rfl ?_
  generalize hpost : (fun r w' => r = none ∧ w' = [(a, .inr (0, [.int (x), .int (y), .int (z), .int (p), .null, .int ((0 : Int32))]))] : gw_Q) = post
  refine gw_aload_n dX6_init_0 rfl ?_
  refine gw_iload_n dX6_init_1 rfl ?_
  refine gw_aload_nN dX6_init_2 rfl ?_
  refine gw_callI (As := [.int (p), .null]) (st := []) (c_o3_0 l cy a p) ok_X3_init wd_470 rfl rfl dX6_init_3 (by decide) (by decide) (Nat.le_of_ble_eq_true rfl) (fun r3 w3 hp3 => ?_)
  obtain ⟨rfl, rfl⟩ := hp3
  refine gw_W.norm (st' := []) (k1 := 0) (k2 := 0) rfl rfl rfl ?_
  refine gw_aload_n dX6_init_6 rfl ?_
  refine gw_iload_n dX6_init_7 rfl ?_
  refine gw_putF (C0 := RX0) (T := TX0) (N := 6) (ref := RX6) (ty := tyX0 0) 0 rfl rfl inX0 0 (by decide) tyX0 tyX0_ok nmX0 wd_477 (Or.inl rfl) rfl rfl rfl (tyX0_ok 0 (by decide)) (rfl) (rfl) (Nat.le_of_ble_eq_true rfl) dX6_init_8 ?_
  refine gw_W.wd (w' := [(a, .inr (0, [.int (x), .int ((0 : Int32)), .int ((0 : Int32)), .int (p), .null, .int ((0 : Int32))]))]) rfl ?_
  refine gw_aload_n dX6_init_11 rfl ?_
  refine gw_iload dX6_init_12 rfl ?_
  refine gw_putF (C0 := RX0) (T := TX0) (N := 6) (ref := RX6) (ty := tyX0 1) 0 rfl rfl inX0 1 (by decide) tyX0 tyX0_ok nmX0 wd_479 (Or.inl rfl) rfl rfl rfl (tyX0_ok 1 (by decide)) (rfl) (rfl) (Nat.le_of_ble_eq_true rfl) dX6_init_14 ?_
  refine gw_W.wd (w' := [(a, .inr (0, [.int (x), .int (y), .int ((0 : Int32)), .int (p), .null, .int ((0 : Int32))]))]) rfl ?_
  refine gw_aload_n dX6_init_17 rfl ?_
  refine gw_iload dX6_init_18 rfl ?_
  refine gw_putF (C0 := RX0) (T := TX0) (N := 6) (ref := RX6) (ty := tyX0 2) 0 rfl rfl inX0 2 (by decide) tyX0 tyX0_ok nmX0 wd_482 (Or.inl rfl) rfl rfl rfl (tyX0_ok 2 (by decide)) (rfl) (rfl) (Nat.le_of_ble_eq_true rfl) dX6_init_20 ?_
  refine gw_W.wd (w' := [(a, .inr (0, [.int (x), .int (y), .int (z), .int (p), .null, .int ((0 : Int32))]))]) rfl ?_
  refine gw_vret (?_) (by decide) (by decide) rfl dX6_init_23
  subst hpost
  exact ⟨rfl, rfl⟩
abbrev kX0_init : gw_K := (yX0_init, cX0_init, 7, { frames := 4, cells := 0, slots := 0, locals := 89 }, none)
theorem ok_X0_init : gw_calI kX0_init 6 := ⟨⟨wd_518, wd_69, by decide, by decide, by decide +kernel⟩, wd_517, rfl, rfl⟩
set_option maxHeartbeats 4000000 in
set_option maxRecDepth 100000 in
theorem c_o0 (l : Launch) (cy : Nat → ClassId) (a : Nat) (p x y z t : Int32) : gw_M l kX0_init cy [.ref (a), .int (p), .null, .int (x), .int (y), .int (z), .int (t)] [(a, .inr (0, [.int ((0 : Int32)), .int ((0 : Int32)), .int ((0 : Int32)), .int ((0 : Int32)), .null, .int ((0 : Int32))]))] (fun r w' => r = none ∧ w' = [(a, .inr (0, [.int (x), .int (y), .int (z), .int (p), .null, .int (t)]))]) := by
  refine gw_M.mk (lv := [some (.ref (a)), some (.int (p)), some (.null), some (.int (x)), some (.int (y)), some (.int (z)), some (.int (t))]) (by decide) (Nat.le_of_ble_eq_true rfl) rfl ?_
  generalize hpost : (fun r w' => r = none ∧ w' = [(a, .inr (0, [.int (x), .int (y), .int (z), .int (p), .null, .int (t)]))] : gw_Q) = post
  refine gw_aload_n dX0_init_0 rfl ?_
  refine gw_iload_n dX0_init_1 rfl ?_
  refine gw_aload_nN dX0_init_2 rfl ?_
  refine gw_iload_n dX0_init_3 rfl ?_
  refine gw_iload dX0_init_4 rfl ?_
  refine gw_iload dX0_init_6 rfl ?_
  refine gw_callI (As := [.int (p), .null, .int (x), .int (y), .int (z)]) (st := []) (c_o6_0 l cy a p x y z) ok_X6_init wd_519 rfl rfl dX0_init_8 (by decide) (by decide) (Nat.le_of_ble_eq_true rfl) (fun r8 w8 hp8 => ?_)
  obtain ⟨rfl, rfl⟩ := hp8
  refine gw_W.norm (st' := []) (k1 := 0) (k2 := 0) rfl rfl rfl ?_
  refine gw_aload_n dX0_init_11 rfl ?_
  refine gw_iload dX0_init_12 rfl ?_
  refine gw_putF (C0 := RX0) (T := TX0) (N := 6) (ref := RX0) (ty := tyX0 5) 0 rfl rfl inX0 5 (by decide) tyX0 tyX0_ok nmX0 wd_520 (Or.inl rfl) rfl rfl rfl (tyX0_ok 5 (by decide)) (rfl) (rfl) (Nat.le_of_ble_eq_true rfl) dX0_init_14 ?_
  refine gw_W.wd (w' := [(a, .inr (0, [.int (x), .int (y), .int (z), .int (p), .null, .int (t)]))]) rfl ?_
  refine gw_vret (?_) (by decide) (by decide) rfl dX0_init_17
  subst hpost
  exact ⟨rfl, rfl⟩
abbrev kX1_init : gw_K := (yX1_init, cX1_init, 6, { frames := 3, cells := 0, slots := 0, locals := 64 }, none)
theorem ok_X1_init : gw_calI kX1_init 5 := ⟨⟨wd_537, wd_70, by decide, by decide, by decide +kernel⟩, wd_536, rfl, rfl⟩
set_option maxHeartbeats 4000000 in
set_option maxRecDepth 100000 in
theorem c_o1 (l : Launch) (cy : Nat → ClassId) (a : Nat) (p x y z : Int32) : gw_M l kX1_init cy [.ref (a), .int (p), .null, .int (x), .int (y), .int (z)] [(a, .inr (1, [.int ((0 : Int32)), .null, .int ((0 : Int32)), .int ((0 : Int32)), .int ((0 : Int32))]))] (fun r w' => r = none ∧ w' = [(a, .inr (1, [.int (p), .null, .int (x), .int (y), .int (z)]))]) := by
  refine gw_M.mk (lv := [some (.ref (a)), some (.int (p)), some (.null), some (.int (x)), some (.int (y)), some (.int (z))]) (by decide) (Nat.le_of_ble_eq_true rfl) rfl ?_
  generalize hpost : (fun r w' => r = none ∧ w' = [(a, .inr (1, [.int (p), .null, .int (x), .int (y), .int (z)]))] : gw_Q) = post
  refine gw_aload_n dX1_init_0 rfl ?_
  refine gw_iload_n dX1_init_1 rfl ?_
  refine gw_aload_nN dX1_init_2 rfl ?_
  refine gw_callI (As := [.int (p), .null]) (st := []) (c_o3_1 l cy a p) ok_X3_init wd_538 rfl rfl dX1_init_3 (by decide) (by decide) (Nat.le_of_ble_eq_true rfl) (fun r3 w3 hp3 => ?_)
  obtain ⟨rfl, rfl⟩ := hp3
  refine gw_W.norm (st' := []) (k1 := 0) (k2 := 0) rfl rfl rfl ?_
  refine gw_aload_n dX1_init_6 rfl ?_
  refine gw_iload_n dX1_init_7 rfl ?_
  refine gw_putF (C0 := RX1) (T := TX1) (N := 5) (ref := RX1) (ty := tyX1 2) 0 rfl rfl inX1 2 (by decide) tyX1 tyX1_ok nmX1 wd_539 (Or.inl rfl) rfl rfl rfl (tyX1_ok 2 (by decide)) (rfl) (rfl) (Nat.le_of_ble_eq_true rfl) dX1_init_8 ?_
  refine gw_W.wd (w' := [(a, .inr (1, [.int (p), .null, .int (x), .int ((0 : Int32)), .int ((0 : Int32))]))]) rfl ?_
  refine gw_aload_n dX1_init_11 rfl ?_
  refine gw_iload dX1_init_12 rfl ?_
  refine gw_putF (C0 := RX1) (T := TX1) (N := 5) (ref := RX1) (ty := tyX1 3) 0 rfl rfl inX1 3 (by decide) tyX1 tyX1_ok nmX1 wd_540 (Or.inl rfl) rfl rfl rfl (tyX1_ok 3 (by decide)) (rfl) (rfl) (Nat.le_of_ble_eq_true rfl) dX1_init_14 ?_
  refine gw_W.wd (w' := [(a, .inr (1, [.int (p), .null, .int (x), .int (y), .int ((0 : Int32))]))]) rfl ?_
  refine gw_aload_n dX1_init_17 rfl ?_
  refine gw_iload dX1_init_18 rfl ?_
  refine gw_putF (C0 := RX1) (T := TX1) (N := 5) (ref := RX1) (ty := tyX1 4) 0 rfl rfl inX1 4 (by decide) tyX1 tyX1_ok nmX1 wd_541 (Or.inl rfl) rfl rfl rfl (tyX1_ok 4 (by decide)) (rfl) (rfl) (Nat.le_of_ble_eq_true rfl) dX1_init_20 ?_
  refine gw_W.wd (w' := [(a, .inr (1, [.int (p), .null, .int (x), .int (y), .int (z)]))]) rfl ?_
  refine gw_vret (?_) (by decide) (by decide) rfl dX1_init_23
  subst hpost
  exact ⟨rfl, rfl⟩
abbrev kX7_init : gw_K := (yX7_init, cX7_init, 4, { frames := 2, cells := 0, slots := 0, locals := 42 }, none)
theorem ok_X7_init : gw_calI kX7_init 3 := ⟨⟨wd_564, wd_71, by decide, by decide, by decide +kernel⟩, wd_563, rfl, rfl⟩
set_option maxHeartbeats 4000000 in
set_option maxRecDepth 100000 in
theorem c_o7 (l : Launch) (cy : Nat → ClassId) (a : Nat) (p x : Int32) : gw_M l kX7_init cy [.ref (a), .int (p), .null, .int (x)] [(a, .inr (5, [.int ((0 : Int32)), .null, .int ((0 : Int32)), .int ((0 : Int32))]))] (fun r w' => r = none ∧ w' = [(a, .inr (5, [.int (p), .null, .int (x), .int ((0 : Int32))]))]) := by
  refine gw_M.mk (lv := [some (.ref (a)), some (.int (p)), some (.null), some (.int (x))]) (by decide) (Nat.le_of_ble_eq_true rfl) rfl ?_
  generalize hpost : (fun r w' => r = none ∧ w' = [(a, .inr (5, [.int (p), .null, .int (x), .int ((0 : Int32))]))] : gw_Q) = post
  refine gw_aload_n dX7_init_0 rfl ?_
  refine gw_iload_n dX7_init_1 rfl ?_
  refine gw_aload_nN dX7_init_2 rfl ?_
  refine gw_callI (As := [.int (p), .null]) (st := []) (c_o5_5 l cy a p) ok_X5_init wd_565 rfl rfl dX7_init_3 (by decide) (by decide) (Nat.le_of_ble_eq_true rfl) (fun r3 w3 hp3 => ?_)
  obtain ⟨rfl, rfl⟩ := hp3
  refine gw_W.norm (st' := []) (k1 := 0) (k2 := 0) rfl rfl rfl ?_
  refine gw_aload_n dX7_init_6 rfl ?_
  refine gw_iload_n dX7_init_7 rfl ?_
  refine gw_putF (C0 := RX7) (T := TX7) (N := 4) (ref := RX7) (ty := tyX7 2) 0 rfl rfl inX7 2 (by decide) tyX7 tyX7_ok nmX7 wd_566 (Or.inl rfl) rfl rfl rfl (tyX7_ok 2 (by decide)) (rfl) (rfl) (Nat.le_of_ble_eq_true rfl) dX7_init_8 ?_
  refine gw_W.wd (w' := [(a, .inr (5, [.int (p), .null, .int (x), .int ((0 : Int32))]))]) rfl ?_
  refine gw_vret (?_) (by decide) (by decide) rfl dX7_init_11
  subst hpost
  exact ⟨rfl, rfl⟩
abbrev kX8_init : gw_K := (yX8_init, cX8_init, 5, { frames := 2, cells := 0, slots := 0, locals := 42 }, none)
theorem ok_X8_init : gw_calI kX8_init 4 := ⟨⟨wd_599, wd_73, by decide, by decide, by decide +kernel⟩, wd_598, rfl, rfl⟩
set_option maxHeartbeats 4000000 in
set_option maxRecDepth 100000 in
theorem c_o8 (l : Launch) (cy : Nat → ClassId) (a : Nat) (p x y : Int32) : gw_M l kX8_init cy [.ref (a), .int (p), .null, .int (x), .int (y)] [(a, .inr (6, [.int ((0 : Int32)), .null, .int ((0 : Int32)), .int ((0 : Int32))]))] (fun r w' => r = none ∧ w' = [(a, .inr (6, [.int (p), .null, .int (x), .int (y)]))]) := by
  refine gw_M.mk (lv := [some (.ref (a)), some (.int (p)), some (.null), some (.int (x)), some (.int (y))]) (by decide) (Nat.le_of_ble_eq_true rfl) rfl ?_
  generalize hpost : (fun r w' => r = none ∧ w' = [(a, .inr (6, [.int (p), .null, .int (x), .int (y)]))] : gw_Q) = post
  refine gw_aload_n dX8_init_0 rfl ?_
  refine gw_iload_n dX8_init_1 rfl ?_
  refine gw_aload_nN dX8_init_2 rfl ?_
  refine gw_callI (As := [.int (p), .null]) (st := []) (c_o5_6 l cy a p) ok_X5_init wd_600 rfl rfl dX8_init_3 (by decide) (by decide) (Nat.le_of_ble_eq_true rfl) (fun r3 w3 hp3 => ?_)
  obtain ⟨rfl, rfl⟩ := hp3
  refine gw_W.norm (st' := []) (k1 := 0) (k2 := 0) rfl rfl rfl ?_
  refine gw_aload_n dX8_init_6 rfl ?_
  refine gw_iload_n dX8_init_7 rfl ?_
  refine gw_putF (C0 := RX8) (T := TX8) (N := 4) (ref := RX8) (ty := tyX8 2) 0 rfl rfl inX8 2 (by decide) tyX8 tyX8_ok nmX8 wd_601 (Or.inl rfl) rfl rfl rfl (tyX8_ok 2 (by decide)) (rfl) (rfl) (Nat.le_of_ble_eq_true rfl) dX8_init_8 ?_
  refine gw_W.wd (w' := [(a, .inr (6, [.int (p), .null, .int (x), .int ((0 : Int32))]))]) rfl ?_
  refine gw_aload_n dX8_init_11 rfl ?_
  refine gw_iload dX8_init_12 rfl ?_
  refine gw_putF (C0 := RX8) (T := TX8) (N := 4) (ref := RX8) (ty := tyX8 3) 0 rfl rfl inX8 3 (by decide) tyX8 tyX8_ok nmX8 wd_602 (Or.inl rfl) rfl rfl rfl (tyX8_ok 3 (by decide)) (rfl) (rfl) (Nat.le_of_ble_eq_true rfl) dX8_init_14 ?_
  refine gw_W.wd (w' := [(a, .inr (6, [.int (p), .null, .int (x), .int (y)]))]) rfl ?_
  refine gw_vret (?_) (by decide) (by decide) rfl dX8_init_17
  subst hpost
  exact ⟨rfl, rfl⟩
abbrev kX11_append : gw_K := (yX11_append, cX11_append, 3, { frames := 0, cells := 0, slots := 0, locals := 0 }, (some .int))
theorem ok_X11_append : gw_calV kX11_append 1 := ⟨⟨wd_509, wd_57, by decide, by decide, by decide +kernel⟩, wd_508, wd_26⟩
set_option maxHeartbeats 4000000 in
set_option maxRecDepth 100000 in
theorem c_bappend (l : Launch) (cy : Nat → ClassId) (ad sa ta : Nat → Nat) (n ln bb : Nat) (nx sd lb lf : Int32) (lo : Option Nat) (pg : Nat → Option Nat) (bo : Nat → Int32) (R : va_W) (q ci : Nat) (fs : List Value) (r : vw_C) (hc : vwCl[ci]? = some r) (hca : Cond.castable r.1 RX5 ∈ gw_N) (hl : ln < 40) : gw_M l kX11_append cy [.ref (ad 0), .ref (q)] (bW cy ad sa ta n ln bb nx sd lb lf lo pg bo ++ ([(q, .inr (ci, fs))] ++ R)) (fun r w' => r = some (.int (nI ln)) ∧ w' = bW cy ad sa ta n (ln + 1) bb nx sd lb lf lo (va_up pg ln (some q)) bo ++ ([(q, .inr (ci, fs))] ++ R)) := by
  refine gw_M.mk (lv := [some (.ref (ad 0)), some (.ref (q)), none]) (by decide) (Nat.le_of_ble_eq_true rfl) rfl ?_
  generalize hpost : (fun r w' => r = some (.int (nI ln)) ∧ w' = bW cy ad sa ta n (ln + 1) bb nx sd lb lf lo (va_up pg ln (some q)) bo ++ ([(q, .inr (ci, fs))] ++ R) : gw_Q) = post
  refine gw_W.wd (w' := ([(ad 0, .inr (9, [.int (nI (n)), .ref (ad 1), .ref (ad 2), .ref (sa (3 * 0)), .ref (ad 4), .ref (ad 5), .ref (ad 6), .int (nI (ln)), va_rf (lo), .int (nx), .int (sd), .int (lb), .ref (ad 12), .int (nI (bb)), .int (lf)])), (ad 1, .inl (cy 3, 9, .inr (.inr (.inr (.inr (fun i => some (sa (3 * i)))))))), (ad 2, .inl (cy 3, 9, .inr (.inr (.inr (.inr (fun i => some (sa (3 * (9 + i))))))))), (ad 5, .inl (cy 4, 8, .inr (.inr (.inr (.inr (fun i => some (ta (2 * i)))))))), (ad 6, .inl (cy 2, 40, .inr (.inr (.inr (.inr (pg)))))), (ad 12, .inl (cy 0, 16, .inl (bo))), (q, .inr (ci, fs))] ++ R)) rfl ?_
  refine gw_aload_n dX11_append_0 rfl ?_
  refine gw_get (C0 := RX11) (T := TX11) (N := 15) (ref := RX11) 0 rfl rfl inX11 7 (by decide) wd_182 (Or.inl rfl) rfl dX11_append_1 ?_
  refine gw_istore_n dX11_append_4 (by decide) rfl ?_
  refine gw_iload_n dX11_append_5 rfl ?_
  refine gw_bipush (v := nI (40)) dX11_append_6 (by decide) ?_
  refine gw_icmpN_lt (tgt := 14) dX11_append_8 (by decide) (by omega) (by omega) (fun c8 => ?_) (fun c8 => ?_)
  · refine gw_aload_n dX11_append_14 rfl ?_
    refine gw_get (C0 := RX11) (T := TX11) (N := 15) (ref := RX11) 0 rfl rfl inX11 6 (by decide) wd_181 (Or.inl rfl) rfl dX11_append_15 ?_
    refine gw_iload_n dX11_append_18 rfl ?_
    refine gw_aload_n dX11_append_19 rfl ?_
    refine gw_aast2 4 6 ci rfl rfl hc (Or.inr hca) rfl (by omega) (by decide) dX11_append_20 ?_
    refine gw_W.wd (w' := ([(ad 0, .inr (9, [.int (nI (n)), .ref (ad 1), .ref (ad 2), .ref (sa (3 * 0)), .ref (ad 4), .ref (ad 5), .ref (ad 6), .int (nI (ln)), va_rf (lo), .int (nx), .int (sd), .int (lb), .ref (ad 12), .int (nI (bb)), .int (lf)])), (ad 1, .inl (cy 3, 9, .inr (.inr (.inr (.inr (fun i => some (sa (3 * i)))))))), (ad 2, .inl (cy 3, 9, .inr (.inr (.inr (.inr (fun i => some (sa (3 * (9 + i))))))))), (ad 5, .inl (cy 4, 8, .inr (.inr (.inr (.inr (fun i => some (ta (2 * i)))))))), (ad 6, .inl (cy 2, 40, .inr (.inr (.inr (.inr (va_up pg (ln) (some (q)))))))), (ad 12, .inl (cy 0, 16, .inl (bo))), (q, .inr (ci, fs))] ++ R)) rfl ?_
    refine gw_aload_n dX11_append_21 rfl ?_
    refine gw_dup dX11_append_22 rfl ?_
    refine gw_get (C0 := RX11) (T := TX11) (N := 15) (ref := RX11) 0 rfl rfl inX11 7 (by decide) wd_182 (Or.inl rfl) rfl dX11_append_23 ?_
    refine gw_iconst (v := nI (1)) dX11_append_26 (by decide) ?_
    refine gw_iaddN dX11_append_27 ?_
    refine gw_put (C0 := RX11) (T := TX11) (N := 15) (ref := RX11) (ty := tyX11 7) 0 rfl rfl inX11 7 (by decide) tyX11 tyX11_ok nmX11 wd_182 (Or.inl rfl) rfl (tyX11_ok 7 (by decide)) (rfl) (rfl) (Nat.le_of_ble_eq_true rfl) dX11_append_28 ?_
    refine gw_W.wd (w' := ([(ad 0, .inr (9, [.int (nI (n)), .ref (ad 1), .ref (ad 2), .ref (sa (3 * 0)), .ref (ad 4), .ref (ad 5), .ref (ad 6), .int (nI (ln + 1)), va_rf (lo), .int (nx), .int (sd), .int (lb), .ref (ad 12), .int (nI (bb)), .int (lf)])), (ad 1, .inl (cy 3, 9, .inr (.inr (.inr (.inr (fun i => some (sa (3 * i)))))))), (ad 2, .inl (cy 3, 9, .inr (.inr (.inr (.inr (fun i => some (sa (3 * (9 + i))))))))), (ad 5, .inl (cy 4, 8, .inr (.inr (.inr (.inr (fun i => some (ta (2 * i)))))))), (ad 6, .inl (cy 2, 40, .inr (.inr (.inr (.inr (va_up pg (ln) (some (q)))))))), (ad 12, .inl (cy 0, 16, .inl (bo))), (q, .inr (ci, fs))] ++ R)) rfl ?_
    refine gw_iload_n dX11_append_31 rfl ?_
    refine gw_iret (?_) (by decide) (by decide) rfl dX11_append_32
    subst hpost
    exact ⟨rfl, rfl⟩
  · exact absurd hl c8
set_option maxHeartbeats 4000000 in
set_option maxRecDepth 100000 in
theorem c_r5_4 (l : Launch) (cy : Nat → ClassId) (a r : Nat) (p : Int32) : gw_M l kX5_init cy [.ref (a), .int (p), .ref (r)] [(a, .inr (4, [.int ((0 : Int32)), .null, .int ((0 : Int32)), .int ((0 : Int32)), .int ((0 : Int32))]))] (fun rr w' => rr = none ∧ w' = [(a, .inr (4, [.int (p), .ref (r), .int ((0 : Int32)), .int ((0 : Int32)), .int ((0 : Int32))]))]) := by
  refine gw_M.mk (lv := [some (.ref (a)), some (.int (p)), some (.ref (r))]) (by decide) (Nat.le_of_ble_eq_true rfl) rfl ?_
  generalize hpost : (fun rr w' => rr = none ∧ w' = [(a, .inr (4, [.int (p), .ref (r), .int ((0 : Int32)), .int ((0 : Int32)), .int ((0 : Int32))]))] : gw_Q) = post
  refine gw_aload_n dX5_init_0 rfl ?_
  refine gw_objInit wd_476 wd_80 wd_81 (by decide) dX5_init_1 ?_
  refine gw_aload_n dX5_init_4 rfl ?_
  refine gw_iload_n dX5_init_5 rfl ?_
  refine gw_putF (C0 := RX6) (T := TX6) (N := 5) (ref := RX5) (ty := tyX6 0) 0 rfl rfl inX6 0 (by decide) tyX6 tyX6_ok nmX6 wd_483 (Or.inl rfl) rfl rfl rfl (tyX6_ok 0 (by decide)) (rfl) (rfl) (Nat.le_of_ble_eq_true rfl) dX5_init_6 ?_
  refine gw_W.wd (w' := [(a, .inr (4, [.int (p), .null, .int ((0 : Int32)), .int ((0 : Int32)), .int ((0 : Int32))]))]) rfl ?_
  refine gw_aload_n dX5_init_9 rfl ?_
  refine gw_aload_n dX5_init_10 rfl ?_
  refine gw_putF (C0 := RX6) (T := TX6) (N := 5) (ref := RX5) (ty := tyX6 1) 0 rfl rfl inX6 1 (by decide) tyX6 tyX6_ok nmX6 wd_487 (Or.inl rfl) rfl rfl rfl (tyX6_ok 1 (by decide)) (rfl) (rfl) (Nat.le_of_ble_eq_true rfl) dX5_init_11 ?_
  refine gw_W.wd (w' := [(a, .inr (4, [.int (p), .ref (r), .int ((0 : Int32)), .int ((0 : Int32)), .int ((0 : Int32))]))]) rfl ?_
  refine gw_vret (?_) (by decide) (by decide) rfl dX5_init_14
  subst hpost
  exact ⟨rfl, rfl⟩
theorem c_q5_4 (l : Launch) (cy : Nat → ClassId) (a : Nat) (ar : Option Nat) (p : Int32) : gw_M l kX5_init cy [.ref (a), .int (p), va_rf (ar)] [(a, .inr (4, [.int ((0 : Int32)), .null, .int ((0 : Int32)), .int ((0 : Int32)), .int ((0 : Int32))]))] (fun rr w' => rr = none ∧ w' = [(a, .inr (4, [.int (p), va_rf (ar), .int ((0 : Int32)), .int ((0 : Int32)), .int ((0 : Int32))]))]) := by
  cases ar with
  | none => exact c_o5_4 l cy a p 
  | some r => exact c_r5_4 l cy a r p 
set_option maxHeartbeats 4000000 in
set_option maxRecDepth 100000 in
theorem c_r5_0 (l : Launch) (cy : Nat → ClassId) (a r : Nat) (p : Int32) : gw_M l kX5_init cy [.ref (a), .int (p), .ref (r)] [(a, .inr (0, [.int ((0 : Int32)), .int ((0 : Int32)), .int ((0 : Int32)), .int ((0 : Int32)), .null, .int ((0 : Int32))]))] (fun rr w' => rr = none ∧ w' = [(a, .inr (0, [.int ((0 : Int32)), .int ((0 : Int32)), .int ((0 : Int32)), .int (p), .ref (r), .int ((0 : Int32))]))]) := by
  refine gw_M.mk (lv := [some (.ref (a)), some (.int (p)), some (.ref (r))]) (by decide) (Nat.le_of_ble_eq_true rfl) rfl ?_
  generalize hpost : (fun rr w' => rr = none ∧ w' = [(a, .inr (0, [.int ((0 : Int32)), .int ((0 : Int32)), .int ((0 : Int32)), .int (p), .ref (r), .int ((0 : Int32))]))] : gw_Q) = post
  refine gw_aload_n dX5_init_0 rfl ?_
  refine gw_objInit wd_476 wd_80 wd_81 (by decide) dX5_init_1 ?_
  refine gw_aload_n dX5_init_4 rfl ?_
  refine gw_iload_n dX5_init_5 rfl ?_
  refine gw_putF (C0 := RX0) (T := TX0) (N := 6) (ref := RX5) (ty := tyX0 3) 0 rfl rfl inX0 3 (by decide) tyX0 tyX0_ok nmX0 wd_483 (Or.inl rfl) rfl rfl rfl (tyX0_ok 3 (by decide)) (rfl) (rfl) (Nat.le_of_ble_eq_true rfl) dX5_init_6 ?_
  refine gw_W.wd (w' := [(a, .inr (0, [.int ((0 : Int32)), .int ((0 : Int32)), .int ((0 : Int32)), .int (p), .null, .int ((0 : Int32))]))]) rfl ?_
  refine gw_aload_n dX5_init_9 rfl ?_
  refine gw_aload_n dX5_init_10 rfl ?_
  refine gw_putF (C0 := RX0) (T := TX0) (N := 6) (ref := RX5) (ty := tyX0 4) 0 rfl rfl inX0 4 (by decide) tyX0 tyX0_ok nmX0 wd_487 (Or.inl rfl) rfl rfl rfl (tyX0_ok 4 (by decide)) (rfl) (rfl) (Nat.le_of_ble_eq_true rfl) dX5_init_11 ?_
  refine gw_W.wd (w' := [(a, .inr (0, [.int ((0 : Int32)), .int ((0 : Int32)), .int ((0 : Int32)), .int (p), .ref (r), .int ((0 : Int32))]))]) rfl ?_
  refine gw_vret (?_) (by decide) (by decide) rfl dX5_init_14
  subst hpost
  exact ⟨rfl, rfl⟩
theorem c_q5_0 (l : Launch) (cy : Nat → ClassId) (a : Nat) (ar : Option Nat) (p : Int32) : gw_M l kX5_init cy [.ref (a), .int (p), va_rf (ar)] [(a, .inr (0, [.int ((0 : Int32)), .int ((0 : Int32)), .int ((0 : Int32)), .int ((0 : Int32)), .null, .int ((0 : Int32))]))] (fun rr w' => rr = none ∧ w' = [(a, .inr (0, [.int ((0 : Int32)), .int ((0 : Int32)), .int ((0 : Int32)), .int (p), va_rf (ar), .int ((0 : Int32))]))]) := by
  cases ar with
  | none => exact c_o5_0 l cy a p 
  | some r => exact c_r5_0 l cy a r p 
set_option maxHeartbeats 4000000 in
set_option maxRecDepth 100000 in
theorem c_r5_1 (l : Launch) (cy : Nat → ClassId) (a r : Nat) (p : Int32) : gw_M l kX5_init cy [.ref (a), .int (p), .ref (r)] [(a, .inr (1, [.int ((0 : Int32)), .null, .int ((0 : Int32)), .int ((0 : Int32)), .int ((0 : Int32))]))] (fun rr w' => rr = none ∧ w' = [(a, .inr (1, [.int (p), .ref (r), .int ((0 : Int32)), .int ((0 : Int32)), .int ((0 : Int32))]))]) := by
  refine gw_M.mk (lv := [some (.ref (a)), some (.int (p)), some (.ref (r))]) (by decide) (Nat.le_of_ble_eq_true rfl) rfl ?_
  generalize hpost : (fun rr w' => rr = none ∧ w' = [(a, .inr (1, [.int (p), .ref (r), .int ((0 : Int32)), .int ((0 : Int32)), .int ((0 : Int32))]))] : gw_Q) = post
  refine gw_aload_n dX5_init_0 rfl ?_
  refine gw_objInit wd_476 wd_80 wd_81 (by decide) dX5_init_1 ?_
  refine gw_aload_n dX5_init_4 rfl ?_
  refine gw_iload_n dX5_init_5 rfl ?_
  refine gw_putF (C0 := RX1) (T := TX1) (N := 5) (ref := RX5) (ty := tyX1 0) 0 rfl rfl inX1 0 (by decide) tyX1 tyX1_ok nmX1 wd_483 (Or.inl rfl) rfl rfl rfl (tyX1_ok 0 (by decide)) (rfl) (rfl) (Nat.le_of_ble_eq_true rfl) dX5_init_6 ?_
  refine gw_W.wd (w' := [(a, .inr (1, [.int (p), .null, .int ((0 : Int32)), .int ((0 : Int32)), .int ((0 : Int32))]))]) rfl ?_
  refine gw_aload_n dX5_init_9 rfl ?_
  refine gw_aload_n dX5_init_10 rfl ?_
  refine gw_putF (C0 := RX1) (T := TX1) (N := 5) (ref := RX5) (ty := tyX1 1) 0 rfl rfl inX1 1 (by decide) tyX1 tyX1_ok nmX1 wd_487 (Or.inl rfl) rfl rfl rfl (tyX1_ok 1 (by decide)) (rfl) (rfl) (Nat.le_of_ble_eq_true rfl) dX5_init_11 ?_
  refine gw_W.wd (w' := [(a, .inr (1, [.int (p), .ref (r), .int ((0 : Int32)), .int ((0 : Int32)), .int ((0 : Int32))]))]) rfl ?_
  refine gw_vret (?_) (by decide) (by decide) rfl dX5_init_14
  subst hpost
  exact ⟨rfl, rfl⟩
theorem c_q5_1 (l : Launch) (cy : Nat → ClassId) (a : Nat) (ar : Option Nat) (p : Int32) : gw_M l kX5_init cy [.ref (a), .int (p), va_rf (ar)] [(a, .inr (1, [.int ((0 : Int32)), .null, .int ((0 : Int32)), .int ((0 : Int32)), .int ((0 : Int32))]))] (fun rr w' => rr = none ∧ w' = [(a, .inr (1, [.int (p), va_rf (ar), .int ((0 : Int32)), .int ((0 : Int32)), .int ((0 : Int32))]))]) := by
  cases ar with
  | none => exact c_o5_1 l cy a p 
  | some r => exact c_r5_1 l cy a r p 
set_option maxHeartbeats 4000000 in
set_option maxRecDepth 100000 in
theorem c_r5_5 (l : Launch) (cy : Nat → ClassId) (a r : Nat) (p : Int32) : gw_M l kX5_init cy [.ref (a), .int (p), .ref (r)] [(a, .inr (5, [.int ((0 : Int32)), .null, .int ((0 : Int32)), .int ((0 : Int32))]))] (fun rr w' => rr = none ∧ w' = [(a, .inr (5, [.int (p), .ref (r), .int ((0 : Int32)), .int ((0 : Int32))]))]) := by
  refine gw_M.mk (lv := [some (.ref (a)), some (.int (p)), some (.ref (r))]) (by decide) (Nat.le_of_ble_eq_true rfl) rfl ?_
  generalize hpost : (fun rr w' => rr = none ∧ w' = [(a, .inr (5, [.int (p), .ref (r), .int ((0 : Int32)), .int ((0 : Int32))]))] : gw_Q) = post
  refine gw_aload_n dX5_init_0 rfl ?_
  refine gw_objInit wd_476 wd_80 wd_81 (by decide) dX5_init_1 ?_
  refine gw_aload_n dX5_init_4 rfl ?_
  refine gw_iload_n dX5_init_5 rfl ?_
  refine gw_putF (C0 := RX7) (T := TX7) (N := 4) (ref := RX5) (ty := tyX7 0) 0 rfl rfl inX7 0 (by decide) tyX7 tyX7_ok nmX7 wd_483 (Or.inl rfl) rfl rfl rfl (tyX7_ok 0 (by decide)) (rfl) (rfl) (Nat.le_of_ble_eq_true rfl) dX5_init_6 ?_
  refine gw_W.wd (w' := [(a, .inr (5, [.int (p), .null, .int ((0 : Int32)), .int ((0 : Int32))]))]) rfl ?_
  refine gw_aload_n dX5_init_9 rfl ?_
  refine gw_aload_n dX5_init_10 rfl ?_
  refine gw_putF (C0 := RX7) (T := TX7) (N := 4) (ref := RX5) (ty := tyX7 1) 0 rfl rfl inX7 1 (by decide) tyX7 tyX7_ok nmX7 wd_487 (Or.inl rfl) rfl rfl rfl (tyX7_ok 1 (by decide)) (rfl) (rfl) (Nat.le_of_ble_eq_true rfl) dX5_init_11 ?_
  refine gw_W.wd (w' := [(a, .inr (5, [.int (p), .ref (r), .int ((0 : Int32)), .int ((0 : Int32))]))]) rfl ?_
  refine gw_vret (?_) (by decide) (by decide) rfl dX5_init_14
  subst hpost
  exact ⟨rfl, rfl⟩
theorem c_q5_5 (l : Launch) (cy : Nat → ClassId) (a : Nat) (ar : Option Nat) (p : Int32) : gw_M l kX5_init cy [.ref (a), .int (p), va_rf (ar)] [(a, .inr (5, [.int ((0 : Int32)), .null, .int ((0 : Int32)), .int ((0 : Int32))]))] (fun rr w' => rr = none ∧ w' = [(a, .inr (5, [.int (p), va_rf (ar), .int ((0 : Int32)), .int ((0 : Int32))]))]) := by
  cases ar with
  | none => exact c_o5_5 l cy a p 
  | some r => exact c_r5_5 l cy a r p 
set_option maxHeartbeats 4000000 in
set_option maxRecDepth 100000 in
theorem c_r5_6 (l : Launch) (cy : Nat → ClassId) (a r : Nat) (p : Int32) : gw_M l kX5_init cy [.ref (a), .int (p), .ref (r)] [(a, .inr (6, [.int ((0 : Int32)), .null, .int ((0 : Int32)), .int ((0 : Int32))]))] (fun rr w' => rr = none ∧ w' = [(a, .inr (6, [.int (p), .ref (r), .int ((0 : Int32)), .int ((0 : Int32))]))]) := by
  refine gw_M.mk (lv := [some (.ref (a)), some (.int (p)), some (.ref (r))]) (by decide) (Nat.le_of_ble_eq_true rfl) rfl ?_
  generalize hpost : (fun rr w' => rr = none ∧ w' = [(a, .inr (6, [.int (p), .ref (r), .int ((0 : Int32)), .int ((0 : Int32))]))] : gw_Q) = post
  refine gw_aload_n dX5_init_0 rfl ?_
  refine gw_objInit wd_476 wd_80 wd_81 (by decide) dX5_init_1 ?_
  refine gw_aload_n dX5_init_4 rfl ?_
  refine gw_iload_n dX5_init_5 rfl ?_
  refine gw_putF (C0 := RX8) (T := TX8) (N := 4) (ref := RX5) (ty := tyX8 0) 0 rfl rfl inX8 0 (by decide) tyX8 tyX8_ok nmX8 wd_483 (Or.inl rfl) rfl rfl rfl (tyX8_ok 0 (by decide)) (rfl) (rfl) (Nat.le_of_ble_eq_true rfl) dX5_init_6 ?_
  refine gw_W.wd (w' := [(a, .inr (6, [.int (p), .null, .int ((0 : Int32)), .int ((0 : Int32))]))]) rfl ?_
  refine gw_aload_n dX5_init_9 rfl ?_
  refine gw_aload_n dX5_init_10 rfl ?_
  refine gw_putF (C0 := RX8) (T := TX8) (N := 4) (ref := RX5) (ty := tyX8 1) 0 rfl rfl inX8 1 (by decide) tyX8 tyX8_ok nmX8 wd_487 (Or.inl rfl) rfl rfl rfl (tyX8_ok 1 (by decide)) (rfl) (rfl) (Nat.le_of_ble_eq_true rfl) dX5_init_11 ?_
  refine gw_W.wd (w' := [(a, .inr (6, [.int (p), .ref (r), .int ((0 : Int32)), .int ((0 : Int32))]))]) rfl ?_
  refine gw_vret (?_) (by decide) (by decide) rfl dX5_init_14
  subst hpost
  exact ⟨rfl, rfl⟩
theorem c_q5_6 (l : Launch) (cy : Nat → ClassId) (a : Nat) (ar : Option Nat) (p : Int32) : gw_M l kX5_init cy [.ref (a), .int (p), va_rf (ar)] [(a, .inr (6, [.int ((0 : Int32)), .null, .int ((0 : Int32)), .int ((0 : Int32))]))] (fun rr w' => rr = none ∧ w' = [(a, .inr (6, [.int (p), va_rf (ar), .int ((0 : Int32)), .int ((0 : Int32))]))]) := by
  cases ar with
  | none => exact c_o5_6 l cy a p 
  | some r => exact c_r5_6 l cy a r p 
set_option maxHeartbeats 4000000 in
set_option maxRecDepth 100000 in
theorem c_o5_2 (l : Launch) (cy : Nat → ClassId) (a : Nat) (p : Int32) : gw_M l kX5_init cy [.ref (a), .int (p), .null] [(a, .inr (2, [.int ((0 : Int32)), .null]))] (fun r w' => r = none ∧ w' = [(a, .inr (2, [.int (p), .null]))]) := by
  refine gw_M.mk (lv := [some (.ref (a)), some (.int (p)), some (.null)]) (by decide) (Nat.le_of_ble_eq_true rfl) rfl ?_
  generalize hpost : (fun r w' => r = none ∧ w' = [(a, .inr (2, [.int (p), .null]))] : gw_Q) = post
  refine gw_aload_n dX5_init_0 rfl ?_
  refine gw_objInit wd_476 wd_80 wd_81 (by decide) dX5_init_1 ?_
  refine gw_aload_n dX5_init_4 rfl ?_
  refine gw_iload_n dX5_init_5 rfl ?_
  refine gw_putF (C0 := RX2) (T := TX2) (N := 2) (ref := RX5) (ty := tyX2 0) 0 rfl rfl inX2 0 (by decide) tyX2 tyX2_ok nmX2 wd_483 (Or.inl rfl) rfl rfl rfl (tyX2_ok 0 (by decide)) (rfl) (rfl) (Nat.le_of_ble_eq_true rfl) dX5_init_6 ?_
  refine gw_W.wd (w' := [(a, .inr (2, [.int (p), .null]))]) rfl ?_
  refine gw_aload_n dX5_init_9 rfl ?_
  refine gw_aload_nN dX5_init_10 rfl ?_
  refine gw_putF (C0 := RX2) (T := TX2) (N := 2) (ref := RX5) (ty := tyX2 1) 0 rfl rfl inX2 1 (by decide) tyX2 tyX2_ok nmX2 wd_487 (Or.inl rfl) rfl rfl rfl (tyX2_ok 1 (by decide)) (rfl) (rfl) (Nat.le_of_ble_eq_true rfl) dX5_init_11 ?_
  refine gw_W.wd (w' := [(a, .inr (2, [.int (p), .null]))]) rfl ?_
  refine gw_vret (?_) (by decide) (by decide) rfl dX5_init_14
  subst hpost
  exact ⟨rfl, rfl⟩
set_option maxHeartbeats 4000000 in
set_option maxRecDepth 100000 in
theorem c_r5_2 (l : Launch) (cy : Nat → ClassId) (a r : Nat) (p : Int32) : gw_M l kX5_init cy [.ref (a), .int (p), .ref (r)] [(a, .inr (2, [.int ((0 : Int32)), .null]))] (fun rr w' => rr = none ∧ w' = [(a, .inr (2, [.int (p), .ref (r)]))]) := by
  refine gw_M.mk (lv := [some (.ref (a)), some (.int (p)), some (.ref (r))]) (by decide) (Nat.le_of_ble_eq_true rfl) rfl ?_
  generalize hpost : (fun rr w' => rr = none ∧ w' = [(a, .inr (2, [.int (p), .ref (r)]))] : gw_Q) = post
  refine gw_aload_n dX5_init_0 rfl ?_
  refine gw_objInit wd_476 wd_80 wd_81 (by decide) dX5_init_1 ?_
  refine gw_aload_n dX5_init_4 rfl ?_
  refine gw_iload_n dX5_init_5 rfl ?_
  refine gw_putF (C0 := RX2) (T := TX2) (N := 2) (ref := RX5) (ty := tyX2 0) 0 rfl rfl inX2 0 (by decide) tyX2 tyX2_ok nmX2 wd_483 (Or.inl rfl) rfl rfl rfl (tyX2_ok 0 (by decide)) (rfl) (rfl) (Nat.le_of_ble_eq_true rfl) dX5_init_6 ?_
  refine gw_W.wd (w' := [(a, .inr (2, [.int (p), .null]))]) rfl ?_
  refine gw_aload_n dX5_init_9 rfl ?_
  refine gw_aload_n dX5_init_10 rfl ?_
  refine gw_putF (C0 := RX2) (T := TX2) (N := 2) (ref := RX5) (ty := tyX2 1) 0 rfl rfl inX2 1 (by decide) tyX2 tyX2_ok nmX2 wd_487 (Or.inl rfl) rfl rfl rfl (tyX2_ok 1 (by decide)) (rfl) (rfl) (Nat.le_of_ble_eq_true rfl) dX5_init_11 ?_
  refine gw_W.wd (w' := [(a, .inr (2, [.int (p), .ref (r)]))]) rfl ?_
  refine gw_vret (?_) (by decide) (by decide) rfl dX5_init_14
  subst hpost
  exact ⟨rfl, rfl⟩
theorem c_q5_2 (l : Launch) (cy : Nat → ClassId) (a : Nat) (ar : Option Nat) (p : Int32) : gw_M l kX5_init cy [.ref (a), .int (p), va_rf (ar)] [(a, .inr (2, [.int ((0 : Int32)), .null]))] (fun rr w' => rr = none ∧ w' = [(a, .inr (2, [.int (p), va_rf (ar)]))]) := by
  cases ar with
  | none => exact c_o5_2 l cy a p 
  | some r => exact c_r5_2 l cy a r p 
set_option maxHeartbeats 4000000 in
set_option maxRecDepth 100000 in
theorem c_r3_4 (l : Launch) (cy : Nat → ClassId) (a r : Nat) (p : Int32) : gw_M l kX3_init cy [.ref (a), .int (p), .ref (r)] [(a, .inr (4, [.int ((0 : Int32)), .null, .int ((0 : Int32)), .int ((0 : Int32)), .int ((0 : Int32))]))] (fun rr w' => rr = none ∧ w' = [(a, .inr (4, [.int (p), .ref (r), .int ((0 : Int32)), .int ((0 : Int32)), .int ((0 : Int32))]))]) := by
  refine gw_M.mk (lv := [some (.ref (a)), some (.int (p)), some (.ref (r))]) (by decide) (Nat.le_of_ble_eq_true rfl) rfl ?_
  generalize hpost : (fun rr w' => rr = none ∧ w' = [(a, .inr (4, [.int (p), .ref (r), .int ((0 : Int32)), .int ((0 : Int32)), .int ((0 : Int32))]))] : gw_Q) = post
  refine gw_aload_n dX3_init_0 rfl ?_
  refine gw_iload_n dX3_init_1 rfl ?_
  refine gw_aload_n dX3_init_2 rfl ?_
  refine gw_callI (As := [.int (p), .ref (r)]) (st := []) (c_r5_4 l cy a r p) ok_X5_init wd_473 rfl rfl dX3_init_3 (by decide) (by decide) (Nat.le_of_ble_eq_true rfl) (fun r3 w3 hp3 => ?_)
  obtain ⟨rfl, rfl⟩ := hp3
  refine gw_W.norm (st' := []) (k1 := 0) (k2 := 0) rfl rfl rfl ?_
  refine gw_vret (?_) (by decide) (by decide) rfl dX3_init_6
  subst hpost
  exact ⟨rfl, rfl⟩
theorem c_q3_4 (l : Launch) (cy : Nat → ClassId) (a : Nat) (ar : Option Nat) (p : Int32) : gw_M l kX3_init cy [.ref (a), .int (p), va_rf (ar)] [(a, .inr (4, [.int ((0 : Int32)), .null, .int ((0 : Int32)), .int ((0 : Int32)), .int ((0 : Int32))]))] (fun rr w' => rr = none ∧ w' = [(a, .inr (4, [.int (p), va_rf (ar), .int ((0 : Int32)), .int ((0 : Int32)), .int ((0 : Int32))]))]) := by
  cases ar with
  | none => exact c_o3_4 l cy a p 
  | some r => exact c_r3_4 l cy a r p 
set_option maxHeartbeats 4000000 in
set_option maxRecDepth 100000 in
theorem c_r3_0 (l : Launch) (cy : Nat → ClassId) (a r : Nat) (p : Int32) : gw_M l kX3_init cy [.ref (a), .int (p), .ref (r)] [(a, .inr (0, [.int ((0 : Int32)), .int ((0 : Int32)), .int ((0 : Int32)), .int ((0 : Int32)), .null, .int ((0 : Int32))]))] (fun rr w' => rr = none ∧ w' = [(a, .inr (0, [.int ((0 : Int32)), .int ((0 : Int32)), .int ((0 : Int32)), .int (p), .ref (r), .int ((0 : Int32))]))]) := by
  refine gw_M.mk (lv := [some (.ref (a)), some (.int (p)), some (.ref (r))]) (by decide) (Nat.le_of_ble_eq_true rfl) rfl ?_
  generalize hpost : (fun rr w' => rr = none ∧ w' = [(a, .inr (0, [.int ((0 : Int32)), .int ((0 : Int32)), .int ((0 : Int32)), .int (p), .ref (r), .int ((0 : Int32))]))] : gw_Q) = post
  refine gw_aload_n dX3_init_0 rfl ?_
  refine gw_iload_n dX3_init_1 rfl ?_
  refine gw_aload_n dX3_init_2 rfl ?_
  refine gw_callI (As := [.int (p), .ref (r)]) (st := []) (c_r5_0 l cy a r p) ok_X5_init wd_473 rfl rfl dX3_init_3 (by decide) (by decide) (Nat.le_of_ble_eq_true rfl) (fun r3 w3 hp3 => ?_)
  obtain ⟨rfl, rfl⟩ := hp3
  refine gw_W.norm (st' := []) (k1 := 0) (k2 := 0) rfl rfl rfl ?_
  refine gw_vret (?_) (by decide) (by decide) rfl dX3_init_6
  subst hpost
  exact ⟨rfl, rfl⟩
theorem c_q3_0 (l : Launch) (cy : Nat → ClassId) (a : Nat) (ar : Option Nat) (p : Int32) : gw_M l kX3_init cy [.ref (a), .int (p), va_rf (ar)] [(a, .inr (0, [.int ((0 : Int32)), .int ((0 : Int32)), .int ((0 : Int32)), .int ((0 : Int32)), .null, .int ((0 : Int32))]))] (fun rr w' => rr = none ∧ w' = [(a, .inr (0, [.int ((0 : Int32)), .int ((0 : Int32)), .int ((0 : Int32)), .int (p), va_rf (ar), .int ((0 : Int32))]))]) := by
  cases ar with
  | none => exact c_o3_0 l cy a p 
  | some r => exact c_r3_0 l cy a r p 
set_option maxHeartbeats 4000000 in
set_option maxRecDepth 100000 in
theorem c_r3_1 (l : Launch) (cy : Nat → ClassId) (a r : Nat) (p : Int32) : gw_M l kX3_init cy [.ref (a), .int (p), .ref (r)] [(a, .inr (1, [.int ((0 : Int32)), .null, .int ((0 : Int32)), .int ((0 : Int32)), .int ((0 : Int32))]))] (fun rr w' => rr = none ∧ w' = [(a, .inr (1, [.int (p), .ref (r), .int ((0 : Int32)), .int ((0 : Int32)), .int ((0 : Int32))]))]) := by
  refine gw_M.mk (lv := [some (.ref (a)), some (.int (p)), some (.ref (r))]) (by decide) (Nat.le_of_ble_eq_true rfl) rfl ?_
  generalize hpost : (fun rr w' => rr = none ∧ w' = [(a, .inr (1, [.int (p), .ref (r), .int ((0 : Int32)), .int ((0 : Int32)), .int ((0 : Int32))]))] : gw_Q) = post
  refine gw_aload_n dX3_init_0 rfl ?_
  refine gw_iload_n dX3_init_1 rfl ?_
  refine gw_aload_n dX3_init_2 rfl ?_
  refine gw_callI (As := [.int (p), .ref (r)]) (st := []) (c_r5_1 l cy a r p) ok_X5_init wd_473 rfl rfl dX3_init_3 (by decide) (by decide) (Nat.le_of_ble_eq_true rfl) (fun r3 w3 hp3 => ?_)
  obtain ⟨rfl, rfl⟩ := hp3
  refine gw_W.norm (st' := []) (k1 := 0) (k2 := 0) rfl rfl rfl ?_
  refine gw_vret (?_) (by decide) (by decide) rfl dX3_init_6
  subst hpost
  exact ⟨rfl, rfl⟩
theorem c_q3_1 (l : Launch) (cy : Nat → ClassId) (a : Nat) (ar : Option Nat) (p : Int32) : gw_M l kX3_init cy [.ref (a), .int (p), va_rf (ar)] [(a, .inr (1, [.int ((0 : Int32)), .null, .int ((0 : Int32)), .int ((0 : Int32)), .int ((0 : Int32))]))] (fun rr w' => rr = none ∧ w' = [(a, .inr (1, [.int (p), va_rf (ar), .int ((0 : Int32)), .int ((0 : Int32)), .int ((0 : Int32))]))]) := by
  cases ar with
  | none => exact c_o3_1 l cy a p 
  | some r => exact c_r3_1 l cy a r p 
set_option maxHeartbeats 4000000 in
set_option maxRecDepth 100000 in
theorem c_r6_4 (l : Launch) (cy : Nat → ClassId) (a r : Nat) (p x y z : Int32) : gw_M l kX6_init cy [.ref (a), .int (p), .ref (r), .int (x), .int (y), .int (z)] [(a, .inr (4, [.int ((0 : Int32)), .null, .int ((0 : Int32)), .int ((0 : Int32)), .int ((0 : Int32))]))] (fun rr w' => rr = none ∧ w' = [(a, .inr (4, [.int (p), .ref (r), .int (x), .int (y), .int (z)]))]) := by
  refine gw_M.mk (lv := [some (.ref (a)), some (.int (p)), some (.ref (r)), some (.int (x)), some (.int (y)), some (.int (z))]) (by decide) (Nat.le_of_ble_eq_true rfl) rfl ?_
  generalize hpost : (fun rr w' => rr = none ∧ w' = [(a, .inr (4, [.int (p), .ref (r), .int (x), .int (y), .int (z)]))] : gw_Q) = post
  refine gw_aload_n dX6_init_0 rfl ?_
  refine gw_iload_n dX6_init_1 rfl ?_
  refine gw_aload_n dX6_init_2 rfl ?_
  refine gw_callI (As := [.int (p), .ref (r)]) (st := []) (c_r3_4 l cy a r p) ok_X3_init wd_470 rfl rfl dX6_init_3 (by decide) (by decide) (Nat.le_of_ble_eq_true rfl) (fun r3 w3 hp3 => ?_)
  obtain ⟨rfl, rfl⟩ := hp3
  refine gw_W.norm (st' := []) (k1 := 0) (k2 := 0) rfl rfl rfl ?_
  refine gw_aload_n dX6_init_6 rfl ?_
  refine gw_iload_n dX6_init_7 rfl ?_
  refine gw_putF (C0 := RX6) (T := TX6) (N := 5) (ref := RX6) (ty := tyX6 2) 0 rfl rfl inX6 2 (by decide) tyX6 tyX6_ok nmX6 wd_477 (Or.inl rfl) rfl rfl rfl (tyX6_ok 2 (by decide)) (rfl) (rfl) (Nat.le_of_ble_eq_true rfl) dX6_init_8 ?_
  refine gw_W.wd (w' := [(a, .inr (4, [.int (p), .ref (r), .int (x), .int ((0 : Int32)), .int ((0 : Int32))]))]) rfl ?_
  refine gw_aload_n dX6_init_11 rfl ?_
  refine gw_iload dX6_init_12 rfl ?_
  refine gw_putF (C0 := RX6) (T := TX6) (N := 5) (ref := RX6) (ty := tyX6 3) 0 rfl rfl inX6 3 (by decide) tyX6 tyX6_ok nmX6 wd_479 (Or.inl rfl) rfl rfl rfl (tyX6_ok 3 (by decide)) (rfl) (rfl) (Nat.le_of_ble_eq_true rfl) dX6_init_14 ?_
  refine gw_W.wd (w' := [(a, .inr (4, [.int (p), .ref (r), .int (x), .int (y), .int ((0 : Int32))]))]) rfl ?_
  refine gw_aload_n dX6_init_17 rfl ?_
  refine gw_iload dX6_init_18 rfl ?_
  refine gw_putF (C0 := RX6) (T := TX6) (N := 5) (ref := RX6) (ty := tyX6 4) 0 rfl rfl inX6 4 (by decide) tyX6 tyX6_ok nmX6 wd_482 (Or.inl rfl) rfl rfl rfl (tyX6_ok 4 (by decide)) (rfl) (rfl) (Nat.le_of_ble_eq_true rfl) dX6_init_20 ?_
  refine gw_W.wd (w' := [(a, .inr (4, [.int (p), .ref (r), .int (x), .int (y), .int (z)]))]) rfl ?_
  refine gw_vret (?_) (by decide) (by decide) rfl dX6_init_23
  subst hpost
  exact ⟨rfl, rfl⟩
theorem c_q6_4 (l : Launch) (cy : Nat → ClassId) (a : Nat) (ar : Option Nat) (p x y z : Int32) : gw_M l kX6_init cy [.ref (a), .int (p), va_rf (ar), .int (x), .int (y), .int (z)] [(a, .inr (4, [.int ((0 : Int32)), .null, .int ((0 : Int32)), .int ((0 : Int32)), .int ((0 : Int32))]))] (fun rr w' => rr = none ∧ w' = [(a, .inr (4, [.int (p), va_rf (ar), .int (x), .int (y), .int (z)]))]) := by
  cases ar with
  | none => exact c_o6_4 l cy a p x y z 
  | some r => exact c_r6_4 l cy a r p x y z 
set_option maxHeartbeats 4000000 in
set_option maxRecDepth 100000 in
theorem c_r6_0 (l : Launch) (cy : Nat → ClassId) (a r : Nat) (p x y z : Int32) : gw_M l kX6_init cy [.ref (a), .int (p), .ref (r), .int (x), .int (y), .int (z)] [(a, .inr (0, [.int ((0 : Int32)), .int ((0 : Int32)), .int ((0 : Int32)), .int ((0 : Int32)), .null, .int ((0 : Int32))]))] (fun rr w' => rr = none ∧ w' = [(a, .inr (0, [.int (x), .int (y), .int (z), .int (p), .ref (r), .int ((0 : Int32))]))]) := by
  refine gw_M.mk (lv := [some (.ref (a)), some (.int (p)), some (.ref (r)), some (.int (x)), some (.int (y)), some (.int (z))]) (by decide) (Nat.le_of_ble_eq_true rfl) rfl ?_
  generalize hpost : (fun rr w' => rr = none ∧ w' = [(a, .inr (0, [.int (x), .int (y), .int (z), .int (p), .ref (r), .int ((0 : Int32))]))] : gw_Q) = post
  refine gw_aload_n dX6_init_0 rfl ?_
  refine gw_iload_n dX6_init_1 rfl ?_
  refine gw_aload_n dX6_init_2 rfl ?_
  refine gw_callI (As := [.int (p), .ref (r)]) (st := []) (c_r3_0 l cy a r p) ok_X3_init wd_470 rfl rfl dX6_init_3 (by decide) (by decide) (Nat.le_of_ble_eq_true rfl) (fun r3 w3 hp3 => ?_)
  obtain ⟨rfl, rfl⟩ := hp3
  refine gw_W.norm (st' := []) (k1 := 0) (k2 := 0) rfl rfl rfl ?_
  refine gw_aload_n dX6_init_6 rfl ?_
  refine gw_iload_n dX6_init_7 rfl ?_
  refine gw_putF (C0 := RX0) (T := TX0) (N := 6) (ref := RX6) (ty := tyX0 0) 0 rfl rfl inX0 0 (by decide) tyX0 tyX0_ok nmX0 wd_477 (Or.inl rfl) rfl rfl rfl (tyX0_ok 0 (by decide)) (rfl) (rfl) (Nat.le_of_ble_eq_true rfl) dX6_init_8 ?_
  refine gw_W.wd (w' := [(a, .inr (0, [.int (x), .int ((0 : Int32)), .int ((0 : Int32)), .int (p), .ref (r), .int ((0 : Int32))]))]) rfl ?_
  refine gw_aload_n dX6_init_11 rfl ?_
  refine gw_iload dX6_init_12 rfl ?_
  refine gw_putF (C0 := RX0) (T := TX0) (N := 6) (ref := RX6) (ty := tyX0 1) 0 rfl rfl inX0 1 (by decide) tyX0 tyX0_ok nmX0 wd_479 (Or.inl rfl) rfl rfl rfl (tyX0_ok 1 (by decide)) (rfl) (rfl) (Nat.le_of_ble_eq_true rfl) dX6_init_14 ?_
  refine gw_W.wd (w' := [(a, .inr (0, [.int (x), .int (y), .int ((0 : Int32)), .int (p), .ref (r), .int ((0 : Int32))]))]) rfl ?_
  refine gw_aload_n dX6_init_17 rfl ?_
  refine gw_iload dX6_init_18 rfl ?_
  refine gw_putF (C0 := RX0) (T := TX0) (N := 6) (ref := RX6) (ty := tyX0 2) 0 rfl rfl inX0 2 (by decide) tyX0 tyX0_ok nmX0 wd_482 (Or.inl rfl) rfl rfl rfl (tyX0_ok 2 (by decide)) (rfl) (rfl) (Nat.le_of_ble_eq_true rfl) dX6_init_20 ?_
  refine gw_W.wd (w' := [(a, .inr (0, [.int (x), .int (y), .int (z), .int (p), .ref (r), .int ((0 : Int32))]))]) rfl ?_
  refine gw_vret (?_) (by decide) (by decide) rfl dX6_init_23
  subst hpost
  exact ⟨rfl, rfl⟩
theorem c_q6_0 (l : Launch) (cy : Nat → ClassId) (a : Nat) (ar : Option Nat) (p x y z : Int32) : gw_M l kX6_init cy [.ref (a), .int (p), va_rf (ar), .int (x), .int (y), .int (z)] [(a, .inr (0, [.int ((0 : Int32)), .int ((0 : Int32)), .int ((0 : Int32)), .int ((0 : Int32)), .null, .int ((0 : Int32))]))] (fun rr w' => rr = none ∧ w' = [(a, .inr (0, [.int (x), .int (y), .int (z), .int (p), va_rf (ar), .int ((0 : Int32))]))]) := by
  cases ar with
  | none => exact c_o6_0 l cy a p x y z 
  | some r => exact c_r6_0 l cy a r p x y z 
set_option maxHeartbeats 4000000 in
set_option maxRecDepth 100000 in
theorem c_r0 (l : Launch) (cy : Nat → ClassId) (a r : Nat) (p x y z t : Int32) : gw_M l kX0_init cy [.ref (a), .int (p), .ref (r), .int (x), .int (y), .int (z), .int (t)] [(a, .inr (0, [.int ((0 : Int32)), .int ((0 : Int32)), .int ((0 : Int32)), .int ((0 : Int32)), .null, .int ((0 : Int32))]))] (fun rr w' => rr = none ∧ w' = [(a, .inr (0, [.int (x), .int (y), .int (z), .int (p), .ref (r), .int (t)]))]) := by
  refine gw_M.mk (lv := [some (.ref (a)), some (.int (p)), some (.ref (r)), some (.int (x)), some (.int (y)), some (.int (z)), some (.int (t))]) (by decide) (Nat.le_of_ble_eq_true rfl) rfl ?_
  generalize hpost : (fun rr w' => rr = none ∧ w' = [(a, .inr (0, [.int (x), .int (y), .int (z), .int (p), .ref (r), .int (t)]))] : gw_Q) = post
  refine gw_aload_n dX0_init_0 rfl ?_
  refine gw_iload_n dX0_init_1 rfl ?_
  refine gw_aload_n dX0_init_2 rfl ?_
  refine gw_iload_n dX0_init_3 rfl ?_
  refine gw_iload dX0_init_4 rfl ?_
  refine gw_iload dX0_init_6 rfl ?_
  refine gw_callI (As := [.int (p), .ref (r), .int (x), .int (y), .int (z)]) (st := []) (c_r6_0 l cy a r p x y z) ok_X6_init wd_519 rfl rfl dX0_init_8 (by decide) (by decide) (Nat.le_of_ble_eq_true rfl) (fun r8 w8 hp8 => ?_)
  obtain ⟨rfl, rfl⟩ := hp8
  refine gw_W.norm (st' := []) (k1 := 0) (k2 := 0) rfl rfl rfl ?_
  refine gw_aload_n dX0_init_11 rfl ?_
  refine gw_iload dX0_init_12 rfl ?_
  refine gw_putF (C0 := RX0) (T := TX0) (N := 6) (ref := RX0) (ty := tyX0 5) 0 rfl rfl inX0 5 (by decide) tyX0 tyX0_ok nmX0 wd_520 (Or.inl rfl) rfl rfl rfl (tyX0_ok 5 (by decide)) (rfl) (rfl) (Nat.le_of_ble_eq_true rfl) dX0_init_14 ?_
  refine gw_W.wd (w' := [(a, .inr (0, [.int (x), .int (y), .int (z), .int (p), .ref (r), .int (t)]))]) rfl ?_
  refine gw_vret (?_) (by decide) (by decide) rfl dX0_init_17
  subst hpost
  exact ⟨rfl, rfl⟩
theorem c_q0 (l : Launch) (cy : Nat → ClassId) (a : Nat) (ar : Option Nat) (p x y z t : Int32) : gw_M l kX0_init cy [.ref (a), .int (p), va_rf (ar), .int (x), .int (y), .int (z), .int (t)] [(a, .inr (0, [.int ((0 : Int32)), .int ((0 : Int32)), .int ((0 : Int32)), .int ((0 : Int32)), .null, .int ((0 : Int32))]))] (fun rr w' => rr = none ∧ w' = [(a, .inr (0, [.int (x), .int (y), .int (z), .int (p), va_rf (ar), .int (t)]))]) := by
  cases ar with
  | none => exact c_o0 l cy a p x y z t 
  | some r => exact c_r0 l cy a r p x y z t 
set_option maxHeartbeats 4000000 in
set_option maxRecDepth 100000 in
theorem c_r1 (l : Launch) (cy : Nat → ClassId) (a r : Nat) (p x y z : Int32) : gw_M l kX1_init cy [.ref (a), .int (p), .ref (r), .int (x), .int (y), .int (z)] [(a, .inr (1, [.int ((0 : Int32)), .null, .int ((0 : Int32)), .int ((0 : Int32)), .int ((0 : Int32))]))] (fun rr w' => rr = none ∧ w' = [(a, .inr (1, [.int (p), .ref (r), .int (x), .int (y), .int (z)]))]) := by
  refine gw_M.mk (lv := [some (.ref (a)), some (.int (p)), some (.ref (r)), some (.int (x)), some (.int (y)), some (.int (z))]) (by decide) (Nat.le_of_ble_eq_true rfl) rfl ?_
  generalize hpost : (fun rr w' => rr = none ∧ w' = [(a, .inr (1, [.int (p), .ref (r), .int (x), .int (y), .int (z)]))] : gw_Q) = post
  refine gw_aload_n dX1_init_0 rfl ?_
  refine gw_iload_n dX1_init_1 rfl ?_
  refine gw_aload_n dX1_init_2 rfl ?_
  refine gw_callI (As := [.int (p), .ref (r)]) (st := []) (c_r3_1 l cy a r p) ok_X3_init wd_538 rfl rfl dX1_init_3 (by decide) (by decide) (Nat.le_of_ble_eq_true rfl) (fun r3 w3 hp3 => ?_)
  obtain ⟨rfl, rfl⟩ := hp3
  refine gw_W.norm (st' := []) (k1 := 0) (k2 := 0) rfl rfl rfl ?_
  refine gw_aload_n dX1_init_6 rfl ?_
  refine gw_iload_n dX1_init_7 rfl ?_
  refine gw_putF (C0 := RX1) (T := TX1) (N := 5) (ref := RX1) (ty := tyX1 2) 0 rfl rfl inX1 2 (by decide) tyX1 tyX1_ok nmX1 wd_539 (Or.inl rfl) rfl rfl rfl (tyX1_ok 2 (by decide)) (rfl) (rfl) (Nat.le_of_ble_eq_true rfl) dX1_init_8 ?_
  refine gw_W.wd (w' := [(a, .inr (1, [.int (p), .ref (r), .int (x), .int ((0 : Int32)), .int ((0 : Int32))]))]) rfl ?_
  refine gw_aload_n dX1_init_11 rfl ?_
  refine gw_iload dX1_init_12 rfl ?_
  refine gw_putF (C0 := RX1) (T := TX1) (N := 5) (ref := RX1) (ty := tyX1 3) 0 rfl rfl inX1 3 (by decide) tyX1 tyX1_ok nmX1 wd_540 (Or.inl rfl) rfl rfl rfl (tyX1_ok 3 (by decide)) (rfl) (rfl) (Nat.le_of_ble_eq_true rfl) dX1_init_14 ?_
  refine gw_W.wd (w' := [(a, .inr (1, [.int (p), .ref (r), .int (x), .int (y), .int ((0 : Int32))]))]) rfl ?_
  refine gw_aload_n dX1_init_17 rfl ?_
  refine gw_iload dX1_init_18 rfl ?_
  refine gw_putF (C0 := RX1) (T := TX1) (N := 5) (ref := RX1) (ty := tyX1 4) 0 rfl rfl inX1 4 (by decide) tyX1 tyX1_ok nmX1 wd_541 (Or.inl rfl) rfl rfl rfl (tyX1_ok 4 (by decide)) (rfl) (rfl) (Nat.le_of_ble_eq_true rfl) dX1_init_20 ?_
  refine gw_W.wd (w' := [(a, .inr (1, [.int (p), .ref (r), .int (x), .int (y), .int (z)]))]) rfl ?_
  refine gw_vret (?_) (by decide) (by decide) rfl dX1_init_23
  subst hpost
  exact ⟨rfl, rfl⟩
theorem c_q1 (l : Launch) (cy : Nat → ClassId) (a : Nat) (ar : Option Nat) (p x y z : Int32) : gw_M l kX1_init cy [.ref (a), .int (p), va_rf (ar), .int (x), .int (y), .int (z)] [(a, .inr (1, [.int ((0 : Int32)), .null, .int ((0 : Int32)), .int ((0 : Int32)), .int ((0 : Int32))]))] (fun rr w' => rr = none ∧ w' = [(a, .inr (1, [.int (p), va_rf (ar), .int (x), .int (y), .int (z)]))]) := by
  cases ar with
  | none => exact c_o1 l cy a p x y z 
  | some r => exact c_r1 l cy a r p x y z 
set_option maxHeartbeats 4000000 in
set_option maxRecDepth 100000 in
theorem c_r7 (l : Launch) (cy : Nat → ClassId) (a r : Nat) (p x : Int32) : gw_M l kX7_init cy [.ref (a), .int (p), .ref (r), .int (x)] [(a, .inr (5, [.int ((0 : Int32)), .null, .int ((0 : Int32)), .int ((0 : Int32))]))] (fun rr w' => rr = none ∧ w' = [(a, .inr (5, [.int (p), .ref (r), .int (x), .int ((0 : Int32))]))]) := by
  refine gw_M.mk (lv := [some (.ref (a)), some (.int (p)), some (.ref (r)), some (.int (x))]) (by decide) (Nat.le_of_ble_eq_true rfl) rfl ?_
  generalize hpost : (fun rr w' => rr = none ∧ w' = [(a, .inr (5, [.int (p), .ref (r), .int (x), .int ((0 : Int32))]))] : gw_Q) = post
  refine gw_aload_n dX7_init_0 rfl ?_
  refine gw_iload_n dX7_init_1 rfl ?_
  refine gw_aload_n dX7_init_2 rfl ?_
  refine gw_callI (As := [.int (p), .ref (r)]) (st := []) (c_r5_5 l cy a r p) ok_X5_init wd_565 rfl rfl dX7_init_3 (by decide) (by decide) (Nat.le_of_ble_eq_true rfl) (fun r3 w3 hp3 => ?_)
  obtain ⟨rfl, rfl⟩ := hp3
  refine gw_W.norm (st' := []) (k1 := 0) (k2 := 0) rfl rfl rfl ?_
  refine gw_aload_n dX7_init_6 rfl ?_
  refine gw_iload_n dX7_init_7 rfl ?_
  refine gw_putF (C0 := RX7) (T := TX7) (N := 4) (ref := RX7) (ty := tyX7 2) 0 rfl rfl inX7 2 (by decide) tyX7 tyX7_ok nmX7 wd_566 (Or.inl rfl) rfl rfl rfl (tyX7_ok 2 (by decide)) (rfl) (rfl) (Nat.le_of_ble_eq_true rfl) dX7_init_8 ?_
  refine gw_W.wd (w' := [(a, .inr (5, [.int (p), .ref (r), .int (x), .int ((0 : Int32))]))]) rfl ?_
  refine gw_vret (?_) (by decide) (by decide) rfl dX7_init_11
  subst hpost
  exact ⟨rfl, rfl⟩
theorem c_q7 (l : Launch) (cy : Nat → ClassId) (a : Nat) (ar : Option Nat) (p x : Int32) : gw_M l kX7_init cy [.ref (a), .int (p), va_rf (ar), .int (x)] [(a, .inr (5, [.int ((0 : Int32)), .null, .int ((0 : Int32)), .int ((0 : Int32))]))] (fun rr w' => rr = none ∧ w' = [(a, .inr (5, [.int (p), va_rf (ar), .int (x), .int ((0 : Int32))]))]) := by
  cases ar with
  | none => exact c_o7 l cy a p x 
  | some r => exact c_r7 l cy a r p x 
set_option maxHeartbeats 4000000 in
set_option maxRecDepth 100000 in
theorem c_r8 (l : Launch) (cy : Nat → ClassId) (a r : Nat) (p x y : Int32) : gw_M l kX8_init cy [.ref (a), .int (p), .ref (r), .int (x), .int (y)] [(a, .inr (6, [.int ((0 : Int32)), .null, .int ((0 : Int32)), .int ((0 : Int32))]))] (fun rr w' => rr = none ∧ w' = [(a, .inr (6, [.int (p), .ref (r), .int (x), .int (y)]))]) := by
  refine gw_M.mk (lv := [some (.ref (a)), some (.int (p)), some (.ref (r)), some (.int (x)), some (.int (y))]) (by decide) (Nat.le_of_ble_eq_true rfl) rfl ?_
  generalize hpost : (fun rr w' => rr = none ∧ w' = [(a, .inr (6, [.int (p), .ref (r), .int (x), .int (y)]))] : gw_Q) = post
  refine gw_aload_n dX8_init_0 rfl ?_
  refine gw_iload_n dX8_init_1 rfl ?_
  refine gw_aload_n dX8_init_2 rfl ?_
  refine gw_callI (As := [.int (p), .ref (r)]) (st := []) (c_r5_6 l cy a r p) ok_X5_init wd_600 rfl rfl dX8_init_3 (by decide) (by decide) (Nat.le_of_ble_eq_true rfl) (fun r3 w3 hp3 => ?_)
  obtain ⟨rfl, rfl⟩ := hp3
  refine gw_W.norm (st' := []) (k1 := 0) (k2 := 0) rfl rfl rfl ?_
  refine gw_aload_n dX8_init_6 rfl ?_
  refine gw_iload_n dX8_init_7 rfl ?_
  refine gw_putF (C0 := RX8) (T := TX8) (N := 4) (ref := RX8) (ty := tyX8 2) 0 rfl rfl inX8 2 (by decide) tyX8 tyX8_ok nmX8 wd_601 (Or.inl rfl) rfl rfl rfl (tyX8_ok 2 (by decide)) (rfl) (rfl) (Nat.le_of_ble_eq_true rfl) dX8_init_8 ?_
  refine gw_W.wd (w' := [(a, .inr (6, [.int (p), .ref (r), .int (x), .int ((0 : Int32))]))]) rfl ?_
  refine gw_aload_n dX8_init_11 rfl ?_
  refine gw_iload dX8_init_12 rfl ?_
  refine gw_putF (C0 := RX8) (T := TX8) (N := 4) (ref := RX8) (ty := tyX8 3) 0 rfl rfl inX8 3 (by decide) tyX8 tyX8_ok nmX8 wd_602 (Or.inl rfl) rfl rfl rfl (tyX8_ok 3 (by decide)) (rfl) (rfl) (Nat.le_of_ble_eq_true rfl) dX8_init_14 ?_
  refine gw_W.wd (w' := [(a, .inr (6, [.int (p), .ref (r), .int (x), .int (y)]))]) rfl ?_
  refine gw_vret (?_) (by decide) (by decide) rfl dX8_init_17
  subst hpost
  exact ⟨rfl, rfl⟩
theorem c_q8 (l : Launch) (cy : Nat → ClassId) (a : Nat) (ar : Option Nat) (p x y : Int32) : gw_M l kX8_init cy [.ref (a), .int (p), va_rf (ar), .int (x), .int (y)] [(a, .inr (6, [.int ((0 : Int32)), .null, .int ((0 : Int32)), .int ((0 : Int32))]))] (fun rr w' => rr = none ∧ w' = [(a, .inr (6, [.int (p), va_rf (ar), .int (x), .int (y)]))]) := by
  cases ar with
  | none => exact c_o8 l cy a p x y 
  | some r => exact c_r8 l cy a r p x y 
abbrev kX2_init : gw_K := (yX2_init, cX2_init, 3, { frames := 2, cells := 0, slots := 0, locals := 42 }, none)
theorem ok_X2_init : gw_calI kX2_init 2 := ⟨⟨wd_586, wd_72, by decide, by decide, by decide +kernel⟩, wd_585, rfl, rfl⟩
set_option maxHeartbeats 4000000 in
set_option maxRecDepth 100000 in
theorem c_o2 (l : Launch) (cy : Nat → ClassId) (a : Nat) (p : Int32) : gw_M l kX2_init cy [.ref (a), .int (p), .null] [(a, .inr (2, [.int ((0 : Int32)), .null]))] (fun r w' => r = none ∧ w' = [(a, .inr (2, [.int (p), .null]))]) := by
  refine gw_M.mk (lv := [some (.ref (a)), some (.int (p)), some (.null)]) (by decide) (Nat.le_of_ble_eq_true rfl) rfl ?_
  generalize hpost : (fun r w' => r = none ∧ w' = [(a, .inr (2, [.int (p), .null]))] : gw_Q) = post
  refine gw_aload_n dX2_init_0 rfl ?_
  refine gw_iload_n dX2_init_1 rfl ?_
  refine gw_aload_nN dX2_init_2 rfl ?_
  refine gw_callI (As := [.int (p), .null]) (st := []) (c_o5_2 l cy a p) ok_X5_init wd_587 rfl rfl dX2_init_3 (by decide) (by decide) (Nat.le_of_ble_eq_true rfl) (fun r3 w3 hp3 => ?_)
  obtain ⟨rfl, rfl⟩ := hp3
  refine gw_W.norm (st' := []) (k1 := 0) (k2 := 0) rfl rfl rfl ?_
  refine gw_vret (?_) (by decide) (by decide) rfl dX2_init_6
  subst hpost
  exact ⟨rfl, rfl⟩
set_option maxHeartbeats 4000000 in
set_option maxRecDepth 100000 in
theorem c_r2 (l : Launch) (cy : Nat → ClassId) (a r : Nat) (p : Int32) : gw_M l kX2_init cy [.ref (a), .int (p), .ref (r)] [(a, .inr (2, [.int ((0 : Int32)), .null]))] (fun rr w' => rr = none ∧ w' = [(a, .inr (2, [.int (p), .ref (r)]))]) := by
  refine gw_M.mk (lv := [some (.ref (a)), some (.int (p)), some (.ref (r))]) (by decide) (Nat.le_of_ble_eq_true rfl) rfl ?_
  generalize hpost : (fun rr w' => rr = none ∧ w' = [(a, .inr (2, [.int (p), .ref (r)]))] : gw_Q) = post
  refine gw_aload_n dX2_init_0 rfl ?_
  refine gw_iload_n dX2_init_1 rfl ?_
  refine gw_aload_n dX2_init_2 rfl ?_
  refine gw_callI (As := [.int (p), .ref (r)]) (st := []) (c_r5_2 l cy a r p) ok_X5_init wd_587 rfl rfl dX2_init_3 (by decide) (by decide) (Nat.le_of_ble_eq_true rfl) (fun r3 w3 hp3 => ?_)
  obtain ⟨rfl, rfl⟩ := hp3
  refine gw_W.norm (st' := []) (k1 := 0) (k2 := 0) rfl rfl rfl ?_
  refine gw_vret (?_) (by decide) (by decide) rfl dX2_init_6
  subst hpost
  exact ⟨rfl, rfl⟩
theorem c_q2 (l : Launch) (cy : Nat → ClassId) (a : Nat) (ar : Option Nat) (p : Int32) : gw_M l kX2_init cy [.ref (a), .int (p), va_rf (ar)] [(a, .inr (2, [.int ((0 : Int32)), .null]))] (fun rr w' => rr = none ∧ w' = [(a, .inr (2, [.int (p), va_rf (ar)]))]) := by
  cases ar with
  | none => exact c_o2 l cy a p 
  | some r => exact c_r2 l cy a r p 
set_option maxHeartbeats 4000000 in
set_option maxRecDepth 100000 in
theorem c_bappendF (l : Launch) (cy : Nat → ClassId) (ad sa ta : Nat → Nat) (n ln bb : Nat) (nx sd lb lf : Int32) (lo : Option Nat) (pg : Nat → Option Nat) (bo : Nat → Int32) (R : va_W) (q ci : Nat) (fs : List Value) (hl : ln = 40) : gw_M l kX11_append cy [.ref (ad 0), .ref (q)] (bW cy ad sa ta n ln bb nx sd lb lf lo pg bo ++ ([(q, .inr (ci, fs))] ++ R)) (fun r w' => r = some (.int (-1000003)) ∧ w' = bW cy ad sa ta n ln bb nx sd lb lf lo pg bo ++ ([(q, .inr (ci, fs))] ++ R)) := by
  refine gw_M.mk (lv := [some (.ref (ad 0)), some (.ref (q)), none]) (by decide) (Nat.le_of_ble_eq_true rfl) rfl ?_
  generalize hpost : (fun r w' => r = some (.int (-1000003)) ∧ w' = bW cy ad sa ta n ln bb nx sd lb lf lo pg bo ++ ([(q, .inr (ci, fs))] ++ R) : gw_Q) = post
  refine gw_W.wd (w' := ([(ad 0, .inr (9, [.int (nI (n)), .ref (ad 1), .ref (ad 2), .ref (sa (3 * 0)), .ref (ad 4), .ref (ad 5), .ref (ad 6), .int (nI (ln)), va_rf (lo), .int (nx), .int (sd), .int (lb), .ref (ad 12), .int (nI (bb)), .int (lf)])), (ad 1, .inl (cy 3, 9, .inr (.inr (.inr (.inr (fun i => some (sa (3 * i)))))))), (ad 2, .inl (cy 3, 9, .inr (.inr (.inr (.inr (fun i => some (sa (3 * (9 + i))))))))), (ad 5, .inl (cy 4, 8, .inr (.inr (.inr (.inr (fun i => some (ta (2 * i)))))))), (ad 6, .inl (cy 2, 40, .inr (.inr (.inr (.inr (pg)))))), (ad 12, .inl (cy 0, 16, .inl (bo))), (q, .inr (ci, fs))] ++ R)) rfl ?_
  refine gw_aload_n dX11_append_0 rfl ?_
  refine gw_get (C0 := RX11) (T := TX11) (N := 15) (ref := RX11) 0 rfl rfl inX11 7 (by decide) wd_182 (Or.inl rfl) rfl dX11_append_1 ?_
  refine gw_istore_n dX11_append_4 (by decide) rfl ?_
  refine gw_iload_n dX11_append_5 rfl ?_
  refine gw_bipush (v := nI (40)) dX11_append_6 (by decide) ?_
  refine gw_icmpN_lt (tgt := 14) dX11_append_8 (by decide) (by omega) (by omega) (fun c8 => ?_) (fun c8 => ?_)
  · exact absurd hl (by omega)
  · refine gw_ldc dX11_append_11 wd_336 ?_
    refine gw_iret (?_) (by decide) (by decide) rfl dX11_append_13
    subst hpost
    exact ⟨rfl, rfl⟩
abbrev kX11_pulse : gw_K := (yX11_pulse, cX11_pulse, 4, { frames := 4, cells := 1, slots := 5, locals := 89 }, (some .int))
theorem ok_X11_pulse : gw_calV kX11_pulse 3 := ⟨⟨wd_460, wd_57, by decide, by decide, by decide +kernel⟩, wd_458, wd_459⟩
set_option maxHeartbeats 4000000 in
set_option maxRecDepth 100000 in
theorem t_cgpulse (l : Launch) (cy : Nat → ClassId) (b : Nat) (σ : aS) (w : va_W) (hI : cInv cy b σ w) (x y z : Int32) : gw_M l kX11_pulse cy [.ref (b), .int (x), .int (y), .int (z)] (w) (cPost cy b (spPulse σ x y z)) := by
  obtain ⟨ad, sa, ta, oa, nx, lo, pg, bo, cs, xs, tb, op, td, rfl, hw, hxs, hcs, htb, hop, hN, hbo⟩ := hI
  have hn4 : 1 ≤ σ.1 ∧ σ.1 ≤ 4 := ⟨hN.1, hN.2.1⟩
  refine gw_M.pm hw ?_
  obtain ⟨oc, hoc⟩ := hN.2.2.2.2.1
  have l40 : (sOp σ).length ≤ 40 := hN.2.2.2.1
  refine gw_M.mk (lv := [some (.ref (ad 0)), some (.int (x)), some (.int (y)), some (.int (z))]) (by decide) (Nat.le_of_ble_eq_true rfl) rfl ?_
  generalize hpost : (cPost cy (ad 0) (spPulse σ x y z) : gw_Q) = post
  refine gw_W.wd (w' := ([(ad 0, .inr (9, [.int (nI (σ.1)), .ref (ad 1), .ref (ad 2), .ref (sa (3 * 0)), .ref (ad 4), .ref (ad 5), .ref (ad 6), .int (nI ((sOp σ).length)), va_rf (lo), .int (nx), .int (σ.2.2.2.2.2.2.1), .int (σ.2.2.2.2.2.2.2), .ref (ad 12), .int (nI ((sTr σ).length)), .int (σ.2.2.2.2.1)])), (ad 1, .inl (cy 3, 9, .inr (.inr (.inr (.inr (fun i => some (sa (3 * i)))))))), (ad 2, .inl (cy 3, 9, .inr (.inr (.inr (.inr (fun i => some (sa (3 * (9 + i))))))))), (ad 5, .inl (cy 4, 8, .inr (.inr (.inr (.inr (fun i => some (ta (2 * i)))))))), (ad 6, .inl (cy 2, 40, .inr (.inr (.inr (.inr (pg)))))), (ad 12, .inl (cy 0, 16, .inl (bo)))] ++ (xs ++ (tb ++ op)))) rfl ?_
  refine gw_aload_n dX11_pulse_0 rfl ?_
  refine gw_iload_n dX11_pulse_1 rfl ?_
  refine gw_iload_n dX11_pulse_2 rfl ?_
  refine gw_iload_n dX11_pulse_3 rfl ?_
  refine gw_W.wd (w' := bW cy ad sa ta (σ.1) ((sOp σ).length) ((sTr σ).length) nx (σ.2.2.2.2.2.2.1) (σ.2.2.2.2.2.2.2) (σ.2.2.2.2.1) lo pg bo ++ (xs ++ (tb ++ op))) rfl ?_
  refine gw_callV 0 (As := [.int (x), .int (y), .int (z)]) (st := []) (c_bisPulse l cy ad sa ta (σ.1) ((sOp σ).length) ((sTr σ).length) nx (σ.2.2.2.2.2.2.1) (σ.2.2.2.2.2.2.2) (σ.2.2.2.2.1) lo pg bo (xs ++ (tb ++ op)) (x) (y) (z) hn4.2) ok_X11_isPulse rfl rfl rfl wd_461 rfl rfl dX11_pulse_4 (by decide) (by decide) (Nat.le_of_ble_eq_true rfl) (fun r4 w4 hp4 => ?_)
  obtain ⟨rfl, rfl⟩ := hp4
  refine gw_W.norm (st' := [.int (bI (isPu σ.1 (x) (y) (z)))]) (k1 := 0) (k2 := 0) rfl rfl rfl ?_
  refine gw_W.wd (w' := ([(ad 0, .inr (9, [.int (nI (σ.1)), .ref (ad 1), .ref (ad 2), .ref (sa (3 * 0)), .ref (ad 4), .ref (ad 5), .ref (ad 6), .int (nI ((sOp σ).length)), va_rf (lo), .int (nx), .int (σ.2.2.2.2.2.2.1), .int (σ.2.2.2.2.2.2.2), .ref (ad 12), .int (nI ((sTr σ).length)), .int (σ.2.2.2.2.1)])), (ad 1, .inl (cy 3, 9, .inr (.inr (.inr (.inr (fun i => some (sa (3 * i)))))))), (ad 2, .inl (cy 3, 9, .inr (.inr (.inr (.inr (fun i => some (sa (3 * (9 + i))))))))), (ad 5, .inl (cy 4, 8, .inr (.inr (.inr (.inr (fun i => some (ta (2 * i)))))))), (ad 6, .inl (cy 2, 40, .inr (.inr (.inr (.inr (pg)))))), (ad 12, .inl (cy 0, 16, .inl (bo)))] ++ (xs ++ (tb ++ op)))) rfl ?_
  refine gw_if_ne (tgt := 13) dX11_pulse_7 (by decide) (fun c7 => ?_) (fun c7 => ?_)
  · rw [bI_n0] at c7
    refine gw_aload_n dX11_pulse_13 rfl ?_
    refine gw_new (C0 := RX6) (T := TX6) (N := 5) (ci := 4) (fs := [.int ((0 : Int32)), .null, .int ((0 : Int32)), .int ((0 : Int32)), .int ((0 : Int32))]) tyX6 tyX6_ok rfl inX6 wd_465 wd_466 wd_68 (fun j hj => by
      rcases (show j = 0 ∨ j = 1 ∨ j = 2 ∨ j = 3 ∨ j = 4 by omega) with rfl | rfl | rfl | rfl | rfl <;> rfl) (by decide) (by decide) dX11_pulse_14 (fun q14 => ?_)
    refine gw_W.perm (perm_sn2 (A := ([(ad 0, .inr (9, [.int (nI (σ.1)), .ref (ad 1), .ref (ad 2), .ref (sa (3 * 0)), .ref (ad 4), .ref (ad 5), .ref (ad 6), .int (nI ((sOp σ).length)), va_rf (lo), .int (nx), .int (σ.2.2.2.2.2.2.1), .int (σ.2.2.2.2.2.2.2), .ref (ad 12), .int (nI ((sTr σ).length)), .int (σ.2.2.2.2.1)])), (ad 1, .inl (cy 3, 9, .inr (.inr (.inr (.inr (fun i => some (sa (3 * i)))))))), (ad 2, .inl (cy 3, 9, .inr (.inr (.inr (.inr (fun i => some (sa (3 * (9 + i))))))))), (ad 5, .inl (cy 4, 8, .inr (.inr (.inr (.inr (fun i => some (ta (2 * i)))))))), (ad 6, .inl (cy 2, 40, .inr (.inr (.inr (.inr (pg)))))), (ad 12, .inl (cy 0, 16, .inl (bo)))] : va_W)) (R := (xs ++ (tb ++ op))) (C := [(q14, .inr (4, [.int ((0 : Int32)), .null, .int ((0 : Int32)), .int ((0 : Int32)), .int ((0 : Int32))]))])) ?_
    refine gw_W.norm (st' := [.ref (q14), .ref (ad 0)]) (k1 := 1) (k2 := 5) rfl rfl rfl ?_
    refine gw_W.wd (w' := ([(ad 0, .inr (9, [.int (nI (σ.1)), .ref (ad 1), .ref (ad 2), .ref (sa (3 * 0)), .ref (ad 4), .ref (ad 5), .ref (ad 6), .int (nI ((sOp σ).length)), va_rf (lo), .int (nx), .int (σ.2.2.2.2.2.2.1), .int (σ.2.2.2.2.2.2.2), .ref (ad 12), .int (nI ((sTr σ).length)), .int (σ.2.2.2.2.1)])), (ad 1, .inl (cy 3, 9, .inr (.inr (.inr (.inr (fun i => some (sa (3 * i)))))))), (ad 2, .inl (cy 3, 9, .inr (.inr (.inr (.inr (fun i => some (sa (3 * (9 + i))))))))), (ad 5, .inl (cy 4, 8, .inr (.inr (.inr (.inr (fun i => some (ta (2 * i)))))))), (ad 6, .inl (cy 2, 40, .inr (.inr (.inr (.inr (pg)))))), (ad 12, .inl (cy 0, 16, .inl (bo))), (q14, .inr (4, [.int ((0 : Int32)), .null, .int ((0 : Int32)), .int ((0 : Int32)), .int ((0 : Int32))]))] ++ (xs ++ (tb ++ op)))) rfl ?_
    refine gw_dup dX11_pulse_17 rfl ?_
    refine gw_aload_n dX11_pulse_18 rfl ?_
    refine gw_get (C0 := RX11) (T := TX11) (N := 15) (ref := RX11) 0 rfl rfl inX11 7 (by decide) wd_182 (Or.inl rfl) rfl dX11_pulse_19 ?_
    refine gw_aload_n dX11_pulse_22 rfl ?_
    refine gw_get (C0 := RX11) (T := TX11) (N := 15) (ref := RX11) 0 rfl rfl inX11 8 (by decide) wd_183 (Or.inl rfl) rfl dX11_pulse_23 ?_
    refine gw_iload_n dX11_pulse_26 rfl ?_
    refine gw_iload_n dX11_pulse_27 rfl ?_
    refine gw_iload_n dX11_pulse_28 rfl ?_
    refine gw_callI (As := [.int (nI ((sOp σ).length)), va_rf (lo), .int (x), .int (y), .int (z)]) (st := [.ref (q14), .ref (ad 0)]) ((c_q6_4 l cy q14 (lo) (nI ((sOp σ).length)) x y z).frame (w2 := ([(ad 0, .inr (9, [.int (nI (σ.1)), .ref (ad 1), .ref (ad 2), .ref (sa (3 * 0)), .ref (ad 4), .ref (ad 5), .ref (ad 6), .int (nI ((sOp σ).length)), va_rf (lo), .int (nx), .int (σ.2.2.2.2.2.2.1), .int (σ.2.2.2.2.2.2.2), .ref (ad 12), .int (nI ((sTr σ).length)), .int (σ.2.2.2.2.1)])), (ad 1, .inl (cy 3, 9, .inr (.inr (.inr (.inr (fun i => some (sa (3 * i)))))))), (ad 2, .inl (cy 3, 9, .inr (.inr (.inr (.inr (fun i => some (sa (3 * (9 + i))))))))), (ad 5, .inl (cy 4, 8, .inr (.inr (.inr (.inr (fun i => some (ta (2 * i)))))))), (ad 6, .inl (cy 2, 40, .inr (.inr (.inr (.inr (pg)))))), (ad 12, .inl (cy 0, 16, .inl (bo))), (q14, .inr (4, [.int ((0 : Int32)), .null, .int ((0 : Int32)), .int ((0 : Int32)), .int ((0 : Int32))]))] ++ (xs ++ (tb ++ op)))) (f := ([(ad 0, .inr (9, [.int (nI (σ.1)), .ref (ad 1), .ref (ad 2), .ref (sa (3 * 0)), .ref (ad 4), .ref (ad 5), .ref (ad 6), .int (nI ((sOp σ).length)), va_rf (lo), .int (nx), .int (σ.2.2.2.2.2.2.1), .int (σ.2.2.2.2.2.2.2), .ref (ad 12), .int (nI ((sTr σ).length)), .int (σ.2.2.2.2.1)])), (ad 1, .inl (cy 3, 9, .inr (.inr (.inr (.inr (fun i => some (sa (3 * i)))))))), (ad 2, .inl (cy 3, 9, .inr (.inr (.inr (.inr (fun i => some (sa (3 * (9 + i))))))))), (ad 5, .inl (cy 4, 8, .inr (.inr (.inr (.inr (fun i => some (ta (2 * i)))))))), (ad 6, .inl (cy 2, 40, .inr (.inr (.inr (.inr (pg)))))), (ad 12, .inl (cy 0, 16, .inl (bo)))] : va_W) ++ (xs ++ (tb ++ op))) (perm_op (A := ([(ad 0, .inr (9, [.int (nI (σ.1)), .ref (ad 1), .ref (ad 2), .ref (sa (3 * 0)), .ref (ad 4), .ref (ad 5), .ref (ad 6), .int (nI ((sOp σ).length)), va_rf (lo), .int (nx), .int (σ.2.2.2.2.2.2.1), .int (σ.2.2.2.2.2.2.2), .ref (ad 12), .int (nI ((sTr σ).length)), .int (σ.2.2.2.2.1)])), (ad 1, .inl (cy 3, 9, .inr (.inr (.inr (.inr (fun i => some (sa (3 * i)))))))), (ad 2, .inl (cy 3, 9, .inr (.inr (.inr (.inr (fun i => some (sa (3 * (9 + i))))))))), (ad 5, .inl (cy 4, 8, .inr (.inr (.inr (.inr (fun i => some (ta (2 * i)))))))), (ad 6, .inl (cy 2, 40, .inr (.inr (.inr (.inr (pg)))))), (ad 12, .inl (cy 0, 16, .inl (bo)))] : va_W)) (C := ([(q14, .inr (4, [.int ((0 : Int32)), .null, .int ((0 : Int32)), .int ((0 : Int32)), .int ((0 : Int32))]))] : va_W)) (R := (xs ++ (tb ++ op))))) ok_X6_init wd_467 rfl rfl dX11_pulse_29 (by decide) (by decide) (Nat.le_of_ble_eq_true rfl) (fun r29 w29 hp29 => ?_)
    obtain ⟨w29, ⟨rfl, rfl⟩, rfl⟩ := hp29
    refine gw_W.perm (perm_op (A := ([(ad 0, .inr (9, [.int (nI (σ.1)), .ref (ad 1), .ref (ad 2), .ref (sa (3 * 0)), .ref (ad 4), .ref (ad 5), .ref (ad 6), .int (nI ((sOp σ).length)), va_rf (lo), .int (nx), .int (σ.2.2.2.2.2.2.1), .int (σ.2.2.2.2.2.2.2), .ref (ad 12), .int (nI ((sTr σ).length)), .int (σ.2.2.2.2.1)])), (ad 1, .inl (cy 3, 9, .inr (.inr (.inr (.inr (fun i => some (sa (3 * i)))))))), (ad 2, .inl (cy 3, 9, .inr (.inr (.inr (.inr (fun i => some (sa (3 * (9 + i))))))))), (ad 5, .inl (cy 4, 8, .inr (.inr (.inr (.inr (fun i => some (ta (2 * i)))))))), (ad 6, .inl (cy 2, 40, .inr (.inr (.inr (.inr (pg)))))), (ad 12, .inl (cy 0, 16, .inl (bo)))] : va_W)) (C := ([(q14, .inr (4, [.int (nI ((sOp σ).length)), va_rf (lo), .int (x), .int (y), .int (z)]))] : va_W)) (R := (xs ++ (tb ++ op)))).symm ?_
    refine gw_W.norm (st' := [.ref (q14), .ref (ad 0)]) (k1 := 1) (k2 := 5) rfl rfl rfl ?_
    refine gw_W.wd (w' := ([(ad 0, .inr (9, [.int (nI (σ.1)), .ref (ad 1), .ref (ad 2), .ref (sa (3 * 0)), .ref (ad 4), .ref (ad 5), .ref (ad 6), .int (nI ((sOp σ).length)), va_rf (lo), .int (nx), .int (σ.2.2.2.2.2.2.1), .int (σ.2.2.2.2.2.2.2), .ref (ad 12), .int (nI ((sTr σ).length)), .int (σ.2.2.2.2.1)])), (ad 1, .inl (cy 3, 9, .inr (.inr (.inr (.inr (fun i => some (sa (3 * i)))))))), (ad 2, .inl (cy 3, 9, .inr (.inr (.inr (.inr (fun i => some (sa (3 * (9 + i))))))))), (ad 5, .inl (cy 4, 8, .inr (.inr (.inr (.inr (fun i => some (ta (2 * i)))))))), (ad 6, .inl (cy 2, 40, .inr (.inr (.inr (.inr (pg)))))), (ad 12, .inl (cy 0, 16, .inl (bo))), (q14, .inr (4, [.int (nI ((sOp σ).length)), va_rf (lo), .int (x), .int (y), .int (z)]))] ++ (xs ++ (tb ++ op)))) rfl ?_
    refine gw_W.wd (w' := bW cy ad sa ta (σ.1) ((sOp σ).length) ((sTr σ).length) nx (σ.2.2.2.2.2.2.1) (σ.2.2.2.2.2.2.2) (σ.2.2.2.2.1) lo pg bo ++ ([(q14, .inr (4, [.int (nI ((sOp σ).length)), va_rf (lo), .int (x), .int (y), .int (z)]))] ++ (xs ++ (tb ++ op)))) rfl ?_
    by_cases h40 : (sOp σ).length = 40
    · refine gw_callV 0 (As := [.ref (q14)]) (st := []) (c_bappendF l cy ad sa ta (σ.1) ((sOp σ).length) ((sTr σ).length) nx (σ.2.2.2.2.2.2.1) (σ.2.2.2.2.2.2.2) (σ.2.2.2.2.1) lo pg bo (xs ++ (tb ++ op)) q14 4 [.int (nI ((sOp σ).length)), va_rf (lo), .int (x), .int (y), .int (z)] h40) ok_X11_append rfl rfl rfl wd_506 rfl rfl dX11_pulse_32 (by decide) (by decide) (Nat.le_of_ble_eq_true rfl) (fun r32 w32 hp32 => ?_)
      obtain ⟨rfl, rfl⟩ := hp32
      refine gw_W.norm (st' := [.int ((-1000003 : Int32))]) (k1 := 1) (k2 := 5) rfl rfl rfl ?_
      refine gw_W.wd (w' := ([(ad 0, .inr (9, [.int (nI (σ.1)), .ref (ad 1), .ref (ad 2), .ref (sa (3 * 0)), .ref (ad 4), .ref (ad 5), .ref (ad 6), .int (nI ((sOp σ).length)), va_rf (lo), .int (nx), .int (σ.2.2.2.2.2.2.1), .int (σ.2.2.2.2.2.2.2), .ref (ad 12), .int (nI ((sTr σ).length)), .int (σ.2.2.2.2.1)])), (ad 1, .inl (cy 3, 9, .inr (.inr (.inr (.inr (fun i => some (sa (3 * i)))))))), (ad 2, .inl (cy 3, 9, .inr (.inr (.inr (.inr (fun i => some (sa (3 * (9 + i))))))))), (ad 5, .inl (cy 4, 8, .inr (.inr (.inr (.inr (fun i => some (ta (2 * i)))))))), (ad 6, .inl (cy 2, 40, .inr (.inr (.inr (.inr (pg)))))), (ad 12, .inl (cy 0, 16, .inl (bo))), (q14, .inr (4, [.int (nI ((sOp σ).length)), va_rf (lo), .int (x), .int (y), .int (z)]))] ++ (xs ++ (tb ++ op)))) rfl ?_
      refine gw_W.perm (perm_sn2 (A := ([(ad 0, .inr (9, [.int (nI (σ.1)), .ref (ad 1), .ref (ad 2), .ref (sa (3 * 0)), .ref (ad 4), .ref (ad 5), .ref (ad 6), .int (nI ((sOp σ).length)), va_rf (lo), .int (nx), .int (σ.2.2.2.2.2.2.1), .int (σ.2.2.2.2.2.2.2), .ref (ad 12), .int (nI ((sTr σ).length)), .int (σ.2.2.2.2.1)])), (ad 1, .inl (cy 3, 9, .inr (.inr (.inr (.inr (fun i => some (sa (3 * i)))))))), (ad 2, .inl (cy 3, 9, .inr (.inr (.inr (.inr (fun i => some (sa (3 * (9 + i))))))))), (ad 5, .inl (cy 4, 8, .inr (.inr (.inr (.inr (fun i => some (ta (2 * i)))))))), (ad 6, .inl (cy 2, 40, .inr (.inr (.inr (.inr (pg)))))), (ad 12, .inl (cy 0, 16, .inl (bo)))] : va_W)) (R := (xs ++ (tb ++ op))) (C := [(q14, .inr (4, [.int (nI ((sOp σ).length)), va_rf (lo), .int (x), .int (y), .int (z)]))])).symm ?_
      refine gw_W.drop ?_
      refine gw_W.wd (w' := ([(ad 0, .inr (9, [.int (nI (σ.1)), .ref (ad 1), .ref (ad 2), .ref (sa (3 * 0)), .ref (ad 4), .ref (ad 5), .ref (ad 6), .int (nI ((sOp σ).length)), va_rf (lo), .int (nx), .int (σ.2.2.2.2.2.2.1), .int (σ.2.2.2.2.2.2.2), .ref (ad 12), .int (nI ((sTr σ).length)), .int (σ.2.2.2.2.1)])), (ad 1, .inl (cy 3, 9, .inr (.inr (.inr (.inr (fun i => some (sa (3 * i)))))))), (ad 2, .inl (cy 3, 9, .inr (.inr (.inr (.inr (fun i => some (sa (3 * (9 + i))))))))), (ad 5, .inl (cy 4, 8, .inr (.inr (.inr (.inr (fun i => some (ta (2 * i)))))))), (ad 6, .inl (cy 2, 40, .inr (.inr (.inr (.inr (pg)))))), (ad 12, .inl (cy 0, 16, .inl (bo)))] ++ (xs ++ (tb ++ op)))) rfl ?_
      refine gw_W.wd (w' := bW cy ad sa ta (σ.1) ((sOp σ).length) ((sTr σ).length) nx (σ.2.2.2.2.2.2.1) (σ.2.2.2.2.2.2.2) (σ.2.2.2.2.1) lo pg bo ++ (xs ++ (tb ++ op))) rfl ?_
      refine gw_iret (?_) (by decide) (by decide) rfl dX11_pulse_35
      subst hpost
      unfold spPulse spCome
      rw [if_pos c7]
      first
        | (rw [if_pos h40]; exact ⟨rfl, ad, sa, ta, oa, nx, lo, pg, bo, cs, xs, tb, op, td, rfl, List.Perm.refl _, hxs, hcs, htb, hop, hN, hbo⟩)
        | (rw [if_neg h40]; exact ⟨rfl, cInv_push hxs hcs htb hop hN hbo (2, x, y, z, 0) _ 0 (pu_ok c7) (opStep_keep hoc (show ¬ (2 : Nat) = 5 from by decide) (show ¬ (2 : Nat) = 6 from by decide)) h40 ((hop.2.1.trans (arOf_n (show ¬ (2 : Nat) = 5 from by decide) (show ¬ (2 : Nat) = 6 from by decide)).symm))⟩)
    · refine gw_callV 0 (As := [.ref (q14)]) (st := []) (c_bappend l cy ad sa ta (σ.1) ((sOp σ).length) ((sTr σ).length) nx (σ.2.2.2.2.2.2.1) (σ.2.2.2.2.2.2.2) (σ.2.2.2.2.1) lo pg bo (xs ++ (tb ++ op)) q14 4 [.int (nI ((sOp σ).length)), va_rf (lo), .int (x), .int (y), .int (z)] _ rfl (by decide +kernel) (by omega)) ok_X11_append rfl rfl rfl wd_506 rfl rfl dX11_pulse_32 (by decide) (by decide) (Nat.le_of_ble_eq_true rfl) (fun r32 w32 hp32 => ?_)
      obtain ⟨rfl, rfl⟩ := hp32
      refine gw_W.norm (st' := [.int (nI ((sOp σ).length))]) (k1 := 1) (k2 := 5) rfl rfl rfl ?_
      refine gw_W.wd (w' := ([(ad 0, .inr (9, [.int (nI (σ.1)), .ref (ad 1), .ref (ad 2), .ref (sa (3 * 0)), .ref (ad 4), .ref (ad 5), .ref (ad 6), .int (nI ((sOp σ).length + 1)), va_rf (lo), .int (nx), .int (σ.2.2.2.2.2.2.1), .int (σ.2.2.2.2.2.2.2), .ref (ad 12), .int (nI ((sTr σ).length)), .int (σ.2.2.2.2.1)])), (ad 1, .inl (cy 3, 9, .inr (.inr (.inr (.inr (fun i => some (sa (3 * i)))))))), (ad 2, .inl (cy 3, 9, .inr (.inr (.inr (.inr (fun i => some (sa (3 * (9 + i))))))))), (ad 5, .inl (cy 4, 8, .inr (.inr (.inr (.inr (fun i => some (ta (2 * i)))))))), (ad 6, .inl (cy 2, 40, .inr (.inr (.inr (.inr (va_up pg ((sOp σ).length) (some q14))))))), (ad 12, .inl (cy 0, 16, .inl (bo))), (q14, .inr (4, [.int (nI ((sOp σ).length)), va_rf (lo), .int (x), .int (y), .int (z)]))] ++ (xs ++ (tb ++ op)))) rfl ?_
      refine gw_W.wd (w' := bW cy ad sa ta (σ.1) ((sOp σ).length + 1) ((sTr σ).length) nx (σ.2.2.2.2.2.2.1) (σ.2.2.2.2.2.2.2) (σ.2.2.2.2.1) lo (va_up pg ((sOp σ).length) (some q14)) bo ++ ([(q14, .inr (4, [.int (nI ((sOp σ).length)), va_rf (lo), .int (x), .int (y), .int (z)]))] ++ (xs ++ (tb ++ op)))) rfl ?_
      refine gw_iret (?_) (by decide) (by decide) rfl dX11_pulse_35
      subst hpost
      unfold spPulse spCome
      rw [if_pos c7]
      first
        | (rw [if_pos h40]; exact ⟨rfl, ad, sa, ta, oa, nx, lo, pg, bo, cs, xs, tb, op, td, rfl, List.Perm.refl _, hxs, hcs, htb, hop, hN, hbo⟩)
        | (rw [if_neg h40]; exact ⟨rfl, cInv_push hxs hcs htb hop hN hbo (2, x, y, z, 0) _ 0 (pu_ok c7) (opStep_keep hoc (show ¬ (2 : Nat) = 5 from by decide) (show ¬ (2 : Nat) = 6 from by decide)) h40 ((hop.2.1.trans (arOf_n (show ¬ (2 : Nat) = 5 from by decide) (show ¬ (2 : Nat) = 6 from by decide)).symm))⟩)
  · rw [bI_0] at c7
    refine gw_ldc dX11_pulse_10 wd_233 ?_
    refine gw_W.wd (w' := bW cy ad sa ta (σ.1) ((sOp σ).length) ((sTr σ).length) nx (σ.2.2.2.2.2.2.1) (σ.2.2.2.2.2.2.2) (σ.2.2.2.2.1) lo pg bo ++ (xs ++ (tb ++ op))) rfl ?_
    refine gw_iret (?_) (by decide) (by decide) rfl dX11_pulse_12
    subst hpost
    unfold spPulse
    rw [if_neg (by rw [c7]; decide)]
    exact ⟨rfl, ad, sa, ta, oa, nx, lo, pg, bo, cs, xs, tb, op, td, rfl, List.Perm.refl _, hxs, hcs, htb, hop, hN, hbo⟩
abbrev kX11_cycled : gw_K := (yX11_cycled, cX11_cycled, 5, { frames := 5, cells := 1, slots := 6, locals := 115 }, (some .int))
theorem ok_X11_cycled : gw_calV kX11_cycled 4 := ⟨⟨wd_513, wd_57, by decide, by decide, by decide +kernel⟩, wd_511, wd_512⟩
set_option maxHeartbeats 4000000 in
set_option maxRecDepth 100000 in
theorem t_cgcycled (l : Launch) (cy : Nat → ClassId) (b : Nat) (σ : aS) (w : va_W) (hI : cInv cy b σ w) (x y z t : Int32) : gw_M l kX11_cycled cy [.ref (b), .int (x), .int (y), .int (z), .int (t)] (w) (cPost cy b (spCycled σ x y z t)) := by
  obtain ⟨ad, sa, ta, oa, nx, lo, pg, bo, cs, xs, tb, op, td, rfl, hw, hxs, hcs, htb, hop, hN, hbo⟩ := hI
  have hn4 : 1 ≤ σ.1 ∧ σ.1 ≤ 4 := ⟨hN.1, hN.2.1⟩
  refine gw_M.pm hw ?_
  obtain ⟨oc, hoc⟩ := hN.2.2.2.2.1
  have l40 : (sOp σ).length ≤ 40 := hN.2.2.2.1
  refine gw_M.mk (lv := [some (.ref (ad 0)), some (.int (x)), some (.int (y)), some (.int (z)), some (.int (t))]) (by decide) (Nat.le_of_ble_eq_true rfl) rfl ?_
  generalize hpost : (cPost cy (ad 0) (spCycled σ x y z t) : gw_Q) = post
  refine gw_W.wd (w' := ([(ad 0, .inr (9, [.int (nI (σ.1)), .ref (ad 1), .ref (ad 2), .ref (sa (3 * 0)), .ref (ad 4), .ref (ad 5), .ref (ad 6), .int (nI ((sOp σ).length)), va_rf (lo), .int (nx), .int (σ.2.2.2.2.2.2.1), .int (σ.2.2.2.2.2.2.2), .ref (ad 12), .int (nI ((sTr σ).length)), .int (σ.2.2.2.2.1)])), (ad 1, .inl (cy 3, 9, .inr (.inr (.inr (.inr (fun i => some (sa (3 * i)))))))), (ad 2, .inl (cy 3, 9, .inr (.inr (.inr (.inr (fun i => some (sa (3 * (9 + i))))))))), (ad 5, .inl (cy 4, 8, .inr (.inr (.inr (.inr (fun i => some (ta (2 * i)))))))), (ad 6, .inl (cy 2, 40, .inr (.inr (.inr (.inr (pg)))))), (ad 12, .inl (cy 0, 16, .inl (bo)))] ++ (xs ++ (tb ++ op)))) rfl ?_
  refine gw_aload_n dX11_cycled_0 rfl ?_
  refine gw_iload_n dX11_cycled_1 rfl ?_
  refine gw_iload_n dX11_cycled_2 rfl ?_
  refine gw_iload_n dX11_cycled_3 rfl ?_
  refine gw_W.wd (w' := bW cy ad sa ta (σ.1) ((sOp σ).length) ((sTr σ).length) nx (σ.2.2.2.2.2.2.1) (σ.2.2.2.2.2.2.2) (σ.2.2.2.2.1) lo pg bo ++ (xs ++ (tb ++ op))) rfl ?_
  refine gw_callV 0 (As := [.int (x), .int (y), .int (z)]) (st := []) (c_bisPulse l cy ad sa ta (σ.1) ((sOp σ).length) ((sTr σ).length) nx (σ.2.2.2.2.2.2.1) (σ.2.2.2.2.2.2.2) (σ.2.2.2.2.1) lo pg bo (xs ++ (tb ++ op)) (x) (y) (z) hn4.2) ok_X11_isPulse rfl rfl rfl wd_461 rfl rfl dX11_cycled_4 (by decide) (by decide) (Nat.le_of_ble_eq_true rfl) (fun r4 w4 hp4 => ?_)
  obtain ⟨rfl, rfl⟩ := hp4
  refine gw_W.norm (st' := [.int (bI (isPu σ.1 (x) (y) (z)))]) (k1 := 0) (k2 := 0) rfl rfl rfl ?_
  refine gw_W.wd (w' := ([(ad 0, .inr (9, [.int (nI (σ.1)), .ref (ad 1), .ref (ad 2), .ref (sa (3 * 0)), .ref (ad 4), .ref (ad 5), .ref (ad 6), .int (nI ((sOp σ).length)), va_rf (lo), .int (nx), .int (σ.2.2.2.2.2.2.1), .int (σ.2.2.2.2.2.2.2), .ref (ad 12), .int (nI ((sTr σ).length)), .int (σ.2.2.2.2.1)])), (ad 1, .inl (cy 3, 9, .inr (.inr (.inr (.inr (fun i => some (sa (3 * i)))))))), (ad 2, .inl (cy 3, 9, .inr (.inr (.inr (.inr (fun i => some (sa (3 * (9 + i))))))))), (ad 5, .inl (cy 4, 8, .inr (.inr (.inr (.inr (fun i => some (ta (2 * i)))))))), (ad 6, .inl (cy 2, 40, .inr (.inr (.inr (.inr (pg)))))), (ad 12, .inl (cy 0, 16, .inl (bo)))] ++ (xs ++ (tb ++ op)))) rfl ?_
  refine gw_if_eq (tgt := 21) dX11_cycled_7 (by decide) (fun c7 => ?_) (fun c7 => ?_)
  · rw [bI_0] at c7
    have d7 : isPu σ.1 x y z = false := c7
    refine gw_ldc dX11_cycled_21 wd_233 ?_
    refine gw_W.wd (w' := bW cy ad sa ta (σ.1) ((sOp σ).length) ((sTr σ).length) nx (σ.2.2.2.2.2.2.1) (σ.2.2.2.2.2.2.2) (σ.2.2.2.2.1) lo pg bo ++ (xs ++ (tb ++ op))) rfl ?_
    refine gw_iret (?_) (by decide) (by decide) rfl dX11_cycled_23
    subst hpost
    unfold spCycled
    rw [if_neg (fun h => by
      obtain ⟨h0, h1⟩ := h
      first
        | exact absurd (h0.symm.trans d7) (by decide)
        | exact absurd (h1.symm.trans d18) (by decide))]
    exact ⟨rfl, ad, sa, ta, oa, nx, lo, pg, bo, cs, xs, tb, op, td, rfl, List.Perm.refl _, hxs, hcs, htb, hop, hN, hbo⟩
  · rw [bI_n0] at c7
    have d7 : isPu σ.1 x y z = true := c7
    refine gw_iload dX11_cycled_10 rfl ?_
    refine gw_iconst (v := nI (0)) dX11_cycled_12 (by decide) ?_
    refine gw_bipush (v := nI (7)) dX11_cycled_13 (by decide) ?_
    refine gw_callS (As := [.int (t), .int (nI (0)), .int (nI (7))]) (st := []) (c_within l cy (t) (nI (0)) (nI (7)) ([(ad 0, .inr (9, [.int (nI (σ.1)), .ref (ad 1), .ref (ad 2), .ref (sa (3 * 0)), .ref (ad 4), .ref (ad 5), .ref (ad 6), .int (nI ((sOp σ).length)), va_rf (lo), .int (nx), .int (σ.2.2.2.2.2.2.1), .int (σ.2.2.2.2.2.2.2), .ref (ad 12), .int (nI ((sTr σ).length)), .int (σ.2.2.2.2.1)])), (ad 1, .inl (cy 3, 9, .inr (.inr (.inr (.inr (fun i => some (sa (3 * i)))))))), (ad 2, .inl (cy 3, 9, .inr (.inr (.inr (.inr (fun i => some (sa (3 * (9 + i))))))))), (ad 5, .inl (cy 4, 8, .inr (.inr (.inr (.inr (fun i => some (ta (2 * i)))))))), (ad 6, .inl (cy 2, 40, .inr (.inr (.inr (.inr (pg)))))), (ad 12, .inl (cy 0, 16, .inl (bo)))] ++ (xs ++ (tb ++ op)))) ok_X11_within wd_230 rfl rfl dX11_cycled_15 (by decide) (by decide) (Nat.le_of_ble_eq_true rfl) (fun r15 w15 hp15 => ?_)
    obtain ⟨rfl, rfl⟩ := hp15
    refine gw_W.norm (st' := [.int (bI (inZ (t).toInt (nI (0)).toInt (nI (7)).toInt))]) (k1 := 0) (k2 := 0) rfl rfl rfl ?_
    refine gw_if_ne (tgt := 24) dX11_cycled_18 (by decide) (fun c18 => ?_) (fun c18 => ?_)
    · rw [bI_n0] at c18
      have d18 : inZ t.toInt 0 7 = true := c18
      refine gw_aload_n dX11_cycled_24 rfl ?_
      refine gw_new (C0 := RX0) (T := TX0) (N := 6) (ci := 0) (fs := [.int ((0 : Int32)), .int ((0 : Int32)), .int ((0 : Int32)), .int ((0 : Int32)), .null, .int ((0 : Int32))]) tyX0 tyX0_ok rfl inX0 wd_514 wd_515 wd_69 (fun j hj => by
        rcases (show j = 0 ∨ j = 1 ∨ j = 2 ∨ j = 3 ∨ j = 4 ∨ j = 5 by omega) with rfl | rfl | rfl | rfl | rfl | rfl <;> rfl) (by decide) (by decide) dX11_cycled_25 (fun q25 => ?_)
      refine gw_W.perm (perm_sn2 (A := ([(ad 0, .inr (9, [.int (nI (σ.1)), .ref (ad 1), .ref (ad 2), .ref (sa (3 * 0)), .ref (ad 4), .ref (ad 5), .ref (ad 6), .int (nI ((sOp σ).length)), va_rf (lo), .int (nx), .int (σ.2.2.2.2.2.2.1), .int (σ.2.2.2.2.2.2.2), .ref (ad 12), .int (nI ((sTr σ).length)), .int (σ.2.2.2.2.1)])), (ad 1, .inl (cy 3, 9, .inr (.inr (.inr (.inr (fun i => some (sa (3 * i)))))))), (ad 2, .inl (cy 3, 9, .inr (.inr (.inr (.inr (fun i => some (sa (3 * (9 + i))))))))), (ad 5, .inl (cy 4, 8, .inr (.inr (.inr (.inr (fun i => some (ta (2 * i)))))))), (ad 6, .inl (cy 2, 40, .inr (.inr (.inr (.inr (pg)))))), (ad 12, .inl (cy 0, 16, .inl (bo)))] : va_W)) (R := (xs ++ (tb ++ op))) (C := [(q25, .inr (0, [.int ((0 : Int32)), .int ((0 : Int32)), .int ((0 : Int32)), .int ((0 : Int32)), .null, .int ((0 : Int32))]))])) ?_
      refine gw_W.norm (st' := [.ref (q25), .ref (ad 0)]) (k1 := 1) (k2 := 6) rfl rfl rfl ?_
      refine gw_W.wd (w' := ([(ad 0, .inr (9, [.int (nI (σ.1)), .ref (ad 1), .ref (ad 2), .ref (sa (3 * 0)), .ref (ad 4), .ref (ad 5), .ref (ad 6), .int (nI ((sOp σ).length)), va_rf (lo), .int (nx), .int (σ.2.2.2.2.2.2.1), .int (σ.2.2.2.2.2.2.2), .ref (ad 12), .int (nI ((sTr σ).length)), .int (σ.2.2.2.2.1)])), (ad 1, .inl (cy 3, 9, .inr (.inr (.inr (.inr (fun i => some (sa (3 * i)))))))), (ad 2, .inl (cy 3, 9, .inr (.inr (.inr (.inr (fun i => some (sa (3 * (9 + i))))))))), (ad 5, .inl (cy 4, 8, .inr (.inr (.inr (.inr (fun i => some (ta (2 * i)))))))), (ad 6, .inl (cy 2, 40, .inr (.inr (.inr (.inr (pg)))))), (ad 12, .inl (cy 0, 16, .inl (bo))), (q25, .inr (0, [.int ((0 : Int32)), .int ((0 : Int32)), .int ((0 : Int32)), .int ((0 : Int32)), .null, .int ((0 : Int32))]))] ++ (xs ++ (tb ++ op)))) rfl ?_
      refine gw_dup dX11_cycled_28 rfl ?_
      refine gw_aload_n dX11_cycled_29 rfl ?_
      refine gw_get (C0 := RX11) (T := TX11) (N := 15) (ref := RX11) 0 rfl rfl inX11 7 (by decide) wd_182 (Or.inl rfl) rfl dX11_cycled_30 ?_
      refine gw_aload_n dX11_cycled_33 rfl ?_
      refine gw_get (C0 := RX11) (T := TX11) (N := 15) (ref := RX11) 0 rfl rfl inX11 8 (by decide) wd_183 (Or.inl rfl) rfl dX11_cycled_34 ?_
      refine gw_iload_n dX11_cycled_37 rfl ?_
      refine gw_iload_n dX11_cycled_38 rfl ?_
      refine gw_iload_n dX11_cycled_39 rfl ?_
      refine gw_iload dX11_cycled_40 rfl ?_
      refine gw_callI (As := [.int (nI ((sOp σ).length)), va_rf (lo), .int (x), .int (y), .int (z), .int (t)]) (st := [.ref (q25), .ref (ad 0)]) ((c_q0 l cy q25 (lo) (nI ((sOp σ).length)) x y z t).frame (w2 := ([(ad 0, .inr (9, [.int (nI (σ.1)), .ref (ad 1), .ref (ad 2), .ref (sa (3 * 0)), .ref (ad 4), .ref (ad 5), .ref (ad 6), .int (nI ((sOp σ).length)), va_rf (lo), .int (nx), .int (σ.2.2.2.2.2.2.1), .int (σ.2.2.2.2.2.2.2), .ref (ad 12), .int (nI ((sTr σ).length)), .int (σ.2.2.2.2.1)])), (ad 1, .inl (cy 3, 9, .inr (.inr (.inr (.inr (fun i => some (sa (3 * i)))))))), (ad 2, .inl (cy 3, 9, .inr (.inr (.inr (.inr (fun i => some (sa (3 * (9 + i))))))))), (ad 5, .inl (cy 4, 8, .inr (.inr (.inr (.inr (fun i => some (ta (2 * i)))))))), (ad 6, .inl (cy 2, 40, .inr (.inr (.inr (.inr (pg)))))), (ad 12, .inl (cy 0, 16, .inl (bo))), (q25, .inr (0, [.int ((0 : Int32)), .int ((0 : Int32)), .int ((0 : Int32)), .int ((0 : Int32)), .null, .int ((0 : Int32))]))] ++ (xs ++ (tb ++ op)))) (f := ([(ad 0, .inr (9, [.int (nI (σ.1)), .ref (ad 1), .ref (ad 2), .ref (sa (3 * 0)), .ref (ad 4), .ref (ad 5), .ref (ad 6), .int (nI ((sOp σ).length)), va_rf (lo), .int (nx), .int (σ.2.2.2.2.2.2.1), .int (σ.2.2.2.2.2.2.2), .ref (ad 12), .int (nI ((sTr σ).length)), .int (σ.2.2.2.2.1)])), (ad 1, .inl (cy 3, 9, .inr (.inr (.inr (.inr (fun i => some (sa (3 * i)))))))), (ad 2, .inl (cy 3, 9, .inr (.inr (.inr (.inr (fun i => some (sa (3 * (9 + i))))))))), (ad 5, .inl (cy 4, 8, .inr (.inr (.inr (.inr (fun i => some (ta (2 * i)))))))), (ad 6, .inl (cy 2, 40, .inr (.inr (.inr (.inr (pg)))))), (ad 12, .inl (cy 0, 16, .inl (bo)))] : va_W) ++ (xs ++ (tb ++ op))) (perm_op (A := ([(ad 0, .inr (9, [.int (nI (σ.1)), .ref (ad 1), .ref (ad 2), .ref (sa (3 * 0)), .ref (ad 4), .ref (ad 5), .ref (ad 6), .int (nI ((sOp σ).length)), va_rf (lo), .int (nx), .int (σ.2.2.2.2.2.2.1), .int (σ.2.2.2.2.2.2.2), .ref (ad 12), .int (nI ((sTr σ).length)), .int (σ.2.2.2.2.1)])), (ad 1, .inl (cy 3, 9, .inr (.inr (.inr (.inr (fun i => some (sa (3 * i)))))))), (ad 2, .inl (cy 3, 9, .inr (.inr (.inr (.inr (fun i => some (sa (3 * (9 + i))))))))), (ad 5, .inl (cy 4, 8, .inr (.inr (.inr (.inr (fun i => some (ta (2 * i)))))))), (ad 6, .inl (cy 2, 40, .inr (.inr (.inr (.inr (pg)))))), (ad 12, .inl (cy 0, 16, .inl (bo)))] : va_W)) (C := ([(q25, .inr (0, [.int ((0 : Int32)), .int ((0 : Int32)), .int ((0 : Int32)), .int ((0 : Int32)), .null, .int ((0 : Int32))]))] : va_W)) (R := (xs ++ (tb ++ op))))) ok_X0_init wd_516 rfl rfl dX11_cycled_42 (by decide) (by decide) (Nat.le_of_ble_eq_true rfl) (fun r42 w42 hp42 => ?_)
      obtain ⟨w42, ⟨rfl, rfl⟩, rfl⟩ := hp42
      refine gw_W.perm (perm_op (A := ([(ad 0, .inr (9, [.int (nI (σ.1)), .ref (ad 1), .ref (ad 2), .ref (sa (3 * 0)), .ref (ad 4), .ref (ad 5), .ref (ad 6), .int (nI ((sOp σ).length)), va_rf (lo), .int (nx), .int (σ.2.2.2.2.2.2.1), .int (σ.2.2.2.2.2.2.2), .ref (ad 12), .int (nI ((sTr σ).length)), .int (σ.2.2.2.2.1)])), (ad 1, .inl (cy 3, 9, .inr (.inr (.inr (.inr (fun i => some (sa (3 * i)))))))), (ad 2, .inl (cy 3, 9, .inr (.inr (.inr (.inr (fun i => some (sa (3 * (9 + i))))))))), (ad 5, .inl (cy 4, 8, .inr (.inr (.inr (.inr (fun i => some (ta (2 * i)))))))), (ad 6, .inl (cy 2, 40, .inr (.inr (.inr (.inr (pg)))))), (ad 12, .inl (cy 0, 16, .inl (bo)))] : va_W)) (C := ([(q25, .inr (0, [.int (x), .int (y), .int (z), .int (nI ((sOp σ).length)), va_rf (lo), .int (t)]))] : va_W)) (R := (xs ++ (tb ++ op)))).symm ?_
      refine gw_W.norm (st' := [.ref (q25), .ref (ad 0)]) (k1 := 1) (k2 := 6) rfl rfl rfl ?_
      refine gw_W.wd (w' := ([(ad 0, .inr (9, [.int (nI (σ.1)), .ref (ad 1), .ref (ad 2), .ref (sa (3 * 0)), .ref (ad 4), .ref (ad 5), .ref (ad 6), .int (nI ((sOp σ).length)), va_rf (lo), .int (nx), .int (σ.2.2.2.2.2.2.1), .int (σ.2.2.2.2.2.2.2), .ref (ad 12), .int (nI ((sTr σ).length)), .int (σ.2.2.2.2.1)])), (ad 1, .inl (cy 3, 9, .inr (.inr (.inr (.inr (fun i => some (sa (3 * i)))))))), (ad 2, .inl (cy 3, 9, .inr (.inr (.inr (.inr (fun i => some (sa (3 * (9 + i))))))))), (ad 5, .inl (cy 4, 8, .inr (.inr (.inr (.inr (fun i => some (ta (2 * i)))))))), (ad 6, .inl (cy 2, 40, .inr (.inr (.inr (.inr (pg)))))), (ad 12, .inl (cy 0, 16, .inl (bo))), (q25, .inr (0, [.int (x), .int (y), .int (z), .int (nI ((sOp σ).length)), va_rf (lo), .int (t)]))] ++ (xs ++ (tb ++ op)))) rfl ?_
      refine gw_W.wd (w' := bW cy ad sa ta (σ.1) ((sOp σ).length) ((sTr σ).length) nx (σ.2.2.2.2.2.2.1) (σ.2.2.2.2.2.2.2) (σ.2.2.2.2.1) lo pg bo ++ ([(q25, .inr (0, [.int (x), .int (y), .int (z), .int (nI ((sOp σ).length)), va_rf (lo), .int (t)]))] ++ (xs ++ (tb ++ op)))) rfl ?_
      by_cases h40 : (sOp σ).length = 40
      · refine gw_callV 0 (As := [.ref (q25)]) (st := []) (c_bappendF l cy ad sa ta (σ.1) ((sOp σ).length) ((sTr σ).length) nx (σ.2.2.2.2.2.2.1) (σ.2.2.2.2.2.2.2) (σ.2.2.2.2.1) lo pg bo (xs ++ (tb ++ op)) q25 0 [.int (x), .int (y), .int (z), .int (nI ((sOp σ).length)), va_rf (lo), .int (t)] h40) ok_X11_append rfl rfl rfl wd_506 rfl rfl dX11_cycled_45 (by decide) (by decide) (Nat.le_of_ble_eq_true rfl) (fun r45 w45 hp45 => ?_)
        obtain ⟨rfl, rfl⟩ := hp45
        refine gw_W.norm (st' := [.int ((-1000003 : Int32))]) (k1 := 1) (k2 := 6) rfl rfl rfl ?_
        refine gw_W.wd (w' := ([(ad 0, .inr (9, [.int (nI (σ.1)), .ref (ad 1), .ref (ad 2), .ref (sa (3 * 0)), .ref (ad 4), .ref (ad 5), .ref (ad 6), .int (nI ((sOp σ).length)), va_rf (lo), .int (nx), .int (σ.2.2.2.2.2.2.1), .int (σ.2.2.2.2.2.2.2), .ref (ad 12), .int (nI ((sTr σ).length)), .int (σ.2.2.2.2.1)])), (ad 1, .inl (cy 3, 9, .inr (.inr (.inr (.inr (fun i => some (sa (3 * i)))))))), (ad 2, .inl (cy 3, 9, .inr (.inr (.inr (.inr (fun i => some (sa (3 * (9 + i))))))))), (ad 5, .inl (cy 4, 8, .inr (.inr (.inr (.inr (fun i => some (ta (2 * i)))))))), (ad 6, .inl (cy 2, 40, .inr (.inr (.inr (.inr (pg)))))), (ad 12, .inl (cy 0, 16, .inl (bo))), (q25, .inr (0, [.int (x), .int (y), .int (z), .int (nI ((sOp σ).length)), va_rf (lo), .int (t)]))] ++ (xs ++ (tb ++ op)))) rfl ?_
        refine gw_W.perm (perm_sn2 (A := ([(ad 0, .inr (9, [.int (nI (σ.1)), .ref (ad 1), .ref (ad 2), .ref (sa (3 * 0)), .ref (ad 4), .ref (ad 5), .ref (ad 6), .int (nI ((sOp σ).length)), va_rf (lo), .int (nx), .int (σ.2.2.2.2.2.2.1), .int (σ.2.2.2.2.2.2.2), .ref (ad 12), .int (nI ((sTr σ).length)), .int (σ.2.2.2.2.1)])), (ad 1, .inl (cy 3, 9, .inr (.inr (.inr (.inr (fun i => some (sa (3 * i)))))))), (ad 2, .inl (cy 3, 9, .inr (.inr (.inr (.inr (fun i => some (sa (3 * (9 + i))))))))), (ad 5, .inl (cy 4, 8, .inr (.inr (.inr (.inr (fun i => some (ta (2 * i)))))))), (ad 6, .inl (cy 2, 40, .inr (.inr (.inr (.inr (pg)))))), (ad 12, .inl (cy 0, 16, .inl (bo)))] : va_W)) (R := (xs ++ (tb ++ op))) (C := [(q25, .inr (0, [.int (x), .int (y), .int (z), .int (nI ((sOp σ).length)), va_rf (lo), .int (t)]))])).symm ?_
        refine gw_W.drop ?_
        refine gw_W.wd (w' := ([(ad 0, .inr (9, [.int (nI (σ.1)), .ref (ad 1), .ref (ad 2), .ref (sa (3 * 0)), .ref (ad 4), .ref (ad 5), .ref (ad 6), .int (nI ((sOp σ).length)), va_rf (lo), .int (nx), .int (σ.2.2.2.2.2.2.1), .int (σ.2.2.2.2.2.2.2), .ref (ad 12), .int (nI ((sTr σ).length)), .int (σ.2.2.2.2.1)])), (ad 1, .inl (cy 3, 9, .inr (.inr (.inr (.inr (fun i => some (sa (3 * i)))))))), (ad 2, .inl (cy 3, 9, .inr (.inr (.inr (.inr (fun i => some (sa (3 * (9 + i))))))))), (ad 5, .inl (cy 4, 8, .inr (.inr (.inr (.inr (fun i => some (ta (2 * i)))))))), (ad 6, .inl (cy 2, 40, .inr (.inr (.inr (.inr (pg)))))), (ad 12, .inl (cy 0, 16, .inl (bo)))] ++ (xs ++ (tb ++ op)))) rfl ?_
        refine gw_W.wd (w' := bW cy ad sa ta (σ.1) ((sOp σ).length) ((sTr σ).length) nx (σ.2.2.2.2.2.2.1) (σ.2.2.2.2.2.2.2) (σ.2.2.2.2.1) lo pg bo ++ (xs ++ (tb ++ op))) rfl ?_
        refine gw_iret (?_) (by decide) (by decide) rfl dX11_cycled_48
        subst hpost
        unfold spCycled spCome
        rw [if_pos ⟨d7, d18⟩]
        first
          | (rw [if_pos h40]; exact ⟨rfl, ad, sa, ta, oa, nx, lo, pg, bo, cs, xs, tb, op, td, rfl, List.Perm.refl _, hxs, hcs, htb, hop, hN, hbo⟩)
          | (rw [if_neg h40]; exact ⟨rfl, cInv_push hxs hcs htb hop hN hbo (3, x, y, z, t) _ 0 (cy_ok d7 d18) (opStep_keep hoc (show ¬ (3 : Nat) = 5 from by decide) (show ¬ (3 : Nat) = 6 from by decide)) h40 ((hop.2.1.trans (arOf_n (show ¬ (3 : Nat) = 5 from by decide) (show ¬ (3 : Nat) = 6 from by decide)).symm))⟩)
      · refine gw_callV 0 (As := [.ref (q25)]) (st := []) (c_bappend l cy ad sa ta (σ.1) ((sOp σ).length) ((sTr σ).length) nx (σ.2.2.2.2.2.2.1) (σ.2.2.2.2.2.2.2) (σ.2.2.2.2.1) lo pg bo (xs ++ (tb ++ op)) q25 0 [.int (x), .int (y), .int (z), .int (nI ((sOp σ).length)), va_rf (lo), .int (t)] _ rfl (by decide +kernel) (by omega)) ok_X11_append rfl rfl rfl wd_506 rfl rfl dX11_cycled_45 (by decide) (by decide) (Nat.le_of_ble_eq_true rfl) (fun r45 w45 hp45 => ?_)
        obtain ⟨rfl, rfl⟩ := hp45
        refine gw_W.norm (st' := [.int (nI ((sOp σ).length))]) (k1 := 1) (k2 := 6) rfl rfl rfl ?_
        refine gw_W.wd (w' := ([(ad 0, .inr (9, [.int (nI (σ.1)), .ref (ad 1), .ref (ad 2), .ref (sa (3 * 0)), .ref (ad 4), .ref (ad 5), .ref (ad 6), .int (nI ((sOp σ).length + 1)), va_rf (lo), .int (nx), .int (σ.2.2.2.2.2.2.1), .int (σ.2.2.2.2.2.2.2), .ref (ad 12), .int (nI ((sTr σ).length)), .int (σ.2.2.2.2.1)])), (ad 1, .inl (cy 3, 9, .inr (.inr (.inr (.inr (fun i => some (sa (3 * i)))))))), (ad 2, .inl (cy 3, 9, .inr (.inr (.inr (.inr (fun i => some (sa (3 * (9 + i))))))))), (ad 5, .inl (cy 4, 8, .inr (.inr (.inr (.inr (fun i => some (ta (2 * i)))))))), (ad 6, .inl (cy 2, 40, .inr (.inr (.inr (.inr (va_up pg ((sOp σ).length) (some q25))))))), (ad 12, .inl (cy 0, 16, .inl (bo))), (q25, .inr (0, [.int (x), .int (y), .int (z), .int (nI ((sOp σ).length)), va_rf (lo), .int (t)]))] ++ (xs ++ (tb ++ op)))) rfl ?_
        refine gw_W.wd (w' := bW cy ad sa ta (σ.1) ((sOp σ).length + 1) ((sTr σ).length) nx (σ.2.2.2.2.2.2.1) (σ.2.2.2.2.2.2.2) (σ.2.2.2.2.1) lo (va_up pg ((sOp σ).length) (some q25)) bo ++ ([(q25, .inr (0, [.int (x), .int (y), .int (z), .int (nI ((sOp σ).length)), va_rf (lo), .int (t)]))] ++ (xs ++ (tb ++ op)))) rfl ?_
        refine gw_iret (?_) (by decide) (by decide) rfl dX11_cycled_48
        subst hpost
        unfold spCycled spCome
        rw [if_pos ⟨d7, d18⟩]
        first
          | (rw [if_pos h40]; exact ⟨rfl, ad, sa, ta, oa, nx, lo, pg, bo, cs, xs, tb, op, td, rfl, List.Perm.refl _, hxs, hcs, htb, hop, hN, hbo⟩)
          | (rw [if_neg h40]; exact ⟨rfl, cInv_push hxs hcs htb hop hN hbo (3, x, y, z, t) _ 0 (cy_ok d7 d18) (opStep_keep hoc (show ¬ (3 : Nat) = 5 from by decide) (show ¬ (3 : Nat) = 6 from by decide)) h40 ((hop.2.1.trans (arOf_n (show ¬ (3 : Nat) = 5 from by decide) (show ¬ (3 : Nat) = 6 from by decide)).symm))⟩)
    · rw [bI_0] at c18
      have d18 : inZ t.toInt 0 7 = false := c18
      refine gw_ldc dX11_cycled_21 wd_233 ?_
      refine gw_W.wd (w' := bW cy ad sa ta (σ.1) ((sOp σ).length) ((sTr σ).length) nx (σ.2.2.2.2.2.2.1) (σ.2.2.2.2.2.2.2) (σ.2.2.2.2.1) lo pg bo ++ (xs ++ (tb ++ op))) rfl ?_
      refine gw_iret (?_) (by decide) (by decide) rfl dX11_cycled_23
      subst hpost
      unfold spCycled
      rw [if_neg (fun h => by
        obtain ⟨h0, h1⟩ := h
        first
          | exact absurd (h0.symm.trans d7) (by decide)
          | exact absurd (h1.symm.trans d18) (by decide))]
      exact ⟨rfl, ad, sa, ta, oa, nx, lo, pg, bo, cs, xs, tb, op, td, rfl, List.Perm.refl _, hxs, hcs, htb, hop, hN, hbo⟩
abbrev kX11_delay : gw_K := (yX11_delay, cX11_delay, 4, { frames := 4, cells := 1, slots := 5, locals := 89 }, (some .int))
theorem ok_X11_delay : gw_calV kX11_delay 3 := ⟨⟨wd_532, wd_57, by decide, by decide, by decide +kernel⟩, wd_530, wd_531⟩
set_option maxHeartbeats 4000000 in
set_option maxRecDepth 100000 in
theorem t_cgdelay (l : Launch) (cy : Nat → ClassId) (b : Nat) (σ : aS) (w : va_W) (hI : cInv cy b σ w) (x y z : Int32) : gw_M l kX11_delay cy [.ref (b), .int (x), .int (y), .int (z)] (w) (cPost cy b (spDelay σ x y z)) := by
  obtain ⟨ad, sa, ta, oa, nx, lo, pg, bo, cs, xs, tb, op, td, rfl, hw, hxs, hcs, htb, hop, hN, hbo⟩ := hI
  have hn4 : 1 ≤ σ.1 ∧ σ.1 ≤ 4 := ⟨hN.1, hN.2.1⟩
  refine gw_M.pm hw ?_
  obtain ⟨oc, hoc⟩ := hN.2.2.2.2.1
  have l40 : (sOp σ).length ≤ 40 := hN.2.2.2.1
  refine gw_M.mk (lv := [some (.ref (ad 0)), some (.int (x)), some (.int (y)), some (.int (z))]) (by decide) (Nat.le_of_ble_eq_true rfl) rfl ?_
  generalize hpost : (cPost cy (ad 0) (spDelay σ x y z) : gw_Q) = post
  refine gw_W.wd (w' := ([(ad 0, .inr (9, [.int (nI (σ.1)), .ref (ad 1), .ref (ad 2), .ref (sa (3 * 0)), .ref (ad 4), .ref (ad 5), .ref (ad 6), .int (nI ((sOp σ).length)), va_rf (lo), .int (nx), .int (σ.2.2.2.2.2.2.1), .int (σ.2.2.2.2.2.2.2), .ref (ad 12), .int (nI ((sTr σ).length)), .int (σ.2.2.2.2.1)])), (ad 1, .inl (cy 3, 9, .inr (.inr (.inr (.inr (fun i => some (sa (3 * i)))))))), (ad 2, .inl (cy 3, 9, .inr (.inr (.inr (.inr (fun i => some (sa (3 * (9 + i))))))))), (ad 5, .inl (cy 4, 8, .inr (.inr (.inr (.inr (fun i => some (ta (2 * i)))))))), (ad 6, .inl (cy 2, 40, .inr (.inr (.inr (.inr (pg)))))), (ad 12, .inl (cy 0, 16, .inl (bo)))] ++ (xs ++ (tb ++ op)))) rfl ?_
  refine gw_aload_n dX11_delay_0 rfl ?_
  refine gw_iload_n dX11_delay_1 rfl ?_
  refine gw_W.wd (w' := bW cy ad sa ta (σ.1) ((sOp σ).length) ((sTr σ).length) nx (σ.2.2.2.2.2.2.1) (σ.2.2.2.2.2.2.2) (σ.2.2.2.2.1) lo pg bo ++ (xs ++ (tb ++ op))) rfl ?_
  refine gw_callV 0 (As := [.int (x)]) (st := []) (c_bisProduct l cy ad sa ta (σ.1) ((sOp σ).length) ((sTr σ).length) nx (σ.2.2.2.2.2.2.1) (σ.2.2.2.2.2.2.2) (σ.2.2.2.2.1) lo pg bo (xs ++ (tb ++ op)) (x) hn4) ok_X11_isProduct rfl rfl rfl wd_285 rfl rfl dX11_delay_2 (by decide) (by decide) (Nat.le_of_ble_eq_true rfl) (fun r2 w2 hp2 => ?_)
  obtain ⟨rfl, rfl⟩ := hp2
  refine gw_W.norm (st' := [.int (bI (inZ (x).toInt 0 ((4 ^ σ.1 : Nat) - 1)))]) (k1 := 0) (k2 := 0) rfl rfl rfl ?_
  refine gw_W.wd (w' := ([(ad 0, .inr (9, [.int (nI (σ.1)), .ref (ad 1), .ref (ad 2), .ref (sa (3 * 0)), .ref (ad 4), .ref (ad 5), .ref (ad 6), .int (nI ((sOp σ).length)), va_rf (lo), .int (nx), .int (σ.2.2.2.2.2.2.1), .int (σ.2.2.2.2.2.2.2), .ref (ad 12), .int (nI ((sTr σ).length)), .int (σ.2.2.2.2.1)])), (ad 1, .inl (cy 3, 9, .inr (.inr (.inr (.inr (fun i => some (sa (3 * i)))))))), (ad 2, .inl (cy 3, 9, .inr (.inr (.inr (.inr (fun i => some (sa (3 * (9 + i))))))))), (ad 5, .inl (cy 4, 8, .inr (.inr (.inr (.inr (fun i => some (ta (2 * i)))))))), (ad 6, .inl (cy 2, 40, .inr (.inr (.inr (.inr (pg)))))), (ad 12, .inl (cy 0, 16, .inl (bo)))] ++ (xs ++ (tb ++ op)))) rfl ?_
  refine gw_if_eq (tgt := 24) dX11_delay_5 (by decide) (fun c5 => ?_) (fun c5 => ?_)
  · rw [bI_0] at c5
    have d5 : inZ x.toInt 0 ((4 ^ σ.1 : Nat) - 1) = false := c5
    refine gw_ldc dX11_delay_24 wd_233 ?_
    refine gw_W.wd (w' := bW cy ad sa ta (σ.1) ((sOp σ).length) ((sTr σ).length) nx (σ.2.2.2.2.2.2.1) (σ.2.2.2.2.2.2.2) (σ.2.2.2.2.1) lo pg bo ++ (xs ++ (tb ++ op))) rfl ?_
    refine gw_iret (?_) (by decide) (by decide) rfl dX11_delay_26
    subst hpost
    unfold spDelay
    rw [if_neg (fun h => by
      obtain ⟨h0, h1, h2⟩ := h
      first
        | exact absurd (h0.symm.trans d5) (by decide)
        | exact absurd (h1.symm.trans d14) (by decide)
        | exact absurd (h2.symm.trans d21) (by decide))]
    exact ⟨rfl, ad, sa, ta, oa, nx, lo, pg, bo, cs, xs, tb, op, td, rfl, List.Perm.refl _, hxs, hcs, htb, hop, hN, hbo⟩
  · rw [bI_n0] at c5
    have d5 : inZ x.toInt 0 ((4 ^ σ.1 : Nat) - 1) = true := c5
    refine gw_iload_n dX11_delay_8 rfl ?_
    refine gw_iconst (v := nI (0)) dX11_delay_9 (by decide) ?_
    refine gw_iconst (v := nI (3)) dX11_delay_10 (by decide) ?_
    refine gw_callS (As := [.int (y), .int (nI (0)), .int (nI (3))]) (st := []) (c_within l cy (y) (nI (0)) (nI (3)) ([(ad 0, .inr (9, [.int (nI (σ.1)), .ref (ad 1), .ref (ad 2), .ref (sa (3 * 0)), .ref (ad 4), .ref (ad 5), .ref (ad 6), .int (nI ((sOp σ).length)), va_rf (lo), .int (nx), .int (σ.2.2.2.2.2.2.1), .int (σ.2.2.2.2.2.2.2), .ref (ad 12), .int (nI ((sTr σ).length)), .int (σ.2.2.2.2.1)])), (ad 1, .inl (cy 3, 9, .inr (.inr (.inr (.inr (fun i => some (sa (3 * i)))))))), (ad 2, .inl (cy 3, 9, .inr (.inr (.inr (.inr (fun i => some (sa (3 * (9 + i))))))))), (ad 5, .inl (cy 4, 8, .inr (.inr (.inr (.inr (fun i => some (ta (2 * i)))))))), (ad 6, .inl (cy 2, 40, .inr (.inr (.inr (.inr (pg)))))), (ad 12, .inl (cy 0, 16, .inl (bo)))] ++ (xs ++ (tb ++ op)))) ok_X11_within wd_230 rfl rfl dX11_delay_11 (by decide) (by decide) (Nat.le_of_ble_eq_true rfl) (fun r11 w11 hp11 => ?_)
    obtain ⟨rfl, rfl⟩ := hp11
    refine gw_W.norm (st' := [.int (bI (inZ (y).toInt (nI (0)).toInt (nI (3)).toInt))]) (k1 := 0) (k2 := 0) rfl rfl rfl ?_
    refine gw_if_eq (tgt := 24) dX11_delay_14 (by decide) (fun c14 => ?_) (fun c14 => ?_)
    · rw [bI_0] at c14
      have d14 : inZ y.toInt 0 3 = false := c14
      refine gw_ldc dX11_delay_24 wd_233 ?_
      refine gw_W.wd (w' := bW cy ad sa ta (σ.1) ((sOp σ).length) ((sTr σ).length) nx (σ.2.2.2.2.2.2.1) (σ.2.2.2.2.2.2.2) (σ.2.2.2.2.1) lo pg bo ++ (xs ++ (tb ++ op))) rfl ?_
      refine gw_iret (?_) (by decide) (by decide) rfl dX11_delay_26
      subst hpost
      unfold spDelay
      rw [if_neg (fun h => by
        obtain ⟨h0, h1, h2⟩ := h
        first
          | exact absurd (h0.symm.trans d5) (by decide)
          | exact absurd (h1.symm.trans d14) (by decide)
          | exact absurd (h2.symm.trans d21) (by decide))]
      exact ⟨rfl, ad, sa, ta, oa, nx, lo, pg, bo, cs, xs, tb, op, td, rfl, List.Perm.refl _, hxs, hcs, htb, hop, hN, hbo⟩
    · rw [bI_n0] at c14
      have d14 : inZ y.toInt 0 3 = true := c14
      refine gw_iload_n dX11_delay_17 rfl ?_
      refine gw_callS (As := [.int (z)]) (st := []) (c_isWay l cy (z) ([(ad 0, .inr (9, [.int (nI (σ.1)), .ref (ad 1), .ref (ad 2), .ref (sa (3 * 0)), .ref (ad 4), .ref (ad 5), .ref (ad 6), .int (nI ((sOp σ).length)), va_rf (lo), .int (nx), .int (σ.2.2.2.2.2.2.1), .int (σ.2.2.2.2.2.2.2), .ref (ad 12), .int (nI ((sTr σ).length)), .int (σ.2.2.2.2.1)])), (ad 1, .inl (cy 3, 9, .inr (.inr (.inr (.inr (fun i => some (sa (3 * i)))))))), (ad 2, .inl (cy 3, 9, .inr (.inr (.inr (.inr (fun i => some (sa (3 * (9 + i))))))))), (ad 5, .inl (cy 4, 8, .inr (.inr (.inr (.inr (fun i => some (ta (2 * i)))))))), (ad 6, .inl (cy 2, 40, .inr (.inr (.inr (.inr (pg)))))), (ad 12, .inl (cy 0, 16, .inl (bo)))] ++ (xs ++ (tb ++ op)))) ok_X11_isWay wd_378 rfl rfl dX11_delay_18 (by decide) (by decide) (Nat.le_of_ble_eq_true rfl) (fun r18 w18 hp18 => ?_)
      obtain ⟨rfl, rfl⟩ := hp18
      refine gw_W.norm (st' := [.int (bI (decide ((z) = 1 ∨ (z) = -1)))]) (k1 := 0) (k2 := 0) rfl rfl rfl ?_
      refine gw_if_ne (tgt := 27) dX11_delay_21 (by decide) (fun c21 => ?_) (fun c21 => ?_)
      · rw [bI_n0] at c21
        have d21 : decide (z = 1 ∨ z = -1) = true := c21
        refine gw_aload_n dX11_delay_27 rfl ?_
        refine gw_new (C0 := RX1) (T := TX1) (N := 5) (ci := 1) (fs := [.int ((0 : Int32)), .null, .int ((0 : Int32)), .int ((0 : Int32)), .int ((0 : Int32))]) tyX1 tyX1_ok rfl inX1 wd_533 wd_534 wd_70 (fun j hj => by
          rcases (show j = 0 ∨ j = 1 ∨ j = 2 ∨ j = 3 ∨ j = 4 by omega) with rfl | rfl | rfl | rfl | rfl <;> rfl) (by decide) (by decide) dX11_delay_28 (fun q28 => ?_)
        refine gw_W.perm (perm_sn2 (A := ([(ad 0, .inr (9, [.int (nI (σ.1)), .ref (ad 1), .ref (ad 2), .ref (sa (3 * 0)), .ref (ad 4), .ref (ad 5), .ref (ad 6), .int (nI ((sOp σ).length)), va_rf (lo), .int (nx), .int (σ.2.2.2.2.2.2.1), .int (σ.2.2.2.2.2.2.2), .ref (ad 12), .int (nI ((sTr σ).length)), .int (σ.2.2.2.2.1)])), (ad 1, .inl (cy 3, 9, .inr (.inr (.inr (.inr (fun i => some (sa (3 * i)))))))), (ad 2, .inl (cy 3, 9, .inr (.inr (.inr (.inr (fun i => some (sa (3 * (9 + i))))))))), (ad 5, .inl (cy 4, 8, .inr (.inr (.inr (.inr (fun i => some (ta (2 * i)))))))), (ad 6, .inl (cy 2, 40, .inr (.inr (.inr (.inr (pg)))))), (ad 12, .inl (cy 0, 16, .inl (bo)))] : va_W)) (R := (xs ++ (tb ++ op))) (C := [(q28, .inr (1, [.int ((0 : Int32)), .null, .int ((0 : Int32)), .int ((0 : Int32)), .int ((0 : Int32))]))])) ?_
        refine gw_W.norm (st' := [.ref (q28), .ref (ad 0)]) (k1 := 1) (k2 := 5) rfl rfl rfl ?_
        refine gw_W.wd (w' := ([(ad 0, .inr (9, [.int (nI (σ.1)), .ref (ad 1), .ref (ad 2), .ref (sa (3 * 0)), .ref (ad 4), .ref (ad 5), .ref (ad 6), .int (nI ((sOp σ).length)), va_rf (lo), .int (nx), .int (σ.2.2.2.2.2.2.1), .int (σ.2.2.2.2.2.2.2), .ref (ad 12), .int (nI ((sTr σ).length)), .int (σ.2.2.2.2.1)])), (ad 1, .inl (cy 3, 9, .inr (.inr (.inr (.inr (fun i => some (sa (3 * i)))))))), (ad 2, .inl (cy 3, 9, .inr (.inr (.inr (.inr (fun i => some (sa (3 * (9 + i))))))))), (ad 5, .inl (cy 4, 8, .inr (.inr (.inr (.inr (fun i => some (ta (2 * i)))))))), (ad 6, .inl (cy 2, 40, .inr (.inr (.inr (.inr (pg)))))), (ad 12, .inl (cy 0, 16, .inl (bo))), (q28, .inr (1, [.int ((0 : Int32)), .null, .int ((0 : Int32)), .int ((0 : Int32)), .int ((0 : Int32))]))] ++ (xs ++ (tb ++ op)))) rfl ?_
        refine gw_dup dX11_delay_31 rfl ?_
        refine gw_aload_n dX11_delay_32 rfl ?_
        refine gw_get (C0 := RX11) (T := TX11) (N := 15) (ref := RX11) 0 rfl rfl inX11 7 (by decide) wd_182 (Or.inl rfl) rfl dX11_delay_33 ?_
        refine gw_aload_n dX11_delay_36 rfl ?_
        refine gw_get (C0 := RX11) (T := TX11) (N := 15) (ref := RX11) 0 rfl rfl inX11 8 (by decide) wd_183 (Or.inl rfl) rfl dX11_delay_37 ?_
        refine gw_iload_n dX11_delay_40 rfl ?_
        refine gw_iload_n dX11_delay_41 rfl ?_
        refine gw_iload_n dX11_delay_42 rfl ?_
        refine gw_callI (As := [.int (nI ((sOp σ).length)), va_rf (lo), .int (x), .int (y), .int (z)]) (st := [.ref (q28), .ref (ad 0)]) ((c_q1 l cy q28 (lo) (nI ((sOp σ).length)) x y z).frame (w2 := ([(ad 0, .inr (9, [.int (nI (σ.1)), .ref (ad 1), .ref (ad 2), .ref (sa (3 * 0)), .ref (ad 4), .ref (ad 5), .ref (ad 6), .int (nI ((sOp σ).length)), va_rf (lo), .int (nx), .int (σ.2.2.2.2.2.2.1), .int (σ.2.2.2.2.2.2.2), .ref (ad 12), .int (nI ((sTr σ).length)), .int (σ.2.2.2.2.1)])), (ad 1, .inl (cy 3, 9, .inr (.inr (.inr (.inr (fun i => some (sa (3 * i)))))))), (ad 2, .inl (cy 3, 9, .inr (.inr (.inr (.inr (fun i => some (sa (3 * (9 + i))))))))), (ad 5, .inl (cy 4, 8, .inr (.inr (.inr (.inr (fun i => some (ta (2 * i)))))))), (ad 6, .inl (cy 2, 40, .inr (.inr (.inr (.inr (pg)))))), (ad 12, .inl (cy 0, 16, .inl (bo))), (q28, .inr (1, [.int ((0 : Int32)), .null, .int ((0 : Int32)), .int ((0 : Int32)), .int ((0 : Int32))]))] ++ (xs ++ (tb ++ op)))) (f := ([(ad 0, .inr (9, [.int (nI (σ.1)), .ref (ad 1), .ref (ad 2), .ref (sa (3 * 0)), .ref (ad 4), .ref (ad 5), .ref (ad 6), .int (nI ((sOp σ).length)), va_rf (lo), .int (nx), .int (σ.2.2.2.2.2.2.1), .int (σ.2.2.2.2.2.2.2), .ref (ad 12), .int (nI ((sTr σ).length)), .int (σ.2.2.2.2.1)])), (ad 1, .inl (cy 3, 9, .inr (.inr (.inr (.inr (fun i => some (sa (3 * i)))))))), (ad 2, .inl (cy 3, 9, .inr (.inr (.inr (.inr (fun i => some (sa (3 * (9 + i))))))))), (ad 5, .inl (cy 4, 8, .inr (.inr (.inr (.inr (fun i => some (ta (2 * i)))))))), (ad 6, .inl (cy 2, 40, .inr (.inr (.inr (.inr (pg)))))), (ad 12, .inl (cy 0, 16, .inl (bo)))] : va_W) ++ (xs ++ (tb ++ op))) (perm_op (A := ([(ad 0, .inr (9, [.int (nI (σ.1)), .ref (ad 1), .ref (ad 2), .ref (sa (3 * 0)), .ref (ad 4), .ref (ad 5), .ref (ad 6), .int (nI ((sOp σ).length)), va_rf (lo), .int (nx), .int (σ.2.2.2.2.2.2.1), .int (σ.2.2.2.2.2.2.2), .ref (ad 12), .int (nI ((sTr σ).length)), .int (σ.2.2.2.2.1)])), (ad 1, .inl (cy 3, 9, .inr (.inr (.inr (.inr (fun i => some (sa (3 * i)))))))), (ad 2, .inl (cy 3, 9, .inr (.inr (.inr (.inr (fun i => some (sa (3 * (9 + i))))))))), (ad 5, .inl (cy 4, 8, .inr (.inr (.inr (.inr (fun i => some (ta (2 * i)))))))), (ad 6, .inl (cy 2, 40, .inr (.inr (.inr (.inr (pg)))))), (ad 12, .inl (cy 0, 16, .inl (bo)))] : va_W)) (C := ([(q28, .inr (1, [.int ((0 : Int32)), .null, .int ((0 : Int32)), .int ((0 : Int32)), .int ((0 : Int32))]))] : va_W)) (R := (xs ++ (tb ++ op))))) ok_X1_init wd_535 rfl rfl dX11_delay_43 (by decide) (by decide) (Nat.le_of_ble_eq_true rfl) (fun r43 w43 hp43 => ?_)
        obtain ⟨w43, ⟨rfl, rfl⟩, rfl⟩ := hp43
        refine gw_W.perm (perm_op (A := ([(ad 0, .inr (9, [.int (nI (σ.1)), .ref (ad 1), .ref (ad 2), .ref (sa (3 * 0)), .ref (ad 4), .ref (ad 5), .ref (ad 6), .int (nI ((sOp σ).length)), va_rf (lo), .int (nx), .int (σ.2.2.2.2.2.2.1), .int (σ.2.2.2.2.2.2.2), .ref (ad 12), .int (nI ((sTr σ).length)), .int (σ.2.2.2.2.1)])), (ad 1, .inl (cy 3, 9, .inr (.inr (.inr (.inr (fun i => some (sa (3 * i)))))))), (ad 2, .inl (cy 3, 9, .inr (.inr (.inr (.inr (fun i => some (sa (3 * (9 + i))))))))), (ad 5, .inl (cy 4, 8, .inr (.inr (.inr (.inr (fun i => some (ta (2 * i)))))))), (ad 6, .inl (cy 2, 40, .inr (.inr (.inr (.inr (pg)))))), (ad 12, .inl (cy 0, 16, .inl (bo)))] : va_W)) (C := ([(q28, .inr (1, [.int (nI ((sOp σ).length)), va_rf (lo), .int (x), .int (y), .int (z)]))] : va_W)) (R := (xs ++ (tb ++ op)))).symm ?_
        refine gw_W.norm (st' := [.ref (q28), .ref (ad 0)]) (k1 := 1) (k2 := 5) rfl rfl rfl ?_
        refine gw_W.wd (w' := ([(ad 0, .inr (9, [.int (nI (σ.1)), .ref (ad 1), .ref (ad 2), .ref (sa (3 * 0)), .ref (ad 4), .ref (ad 5), .ref (ad 6), .int (nI ((sOp σ).length)), va_rf (lo), .int (nx), .int (σ.2.2.2.2.2.2.1), .int (σ.2.2.2.2.2.2.2), .ref (ad 12), .int (nI ((sTr σ).length)), .int (σ.2.2.2.2.1)])), (ad 1, .inl (cy 3, 9, .inr (.inr (.inr (.inr (fun i => some (sa (3 * i)))))))), (ad 2, .inl (cy 3, 9, .inr (.inr (.inr (.inr (fun i => some (sa (3 * (9 + i))))))))), (ad 5, .inl (cy 4, 8, .inr (.inr (.inr (.inr (fun i => some (ta (2 * i)))))))), (ad 6, .inl (cy 2, 40, .inr (.inr (.inr (.inr (pg)))))), (ad 12, .inl (cy 0, 16, .inl (bo))), (q28, .inr (1, [.int (nI ((sOp σ).length)), va_rf (lo), .int (x), .int (y), .int (z)]))] ++ (xs ++ (tb ++ op)))) rfl ?_
        refine gw_W.wd (w' := bW cy ad sa ta (σ.1) ((sOp σ).length) ((sTr σ).length) nx (σ.2.2.2.2.2.2.1) (σ.2.2.2.2.2.2.2) (σ.2.2.2.2.1) lo pg bo ++ ([(q28, .inr (1, [.int (nI ((sOp σ).length)), va_rf (lo), .int (x), .int (y), .int (z)]))] ++ (xs ++ (tb ++ op)))) rfl ?_
        by_cases h40 : (sOp σ).length = 40
        · refine gw_callV 0 (As := [.ref (q28)]) (st := []) (c_bappendF l cy ad sa ta (σ.1) ((sOp σ).length) ((sTr σ).length) nx (σ.2.2.2.2.2.2.1) (σ.2.2.2.2.2.2.2) (σ.2.2.2.2.1) lo pg bo (xs ++ (tb ++ op)) q28 1 [.int (nI ((sOp σ).length)), va_rf (lo), .int (x), .int (y), .int (z)] h40) ok_X11_append rfl rfl rfl wd_506 rfl rfl dX11_delay_46 (by decide) (by decide) (Nat.le_of_ble_eq_true rfl) (fun r46 w46 hp46 => ?_)
          obtain ⟨rfl, rfl⟩ := hp46
          refine gw_W.norm (st' := [.int ((-1000003 : Int32))]) (k1 := 1) (k2 := 5) rfl rfl rfl ?_
          refine gw_W.wd (w' := ([(ad 0, .inr (9, [.int (nI (σ.1)), .ref (ad 1), .ref (ad 2), .ref (sa (3 * 0)), .ref (ad 4), .ref (ad 5), .ref (ad 6), .int (nI ((sOp σ).length)), va_rf (lo), .int (nx), .int (σ.2.2.2.2.2.2.1), .int (σ.2.2.2.2.2.2.2), .ref (ad 12), .int (nI ((sTr σ).length)), .int (σ.2.2.2.2.1)])), (ad 1, .inl (cy 3, 9, .inr (.inr (.inr (.inr (fun i => some (sa (3 * i)))))))), (ad 2, .inl (cy 3, 9, .inr (.inr (.inr (.inr (fun i => some (sa (3 * (9 + i))))))))), (ad 5, .inl (cy 4, 8, .inr (.inr (.inr (.inr (fun i => some (ta (2 * i)))))))), (ad 6, .inl (cy 2, 40, .inr (.inr (.inr (.inr (pg)))))), (ad 12, .inl (cy 0, 16, .inl (bo))), (q28, .inr (1, [.int (nI ((sOp σ).length)), va_rf (lo), .int (x), .int (y), .int (z)]))] ++ (xs ++ (tb ++ op)))) rfl ?_
          refine gw_W.perm (perm_sn2 (A := ([(ad 0, .inr (9, [.int (nI (σ.1)), .ref (ad 1), .ref (ad 2), .ref (sa (3 * 0)), .ref (ad 4), .ref (ad 5), .ref (ad 6), .int (nI ((sOp σ).length)), va_rf (lo), .int (nx), .int (σ.2.2.2.2.2.2.1), .int (σ.2.2.2.2.2.2.2), .ref (ad 12), .int (nI ((sTr σ).length)), .int (σ.2.2.2.2.1)])), (ad 1, .inl (cy 3, 9, .inr (.inr (.inr (.inr (fun i => some (sa (3 * i)))))))), (ad 2, .inl (cy 3, 9, .inr (.inr (.inr (.inr (fun i => some (sa (3 * (9 + i))))))))), (ad 5, .inl (cy 4, 8, .inr (.inr (.inr (.inr (fun i => some (ta (2 * i)))))))), (ad 6, .inl (cy 2, 40, .inr (.inr (.inr (.inr (pg)))))), (ad 12, .inl (cy 0, 16, .inl (bo)))] : va_W)) (R := (xs ++ (tb ++ op))) (C := [(q28, .inr (1, [.int (nI ((sOp σ).length)), va_rf (lo), .int (x), .int (y), .int (z)]))])).symm ?_
          refine gw_W.drop ?_
          refine gw_W.wd (w' := ([(ad 0, .inr (9, [.int (nI (σ.1)), .ref (ad 1), .ref (ad 2), .ref (sa (3 * 0)), .ref (ad 4), .ref (ad 5), .ref (ad 6), .int (nI ((sOp σ).length)), va_rf (lo), .int (nx), .int (σ.2.2.2.2.2.2.1), .int (σ.2.2.2.2.2.2.2), .ref (ad 12), .int (nI ((sTr σ).length)), .int (σ.2.2.2.2.1)])), (ad 1, .inl (cy 3, 9, .inr (.inr (.inr (.inr (fun i => some (sa (3 * i)))))))), (ad 2, .inl (cy 3, 9, .inr (.inr (.inr (.inr (fun i => some (sa (3 * (9 + i))))))))), (ad 5, .inl (cy 4, 8, .inr (.inr (.inr (.inr (fun i => some (ta (2 * i)))))))), (ad 6, .inl (cy 2, 40, .inr (.inr (.inr (.inr (pg)))))), (ad 12, .inl (cy 0, 16, .inl (bo)))] ++ (xs ++ (tb ++ op)))) rfl ?_
          refine gw_W.wd (w' := bW cy ad sa ta (σ.1) ((sOp σ).length) ((sTr σ).length) nx (σ.2.2.2.2.2.2.1) (σ.2.2.2.2.2.2.2) (σ.2.2.2.2.1) lo pg bo ++ (xs ++ (tb ++ op))) rfl ?_
          refine gw_iret (?_) (by decide) (by decide) rfl dX11_delay_49
          subst hpost
          unfold spDelay spCome
          rw [if_pos ⟨d5, d14, d21⟩]
          first
            | (rw [if_pos h40]; exact ⟨rfl, ad, sa, ta, oa, nx, lo, pg, bo, cs, xs, tb, op, td, rfl, List.Perm.refl _, hxs, hcs, htb, hop, hN, hbo⟩)
            | (rw [if_neg h40]; exact ⟨rfl, cInv_push hxs hcs htb hop hN hbo (4, x, y, z, 0) _ 0 (de_ok d5 d14 d21) (opStep_keep hoc (show ¬ (4 : Nat) = 5 from by decide) (show ¬ (4 : Nat) = 6 from by decide)) h40 ((hop.2.1.trans (arOf_n (show ¬ (4 : Nat) = 5 from by decide) (show ¬ (4 : Nat) = 6 from by decide)).symm))⟩)
        · refine gw_callV 0 (As := [.ref (q28)]) (st := []) (c_bappend l cy ad sa ta (σ.1) ((sOp σ).length) ((sTr σ).length) nx (σ.2.2.2.2.2.2.1) (σ.2.2.2.2.2.2.2) (σ.2.2.2.2.1) lo pg bo (xs ++ (tb ++ op)) q28 1 [.int (nI ((sOp σ).length)), va_rf (lo), .int (x), .int (y), .int (z)] _ rfl (by decide +kernel) (by omega)) ok_X11_append rfl rfl rfl wd_506 rfl rfl dX11_delay_46 (by decide) (by decide) (Nat.le_of_ble_eq_true rfl) (fun r46 w46 hp46 => ?_)
          obtain ⟨rfl, rfl⟩ := hp46
          refine gw_W.norm (st' := [.int (nI ((sOp σ).length))]) (k1 := 1) (k2 := 5) rfl rfl rfl ?_
          refine gw_W.wd (w' := ([(ad 0, .inr (9, [.int (nI (σ.1)), .ref (ad 1), .ref (ad 2), .ref (sa (3 * 0)), .ref (ad 4), .ref (ad 5), .ref (ad 6), .int (nI ((sOp σ).length + 1)), va_rf (lo), .int (nx), .int (σ.2.2.2.2.2.2.1), .int (σ.2.2.2.2.2.2.2), .ref (ad 12), .int (nI ((sTr σ).length)), .int (σ.2.2.2.2.1)])), (ad 1, .inl (cy 3, 9, .inr (.inr (.inr (.inr (fun i => some (sa (3 * i)))))))), (ad 2, .inl (cy 3, 9, .inr (.inr (.inr (.inr (fun i => some (sa (3 * (9 + i))))))))), (ad 5, .inl (cy 4, 8, .inr (.inr (.inr (.inr (fun i => some (ta (2 * i)))))))), (ad 6, .inl (cy 2, 40, .inr (.inr (.inr (.inr (va_up pg ((sOp σ).length) (some q28))))))), (ad 12, .inl (cy 0, 16, .inl (bo))), (q28, .inr (1, [.int (nI ((sOp σ).length)), va_rf (lo), .int (x), .int (y), .int (z)]))] ++ (xs ++ (tb ++ op)))) rfl ?_
          refine gw_W.wd (w' := bW cy ad sa ta (σ.1) ((sOp σ).length + 1) ((sTr σ).length) nx (σ.2.2.2.2.2.2.1) (σ.2.2.2.2.2.2.2) (σ.2.2.2.2.1) lo (va_up pg ((sOp σ).length) (some q28)) bo ++ ([(q28, .inr (1, [.int (nI ((sOp σ).length)), va_rf (lo), .int (x), .int (y), .int (z)]))] ++ (xs ++ (tb ++ op)))) rfl ?_
          refine gw_iret (?_) (by decide) (by decide) rfl dX11_delay_49
          subst hpost
          unfold spDelay spCome
          rw [if_pos ⟨d5, d14, d21⟩]
          first
            | (rw [if_pos h40]; exact ⟨rfl, ad, sa, ta, oa, nx, lo, pg, bo, cs, xs, tb, op, td, rfl, List.Perm.refl _, hxs, hcs, htb, hop, hN, hbo⟩)
            | (rw [if_neg h40]; exact ⟨rfl, cInv_push hxs hcs htb hop hN hbo (4, x, y, z, 0) _ 0 (de_ok d5 d14 d21) (opStep_keep hoc (show ¬ (4 : Nat) = 5 from by decide) (show ¬ (4 : Nat) = 6 from by decide)) h40 ((hop.2.1.trans (arOf_n (show ¬ (4 : Nat) = 5 from by decide) (show ¬ (4 : Nat) = 6 from by decide)).symm))⟩)
      · rw [bI_0] at c21
        have d21 : decide (z = 1 ∨ z = -1) = false := c21
        refine gw_ldc dX11_delay_24 wd_233 ?_
        refine gw_W.wd (w' := bW cy ad sa ta (σ.1) ((sOp σ).length) ((sTr σ).length) nx (σ.2.2.2.2.2.2.1) (σ.2.2.2.2.2.2.2) (σ.2.2.2.2.1) lo pg bo ++ (xs ++ (tb ++ op))) rfl ?_
        refine gw_iret (?_) (by decide) (by decide) rfl dX11_delay_26
        subst hpost
        unfold spDelay
        rw [if_neg (fun h => by
          obtain ⟨h0, h1, h2⟩ := h
          first
            | exact absurd (h0.symm.trans d5) (by decide)
            | exact absurd (h1.symm.trans d14) (by decide)
            | exact absurd (h2.symm.trans d21) (by decide))]
        exact ⟨rfl, ad, sa, ta, oa, nx, lo, pg, bo, cs, xs, tb, op, td, rfl, List.Perm.refl _, hxs, hcs, htb, hop, hN, hbo⟩
abbrev kX11_store : gw_K := (yX11_store, cX11_store, 3, { frames := 3, cells := 1, slots := 4, locals := 66 }, (some .int))
theorem ok_X11_store : gw_calV kX11_store 2 := ⟨⟨wd_594, wd_57, by decide, by decide, by decide +kernel⟩, wd_592, wd_593⟩
set_option maxHeartbeats 4000000 in
set_option maxRecDepth 100000 in
theorem t_cgstore (l : Launch) (cy : Nat → ClassId) (b : Nat) (σ : aS) (w : va_W) (hI : cInv cy b σ w) (x y : Int32) : gw_M l kX11_store cy [.ref (b), .int (x), .int (y)] (w) (cPost cy b (spStore σ x y)) := by
  obtain ⟨ad, sa, ta, oa, nx, lo, pg, bo, cs, xs, tb, op, td, rfl, hw, hxs, hcs, htb, hop, hN, hbo⟩ := hI
  have hn4 : 1 ≤ σ.1 ∧ σ.1 ≤ 4 := ⟨hN.1, hN.2.1⟩
  refine gw_M.pm hw ?_
  obtain ⟨oc, hoc⟩ := hN.2.2.2.2.1
  have l40 : (sOp σ).length ≤ 40 := hN.2.2.2.1
  refine gw_M.mk (lv := [some (.ref (ad 0)), some (.int (x)), some (.int (y))]) (by decide) (Nat.le_of_ble_eq_true rfl) rfl ?_
  generalize hpost : (cPost cy (ad 0) (spStore σ x y) : gw_Q) = post
  refine gw_W.wd (w' := ([(ad 0, .inr (9, [.int (nI (σ.1)), .ref (ad 1), .ref (ad 2), .ref (sa (3 * 0)), .ref (ad 4), .ref (ad 5), .ref (ad 6), .int (nI ((sOp σ).length)), va_rf (lo), .int (nx), .int (σ.2.2.2.2.2.2.1), .int (σ.2.2.2.2.2.2.2), .ref (ad 12), .int (nI ((sTr σ).length)), .int (σ.2.2.2.2.1)])), (ad 1, .inl (cy 3, 9, .inr (.inr (.inr (.inr (fun i => some (sa (3 * i)))))))), (ad 2, .inl (cy 3, 9, .inr (.inr (.inr (.inr (fun i => some (sa (3 * (9 + i))))))))), (ad 5, .inl (cy 4, 8, .inr (.inr (.inr (.inr (fun i => some (ta (2 * i)))))))), (ad 6, .inl (cy 2, 40, .inr (.inr (.inr (.inr (pg)))))), (ad 12, .inl (cy 0, 16, .inl (bo)))] ++ (xs ++ (tb ++ op)))) rfl ?_
  refine gw_iload_n dX11_store_0 rfl ?_
  refine gw_iconst (v := nI (0)) dX11_store_1 (by decide) ?_
  refine gw_bipush (v := nI (7)) dX11_store_2 (by decide) ?_
  refine gw_callS (As := [.int (x), .int (nI (0)), .int (nI (7))]) (st := []) (c_within l cy (x) (nI (0)) (nI (7)) ([(ad 0, .inr (9, [.int (nI (σ.1)), .ref (ad 1), .ref (ad 2), .ref (sa (3 * 0)), .ref (ad 4), .ref (ad 5), .ref (ad 6), .int (nI ((sOp σ).length)), va_rf (lo), .int (nx), .int (σ.2.2.2.2.2.2.1), .int (σ.2.2.2.2.2.2.2), .ref (ad 12), .int (nI ((sTr σ).length)), .int (σ.2.2.2.2.1)])), (ad 1, .inl (cy 3, 9, .inr (.inr (.inr (.inr (fun i => some (sa (3 * i)))))))), (ad 2, .inl (cy 3, 9, .inr (.inr (.inr (.inr (fun i => some (sa (3 * (9 + i))))))))), (ad 5, .inl (cy 4, 8, .inr (.inr (.inr (.inr (fun i => some (ta (2 * i)))))))), (ad 6, .inl (cy 2, 40, .inr (.inr (.inr (.inr (pg)))))), (ad 12, .inl (cy 0, 16, .inl (bo)))] ++ (xs ++ (tb ++ op)))) ok_X11_within wd_230 rfl rfl dX11_store_4 (by decide) (by decide) (Nat.le_of_ble_eq_true rfl) (fun r4 w4 hp4 => ?_)
  obtain ⟨rfl, rfl⟩ := hp4
  refine gw_W.norm (st' := [.int (bI (inZ (x).toInt (nI (0)).toInt (nI (7)).toInt))]) (k1 := 0) (k2 := 0) rfl rfl rfl ?_
  refine gw_if_eq (tgt := 20) dX11_store_7 (by decide) (fun c7 => ?_) (fun c7 => ?_)
  · rw [bI_0] at c7
    have d7 : inZ x.toInt 0 7 = false := c7
    refine gw_ldc dX11_store_20 wd_233 ?_
    refine gw_W.wd (w' := bW cy ad sa ta (σ.1) ((sOp σ).length) ((sTr σ).length) nx (σ.2.2.2.2.2.2.1) (σ.2.2.2.2.2.2.2) (σ.2.2.2.2.1) lo pg bo ++ (xs ++ (tb ++ op))) rfl ?_
    refine gw_iret (?_) (by decide) (by decide) rfl dX11_store_22
    subst hpost
    unfold spStore
    rw [if_neg (fun h => by
      obtain ⟨h0, h1⟩ := h
      first
        | exact absurd (h0.symm.trans d7) (by decide)
        | exact absurd (h1.symm.trans d17) (by decide))]
    exact ⟨rfl, ad, sa, ta, oa, nx, lo, pg, bo, cs, xs, tb, op, td, rfl, List.Perm.refl _, hxs, hcs, htb, hop, hN, hbo⟩
  · rw [bI_n0] at c7
    have d7 : inZ x.toInt 0 7 = true := c7
    refine gw_iload_n dX11_store_10 rfl ?_
    refine gw_bipush (v := (-3 : Int32)) dX11_store_11 (by decide) ?_
    refine gw_iconst (v := nI (3)) dX11_store_13 (by decide) ?_
    refine gw_callS (As := [.int (y), .int ((-3 : Int32)), .int (nI (3))]) (st := []) (c_within l cy (y) ((-3 : Int32)) (nI (3)) ([(ad 0, .inr (9, [.int (nI (σ.1)), .ref (ad 1), .ref (ad 2), .ref (sa (3 * 0)), .ref (ad 4), .ref (ad 5), .ref (ad 6), .int (nI ((sOp σ).length)), va_rf (lo), .int (nx), .int (σ.2.2.2.2.2.2.1), .int (σ.2.2.2.2.2.2.2), .ref (ad 12), .int (nI ((sTr σ).length)), .int (σ.2.2.2.2.1)])), (ad 1, .inl (cy 3, 9, .inr (.inr (.inr (.inr (fun i => some (sa (3 * i)))))))), (ad 2, .inl (cy 3, 9, .inr (.inr (.inr (.inr (fun i => some (sa (3 * (9 + i))))))))), (ad 5, .inl (cy 4, 8, .inr (.inr (.inr (.inr (fun i => some (ta (2 * i)))))))), (ad 6, .inl (cy 2, 40, .inr (.inr (.inr (.inr (pg)))))), (ad 12, .inl (cy 0, 16, .inl (bo)))] ++ (xs ++ (tb ++ op)))) ok_X11_within wd_230 rfl rfl dX11_store_14 (by decide) (by decide) (Nat.le_of_ble_eq_true rfl) (fun r14 w14 hp14 => ?_)
    obtain ⟨rfl, rfl⟩ := hp14
    refine gw_W.norm (st' := [.int (bI (inZ (y).toInt ((-3 : Int32)).toInt (nI (3)).toInt))]) (k1 := 0) (k2 := 0) rfl rfl rfl ?_
    refine gw_if_ne (tgt := 23) dX11_store_17 (by decide) (fun c17 => ?_) (fun c17 => ?_)
    · rw [bI_n0] at c17
      have d17 : inZ y.toInt (-3) 3 = true := c17
      refine gw_aload_n dX11_store_23 rfl ?_
      refine gw_new (C0 := RX8) (T := TX8) (N := 4) (ci := 6) (fs := [.int ((0 : Int32)), .null, .int ((0 : Int32)), .int ((0 : Int32))]) tyX8 tyX8_ok rfl inX8 wd_595 wd_596 wd_73 (fun j hj => by
        rcases (show j = 0 ∨ j = 1 ∨ j = 2 ∨ j = 3 by omega) with rfl | rfl | rfl | rfl <;> rfl) (by decide) (by decide) dX11_store_24 (fun q24 => ?_)
      refine gw_W.perm (perm_sn2 (A := ([(ad 0, .inr (9, [.int (nI (σ.1)), .ref (ad 1), .ref (ad 2), .ref (sa (3 * 0)), .ref (ad 4), .ref (ad 5), .ref (ad 6), .int (nI ((sOp σ).length)), va_rf (lo), .int (nx), .int (σ.2.2.2.2.2.2.1), .int (σ.2.2.2.2.2.2.2), .ref (ad 12), .int (nI ((sTr σ).length)), .int (σ.2.2.2.2.1)])), (ad 1, .inl (cy 3, 9, .inr (.inr (.inr (.inr (fun i => some (sa (3 * i)))))))), (ad 2, .inl (cy 3, 9, .inr (.inr (.inr (.inr (fun i => some (sa (3 * (9 + i))))))))), (ad 5, .inl (cy 4, 8, .inr (.inr (.inr (.inr (fun i => some (ta (2 * i)))))))), (ad 6, .inl (cy 2, 40, .inr (.inr (.inr (.inr (pg)))))), (ad 12, .inl (cy 0, 16, .inl (bo)))] : va_W)) (R := (xs ++ (tb ++ op))) (C := [(q24, .inr (6, [.int ((0 : Int32)), .null, .int ((0 : Int32)), .int ((0 : Int32))]))])) ?_
      refine gw_W.norm (st' := [.ref (q24), .ref (ad 0)]) (k1 := 1) (k2 := 4) rfl rfl rfl ?_
      refine gw_W.wd (w' := ([(ad 0, .inr (9, [.int (nI (σ.1)), .ref (ad 1), .ref (ad 2), .ref (sa (3 * 0)), .ref (ad 4), .ref (ad 5), .ref (ad 6), .int (nI ((sOp σ).length)), va_rf (lo), .int (nx), .int (σ.2.2.2.2.2.2.1), .int (σ.2.2.2.2.2.2.2), .ref (ad 12), .int (nI ((sTr σ).length)), .int (σ.2.2.2.2.1)])), (ad 1, .inl (cy 3, 9, .inr (.inr (.inr (.inr (fun i => some (sa (3 * i)))))))), (ad 2, .inl (cy 3, 9, .inr (.inr (.inr (.inr (fun i => some (sa (3 * (9 + i))))))))), (ad 5, .inl (cy 4, 8, .inr (.inr (.inr (.inr (fun i => some (ta (2 * i)))))))), (ad 6, .inl (cy 2, 40, .inr (.inr (.inr (.inr (pg)))))), (ad 12, .inl (cy 0, 16, .inl (bo))), (q24, .inr (6, [.int ((0 : Int32)), .null, .int ((0 : Int32)), .int ((0 : Int32))]))] ++ (xs ++ (tb ++ op)))) rfl ?_
      refine gw_dup dX11_store_27 rfl ?_
      refine gw_aload_n dX11_store_28 rfl ?_
      refine gw_get (C0 := RX11) (T := TX11) (N := 15) (ref := RX11) 0 rfl rfl inX11 7 (by decide) wd_182 (Or.inl rfl) rfl dX11_store_29 ?_
      refine gw_aload_n dX11_store_32 rfl ?_
      refine gw_get (C0 := RX11) (T := TX11) (N := 15) (ref := RX11) 0 rfl rfl inX11 8 (by decide) wd_183 (Or.inl rfl) rfl dX11_store_33 ?_
      refine gw_iload_n dX11_store_36 rfl ?_
      refine gw_iload_n dX11_store_37 rfl ?_
      refine gw_callI (As := [.int (nI ((sOp σ).length)), va_rf (lo), .int (x), .int (y)]) (st := [.ref (q24), .ref (ad 0)]) ((c_q8 l cy q24 (lo) (nI ((sOp σ).length)) x y).frame (w2 := ([(ad 0, .inr (9, [.int (nI (σ.1)), .ref (ad 1), .ref (ad 2), .ref (sa (3 * 0)), .ref (ad 4), .ref (ad 5), .ref (ad 6), .int (nI ((sOp σ).length)), va_rf (lo), .int (nx), .int (σ.2.2.2.2.2.2.1), .int (σ.2.2.2.2.2.2.2), .ref (ad 12), .int (nI ((sTr σ).length)), .int (σ.2.2.2.2.1)])), (ad 1, .inl (cy 3, 9, .inr (.inr (.inr (.inr (fun i => some (sa (3 * i)))))))), (ad 2, .inl (cy 3, 9, .inr (.inr (.inr (.inr (fun i => some (sa (3 * (9 + i))))))))), (ad 5, .inl (cy 4, 8, .inr (.inr (.inr (.inr (fun i => some (ta (2 * i)))))))), (ad 6, .inl (cy 2, 40, .inr (.inr (.inr (.inr (pg)))))), (ad 12, .inl (cy 0, 16, .inl (bo))), (q24, .inr (6, [.int ((0 : Int32)), .null, .int ((0 : Int32)), .int ((0 : Int32))]))] ++ (xs ++ (tb ++ op)))) (f := ([(ad 0, .inr (9, [.int (nI (σ.1)), .ref (ad 1), .ref (ad 2), .ref (sa (3 * 0)), .ref (ad 4), .ref (ad 5), .ref (ad 6), .int (nI ((sOp σ).length)), va_rf (lo), .int (nx), .int (σ.2.2.2.2.2.2.1), .int (σ.2.2.2.2.2.2.2), .ref (ad 12), .int (nI ((sTr σ).length)), .int (σ.2.2.2.2.1)])), (ad 1, .inl (cy 3, 9, .inr (.inr (.inr (.inr (fun i => some (sa (3 * i)))))))), (ad 2, .inl (cy 3, 9, .inr (.inr (.inr (.inr (fun i => some (sa (3 * (9 + i))))))))), (ad 5, .inl (cy 4, 8, .inr (.inr (.inr (.inr (fun i => some (ta (2 * i)))))))), (ad 6, .inl (cy 2, 40, .inr (.inr (.inr (.inr (pg)))))), (ad 12, .inl (cy 0, 16, .inl (bo)))] : va_W) ++ (xs ++ (tb ++ op))) (perm_op (A := ([(ad 0, .inr (9, [.int (nI (σ.1)), .ref (ad 1), .ref (ad 2), .ref (sa (3 * 0)), .ref (ad 4), .ref (ad 5), .ref (ad 6), .int (nI ((sOp σ).length)), va_rf (lo), .int (nx), .int (σ.2.2.2.2.2.2.1), .int (σ.2.2.2.2.2.2.2), .ref (ad 12), .int (nI ((sTr σ).length)), .int (σ.2.2.2.2.1)])), (ad 1, .inl (cy 3, 9, .inr (.inr (.inr (.inr (fun i => some (sa (3 * i)))))))), (ad 2, .inl (cy 3, 9, .inr (.inr (.inr (.inr (fun i => some (sa (3 * (9 + i))))))))), (ad 5, .inl (cy 4, 8, .inr (.inr (.inr (.inr (fun i => some (ta (2 * i)))))))), (ad 6, .inl (cy 2, 40, .inr (.inr (.inr (.inr (pg)))))), (ad 12, .inl (cy 0, 16, .inl (bo)))] : va_W)) (C := ([(q24, .inr (6, [.int ((0 : Int32)), .null, .int ((0 : Int32)), .int ((0 : Int32))]))] : va_W)) (R := (xs ++ (tb ++ op))))) ok_X8_init wd_597 rfl rfl dX11_store_38 (by decide) (by decide) (Nat.le_of_ble_eq_true rfl) (fun r38 w38 hp38 => ?_)
      obtain ⟨w38, ⟨rfl, rfl⟩, rfl⟩ := hp38
      refine gw_W.perm (perm_op (A := ([(ad 0, .inr (9, [.int (nI (σ.1)), .ref (ad 1), .ref (ad 2), .ref (sa (3 * 0)), .ref (ad 4), .ref (ad 5), .ref (ad 6), .int (nI ((sOp σ).length)), va_rf (lo), .int (nx), .int (σ.2.2.2.2.2.2.1), .int (σ.2.2.2.2.2.2.2), .ref (ad 12), .int (nI ((sTr σ).length)), .int (σ.2.2.2.2.1)])), (ad 1, .inl (cy 3, 9, .inr (.inr (.inr (.inr (fun i => some (sa (3 * i)))))))), (ad 2, .inl (cy 3, 9, .inr (.inr (.inr (.inr (fun i => some (sa (3 * (9 + i))))))))), (ad 5, .inl (cy 4, 8, .inr (.inr (.inr (.inr (fun i => some (ta (2 * i)))))))), (ad 6, .inl (cy 2, 40, .inr (.inr (.inr (.inr (pg)))))), (ad 12, .inl (cy 0, 16, .inl (bo)))] : va_W)) (C := ([(q24, .inr (6, [.int (nI ((sOp σ).length)), va_rf (lo), .int (x), .int (y)]))] : va_W)) (R := (xs ++ (tb ++ op)))).symm ?_
      refine gw_W.norm (st' := [.ref (q24), .ref (ad 0)]) (k1 := 1) (k2 := 4) rfl rfl rfl ?_
      refine gw_W.wd (w' := ([(ad 0, .inr (9, [.int (nI (σ.1)), .ref (ad 1), .ref (ad 2), .ref (sa (3 * 0)), .ref (ad 4), .ref (ad 5), .ref (ad 6), .int (nI ((sOp σ).length)), va_rf (lo), .int (nx), .int (σ.2.2.2.2.2.2.1), .int (σ.2.2.2.2.2.2.2), .ref (ad 12), .int (nI ((sTr σ).length)), .int (σ.2.2.2.2.1)])), (ad 1, .inl (cy 3, 9, .inr (.inr (.inr (.inr (fun i => some (sa (3 * i)))))))), (ad 2, .inl (cy 3, 9, .inr (.inr (.inr (.inr (fun i => some (sa (3 * (9 + i))))))))), (ad 5, .inl (cy 4, 8, .inr (.inr (.inr (.inr (fun i => some (ta (2 * i)))))))), (ad 6, .inl (cy 2, 40, .inr (.inr (.inr (.inr (pg)))))), (ad 12, .inl (cy 0, 16, .inl (bo))), (q24, .inr (6, [.int (nI ((sOp σ).length)), va_rf (lo), .int (x), .int (y)]))] ++ (xs ++ (tb ++ op)))) rfl ?_
      refine gw_W.wd (w' := bW cy ad sa ta (σ.1) ((sOp σ).length) ((sTr σ).length) nx (σ.2.2.2.2.2.2.1) (σ.2.2.2.2.2.2.2) (σ.2.2.2.2.1) lo pg bo ++ ([(q24, .inr (6, [.int (nI ((sOp σ).length)), va_rf (lo), .int (x), .int (y)]))] ++ (xs ++ (tb ++ op)))) rfl ?_
      by_cases h40 : (sOp σ).length = 40
      · refine gw_callV 0 (As := [.ref (q24)]) (st := []) (c_bappendF l cy ad sa ta (σ.1) ((sOp σ).length) ((sTr σ).length) nx (σ.2.2.2.2.2.2.1) (σ.2.2.2.2.2.2.2) (σ.2.2.2.2.1) lo pg bo (xs ++ (tb ++ op)) q24 6 [.int (nI ((sOp σ).length)), va_rf (lo), .int (x), .int (y)] h40) ok_X11_append rfl rfl rfl wd_506 rfl rfl dX11_store_41 (by decide) (by decide) (Nat.le_of_ble_eq_true rfl) (fun r41 w41 hp41 => ?_)
        obtain ⟨rfl, rfl⟩ := hp41
        refine gw_W.norm (st' := [.int ((-1000003 : Int32))]) (k1 := 1) (k2 := 4) rfl rfl rfl ?_
        refine gw_W.wd (w' := ([(ad 0, .inr (9, [.int (nI (σ.1)), .ref (ad 1), .ref (ad 2), .ref (sa (3 * 0)), .ref (ad 4), .ref (ad 5), .ref (ad 6), .int (nI ((sOp σ).length)), va_rf (lo), .int (nx), .int (σ.2.2.2.2.2.2.1), .int (σ.2.2.2.2.2.2.2), .ref (ad 12), .int (nI ((sTr σ).length)), .int (σ.2.2.2.2.1)])), (ad 1, .inl (cy 3, 9, .inr (.inr (.inr (.inr (fun i => some (sa (3 * i)))))))), (ad 2, .inl (cy 3, 9, .inr (.inr (.inr (.inr (fun i => some (sa (3 * (9 + i))))))))), (ad 5, .inl (cy 4, 8, .inr (.inr (.inr (.inr (fun i => some (ta (2 * i)))))))), (ad 6, .inl (cy 2, 40, .inr (.inr (.inr (.inr (pg)))))), (ad 12, .inl (cy 0, 16, .inl (bo))), (q24, .inr (6, [.int (nI ((sOp σ).length)), va_rf (lo), .int (x), .int (y)]))] ++ (xs ++ (tb ++ op)))) rfl ?_
        refine gw_W.perm (perm_sn2 (A := ([(ad 0, .inr (9, [.int (nI (σ.1)), .ref (ad 1), .ref (ad 2), .ref (sa (3 * 0)), .ref (ad 4), .ref (ad 5), .ref (ad 6), .int (nI ((sOp σ).length)), va_rf (lo), .int (nx), .int (σ.2.2.2.2.2.2.1), .int (σ.2.2.2.2.2.2.2), .ref (ad 12), .int (nI ((sTr σ).length)), .int (σ.2.2.2.2.1)])), (ad 1, .inl (cy 3, 9, .inr (.inr (.inr (.inr (fun i => some (sa (3 * i)))))))), (ad 2, .inl (cy 3, 9, .inr (.inr (.inr (.inr (fun i => some (sa (3 * (9 + i))))))))), (ad 5, .inl (cy 4, 8, .inr (.inr (.inr (.inr (fun i => some (ta (2 * i)))))))), (ad 6, .inl (cy 2, 40, .inr (.inr (.inr (.inr (pg)))))), (ad 12, .inl (cy 0, 16, .inl (bo)))] : va_W)) (R := (xs ++ (tb ++ op))) (C := [(q24, .inr (6, [.int (nI ((sOp σ).length)), va_rf (lo), .int (x), .int (y)]))])).symm ?_
        refine gw_W.drop ?_
        refine gw_W.wd (w' := ([(ad 0, .inr (9, [.int (nI (σ.1)), .ref (ad 1), .ref (ad 2), .ref (sa (3 * 0)), .ref (ad 4), .ref (ad 5), .ref (ad 6), .int (nI ((sOp σ).length)), va_rf (lo), .int (nx), .int (σ.2.2.2.2.2.2.1), .int (σ.2.2.2.2.2.2.2), .ref (ad 12), .int (nI ((sTr σ).length)), .int (σ.2.2.2.2.1)])), (ad 1, .inl (cy 3, 9, .inr (.inr (.inr (.inr (fun i => some (sa (3 * i)))))))), (ad 2, .inl (cy 3, 9, .inr (.inr (.inr (.inr (fun i => some (sa (3 * (9 + i))))))))), (ad 5, .inl (cy 4, 8, .inr (.inr (.inr (.inr (fun i => some (ta (2 * i)))))))), (ad 6, .inl (cy 2, 40, .inr (.inr (.inr (.inr (pg)))))), (ad 12, .inl (cy 0, 16, .inl (bo)))] ++ (xs ++ (tb ++ op)))) rfl ?_
        refine gw_W.wd (w' := bW cy ad sa ta (σ.1) ((sOp σ).length) ((sTr σ).length) nx (σ.2.2.2.2.2.2.1) (σ.2.2.2.2.2.2.2) (σ.2.2.2.2.1) lo pg bo ++ (xs ++ (tb ++ op))) rfl ?_
        refine gw_iret (?_) (by decide) (by decide) rfl dX11_store_44
        subst hpost
        unfold spStore spCome
        rw [if_pos ⟨d7, d17⟩]
        first
          | (rw [if_pos h40]; exact ⟨rfl, ad, sa, ta, oa, nx, lo, pg, bo, cs, xs, tb, op, td, rfl, List.Perm.refl _, hxs, hcs, htb, hop, hN, hbo⟩)
          | (rw [if_neg h40]; exact ⟨rfl, cInv_push hxs hcs htb hop hN hbo (7, x, y, 0, 0) _ 0 (st_ok d7 d17) (opStep_keep hoc (show ¬ (7 : Nat) = 5 from by decide) (show ¬ (7 : Nat) = 6 from by decide)) h40 ((hop.2.1.trans (arOf_n (show ¬ (7 : Nat) = 5 from by decide) (show ¬ (7 : Nat) = 6 from by decide)).symm))⟩)
      · refine gw_callV 0 (As := [.ref (q24)]) (st := []) (c_bappend l cy ad sa ta (σ.1) ((sOp σ).length) ((sTr σ).length) nx (σ.2.2.2.2.2.2.1) (σ.2.2.2.2.2.2.2) (σ.2.2.2.2.1) lo pg bo (xs ++ (tb ++ op)) q24 6 [.int (nI ((sOp σ).length)), va_rf (lo), .int (x), .int (y)] _ rfl (by decide +kernel) (by omega)) ok_X11_append rfl rfl rfl wd_506 rfl rfl dX11_store_41 (by decide) (by decide) (Nat.le_of_ble_eq_true rfl) (fun r41 w41 hp41 => ?_)
        obtain ⟨rfl, rfl⟩ := hp41
        refine gw_W.norm (st' := [.int (nI ((sOp σ).length))]) (k1 := 1) (k2 := 4) rfl rfl rfl ?_
        refine gw_W.wd (w' := ([(ad 0, .inr (9, [.int (nI (σ.1)), .ref (ad 1), .ref (ad 2), .ref (sa (3 * 0)), .ref (ad 4), .ref (ad 5), .ref (ad 6), .int (nI ((sOp σ).length + 1)), va_rf (lo), .int (nx), .int (σ.2.2.2.2.2.2.1), .int (σ.2.2.2.2.2.2.2), .ref (ad 12), .int (nI ((sTr σ).length)), .int (σ.2.2.2.2.1)])), (ad 1, .inl (cy 3, 9, .inr (.inr (.inr (.inr (fun i => some (sa (3 * i)))))))), (ad 2, .inl (cy 3, 9, .inr (.inr (.inr (.inr (fun i => some (sa (3 * (9 + i))))))))), (ad 5, .inl (cy 4, 8, .inr (.inr (.inr (.inr (fun i => some (ta (2 * i)))))))), (ad 6, .inl (cy 2, 40, .inr (.inr (.inr (.inr (va_up pg ((sOp σ).length) (some q24))))))), (ad 12, .inl (cy 0, 16, .inl (bo))), (q24, .inr (6, [.int (nI ((sOp σ).length)), va_rf (lo), .int (x), .int (y)]))] ++ (xs ++ (tb ++ op)))) rfl ?_
        refine gw_W.wd (w' := bW cy ad sa ta (σ.1) ((sOp σ).length + 1) ((sTr σ).length) nx (σ.2.2.2.2.2.2.1) (σ.2.2.2.2.2.2.2) (σ.2.2.2.2.1) lo (va_up pg ((sOp σ).length) (some q24)) bo ++ ([(q24, .inr (6, [.int (nI ((sOp σ).length)), va_rf (lo), .int (x), .int (y)]))] ++ (xs ++ (tb ++ op)))) rfl ?_
        refine gw_iret (?_) (by decide) (by decide) rfl dX11_store_44
        subst hpost
        unfold spStore spCome
        rw [if_pos ⟨d7, d17⟩]
        first
          | (rw [if_pos h40]; exact ⟨rfl, ad, sa, ta, oa, nx, lo, pg, bo, cs, xs, tb, op, td, rfl, List.Perm.refl _, hxs, hcs, htb, hop, hN, hbo⟩)
          | (rw [if_neg h40]; exact ⟨rfl, cInv_push hxs hcs htb hop hN hbo (7, x, y, 0, 0) _ 0 (st_ok d7 d17) (opStep_keep hoc (show ¬ (7 : Nat) = 5 from by decide) (show ¬ (7 : Nat) = 6 from by decide)) h40 ((hop.2.1.trans (arOf_n (show ¬ (7 : Nat) = 5 from by decide) (show ¬ (7 : Nat) = 6 from by decide)).symm))⟩)
    · rw [bI_0] at c17
      have d17 : inZ y.toInt (-3) 3 = false := c17
      refine gw_ldc dX11_store_20 wd_233 ?_
      refine gw_W.wd (w' := bW cy ad sa ta (σ.1) ((sOp σ).length) ((sTr σ).length) nx (σ.2.2.2.2.2.2.1) (σ.2.2.2.2.2.2.2) (σ.2.2.2.2.1) lo pg bo ++ (xs ++ (tb ++ op))) rfl ?_
      refine gw_iret (?_) (by decide) (by decide) rfl dX11_store_22
      subst hpost
      unfold spStore
      rw [if_neg (fun h => by
        obtain ⟨h0, h1⟩ := h
        first
          | exact absurd (h0.symm.trans d7) (by decide)
          | exact absurd (h1.symm.trans d17) (by decide))]
      exact ⟨rfl, ad, sa, ta, oa, nx, lo, pg, bo, cs, xs, tb, op, td, rfl, List.Perm.refl _, hxs, hcs, htb, hop, hN, hbo⟩
