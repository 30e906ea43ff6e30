/-! the class's constructors -/
theorem arr_cong {c : ClassId} {N : Nat} {f g : Nat → Option Nat} (h : ∀ j, j < N → f j = g j) : vp_cell c (N, .inr (.inr (.inr (.inr f)))) = vp_cell c (N, .inr (.inr (.inr (.inr g)))) := by
  rw [vp_cell_q, vp_cell_q]
  unfold arrV
  rw [show (fun j : Fin N => va_rf (f j.val)) = (fun j : Fin N => va_rf (g j.val)) from funext fun j => by rw [h j.val j.isLt]]
theorem gw_W.rowA {l : Launch} {κ : gw_K} {cy : Nat → ClassId} {Z : gw_Z} {n1 n2 pc : Nat} {lv : List (Option Value)} {st : List Value} (A : va_W) {B : va_W} {a : Nat} {c : ClassId} {N : Nat} {f : Nat → Option Nat} (g : Nat → Option Nat) (h : ∀ j, j < N → f j = g j) (k : gw_W l κ cy Z (A ++ (a, .inl (c, N, .inr (.inr (.inr (.inr g))))) :: B) n1 n2 pc lv st) : gw_W l κ cy Z (A ++ (a, .inl (c, N, .inr (.inr (.inr (.inr f))))) :: B) n1 n2 pc lv st := by
  intro p e s m args below meth co D A1 Q H locs ls C z hP hD hS hl
  have hD1 := gw_D_iff.mp hD
  have hP1 := gw_P_iff.mp hP
  refine k p e s m args below meth co D A1 Q H locs ls C z (gw_P_iff.mpr fun q hq => ?_) (gw_D_iff.mpr ⟨?_, fun q hq => ?_⟩) hS hl
  · rcases List.mem_append.mp hq with h1 | h1
    · exact hP1 q (List.mem_append_left _ h1)
    · rcases List.mem_cons.mp h1 with h2 | h2
      · subst h2
        have h4 : H[a]? = some (vp_cell c (N, .inr (.inr (.inr (.inr f))))) := hP1 _ (List.mem_append_right A (List.mem_cons_self ..))
        show H[a]? = some (vp_cell c (N, .inr (.inr (.inr (.inr g)))))
        rw [h4, arr_cong h]
      · exact hP1 q (List.mem_append_right _ (List.mem_cons_of_mem _ h2))
  · have h1 := hD1.1
    rw [List.map_append, List.map_cons] at h1 ⊢
    exact h1
  · rcases List.mem_append.mp hq with h1 | h1
    · exact hD1.2 q (List.mem_append_left _ h1)
    · rcases List.mem_cons.mp h1 with h2 | h2
      · subst h2
        exact hD1.2 (a, .inl (c, N, .inr (.inr (.inr (.inr f))))) (List.mem_append_right A (List.mem_cons_self ..))
      · exact hD1.2 q (List.mem_append_right _ (List.mem_cons_of_mem _ h2))
theorem perm_sn {α : Type} {A R C : List α} : ((A ++ R) ++ C).Perm ((A ++ C) ++ R) := by
  rw [List.append_assoc, List.append_assoc]
  exact List.Perm.append_left A List.perm_append_comm
theorem gw_aast3H {l : Launch} {κ : gw_K} {cy : Nat → ClassId} {Z : gw_Z} {w : va_W} {n1 n2 pc : Nat} {lv : List (Option Value)} {st : List Value} {a N j v : Nat} {f : Nat → Option Nat} {i : Int32} (q0 : Nat) (ha : w[q0]? = some (a, .inl (cy 3, N, .inr (.inr (.inr (.inr f)))))) (hh : gw_has w v 7) (hi : i = nI j) (hj : j < N) (hN : N < 2 ^ 31) (hd : decode κ.2.1 pc = .ok (.aastore, 1)) (k : gw_W l κ cy Z (w.set q0 (a, .inl (cy 3, N, .inr (.inr (.inr (.inr (va_up f j (some v)))))))) n1 n2 (pc + 1) lv st) : gw_W l κ cy Z w n1 n2 pc lv (.ref v :: .int i :: .ref a :: st) := by
  obtain ⟨fs, hm⟩ := hh
  obtain ⟨qk, he⟩ := List.getElem?_of_mem hm
  exact gw_aast3 q0 qk 7 ha he rfl (Or.inl rfl) hi hj hN hd k
theorem gw_aast4H {l : Launch} {κ : gw_K} {cy : Nat → ClassId} {Z : gw_Z} {w : va_W} {n1 n2 pc : Nat} {lv : List (Option Value)} {st : List Value} {a N j v : Nat} {f : Nat → Option Nat} {i : Int32} (q0 : Nat) (ha : w[q0]? = some (a, .inl (cy 4, N, .inr (.inr (.inr (.inr f)))))) (hh : gw_has w v 8) (hi : i = nI j) (hj : j < N) (hN : N < 2 ^ 31) (hd : decode κ.2.1 pc = .ok (.aastore, 1)) (k : gw_W l κ cy Z (w.set q0 (a, .inl (cy 4, N, .inr (.inr (.inr (.inr (va_up f j (some v)))))))) n1 n2 (pc + 1) lv st) : gw_W l κ cy Z w n1 n2 pc lv (.ref v :: .int i :: .ref a :: st) := by
  obtain ⟨fs, hm⟩ := hh
  obtain ⟨qk, he⟩ := List.getElem?_of_mem hm
  exact gw_aast4 q0 qk 8 ha he rfl (Or.inl rfl) hi hj hN hd k
theorem famW_snoc {n : Nat} {f g : Nat → va_W} (h : ∀ j, j < n → f j = g j) : famW (n + 1) g = famW n f ++ g n := by
  unfold famW
  rw [List.range_succ, List.flatMap_append]
  congr 1
  · have hh : ∀ L : List Nat, (∀ j ∈ L, f j = g j) → L.flatMap g = L.flatMap f := by
      intro L
      induction L with
      | nil => intro _; rfl
      | cons a L ih => intro hL; rw [List.flatMap_cons, List.flatMap_cons, ih (fun j hj => hL j (List.mem_cons_of_mem _ hj)), hL a (List.mem_cons_self ..)]
    exact hh _ (fun j hj => h j (List.mem_range.mp hj))
  · simp
def up3 (sa : Nat → Nat) (i s0 s1 s2 : Nat) : Nat → Nat := fun k => if k = 3 * i then s0 else if k = 3 * i + 1 then s1 else if k = 3 * i + 2 then s2 else sa k
theorem up3_lt {sa : Nat → Nat} {i s0 s1 s2 k : Nat} (h : k < 3 * i) : up3 sa i s0 s1 s2 k = sa k := by
  unfold up3; rw [if_neg (by omega), if_neg (by omega), if_neg (by omega)]
theorem up3_0 {sa : Nat → Nat} {i s0 s1 s2 : Nat} : up3 sa i s0 s1 s2 (3 * i) = s0 := by unfold up3; rw [if_pos rfl]
theorem up3_1 {sa : Nat → Nat} {i s0 s1 s2 : Nat} : up3 sa i s0 s1 s2 (3 * i + 1) = s1 := by unfold up3; rw [if_neg (by omega), if_pos rfl]
theorem up3_2 {sa : Nat → Nat} {i s0 s1 s2 : Nat} : up3 sa i s0 s1 s2 (3 * i + 2) = s2 := by unfold up3; rw [if_neg (by omega), if_neg (by omega), if_pos rfl]
/-- i sums that are new -/
def sN (cy : Nat → ClassId) (sa : Nat → Nat) (i : Nat) : va_W := famW i (sF cy sa (fun _ => 0) (fun _ _ => 0) (fun _ _ => 0))
theorem sN_snoc {cy : Nat → ClassId} {sa : Nat → Nat} {i s0 s1 s2 : Nat} {S : va_W} (h : S.Perm (sN cy sa i)) : (S ++ sW3 cy s0 s1 s2 0 (fun _ => 0) (fun _ => 0)).Perm (sN cy (up3 sa i s0 s1 s2) (i + 1)) := by
  unfold sN at h ⊢
  rw [famW_snoc (f := sF cy sa (fun _ => 0) (fun _ _ => 0) (fun _ _ => 0)) (fun j hj => by unfold sF; rw [up3_lt (by omega), up3_lt (by omega), up3_lt (by omega)])]
  rw [show sF cy (up3 sa i s0 s1 s2) (fun _ => 0) (fun _ _ => 0) (fun _ _ => 0) i = sW3 cy s0 s1 s2 0 (fun _ => 0) (fun _ => 0) from by unfold sF; rw [up3_0, up3_1, up3_2]]
  exact h.append_right _
def up2 (ta : Nat → Nat) (i s0 s1 : Nat) : Nat → Nat := fun k => if k = 2 * i then s0 else if k = 2 * i + 1 then s1 else ta k
theorem up2_lt {sa : Nat → Nat} {i s0 s1 k : Nat} (h : k < 2 * i) : up2 sa i s0 s1 k = sa k := by
  unfold up2; rw [if_neg (by omega), if_neg (by omega)]
theorem up2_0 {sa : Nat → Nat} {i s0 s1 : Nat} : up2 sa i s0 s1 (2 * i) = s0 := by unfold up2; rw [if_pos rfl]
theorem up2_1 {sa : Nat → Nat} {i s0 s1 : Nat} : up2 sa i s0 s1 (2 * i + 1) = s1 := by unfold up2; rw [if_neg (by omega), if_pos rfl]
def tN (cy : Nat → ClassId) (ta : Nat → Nat) (i : Nat) : va_W := famW i (tF cy ta (fun _ => nI 1) (fun _ => 0) (fun _ => 0) (fun _ _ => 0))
theorem tN_snoc {cy : Nat → ClassId} {ta : Nat → Nat} {i s0 s1 : Nat} {S : va_W} (h : S.Perm (tN cy ta i)) : (S ++ tW2 cy s0 s1 (nI 1) 0 0 (fun _ => 0)).Perm (tN cy (up2 ta i s0 s1) (i + 1)) := by
  unfold tN at h ⊢
  rw [famW_snoc (f := tF cy ta (fun _ => nI 1) (fun _ => 0) (fun _ => 0) (fun _ _ => 0)) (fun j hj => by unfold tF; rw [up2_lt (by omega), up2_lt (by omega)])]
  rw [show tF cy (up2 ta i s0 s1) (fun _ => nI 1) (fun _ => 0) (fun _ => 0) (fun _ _ => 0) i = tW2 cy s0 s1 (nI 1) 0 0 (fun _ => 0) from by unfold tF; rw [up2_0, up2_1]]
  exact h.append_right _
theorem clN_eq (v : Int32) : (if nI 1 < (if v < nI 4 then v else nI 4) then (if v < nI 4 then v else nI 4) else nI 1) = nI (clN v) := by
  have e1 : (nI 1).toInt = 1 := by decide
  have e4 : (nI 4).toInt = 4 := by decide
  unfold clN
  by_cases h : v < nI 4
  · rw [if_pos h]
    rw [i32_lt, e4] at h
    by_cases g : nI 1 < v
    · rw [if_pos g]
      rw [i32_lt, e1] at g
      rw [if_neg (by omega), if_neg (by omega)]
      exact tI_of (by omega)
    · rw [if_neg g]
      rw [i32_lt, e1] at g
      by_cases e : v.toInt < 1
      · rw [if_pos e]
      · rw [if_neg e, if_neg (by omega)]
        rw [show tI v = 1 from by unfold tI; omega]
  · rw [if_neg h, if_pos (by decide)]
    rw [i32_lt, e4] at h
    rw [if_neg (by omega)]
    by_cases e : 4 < v.toInt
    · rw [if_pos e]
    · rw [if_neg e, show tI v = 4 from by unfold tI; omega]
abbrev kX9_init : gw_K := (yX9_init, cX9_init, 1, { frames := 1, cells := 2, slots := 600, locals := 20 }, none)
theorem ok_X9_init : gw_calI kX9_init 0 := ⟨⟨wd_131, wd_60, by decide, by decide, by decide +kernel⟩, wd_130, rfl, rfl⟩
set_option maxHeartbeats 4000000 in
set_option maxRecDepth 100000 in
theorem c_sumInit (l : Launch) (cy : Nat → ClassId) (a : Nat) : gw_M l kX9_init cy [.ref (a)] [(a, .inr (7, [.null, .null, .int ((0 : Int32))]))] (fun r w' => r = none ∧ ∃ q1 q2 : Nat, w' = sW3 cy a q1 q2 0 (fun _ => 0) (fun _ => 0)) := by
  refine gw_M.mk (lv := [some (.ref (a))]) (by decide) (Nat.le_of_ble_eq_true rfl) rfl ?_
  generalize hpost : (fun r w' => r = none ∧ ∃ q1 q2 : Nat, w' = sW3 cy a q1 q2 0 (fun _ => 0) (fun _ => 0) : gw_Q) = post
  refine gw_aload_n dX9_init_0 rfl ?_
  refine gw_objInit wd_132 wd_80 wd_81 (by decide) dX9_init_1 ?_
  refine gw_aload_n dX9_init_4 rfl ?_
  refine gw_sipush (v := nI (300)) dX9_init_5 (by decide) ?_
  refine gw_newI (N := 300) wd_115 rfl (by decide) (by decide) (by decide) dX9_init_8 (fun q8 => ?_)
  refine gw_W.norm (st' := [.ref (q8), .ref (a)]) (k1 := 1) (k2 := 300) rfl rfl rfl ?_
  refine gw_W.wd (w' := [(a, .inr (7, [.null, .null, .int ((0 : Int32))])), (q8, .inl (cy 0, 300, .inl (fun _ => 0)))]) rfl ?_
  refine gw_putF (C0 := RX9) (T := TX9) (N := 3) (ref := RX9) (ty := tyX9 0) 0 rfl rfl inX9 0 (by decide) tyX9 tyX9_ok nmX9 wd_133 (Or.inl rfl) rfl rfl rfl (tyX9_ok 0 (by decide)) (rfl) rfl (Nat.le_of_ble_eq_true rfl) dX9_init_10 ?_
  refine gw_W.wd (w' := [(a, .inr (7, [.ref (q8), .null, .int ((0 : Int32))])), (q8, .inl (cy 0, 300, .inl (fun _ => 0)))]) rfl ?_
  refine gw_aload_n dX9_init_13 rfl ?_
  refine gw_sipush (v := nI (300)) dX9_init_14 (by decide) ?_
  refine gw_newJ (N := 300) wd_116 rfl (by decide) (by decide) (by decide) dX9_init_17 (fun q17 => ?_)
  refine gw_W.norm (st' := [.ref (q17), .ref (a)]) (k1 := 2) (k2 := 600) rfl rfl rfl ?_
  refine gw_W.wd (w' := [(a, .inr (7, [.ref (q8), .null, .int ((0 : Int32))])), (q8, .inl (cy 0, 300, .inl (fun _ => 0))), (q17, .inl (cy 1, 300, .inr (.inl (fun _ => 0))))]) rfl ?_
  refine gw_putF (C0 := RX9) (T := TX9) (N := 3) (ref := RX9) (ty := tyX9 1) 0 rfl rfl inX9 1 (by decide) tyX9 tyX9_ok nmX9 wd_136 (Or.inl rfl) rfl rfl rfl (tyX9_ok 1 (by decide)) (rfl) rfl (Nat.le_of_ble_eq_true rfl) dX9_init_19 ?_
  refine gw_W.wd (w' := [(a, .inr (7, [.ref (q8), .ref (q17), .int ((0 : Int32))])), (q8, .inl (cy 0, 300, .inl (fun _ => 0))), (q17, .inl (cy 1, 300, .inr (.inl (fun _ => 0))))]) rfl ?_
  refine gw_vret (?_) (by decide) (by decide) rfl dX9_init_22
  subst hpost
  exact ⟨rfl, q8, q17, rfl⟩
abbrev kX10_init : gw_K := (yX10_init, cX10_init, 1, { frames := 1, cells := 1, slots := 60, locals := 20 }, none)
theorem ok_X10_init : gw_calI kX10_init 0 := ⟨⟨wd_152, wd_61, by decide, by decide, by decide +kernel⟩, wd_151, rfl, rfl⟩
set_option maxHeartbeats 4000000 in
set_option maxRecDepth 100000 in
theorem c_tabInit (l : Launch) (cy : Nat → ClassId) (a : Nat) : gw_M l kX10_init cy [.ref (a)] [(a, .inr (8, [.null, .int ((0 : Int32)), .int ((0 : Int32)), .int ((0 : Int32))]))] (fun r w' => r = none ∧ ∃ q1 : Nat, w' = tW2 cy a q1 (nI 1) 0 0 (fun _ => 0)) := by
  refine gw_M.mk (lv := [some (.ref (a))]) (by decide) (Nat.le_of_ble_eq_true rfl) rfl ?_
  generalize hpost : (fun r w' => r = none ∧ ∃ q1 : Nat, w' = tW2 cy a q1 (nI 1) 0 0 (fun _ => 0) : gw_Q) = post
  refine gw_aload_n dX10_init_0 rfl ?_
  refine gw_objInit wd_153 wd_80 wd_81 (by decide) dX10_init_1 ?_
  refine gw_aload_n dX10_init_4 rfl ?_
  refine gw_bipush (v := nI (60)) dX10_init_5 (by decide) ?_
  refine gw_newI (N := 60) wd_115 rfl (by decide) (by decide) (by decide) dX10_init_7 (fun q7 => ?_)
  refine gw_W.norm (st' := [.ref (q7), .ref (a)]) (k1 := 1) (k2 := 60) rfl rfl rfl ?_
  refine gw_W.wd (w' := [(a, .inr (8, [.null, .int ((0 : Int32)), .int ((0 : Int32)), .int ((0 : Int32))])), (q7, .inl (cy 0, 60, .inl (fun _ => 0)))]) rfl ?_
  refine gw_putF (C0 := RX10) (T := TX10) (N := 4) (ref := RX10) (ty := tyX10 0) 0 rfl rfl inX10 0 (by decide) tyX10 tyX10_ok nmX10 wd_154 (Or.inl rfl) rfl rfl rfl (tyX10_ok 0 (by decide)) (rfl) rfl (Nat.le_of_ble_eq_true rfl) dX10_init_9 ?_
  refine gw_W.wd (w' := [(a, .inr (8, [.ref (q7), .int ((0 : Int32)), .int ((0 : Int32)), .int ((0 : Int32))])), (q7, .inl (cy 0, 60, .inl (fun _ => 0)))]) rfl ?_
  refine gw_aload_n dX10_init_12 rfl ?_
  refine gw_iconst (v := nI (1)) dX10_init_13 (by decide) ?_
  refine gw_put (C0 := RX10) (T := TX10) (N := 4) (ref := RX10) (ty := tyX10 1) 0 rfl rfl inX10 1 (by decide) tyX10 tyX10_ok nmX10 wd_157 (Or.inl rfl) rfl (tyX10_ok 1 (by decide)) (by decide) rfl (Nat.le_of_ble_eq_true rfl) dX10_init_14 ?_
  refine gw_W.wd (w' := [(a, .inr (8, [.ref (q7), .int (nI (1)), .int ((0 : Int32)), .int ((0 : Int32))])), (q7, .inl (cy 0, 60, .inl (fun _ => 0)))]) rfl ?_
  refine gw_vret (?_) (by decide) (by decide) rfl dX10_init_17
  subst hpost
  exact ⟨rfl, q7, rfl⟩
abbrev kX4_init : gw_K := (yX4_init, cX4_init, 1, { frames := 1, cells := 6, slots := 6548, locals := 20 }, none)
theorem ok_X4_init : gw_calI kX4_init 0 := ⟨⟨wd_88, wd_58, by decide, by decide, by decide +kernel⟩, wd_87, rfl, rfl⟩
set_option maxHeartbeats 4000000 in
set_option maxRecDepth 100000 in
theorem c_mixInit (l : Launch) (cy : Nat → ClassId) (a : Nat) : gw_M l kX4_init cy [.ref (a)] [(a, .inr (3, [.null, .null, .null, .null, .int ((0 : Int32)), .null, .null, .int ((0 : Int32))]))] (fun r w' => r = none ∧ mxC cy a w') := by
  refine gw_M.mk (lv := [some (.ref (a))]) (by decide) (Nat.le_of_ble_eq_true rfl) rfl ?_
  generalize hpost : (fun r w' => r = none ∧ mxC cy a w' : gw_Q) = post
  refine gw_aload_n dX4_init_0 rfl ?_
  refine gw_objInit wd_89 wd_80 wd_81 (by decide) dX4_init_1 ?_
  refine gw_aload_n dX4_init_4 rfl ?_
  refine gw_sipush (v := nI (900)) dX4_init_5 (by decide) ?_
  refine gw_newI (N := 900) wd_115 rfl (by decide) (by decide) (by decide) dX4_init_8 (fun q8 => ?_)
  refine gw_W.norm (st' := [.ref (q8), .ref (a)]) (k1 := 1) (k2 := 900) rfl rfl rfl ?_
  refine gw_W.wd (w' := [(a, .inr (3, [.null, .null, .null, .null, .int ((0 : Int32)), .null, .null, .int ((0 : Int32))])), (q8, .inl (cy 0, 900, .inl (fun _ => 0)))]) rfl ?_
  refine gw_put (C0 := RX4) (T := TX4) (N := 8) (ref := RX4) (ty := tyX4 0) 0 rfl rfl inX4 0 (by decide) tyX4 tyX4_ok nmX4 wd_90 (Or.inl rfl) rfl (tyX4_ok 0 (by decide)) (rfl) rfl (Nat.le_of_ble_eq_true rfl) dX4_init_10 ?_
  refine gw_W.wd (w' := [(a, .inr (3, [.ref (q8), .null, .null, .null, .int ((0 : Int32)), .null, .null, .int ((0 : Int32))])), (q8, .inl (cy 0, 900, .inl (fun _ => 0)))]) rfl ?_
  refine gw_aload_n dX4_init_13 rfl ?_
  refine gw_sipush (v := nI (900)) dX4_init_14 (by decide) ?_
  refine gw_newJ (N := 900) wd_116 rfl (by decide) (by decide) (by decide) dX4_init_17 (fun q17 => ?_)
  refine gw_W.norm (st' := [.ref (q17), .ref (a)]) (k1 := 2) (k2 := 1800) rfl rfl rfl ?_
  refine gw_W.wd (w' := [(a, .inr (3, [.ref (q8), .null, .null, .null, .int ((0 : Int32)), .null, .null, .int ((0 : Int32))])), (q8, .inl (cy 0, 900, .inl (fun _ => 0))), (q17, .inl (cy 1, 900, .inr (.inl (fun _ => 0))))]) rfl ?_
  refine gw_put (C0 := RX4) (T := TX4) (N := 8) (ref := RX4) (ty := tyX4 1) 0 rfl rfl inX4 1 (by decide) tyX4 tyX4_ok nmX4 wd_91 (Or.inl rfl) rfl (tyX4_ok 1 (by decide)) (rfl) rfl (Nat.le_of_ble_eq_true rfl) dX4_init_19 ?_
  refine gw_W.wd (w' := [(a, .inr (3, [.ref (q8), .ref (q17), .null, .null, .int ((0 : Int32)), .null, .null, .int ((0 : Int32))])), (q8, .inl (cy 0, 900, .inl (fun _ => 0))), (q17, .inl (cy 1, 900, .inr (.inl (fun _ => 0))))]) rfl ?_
  refine gw_aload_n dX4_init_22 rfl ?_
  refine gw_sipush (v := nI (900)) dX4_init_23 (by decide) ?_
  refine gw_newI (N := 900) wd_115 rfl (by decide) (by decide) (by decide) dX4_init_26 (fun q26 => ?_)
  refine gw_W.norm (st' := [.ref (q26), .ref (a)]) (k1 := 3) (k2 := 2700) rfl rfl rfl ?_
  refine gw_W.wd (w' := [(a, .inr (3, [.ref (q8), .ref (q17), .null, .null, .int ((0 : Int32)), .null, .null, .int ((0 : Int32))])), (q8, .inl (cy 0, 900, .inl (fun _ => 0))), (q17, .inl (cy 1, 900, .inr (.inl (fun _ => 0)))), (q26, .inl (cy 0, 900, .inl (fun _ => 0)))]) rfl ?_
  refine gw_put (C0 := RX4) (T := TX4) (N := 8) (ref := RX4) (ty := tyX4 2) 0 rfl rfl inX4 2 (by decide) tyX4 tyX4_ok nmX4 wd_92 (Or.inl rfl) rfl (tyX4_ok 2 (by decide)) (rfl) rfl (Nat.le_of_ble_eq_true rfl) dX4_init_28 ?_
  refine gw_W.wd (w' := [(a, .inr (3, [.ref (q8), .ref (q17), .ref (q26), .null, .int ((0 : Int32)), .null, .null, .int ((0 : Int32))])), (q8, .inl (cy 0, 900, .inl (fun _ => 0))), (q17, .inl (cy 1, 900, .inr (.inl (fun _ => 0)))), (q26, .inl (cy 0, 900, .inl (fun _ => 0)))]) rfl ?_
  refine gw_aload_n dX4_init_31 rfl ?_
  refine gw_sipush (v := nI (900)) dX4_init_32 (by decide) ?_
  refine gw_newJ (N := 900) wd_116 rfl (by decide) (by decide) (by decide) dX4_init_35 (fun q35 => ?_)
  refine gw_W.norm (st' := [.ref (q35), .ref (a)]) (k1 := 4) (k2 := 3600) rfl rfl rfl ?_
  refine gw_W.wd (w' := [(a, .inr (3, [.ref (q8), .ref (q17), .ref (q26), .null, .int ((0 : Int32)), .null, .null, .int ((0 : Int32))])), (q8, .inl (cy 0, 900, .inl (fun _ => 0))), (q17, .inl (cy 1, 900, .inr (.inl (fun _ => 0)))), (q26, .inl (cy 0, 900, .inl (fun _ => 0))), (q35, .inl (cy 1, 900, .inr (.inl (fun _ => 0))))]) rfl ?_
  refine gw_put (C0 := RX4) (T := TX4) (N := 8) (ref := RX4) (ty := tyX4 3) 0 rfl rfl inX4 3 (by decide) tyX4 tyX4_ok nmX4 wd_93 (Or.inl rfl) rfl (tyX4_ok 3 (by decide)) (rfl) rfl (Nat.le_of_ble_eq_true rfl) dX4_init_37 ?_
  refine gw_W.wd (w' := [(a, .inr (3, [.ref (q8), .ref (q17), .ref (q26), .ref (q35), .int ((0 : Int32)), .null, .null, .int ((0 : Int32))])), (q8, .inl (cy 0, 900, .inl (fun _ => 0))), (q17, .inl (cy 1, 900, .inr (.inl (fun _ => 0)))), (q26, .inl (cy 0, 900, .inl (fun _ => 0))), (q35, .inl (cy 1, 900, .inr (.inl (fun _ => 0))))]) rfl ?_
  refine gw_aload_n dX4_init_40 rfl ?_
  refine gw_sipush (v := nI (2048)) dX4_init_41 (by decide) ?_
  refine gw_newI (N := 2048) wd_115 rfl (by decide) (by decide) (by decide) dX4_init_44 (fun q44 => ?_)
  refine gw_W.norm (st' := [.ref (q44), .ref (a)]) (k1 := 5) (k2 := 5648) rfl rfl rfl ?_
  refine gw_W.wd (w' := [(a, .inr (3, [.ref (q8), .ref (q17), .ref (q26), .ref (q35), .int ((0 : Int32)), .null, .null, .int ((0 : Int32))])), (q8, .inl (cy 0, 900, .inl (fun _ => 0))), (q17, .inl (cy 1, 900, .inr (.inl (fun _ => 0)))), (q26, .inl (cy 0, 900, .inl (fun _ => 0))), (q35, .inl (cy 1, 900, .inr (.inl (fun _ => 0)))), (q44, .inl (cy 0, 2048, .inl (fun _ => 0)))]) rfl ?_
  refine gw_putF (C0 := RX4) (T := TX4) (N := 8) (ref := RX4) (ty := tyX4 5) 0 rfl rfl inX4 5 (by decide) tyX4 tyX4_ok nmX4 wd_95 (Or.inl rfl) rfl rfl rfl (tyX4_ok 5 (by decide)) (rfl) rfl (Nat.le_of_ble_eq_true rfl) dX4_init_46 ?_
  refine gw_W.wd (w' := [(a, .inr (3, [.ref (q8), .ref (q17), .ref (q26), .ref (q35), .int ((0 : Int32)), .ref (q44), .null, .int ((0 : Int32))])), (q8, .inl (cy 0, 900, .inl (fun _ => 0))), (q17, .inl (cy 1, 900, .inr (.inl (fun _ => 0)))), (q26, .inl (cy 0, 900, .inl (fun _ => 0))), (q35, .inl (cy 1, 900, .inr (.inl (fun _ => 0)))), (q44, .inl (cy 0, 2048, .inl (fun _ => 0)))]) rfl ?_
  refine gw_aload_n dX4_init_49 rfl ?_
  refine gw_sipush (v := nI (900)) dX4_init_50 (by decide) ?_
  refine gw_newI (N := 900) wd_115 rfl (by decide) (by decide) (by decide) dX4_init_53 (fun q53 => ?_)
  refine gw_W.norm (st' := [.ref (q53), .ref (a)]) (k1 := 6) (k2 := 6548) rfl rfl rfl ?_
  refine gw_W.wd (w' := [(a, .inr (3, [.ref (q8), .ref (q17), .ref (q26), .ref (q35), .int ((0 : Int32)), .ref (q44), .null, .int ((0 : Int32))])), (q8, .inl (cy 0, 900, .inl (fun _ => 0))), (q17, .inl (cy 1, 900, .inr (.inl (fun _ => 0)))), (q26, .inl (cy 0, 900, .inl (fun _ => 0))), (q35, .inl (cy 1, 900, .inr (.inl (fun _ => 0)))), (q44, .inl (cy 0, 2048, .inl (fun _ => 0))), (q53, .inl (cy 0, 900, .inl (fun _ => 0)))]) rfl ?_
  refine gw_putF (C0 := RX4) (T := TX4) (N := 8) (ref := RX4) (ty := tyX4 6) 0 rfl rfl inX4 6 (by decide) tyX4 tyX4_ok nmX4 wd_96 (Or.inl rfl) rfl rfl rfl (tyX4_ok 6 (by decide)) (rfl) rfl (Nat.le_of_ble_eq_true rfl) dX4_init_55 ?_
  refine gw_W.wd (w' := [(a, .inr (3, [.ref (q8), .ref (q17), .ref (q26), .ref (q35), .int ((0 : Int32)), .ref (q44), .ref (q53), .int ((0 : Int32))])), (q8, .inl (cy 0, 900, .inl (fun _ => 0))), (q17, .inl (cy 1, 900, .inr (.inl (fun _ => 0)))), (q26, .inl (cy 0, 900, .inl (fun _ => 0))), (q35, .inl (cy 1, 900, .inr (.inl (fun _ => 0)))), (q44, .inl (cy 0, 2048, .inl (fun _ => 0))), (q53, .inl (cy 0, 900, .inl (fun _ => 0)))]) rfl ?_
  refine gw_vret (?_) (by decide) (by decide) rfl dX4_init_58
  subst hpost
  exact ⟨rfl, q8, q17, q26, q35, q44, q53, 0, 0, fun _ => 0, fun _ => 0, fun _ => 0, fun _ => 0, fun _ => 0, fun _ => 0, rfl, ⟨Nat.zero_le _, fun i hi => absurd hi (Nat.not_lt_zero _), fun s _ => Or.inl rfl⟩⟩
abbrev kX11_init : gw_K := (yX11_init, cX11_init, 3, { frames := 2, cells := 82, slots := 18004, locals := 40 }, none)
theorem ok_X11_init : gw_calI kX11_init 1 := ⟨⟨wd_78, wd_57, by decide, by decide, by decide +kernel⟩, wd_77, rfl, rfl⟩
set_option maxHeartbeats 4000000 in
set_option maxRecDepth 100000 in
theorem gi_newSum {l : Launch} {cy : Nat → ClassId} {Z : gw_Z} {w : va_W} {n1 n2 pc : Nat} {lv : List (Option Value)} {st : List Value} (hd1 : decode kX11_init.2.1 pc = .ok (.new 9, 3)) (hd2 : decode kX11_init.2.1 (pc + 3) = .ok (.dup, 1)) (hd3 : decode kX11_init.2.1 (pc + 3 + 1) = .ok (.invokespecial 58, 3)) (h1 : n1 + 3 ≤ 82) (h2 : n2 + 603 ≤ 18004) (hr : (st.map fun v => v.category).sum ≤ 7) (k : ∀ s0 s1 s2 : Nat, gw_W l kX11_init cy Z (w ++ sW3 cy s0 s1 s2 0 (fun _ => 0) (fun _ => 0)) (n1 + 3) (n2 + 603) (pc + 7) lv (.ref s0 :: st)) : gw_W l kX11_init cy Z w n1 n2 pc lv st := by
  refine gw_new (C0 := RX9) (T := TX9) (N := 3) (ci := 7) (fs := [.null, .null, .int ((0 : Int32))]) tyX9 tyX9_ok rfl inX9 wd_82 wd_128 wd_60 (fun j hj => ?_) (by show n1 + 1 ≤ 82; omega) (by show n2 + 3 ≤ 18004; omega) hd1 (fun s0 => ?_)
  · rcases (show j = 0 ∨ j = 1 ∨ j = 2 by omega) with rfl | rfl | rfl <;> rfl
  refine gw_dup hd2 rfl ?_
  refine gw_callIN (As := []) (st := .ref s0 :: st) ((c_sumInit l cy s0).frame (w2 := w ++ [(s0, .inr (7, [.null, .null, .int ((0 : Int32))]))]) (f := w) List.perm_append_comm) ok_X9_init (host := "SpinBench") (by decide +kernel) rfl rfl hd3 (by decide) ⟨by show n1 + 1 + 2 ≤ 82; omega, by show n2 + 3 + 600 ≤ 18004; omega⟩ (by show 1 + (st.map fun v => v.category).sum ≤ 8; omega) (fun r w1 hp => ?_)
  rcases hp with ⟨w0, ⟨rfl, s1, s2, rfl⟩, rfl⟩
  refine gw_W.perm (w' := w ++ sW3 cy s0 s1 s2 0 (fun _ => 0) (fun _ => 0)) List.perm_append_comm ?_
  exact k s0 s1 s2
set_option maxHeartbeats 4000000 in
set_option maxRecDepth 100000 in
theorem gi_newTab {l : Launch} {cy : Nat → ClassId} {Z : gw_Z} {w : va_W} {n1 n2 pc : Nat} {lv : List (Option Value)} {st : List Value} (hd1 : decode kX11_init.2.1 pc = .ok (.new 25, 3)) (hd2 : decode kX11_init.2.1 (pc + 3) = .ok (.dup, 1)) (hd3 : decode kX11_init.2.1 (pc + 3 + 1) = .ok (.invokespecial 63, 3)) (h1 : n1 + 2 ≤ 82) (h2 : n2 + 64 ≤ 18004) (hr : (st.map fun v => v.category).sum ≤ 7) (k : ∀ s0 s1 : Nat, gw_W l kX11_init cy Z (w ++ tW2 cy s0 s1 (nI 1) 0 0 (fun _ => 0)) (n1 + 2) (n2 + 64) (pc + 7) lv (.ref s0 :: st)) : gw_W l kX11_init cy Z w n1 n2 pc lv st := by
  refine gw_new (C0 := RX10) (T := TX10) (N := 4) (ci := 8) (fs := [.null, .int ((0 : Int32)), .int ((0 : Int32)), .int ((0 : Int32))]) tyX10 tyX10_ok rfl inX10 wd_117 wd_149 wd_61 (fun j hj => ?_) (by show n1 + 1 ≤ 82; omega) (by show n2 + 4 ≤ 18004; omega) hd1 (fun s0 => ?_)
  · rcases (show j = 0 ∨ j = 1 ∨ j = 2 ∨ j = 3 by omega) with rfl | rfl | rfl | rfl <;> rfl
  refine gw_dup hd2 rfl ?_
  refine gw_callIN (As := []) (st := .ref s0 :: st) ((c_tabInit l cy s0).frame (w2 := w ++ [(s0, .inr (8, [.null, .int ((0 : Int32)), .int ((0 : Int32)), .int ((0 : Int32))]))]) (f := w) List.perm_append_comm) ok_X10_init (host := "SpinBench") (by decide +kernel) rfl rfl hd3 (by decide) ⟨by show n1 + 1 + 1 ≤ 82; omega, by show n2 + 4 + 60 ≤ 18004; omega⟩ (by show 1 + (st.map fun v => v.category).sum ≤ 8; omega) (fun r w1 hp => ?_)
  rcases hp with ⟨w0, ⟨rfl, s1, rfl⟩, rfl⟩
  refine gw_W.perm (w' := w ++ tW2 cy s0 s1 (nI 1) 0 0 (fun _ => 0)) List.perm_append_comm ?_
  exact k s0 s1
set_option maxHeartbeats 4000000 in
set_option maxRecDepth 100000 in
theorem gi_newMix {l : Launch} {cy : Nat → ClassId} {Z : gw_Z} {w : va_W} {n1 n2 pc : Nat} {lv : List (Option Value)} {st : List Value} (hd1 : decode kX11_init.2.1 pc = .ok (.new 18, 3)) (hd2 : decode kX11_init.2.1 (pc + 3) = .ok (.dup, 1)) (hd3 : decode kX11_init.2.1 (pc + 3 + 1) = .ok (.invokespecial 20, 3)) (h1 : n1 + 7 ≤ 82) (h2 : n2 + 6556 ≤ 18004) (hr : (st.map fun v => v.category).sum ≤ 7) (k : ∀ (s0 : Nat) (x : va_W), mxC cy s0 x → gw_W l kX11_init cy Z (w ++ x) (n1 + 7) (n2 + 6556) (pc + 7) lv (.ref s0 :: st)) : gw_W l kX11_init cy Z w n1 n2 pc lv st := by
  refine gw_new (C0 := RX4) (T := TX4) (N := 8) (ci := 3) (fs := [.null, .null, .null, .null, .int ((0 : Int32)), .null, .null, .int ((0 : Int32))]) tyX4 tyX4_ok rfl inX4 wd_84 wd_85 wd_58 (fun j hj => ?_) (by show n1 + 1 ≤ 82; omega) (by show n2 + 8 ≤ 18004; omega) hd1 (fun s0 => ?_)
  · rcases (show j = 0 ∨ j = 1 ∨ j = 2 ∨ j = 3 ∨ j = 4 ∨ j = 5 ∨ j = 6 ∨ j = 7 by omega) with rfl | rfl | rfl | rfl | rfl | rfl | rfl | rfl <;> rfl
  refine gw_dup hd2 rfl ?_
  refine gw_callIN (As := []) (st := .ref s0 :: st) ((c_mixInit l cy s0).frame (w2 := w ++ [(s0, .inr (3, [.null, .null, .null, .null, .int ((0 : Int32)), .null, .null, .int ((0 : Int32))]))]) (f := w) List.perm_append_comm) ok_X4_init (host := "SpinBench") (by decide +kernel) rfl rfl hd3 (by decide) ⟨by show n1 + 1 + 6 ≤ 82; omega, by show n2 + 8 + 6548 ≤ 18004; omega⟩ (by show 1 + (st.map fun v => v.category).sum ≤ 8; omega) (fun r w1 hp => ?_)
  obtain ⟨x, ⟨rfl, hx⟩, rfl⟩ := hp
  refine gw_W.perm (w' := w ++ x) List.perm_append_comm ?_
  exact k s0 x hx
set_option maxHeartbeats 4000000 in
set_option maxRecDepth 100000 in
theorem t_cinit (l : Launch) (cy : Nat → ClassId) (a : Nat) (v : Int32) : gw_M l kX11_init cy [.ref (a), .int (v)] [(a, .inr (9, [.int ((0 : Int32)), .null, .null, .null, .null, .null, .null, .int ((0 : Int32)), .null, .int ((0 : Int32)), .int ((0 : Int32)), .int ((0 : Int32)), .null, .int ((0 : Int32)), .int ((0 : Int32))]))] (fun r w' => r = none ∧ cInv cy a (sNew v) w') := by
  refine gw_M.mk (lv := [some (.ref (a)), some (.int (v)), none]) (by decide) (Nat.le_of_ble_eq_true rfl) rfl ?_
  generalize hpost : (fun r w' => r = none ∧ cInv cy a (sNew v) w' : gw_Q) = post
  refine gw_aload_n dX11_init_0 rfl ?_
  refine gw_objInit wd_79 wd_80 wd_81 (by decide) dX11_init_1 ?_
  refine gw_aload_n dX11_init_4 rfl ?_
  refine gw_bipush (v := nI (9)) dX11_init_5 (by decide) ?_
  refine gw_newA3 (N := 9) wd_82 rfl (by decide) (by decide) (by decide) dX11_init_7 (fun q7 => ?_)
  refine gw_W.norm (st' := [.ref (q7), .ref (a)]) (k1 := 1) (k2 := 9) rfl rfl rfl ?_
  refine gw_W.wd (w' := [(a, .inr (9, [.int ((0 : Int32)), .null, .null, .null, .null, .null, .null, .int ((0 : Int32)), .null, .int ((0 : Int32)), .int ((0 : Int32)), .int ((0 : Int32)), .null, .int ((0 : Int32)), .int ((0 : Int32))])), (q7, .inl (cy 3, 9, .inr (.inr (.inr (.inr (fun _ => none))))))]) rfl ?_
  refine gw_putF (C0 := RX11) (T := TX11) (N := 15) (ref := RX11) (ty := tyX11 1) 0 rfl rfl inX11 1 (by decide) tyX11 tyX11_ok nmX11 wd_174 (Or.inl rfl) rfl rfl rfl (tyX11_ok 1 (by decide)) (rfl) rfl (Nat.le_of_ble_eq_true rfl) dX11_init_10 ?_
  refine gw_W.wd (w' := [(a, .inr (9, [.int ((0 : Int32)), .ref (q7), .null, .null, .null, .null, .null, .int ((0 : Int32)), .null, .int ((0 : Int32)), .int ((0 : Int32)), .int ((0 : Int32)), .null, .int ((0 : Int32)), .int ((0 : Int32))])), (q7, .inl (cy 3, 9, .inr (.inr (.inr (.inr (fun _ => none))))))]) rfl ?_
  refine gw_aload_n dX11_init_13 rfl ?_
  refine gw_bipush (v := nI (9)) dX11_init_14 (by decide) ?_
  refine gw_newA3 (N := 9) wd_82 rfl (by decide) (by decide) (by decide) dX11_init_16 (fun q16 => ?_)
  refine gw_W.norm (st' := [.ref (q16), .ref (a)]) (k1 := 2) (k2 := 18) rfl rfl rfl ?_
  refine gw_W.wd (w' := [(a, .inr (9, [.int ((0 : Int32)), .ref (q7), .null, .null, .null, .null, .null, .int ((0 : Int32)), .null, .int ((0 : Int32)), .int ((0 : Int32)), .int ((0 : Int32)), .null, .int ((0 : Int32)), .int ((0 : Int32))])), (q7, .inl (cy 3, 9, .inr (.inr (.inr (.inr (fun _ => none)))))), (q16, .inl (cy 3, 9, .inr (.inr (.inr (.inr (fun _ => none))))))]) rfl ?_
  refine gw_putF (C0 := RX11) (T := TX11) (N := 15) (ref := RX11) (ty := tyX11 2) 0 rfl rfl inX11 2 (by decide) tyX11 tyX11_ok nmX11 wd_175 (Or.inl rfl) rfl rfl rfl (tyX11_ok 2 (by decide)) (rfl) rfl (Nat.le_of_ble_eq_true rfl) dX11_init_19 ?_
  refine gw_W.wd (w' := [(a, .inr (9, [.int ((0 : Int32)), .ref (q7), .ref (q16), .null, .null, .null, .null, .int ((0 : Int32)), .null, .int ((0 : Int32)), .int ((0 : Int32)), .int ((0 : Int32)), .null, .int ((0 : Int32)), .int ((0 : Int32))])), (q7, .inl (cy 3, 9, .inr (.inr (.inr (.inr (fun _ => none)))))), (q16, .inl (cy 3, 9, .inr (.inr (.inr (.inr (fun _ => none))))))]) rfl ?_
  refine gw_aload_n dX11_init_22 rfl ?_
  refine gi_newMix dX11_init_23 dX11_init_26 dX11_init_27 (by decide) (by decide) (Nat.le_of_ble_eq_true rfl) (fun m23 x23 hx => ?_)
  refine gw_W.norm (st' := [.ref (m23), .ref (a)]) (k1 := 9) (k2 := 6574) rfl rfl rfl ?_
  refine gw_putF (C0 := RX11) (T := TX11) (N := 15) (ref := RX11) (ty := tyX11 4) 0 rfl rfl inX11 4 (by decide) tyX11 tyX11_ok nmX11 wd_178 (Or.inl rfl) rfl rfl rfl (tyX11_ok 4 (by decide)) (rfl) rfl (Nat.le_of_ble_eq_true rfl) dX11_init_30 ?_
  refine gw_W.wd (w' := ([(a, .inr (9, [.int ((0 : Int32)), .ref (q7), .ref (q16), .null, .ref (m23), .null, .null, .int ((0 : Int32)), .null, .int ((0 : Int32)), .int ((0 : Int32)), .int ((0 : Int32)), .null, .int ((0 : Int32)), .int ((0 : Int32))])), (q7, .inl (cy 3, 9, .inr (.inr (.inr (.inr (fun _ => none)))))), (q16, .inl (cy 3, 9, .inr (.inr (.inr (.inr (fun _ => none))))))] ++ x23)) rfl ?_
  refine gw_aload_n dX11_init_33 rfl ?_
  refine gw_bipush (v := nI (8)) dX11_init_34 (by decide) ?_
  refine gw_newA4 (N := 8) wd_117 rfl (by decide) (by decide) (by decide) dX11_init_36 (fun q36 => ?_)
  refine gw_W.perm (perm_sn (A := ([(a, .inr (9, [.int ((0 : Int32)), .ref (q7), .ref (q16), .null, .ref (m23), .null, .null, .int ((0 : Int32)), .null, .int ((0 : Int32)), .int ((0 : Int32)), .int ((0 : Int32)), .null, .int ((0 : Int32)), .int ((0 : Int32))])), (q7, .inl (cy 3, 9, .inr (.inr (.inr (.inr (fun _ => none)))))), (q16, .inl (cy 3, 9, .inr (.inr (.inr (.inr (fun _ => none))))))] : va_W)) (R := x23) (C := [(q36, .inl (cy 4, 8, .inr (.inr (.inr (.inr (fun _ => none))))))])) ?_
  refine gw_W.norm (st' := [.ref (q36), .ref (a)]) (k1 := 10) (k2 := 6582) rfl rfl rfl ?_
  refine gw_W.wd (w' := ([(a, .inr (9, [.int ((0 : Int32)), .ref (q7), .ref (q16), .null, .ref (m23), .null, .null, .int ((0 : Int32)), .null, .int ((0 : Int32)), .int ((0 : Int32)), .int ((0 : Int32)), .null, .int ((0 : Int32)), .int ((0 : Int32))])), (q7, .inl (cy 3, 9, .inr (.inr (.inr (.inr (fun _ => none)))))), (q16, .inl (cy 3, 9, .inr (.inr (.inr (.inr (fun _ => none)))))), (q36, .inl (cy 4, 8, .inr (.inr (.inr (.inr (fun _ => none))))))] ++ x23)) rfl ?_
  refine gw_putF (C0 := RX11) (T := TX11) (N := 15) (ref := RX11) (ty := tyX11 5) 0 rfl rfl inX11 5 (by decide) tyX11 tyX11_ok nmX11 wd_180 (Or.inl rfl) rfl rfl rfl (tyX11_ok 5 (by decide)) (rfl) rfl (Nat.le_of_ble_eq_true rfl) dX11_init_39 ?_
  refine gw_W.wd (w' := ([(a, .inr (9, [.int ((0 : Int32)), .ref (q7), .ref (q16), .null, .ref (m23), .ref (q36), .null, .int ((0 : Int32)), .null, .int ((0 : Int32)), .int ((0 : Int32)), .int ((0 : Int32)), .null, .int ((0 : Int32)), .int ((0 : Int32))])), (q7, .inl (cy 3, 9, .inr (.inr (.inr (.inr (fun _ => none)))))), (q16, .inl (cy 3, 9, .inr (.inr (.inr (.inr (fun _ => none)))))), (q36, .inl (cy 4, 8, .inr (.inr (.inr (.inr (fun _ => none))))))] ++ x23)) rfl ?_
  refine gw_aload_n dX11_init_42 rfl ?_
  refine gw_bipush (v := nI (40)) dX11_init_43 (by decide) ?_
  refine gw_newA2 (N := 40) wd_119 rfl (by decide) (by decide) (by decide) dX11_init_45 (fun q45 => ?_)
  refine gw_W.perm (perm_sn (A := ([(a, .inr (9, [.int ((0 : Int32)), .ref (q7), .ref (q16), .null, .ref (m23), .ref (q36), .null, .int ((0 : Int32)), .null, .int ((0 : Int32)), .int ((0 : Int32)), .int ((0 : Int32)), .null, .int ((0 : Int32)), .int ((0 : Int32))])), (q7, .inl (cy 3, 9, .inr (.inr (.inr (.inr (fun _ => none)))))), (q16, .inl (cy 3, 9, .inr (.inr (.inr (.inr (fun _ => none)))))), (q36, .inl (cy 4, 8, .inr (.inr (.inr (.inr (fun _ => none))))))] : va_W)) (R := x23) (C := [(q45, .inl (cy 2, 40, .inr (.inr (.inr (.inr (fun _ => none))))))])) ?_
  refine gw_W.norm (st' := [.ref (q45), .ref (a)]) (k1 := 11) (k2 := 6622) rfl rfl rfl ?_
  refine gw_W.wd (w' := ([(a, .inr (9, [.int ((0 : Int32)), .ref (q7), .ref (q16), .null, .ref (m23), .ref (q36), .null, .int ((0 : Int32)), .null, .int ((0 : Int32)), .int ((0 : Int32)), .int ((0 : Int32)), .null, .int ((0 : Int32)), .int ((0 : Int32))])), (q7, .inl (cy 3, 9, .inr (.inr (.inr (.inr (fun _ => none)))))), (q16, .inl (cy 3, 9, .inr (.inr (.inr (.inr (fun _ => none)))))), (q36, .inl (cy 4, 8, .inr (.inr (.inr (.inr (fun _ => none)))))), (q45, .inl (cy 2, 40, .inr (.inr (.inr (.inr (fun _ => none))))))] ++ x23)) rfl ?_
  refine gw_putF (C0 := RX11) (T := TX11) (N := 15) (ref := RX11) (ty := tyX11 6) 0 rfl rfl inX11 6 (by decide) tyX11 tyX11_ok nmX11 wd_181 (Or.inl rfl) rfl rfl rfl (tyX11_ok 6 (by decide)) (rfl) rfl (Nat.le_of_ble_eq_true rfl) dX11_init_48 ?_
  refine gw_W.wd (w' := ([(a, .inr (9, [.int ((0 : Int32)), .ref (q7), .ref (q16), .null, .ref (m23), .ref (q36), .ref (q45), .int ((0 : Int32)), .null, .int ((0 : Int32)), .int ((0 : Int32)), .int ((0 : Int32)), .null, .int ((0 : Int32)), .int ((0 : Int32))])), (q7, .inl (cy 3, 9, .inr (.inr (.inr (.inr (fun _ => none)))))), (q16, .inl (cy 3, 9, .inr (.inr (.inr (.inr (fun _ => none)))))), (q36, .inl (cy 4, 8, .inr (.inr (.inr (.inr (fun _ => none)))))), (q45, .inl (cy 2, 40, .inr (.inr (.inr (.inr (fun _ => none))))))] ++ x23)) rfl ?_
  refine gw_aload_n dX11_init_51 rfl ?_
  refine gw_ldc dX11_init_52 wd_121 ?_
  refine gw_put (C0 := RX11) (T := TX11) (N := 15) (ref := RX11) (ty := tyX11 11) 0 rfl rfl inX11 11 (by decide) tyX11 tyX11_ok nmX11 wd_187 (Or.inl rfl) rfl (tyX11_ok 11 (by decide)) (rfl) rfl (Nat.le_of_ble_eq_true rfl) dX11_init_54 ?_
  refine gw_W.wd (w' := ([(a, .inr (9, [.int ((0 : Int32)), .ref (q7), .ref (q16), .null, .ref (m23), .ref (q36), .ref (q45), .int ((0 : Int32)), .null, .int ((0 : Int32)), .int ((0 : Int32)), .int (((-1000000) : Int32)), .null, .int ((0 : Int32)), .int ((0 : Int32))])), (q7, .inl (cy 3, 9, .inr (.inr (.inr (.inr (fun _ => none)))))), (q16, .inl (cy 3, 9, .inr (.inr (.inr (.inr (fun _ => none)))))), (q36, .inl (cy 4, 8, .inr (.inr (.inr (.inr (fun _ => none)))))), (q45, .inl (cy 2, 40, .inr (.inr (.inr (.inr (fun _ => none))))))] ++ x23)) rfl ?_
  refine gw_aload_n dX11_init_57 rfl ?_
  refine gw_bipush (v := nI (16)) dX11_init_58 (by decide) ?_
  refine gw_newI (N := 16) wd_115 rfl (by decide) (by decide) (by decide) dX11_init_60 (fun q60 => ?_)
  refine gw_W.perm (perm_sn (A := ([(a, .inr (9, [.int ((0 : Int32)), .ref (q7), .ref (q16), .null, .ref (m23), .ref (q36), .ref (q45), .int ((0 : Int32)), .null, .int ((0 : Int32)), .int ((0 : Int32)), .int (((-1000000) : Int32)), .null, .int ((0 : Int32)), .int ((0 : Int32))])), (q7, .inl (cy 3, 9, .inr (.inr (.inr (.inr (fun _ => none)))))), (q16, .inl (cy 3, 9, .inr (.inr (.inr (.inr (fun _ => none)))))), (q36, .inl (cy 4, 8, .inr (.inr (.inr (.inr (fun _ => none)))))), (q45, .inl (cy 2, 40, .inr (.inr (.inr (.inr (fun _ => none))))))] : va_W)) (R := x23) (C := [(q60, .inl (cy 0, 16, .inl (fun _ => 0)))])) ?_
  refine gw_W.norm (st' := [.ref (q60), .ref (a)]) (k1 := 12) (k2 := 6638) rfl rfl rfl ?_
  refine gw_W.wd (w' := ([(a, .inr (9, [.int ((0 : Int32)), .ref (q7), .ref (q16), .null, .ref (m23), .ref (q36), .ref (q45), .int ((0 : Int32)), .null, .int ((0 : Int32)), .int ((0 : Int32)), .int (((-1000000) : Int32)), .null, .int ((0 : Int32)), .int ((0 : Int32))])), (q7, .inl (cy 3, 9, .inr (.inr (.inr (.inr (fun _ => none)))))), (q16, .inl (cy 3, 9, .inr (.inr (.inr (.inr (fun _ => none)))))), (q36, .inl (cy 4, 8, .inr (.inr (.inr (.inr (fun _ => none)))))), (q45, .inl (cy 2, 40, .inr (.inr (.inr (.inr (fun _ => none)))))), (q60, .inl (cy 0, 16, .inl (fun _ => 0)))] ++ x23)) rfl ?_
  refine gw_putF (C0 := RX11) (T := TX11) (N := 15) (ref := RX11) (ty := tyX11 12) 0 rfl rfl inX11 12 (by decide) tyX11 tyX11_ok nmX11 wd_188 (Or.inl rfl) rfl rfl rfl (tyX11_ok 12 (by decide)) (rfl) rfl (Nat.le_of_ble_eq_true rfl) dX11_init_62 ?_
  refine gw_W.wd (w' := ([(a, .inr (9, [.int ((0 : Int32)), .ref (q7), .ref (q16), .null, .ref (m23), .ref (q36), .ref (q45), .int ((0 : Int32)), .null, .int ((0 : Int32)), .int ((0 : Int32)), .int (((-1000000) : Int32)), .ref (q60), .int ((0 : Int32)), .int ((0 : Int32))])), (q7, .inl (cy 3, 9, .inr (.inr (.inr (.inr (fun _ => none)))))), (q16, .inl (cy 3, 9, .inr (.inr (.inr (.inr (fun _ => none)))))), (q36, .inl (cy 4, 8, .inr (.inr (.inr (.inr (fun _ => none)))))), (q45, .inl (cy 2, 40, .inr (.inr (.inr (.inr (fun _ => none)))))), (q60, .inl (cy 0, 16, .inl (fun _ => 0)))] ++ x23)) rfl ?_
  refine gw_aload_n dX11_init_65 rfl ?_
  refine gw_iconst (v := nI (1)) dX11_init_66 (by decide) ?_
  refine gw_iconst (v := nI (4)) dX11_init_67 (by decide) ?_
  refine gw_iload_n dX11_init_68 rfl ?_
  refine gw_mmin wd_122 wd_123 wd_59 wd_c_min ⟨by decide, Nat.le_of_ble_eq_true rfl, by decide, by decide⟩ dX11_init_69 ?_
  refine gw_mmax wd_125 wd_126 wd_59 wd_c_max ⟨by decide, Nat.le_of_ble_eq_true rfl, by decide, by decide⟩ dX11_init_72 ?_
  refine gw_topi (y := nI (clN v)) (clN_eq v) ?_
  refine gw_putF (C0 := RX11) (T := TX11) (N := 15) (ref := RX11) (ty := tyX11 0) 0 rfl rfl inX11 0 (by decide) tyX11 tyX11_ok nmX11 wd_173 (Or.inl rfl) rfl rfl rfl (tyX11_ok 0 (by decide)) (rfl) rfl (Nat.le_of_ble_eq_true rfl) dX11_init_75 ?_
  refine gw_W.wd (w' := ([(a, .inr (9, [.int (nI (clN v)), .ref (q7), .ref (q16), .null, .ref (m23), .ref (q36), .ref (q45), .int ((0 : Int32)), .null, .int ((0 : Int32)), .int ((0 : Int32)), .int (((-1000000) : Int32)), .ref (q60), .int ((0 : Int32)), .int ((0 : Int32))])), (q7, .inl (cy 3, 9, .inr (.inr (.inr (.inr (fun _ => none)))))), (q16, .inl (cy 3, 9, .inr (.inr (.inr (.inr (fun _ => none)))))), (q36, .inl (cy 4, 8, .inr (.inr (.inr (.inr (fun _ => none)))))), (q45, .inl (cy 2, 40, .inr (.inr (.inr (.inr (fun _ => none)))))), (q60, .inl (cy 0, 16, .inl (fun _ => 0)))] ++ x23)) rfl ?_
  refine gw_aload_n dX11_init_78 rfl ?_
  refine gi_newSum dX11_init_79 dX11_init_82 dX11_init_83 (by decide) (by decide) (Nat.le_of_ble_eq_true rfl) (fun s79 sx79 sy79 => ?_)
  refine gw_W.wd (w' := ([(a, .inr (9, [.int (nI (clN v)), .ref (q7), .ref (q16), .null, .ref (m23), .ref (q36), .ref (q45), .int ((0 : Int32)), .null, .int ((0 : Int32)), .int ((0 : Int32)), .int (((-1000000) : Int32)), .ref (q60), .int ((0 : Int32)), .int ((0 : Int32))])), (q7, .inl (cy 3, 9, .inr (.inr (.inr (.inr (fun _ => none)))))), (q16, .inl (cy 3, 9, .inr (.inr (.inr (.inr (fun _ => none)))))), (q36, .inl (cy 4, 8, .inr (.inr (.inr (.inr (fun _ => none)))))), (q45, .inl (cy 2, 40, .inr (.inr (.inr (.inr (fun _ => none)))))), (q60, .inl (cy 0, 16, .inl (fun _ => 0)))] ++ (x23 ++ sW3 cy s79 sx79 sy79 0 (fun _ => 0) (fun _ => 0)))) (by simp only [List.append_assoc]) ?_
  refine gw_W.norm (st' := [.ref (s79), .ref (a)]) (k1 := 15) (k2 := 7241) rfl rfl rfl ?_
  refine gw_putF (C0 := RX11) (T := TX11) (N := 15) (ref := RX11) (ty := tyX11 3) 0 rfl rfl inX11 3 (by decide) tyX11 tyX11_ok nmX11 wd_176 (Or.inl rfl) rfl rfl rfl (tyX11_ok 3 (by decide)) (rfl) rfl (Nat.le_of_ble_eq_true rfl) dX11_init_86 ?_
  refine gw_W.wd (w' := ([(a, .inr (9, [.int (nI (clN v)), .ref (q7), .ref (q16), .ref (s79), .ref (m23), .ref (q36), .ref (q45), .int ((0 : Int32)), .null, .int ((0 : Int32)), .int ((0 : Int32)), .int (((-1000000) : Int32)), .ref (q60), .int ((0 : Int32)), .int ((0 : Int32))])), (q7, .inl (cy 3, 9, .inr (.inr (.inr (.inr (fun _ => none)))))), (q16, .inl (cy 3, 9, .inr (.inr (.inr (.inr (fun _ => none)))))), (q36, .inl (cy 4, 8, .inr (.inr (.inr (.inr (fun _ => none)))))), (q45, .inl (cy 2, 40, .inr (.inr (.inr (.inr (fun _ => none)))))), (q60, .inl (cy 0, 16, .inl (fun _ => 0)))] ++ (x23 ++ sW3 cy s79 sx79 sy79 0 (fun _ => 0) (fun _ => 0)))) rfl ?_
  refine gw_aload_n dX11_init_89 rfl ?_
  refine gw_get (C0 := RX11) (T := TX11) (N := 15) (ref := RX11) 0 rfl rfl inX11 1 (by decide) wd_174 (Or.inl rfl) rfl dX11_init_90 ?_
  refine gw_iconst (v := nI (0)) dX11_init_93 (by decide) ?_
  refine gw_aload_n dX11_init_94 rfl ?_
  refine gw_get (C0 := RX11) (T := TX11) (N := 15) (ref := RX11) 0 rfl rfl inX11 3 (by decide) wd_176 (Or.inl rfl) rfl dX11_init_95 ?_
  refine gw_aast3H 1 rfl (gw_has.right (gw_has.right ⟨_, List.mem_cons_self ..⟩)) rfl (by decide) (by decide) dX11_init_98 ?_
  refine gw_W.wd (w' := ([(a, .inr (9, [.int (nI (clN v)), .ref (q7), .ref (q16), .ref (s79), .ref (m23), .ref (q36), .ref (q45), .int ((0 : Int32)), .null, .int ((0 : Int32)), .int ((0 : Int32)), .int (((-1000000) : Int32)), .ref (q60), .int ((0 : Int32)), .int ((0 : Int32))])), (q7, .inl (cy 3, 9, .inr (.inr (.inr (.inr (va_up (fun _ => none) (0) (some (s79)))))))), (q16, .inl (cy 3, 9, .inr (.inr (.inr (.inr (fun _ => none)))))), (q36, .inl (cy 4, 8, .inr (.inr (.inr (.inr (fun _ => none)))))), (q45, .inl (cy 2, 40, .inr (.inr (.inr (.inr (fun _ => none)))))), (q60, .inl (cy 0, 16, .inl (fun _ => 0)))] ++ (x23 ++ sW3 cy s79 sx79 sy79 0 (fun _ => 0) (fun _ => 0)))) rfl ?_
  refine gw_iconst (v := nI (1)) dX11_init_99 (by decide) ?_
  refine gw_istore_n dX11_init_100 (by decide) rfl ?_
  have cut101 : ∀ (fu : Nat) (i : Nat) (f : Nat → Option Nat) (sa : Nat → Nat) (S : va_W), (1 ≤ i ∧ i ≤ 9) → (∀ j, j < i → f j = some (sa (3 * j))) → (S.Perm (sN cy sa i)) → (sa (3 * 0) = s79) → (9 - i) < fu → gw_W l kX11_init cy (gw_R kX11_init post) ([(a, .inr (9, [.int (nI (clN v)), .ref (q7), .ref (q16), .ref (s79), .ref (m23), .ref (q36), .ref (q45), .int ((0 : Int32)), .null, .int ((0 : Int32)), .int ((0 : Int32)), .int ((-1000000 : Int32)), .ref (q60), .int ((0 : Int32)), .int ((0 : Int32))])), (q7, .inl (cy 3, 9, .inr (.inr (.inr (.inr (f)))))), (q16, .inl (cy 3, 9, .inr (.inr (.inr (.inr (fun _ => none)))))), (q36, .inl (cy 4, 8, .inr (.inr (.inr (.inr (fun _ => none)))))), (q45, .inl (cy 2, 40, .inr (.inr (.inr (.inr (fun _ => none)))))), (q60, .inl (cy 0, 16, .inl (fun _ => 0)))] ++ (x23 ++ S)) (12 + 3 * i) (6638 + 603 * i) 101 [some (.ref (a)), some (.int (v)), some (.int (nI (i)))] [] := by
    intro fu
    induction fu with
    | zero => intro i f sa S h1 h2 h3 h4 hfu; exact absurd hfu (Nat.not_lt_zero _)
    | succ fu ih101 =>
      intro i f sa S h1 h2 h3 h4 hfu
      refine gw_iload_n dX11_init_101 rfl ?_
      refine gw_aload_n dX11_init_102 rfl ?_
      refine gw_get (C0 := RX11) (T := TX11) (N := 15) (ref := RX11) 0 rfl rfl inX11 1 (by decide) wd_174 (Or.inl rfl) rfl dX11_init_103 ?_
      refine gw_alen (t0 := 3) 1 rfl rfl dX11_init_106 ?_
      refine gw_icmpN_ge (tgt := 129) dX11_init_107 (by decide) (by omega) (by omega) (fun c107 => ?_) (fun c107 => ?_)
      · obtain rfl : i = 9 := by omega
        refine gw_W.norm (st' := []) (k1 := 39) (k2 := 12065) rfl rfl rfl ?_
        refine gw_iconst (v := nI (0)) dX11_init_129 (by decide) ?_
        refine gw_istore_n dX11_init_130 (by decide) rfl ?_
        have cut131 : ∀ (fu : Nat) (i2 : Nat) (g : Nat → Option Nat) (sb : Nat → Nat) (S2 : va_W), (i2 ≤ 9) → (∀ j, j < i2 → g j = some (sb (3 * (9 + j)))) → (S2.Perm (sN cy sb (9 + i2))) → (sb (3 * 0) = s79) → (∀ j, j < 9 → f j = some (sb (3 * j))) → (9 - i2) < fu → gw_W l kX11_init cy (gw_R kX11_init post) ([(a, .inr (9, [.int (nI (clN v)), .ref (q7), .ref (q16), .ref (s79), .ref (m23), .ref (q36), .ref (q45), .int ((0 : Int32)), .null, .int ((0 : Int32)), .int ((0 : Int32)), .int ((-1000000 : Int32)), .ref (q60), .int ((0 : Int32)), .int ((0 : Int32))])), (q7, .inl (cy 3, 9, .inr (.inr (.inr (.inr (f)))))), (q16, .inl (cy 3, 9, .inr (.inr (.inr (.inr (g)))))), (q36, .inl (cy 4, 8, .inr (.inr (.inr (.inr (fun _ => none)))))), (q45, .inl (cy 2, 40, .inr (.inr (.inr (.inr (fun _ => none)))))), (q60, .inl (cy 0, 16, .inl (fun _ => 0)))] ++ (x23 ++ S2)) (39 + 3 * i2) (12065 + 603 * i2) 131 [some (.ref (a)), some (.int (v)), some (.int (nI (i2)))] [] := by
          intro fu
          induction fu with
          | zero => intro i2 g sb S2 k1 k2 k3 k4 k5 hfu; exact absurd hfu (Nat.not_lt_zero _)
          | succ fu ih131 =>
            intro i2 g sb S2 k1 k2 k3 k4 k5 hfu
            refine gw_iload_n dX11_init_131 rfl ?_
            refine gw_aload_n dX11_init_132 rfl ?_
            refine gw_get (C0 := RX11) (T := TX11) (N := 15) (ref := RX11) 0 rfl rfl inX11 2 (by decide) wd_175 (Or.inl rfl) rfl dX11_init_133 ?_
            refine gw_alen (t0 := 3) 2 rfl rfl dX11_init_136 ?_
            refine gw_icmpN_ge (tgt := 159) dX11_init_137 (by decide) (by omega) (by omega) (fun c137 => ?_) (fun c137 => ?_)
            · obtain rfl : i2 = 9 := by omega
              refine gw_W.norm (st' := []) (k1 := 66) (k2 := 17492) rfl rfl rfl ?_
              refine gw_iconst (v := nI (0)) dX11_init_159 (by decide) ?_
              refine gw_istore_n dX11_init_160 (by decide) rfl ?_
              have cut161 : ∀ (fu : Nat) (i3 : Nat) (tr : Nat → Option Nat) (ta : Nat → Nat) (T : va_W), (i3 ≤ 8) → (∀ j, j < i3 → tr j = some (ta (2 * j))) → (T.Perm (tN cy ta i3)) → (8 - i3) < fu → gw_W l kX11_init cy (gw_R kX11_init post) ([(a, .inr (9, [.int (nI (clN v)), .ref (q7), .ref (q16), .ref (s79), .ref (m23), .ref (q36), .ref (q45), .int ((0 : Int32)), .null, .int ((0 : Int32)), .int ((0 : Int32)), .int ((-1000000 : Int32)), .ref (q60), .int ((0 : Int32)), .int ((0 : Int32))])), (q7, .inl (cy 3, 9, .inr (.inr (.inr (.inr (f)))))), (q16, .inl (cy 3, 9, .inr (.inr (.inr (.inr (g)))))), (q36, .inl (cy 4, 8, .inr (.inr (.inr (.inr (tr)))))), (q45, .inl (cy 2, 40, .inr (.inr (.inr (.inr (fun _ => none)))))), (q60, .inl (cy 0, 16, .inl (fun _ => 0)))] ++ ((x23 ++ S2) ++ T)) (66 + 2 * i3) (17492 + 64 * i3) 161 [some (.ref (a)), some (.int (v)), some (.int (nI (i3)))] [] := by
                intro fu
                induction fu with
                | zero => intro i3 tr ta T m1 m2 m3 hfu; exact absurd hfu (Nat.not_lt_zero _)
                | succ fu ih161 =>
                  intro i3 tr ta T m1 m2 m3 hfu
                  refine gw_iload_n dX11_init_161 rfl ?_
                  refine gw_bipush (v := nI (8)) dX11_init_162 (by decide) ?_
                  refine gw_icmpN_ge (tgt := 186) dX11_init_164 (by decide) (by omega) (by omega) (fun c164 => ?_) (fun c164 => ?_)
                  · obtain rfl : i3 = 8 := by omega
                    refine gw_W.rowA [(a, .inr (9, [.int (nI (clN v)), .ref (q7), .ref (q16), .ref (s79), .ref (m23), .ref (q36), .ref (q45), .int ((0 : Int32)), .null, .int ((0 : Int32)), .int ((0 : Int32)), .int ((-1000000 : Int32)), .ref (q60), .int ((0 : Int32)), .int ((0 : Int32))]))] (fun i => some (sb (3 * i))) k5 ?_
                    refine gw_W.rowA [(a, .inr (9, [.int (nI (clN v)), .ref (q7), .ref (q16), .ref (s79), .ref (m23), .ref (q36), .ref (q45), .int ((0 : Int32)), .null, .int ((0 : Int32)), .int ((0 : Int32)), .int ((-1000000 : Int32)), .ref (q60), .int ((0 : Int32)), .int ((0 : Int32))])), (q7, .inl (cy 3, 9, .inr (.inr (.inr (.inr (fun i => some (sb (3 * i))))))))] (fun i => some (sb (3 * (9 + i)))) k2 ?_
                    refine gw_W.rowA [(a, .inr (9, [.int (nI (clN v)), .ref (q7), .ref (q16), .ref (s79), .ref (m23), .ref (q36), .ref (q45), .int ((0 : Int32)), .null, .int ((0 : Int32)), .int ((0 : Int32)), .int ((-1000000 : Int32)), .ref (q60), .int ((0 : Int32)), .int ((0 : Int32))])), (q7, .inl (cy 3, 9, .inr (.inr (.inr (.inr (fun i => some (sb (3 * i)))))))), (q16, .inl (cy 3, 9, .inr (.inr (.inr (.inr (fun i => some (sb (3 * (9 + i)))))))))] (fun i => some (ta (2 * i))) m2 ?_
                    refine gw_W.wd (w' := bW cy (adL [a, q7, q16, 0, m23, q36, q45, 0, 0, 0, 0, 0, q60]) sb ta (clN v) 0 0 0 0 (-1000000) 0 none (fun _ => none) (fun _ => 0) ++ ((x23 ++ S2) ++ T)) (by rw [bW, k4]; rfl) ?_
                    refine gw_vret (?_) (by decide) (by decide) rfl dX11_init_186
                    subst hpost
                    refine ⟨rfl, adL [a, q7, q16, 0, m23, q36, q45, 0, 0, 0, 0, 0, q60], sb, ta, fun _ => 0, 0, none, fun _ => none, fun _ => 0, fun _ => [], (x23 ++ S2), T, [], fun _ => 0, rfl, ?_, ⟨x23, S2, List.Perm.refl _, hx, ⟨fun _ => 0, fun _ _ => 0, fun _ _ => 0, k3, fun i hi => ⟨Nat.zero_le _, rfl, rfl⟩⟩⟩, fun i hi => ⟨rfl, sOK_nil _⟩, ⟨fun _ => nI 1, fun _ => 0, fun _ => 0, fun _ _ => 0, m3, fun i hi => rfl⟩, ⟨List.Perm.refl _, rfl, fun j hj => absurd hj (Nat.not_lt_zero _)⟩, ⟨(clN_le v).1, (clN_le v).2, Nat.zero_le _, Nat.zero_le _, ⟨0, rfl⟩, fun o ho => by cases ho⟩, fun j hj => absurd hj (Nat.not_lt_zero _)⟩
                    rw [List.append_nil]
                    exact List.Perm.refl _
                  · refine gw_aload_n dX11_init_167 rfl ?_
                    refine gw_get (C0 := RX11) (T := TX11) (N := 15) (ref := RX11) 0 rfl rfl inX11 5 (by decide) wd_180 (Or.inl rfl) rfl dX11_init_168 ?_
                    refine gw_iload_n dX11_init_171 rfl ?_
                    refine gi_newTab dX11_init_172 dX11_init_175 dX11_init_176 (by omega) (by omega) (Nat.le_of_ble_eq_true rfl) (fun t172 tx172 => ?_)
                    refine gw_W.wd (w' := ([(a, .inr (9, [.int (nI (clN v)), .ref (q7), .ref (q16), .ref (s79), .ref (m23), .ref (q36), .ref (q45), .int ((0 : Int32)), .null, .int ((0 : Int32)), .int ((0 : Int32)), .int ((-1000000 : Int32)), .ref (q60), .int ((0 : Int32)), .int ((0 : Int32))])), (q7, .inl (cy 3, 9, .inr (.inr (.inr (.inr (f)))))), (q16, .inl (cy 3, 9, .inr (.inr (.inr (.inr (g)))))), (q36, .inl (cy 4, 8, .inr (.inr (.inr (.inr (tr)))))), (q45, .inl (cy 2, 40, .inr (.inr (.inr (.inr (fun _ => none)))))), (q60, .inl (cy 0, 16, .inl (fun _ => 0)))] ++ ((x23 ++ S2) ++ (T ++ tW2 cy t172 tx172 (nI 1) 0 0 (fun _ => 0))))) (by simp only [List.append_assoc]) ?_
                    refine gw_W.norm (st' := [.ref (t172), .int (nI (i3)), .ref (q36)]) (k1 := 66 + 2 * (i3 + 1)) (k2 := 17492 + 64 * (i3 + 1)) rfl (by omega) (by omega) ?_
                    refine gw_aast4H 3 rfl (gw_has.right (gw_has.right (gw_has.right ⟨_, List.mem_cons_self ..⟩))) rfl (by omega) (by decide) dX11_init_179 ?_
                    refine gw_W.wd (w' := ([(a, .inr (9, [.int (nI (clN v)), .ref (q7), .ref (q16), .ref (s79), .ref (m23), .ref (q36), .ref (q45), .int ((0 : Int32)), .null, .int ((0 : Int32)), .int ((0 : Int32)), .int ((-1000000 : Int32)), .ref (q60), .int ((0 : Int32)), .int ((0 : Int32))])), (q7, .inl (cy 3, 9, .inr (.inr (.inr (.inr (f)))))), (q16, .inl (cy 3, 9, .inr (.inr (.inr (.inr (g)))))), (q36, .inl (cy 4, 8, .inr (.inr (.inr (.inr (va_up tr (i3) (some (t172)))))))), (q45, .inl (cy 2, 40, .inr (.inr (.inr (.inr (fun _ => none)))))), (q60, .inl (cy 0, 16, .inl (fun _ => 0)))] ++ ((x23 ++ S2) ++ (T ++ tW2 cy t172 tx172 (nI 1) 0 0 (fun _ => 0))))) rfl ?_
                    refine gw_iinc (v := nI (i3 + 1)) dX11_init_180 rfl (nI_add _ 1) (by decide) rfl ?_
                    refine gw_goto (tgt := 161) dX11_init_183 (by decide) ?_
                    refine ih161 (i3 + 1) (va_up tr (i3) (some (t172))) (up2 ta i3 t172 tx172) ((T ++ tW2 cy t172 tx172 (nI 1) 0 0 (fun _ => 0))) (by omega) (fun j hj => by
                      by_cases e : j = i3
                      · subst e; rw [va_up_self, up2_0]
                      · rw [va_up_ne _ _ e, up2_lt (by omega)]; exact m2 j (by omega)) (tN_snoc m3) ?_
                    omega
              refine gw_W.norm (st' := []) (k1 := 66 + 2 * 0) (k2 := 17492 + 64 * 0) rfl rfl rfl ?_
              refine gw_W.wd (w' := ([(a, .inr (9, [.int (nI (clN v)), .ref (q7), .ref (q16), .ref (s79), .ref (m23), .ref (q36), .ref (q45), .int ((0 : Int32)), .null, .int ((0 : Int32)), .int ((0 : Int32)), .int ((-1000000 : Int32)), .ref (q60), .int ((0 : Int32)), .int ((0 : Int32))])), (q7, .inl (cy 3, 9, .inr (.inr (.inr (.inr (f)))))), (q16, .inl (cy 3, 9, .inr (.inr (.inr (.inr (g)))))), (q36, .inl (cy 4, 8, .inr (.inr (.inr (.inr (fun _ => none)))))), (q45, .inl (cy 2, 40, .inr (.inr (.inr (.inr (fun _ => none)))))), (q60, .inl (cy 0, 16, .inl (fun _ => 0)))] ++ ((x23 ++ S2) ++ []))) (by rw [List.append_nil]) ?_
              refine cut161 _ (0) (fun _ => none) (fun _ => 0) ([]) (Nat.zero_le _) (fun j hj => absurd hj (Nat.not_lt_zero _)) (List.Perm.refl _) (Nat.lt_succ_self _)
            · refine gw_aload_n dX11_init_140 rfl ?_
              refine gw_get (C0 := RX11) (T := TX11) (N := 15) (ref := RX11) 0 rfl rfl inX11 2 (by decide) wd_175 (Or.inl rfl) rfl dX11_init_141 ?_
              refine gw_iload_n dX11_init_144 rfl ?_
              refine gi_newSum dX11_init_145 dX11_init_148 dX11_init_149 (by omega) (by omega) (Nat.le_of_ble_eq_true rfl) (fun s145 sx145 sy145 => ?_)
              refine gw_W.wd (w' := ([(a, .inr (9, [.int (nI (clN v)), .ref (q7), .ref (q16), .ref (s79), .ref (m23), .ref (q36), .ref (q45), .int ((0 : Int32)), .null, .int ((0 : Int32)), .int ((0 : Int32)), .int ((-1000000 : Int32)), .ref (q60), .int ((0 : Int32)), .int ((0 : Int32))])), (q7, .inl (cy 3, 9, .inr (.inr (.inr (.inr (f)))))), (q16, .inl (cy 3, 9, .inr (.inr (.inr (.inr (g)))))), (q36, .inl (cy 4, 8, .inr (.inr (.inr (.inr (fun _ => none)))))), (q45, .inl (cy 2, 40, .inr (.inr (.inr (.inr (fun _ => none)))))), (q60, .inl (cy 0, 16, .inl (fun _ => 0)))] ++ (x23 ++ (S2 ++ sW3 cy s145 sx145 sy145 0 (fun _ => 0) (fun _ => 0))))) (by simp only [List.append_assoc]) ?_
              refine gw_W.norm (st' := [.ref (s145), .int (nI (i2)), .ref (q16)]) (k1 := 39 + 3 * (i2 + 1)) (k2 := 12065 + 603 * (i2 + 1)) rfl (by omega) (by omega) ?_
              refine gw_aast3H 2 rfl (gw_has.right (gw_has.right (gw_has.right ⟨_, List.mem_cons_self ..⟩))) rfl (by omega) (by decide) dX11_init_152 ?_
              refine gw_W.wd (w' := ([(a, .inr (9, [.int (nI (clN v)), .ref (q7), .ref (q16), .ref (s79), .ref (m23), .ref (q36), .ref (q45), .int ((0 : Int32)), .null, .int ((0 : Int32)), .int ((0 : Int32)), .int ((-1000000 : Int32)), .ref (q60), .int ((0 : Int32)), .int ((0 : Int32))])), (q7, .inl (cy 3, 9, .inr (.inr (.inr (.inr (f)))))), (q16, .inl (cy 3, 9, .inr (.inr (.inr (.inr (va_up g (i2) (some (s145)))))))), (q36, .inl (cy 4, 8, .inr (.inr (.inr (.inr (fun _ => none)))))), (q45, .inl (cy 2, 40, .inr (.inr (.inr (.inr (fun _ => none)))))), (q60, .inl (cy 0, 16, .inl (fun _ => 0)))] ++ (x23 ++ (S2 ++ sW3 cy s145 sx145 sy145 0 (fun _ => 0) (fun _ => 0))))) rfl ?_
              refine gw_iinc (v := nI (i2 + 1)) dX11_init_153 rfl (nI_add _ 1) (by decide) rfl ?_
              refine gw_goto (tgt := 131) dX11_init_156 (by decide) ?_
              refine ih131 (i2 + 1) (va_up g (i2) (some (s145))) (up3 sb (9 + i2) s145 sx145 sy145) ((S2 ++ sW3 cy s145 sx145 sy145 0 (fun _ => 0) (fun _ => 0))) (by omega) (fun j hj => by
                by_cases e : j = i2
                · subst e; rw [va_up_self, up3_0]
                · rw [va_up_ne _ _ e, up3_lt (by omega)]; exact k2 j (by omega)) (sN_snoc k3) (by rw [up3_lt (by omega)]; exact k4) (fun j hj => by rw [up3_lt (by omega)]; exact k5 j hj) ?_
              omega
        refine gw_W.norm (st' := []) (k1 := 39 + 3 * 0) (k2 := 12065 + 603 * 0) rfl rfl rfl ?_
        refine cut131 _ (0) (fun _ => none) (sa) (S) (Nat.zero_le _) (fun j hj => absurd hj (Nat.not_lt_zero _)) h3 h4 h2 (Nat.lt_succ_self _)
      · refine gw_aload_n dX11_init_110 rfl ?_
        refine gw_get (C0 := RX11) (T := TX11) (N := 15) (ref := RX11) 0 rfl rfl inX11 1 (by decide) wd_174 (Or.inl rfl) rfl dX11_init_111 ?_
        refine gw_iload_n dX11_init_114 rfl ?_
        refine gi_newSum dX11_init_115 dX11_init_118 dX11_init_119 (by omega) (by omega) (Nat.le_of_ble_eq_true rfl) (fun s115 sx115 sy115 => ?_)
        refine gw_W.wd (w' := ([(a, .inr (9, [.int (nI (clN v)), .ref (q7), .ref (q16), .ref (s79), .ref (m23), .ref (q36), .ref (q45), .int ((0 : Int32)), .null, .int ((0 : Int32)), .int ((0 : Int32)), .int ((-1000000 : Int32)), .ref (q60), .int ((0 : Int32)), .int ((0 : Int32))])), (q7, .inl (cy 3, 9, .inr (.inr (.inr (.inr (f)))))), (q16, .inl (cy 3, 9, .inr (.inr (.inr (.inr (fun _ => none)))))), (q36, .inl (cy 4, 8, .inr (.inr (.inr (.inr (fun _ => none)))))), (q45, .inl (cy 2, 40, .inr (.inr (.inr (.inr (fun _ => none)))))), (q60, .inl (cy 0, 16, .inl (fun _ => 0)))] ++ (x23 ++ (S ++ sW3 cy s115 sx115 sy115 0 (fun _ => 0) (fun _ => 0))))) (by simp only [List.append_assoc]) ?_
        refine gw_W.norm (st' := [.ref (s115), .int (nI (i)), .ref (q7)]) (k1 := 12 + 3 * (i + 1)) (k2 := 6638 + 603 * (i + 1)) rfl (by omega) (by omega) ?_
        refine gw_aast3H 1 rfl (gw_has.right (gw_has.right (gw_has.right ⟨_, List.mem_cons_self ..⟩))) rfl (by omega) (by decide) dX11_init_122 ?_
        refine gw_W.wd (w' := ([(a, .inr (9, [.int (nI (clN v)), .ref (q7), .ref (q16), .ref (s79), .ref (m23), .ref (q36), .ref (q45), .int ((0 : Int32)), .null, .int ((0 : Int32)), .int ((0 : Int32)), .int ((-1000000 : Int32)), .ref (q60), .int ((0 : Int32)), .int ((0 : Int32))])), (q7, .inl (cy 3, 9, .inr (.inr (.inr (.inr (va_up f (i) (some (s115)))))))), (q16, .inl (cy 3, 9, .inr (.inr (.inr (.inr (fun _ => none)))))), (q36, .inl (cy 4, 8, .inr (.inr (.inr (.inr (fun _ => none)))))), (q45, .inl (cy 2, 40, .inr (.inr (.inr (.inr (fun _ => none)))))), (q60, .inl (cy 0, 16, .inl (fun _ => 0)))] ++ (x23 ++ (S ++ sW3 cy s115 sx115 sy115 0 (fun _ => 0) (fun _ => 0))))) rfl ?_
        refine gw_iinc (v := nI (i + 1)) dX11_init_123 rfl (nI_add _ 1) (by decide) rfl ?_
        refine gw_goto (tgt := 101) dX11_init_126 (by decide) ?_
        refine ih101 (i + 1) (va_up f (i) (some (s115))) (up3 sa i s115 sx115 sy115) ((S ++ sW3 cy s115 sx115 sy115 0 (fun _ => 0) (fun _ => 0))) (⟨by omega, by omega⟩) (fun j hj => by
          by_cases e : j = i
          · subst e; rw [va_up_self, up3_0]
          · rw [va_up_ne _ _ e, up3_lt (by omega)]; exact h2 j (by omega)) (sN_snoc h3) (by rw [up3_lt (by omega)]; exact h4) ?_
        omega
  refine gw_W.norm (st' := []) (k1 := 12 + 3 * 1) (k2 := 6638 + 603 * 1) rfl rfl rfl ?_
  refine cut101 _ (1) (va_up (fun _ => none) (0) (some (s79))) (up3 (fun _ => 0) 0 s79 sx79 sy79) (sW3 cy s79 sx79 sy79 0 (fun _ => 0) (fun _ => 0)) (⟨Nat.le_refl _, by decide⟩) (fun j hj => by
    obtain rfl : j = 0 := by omega
    rw [up3_0]; rfl) (sN_snoc (S := []) (List.Perm.refl _)) up3_0 (Nat.lt_succ_self _)
