/-! the mixer: settle; what comes of it is the reference's sum -/
theorem perm_ord_eq : ∀ {A B : List sT}, A.Perm B → sOrd A → sOrd B → A = B := by
  intro A
  induction A with
  | nil => intro B h _ _; exact (List.Perm.nil_eq h)
  | cons a A ih =>
    intro B h hA hB
    cases B with
    | nil => exact absurd h.length_eq (by simp)
    | cons b B =>
      have pA := List.pairwise_cons.mp hA
      have pB := List.pairwise_cons.mp hB
      have e : a = b := by
        have h1 : a ∈ b :: B := h.mem_iff.mp (List.mem_cons_self ..)
        have h2 : b ∈ a :: A := h.mem_iff.mpr (List.mem_cons_self ..)
        rcases List.mem_cons.mp h1 with e | h1
        · exact e
        · rcases List.mem_cons.mp h2 with e | h2
          · exact e.symm
          · have g1 := pA.1 b h2
            have g2 := pB.1 a h1
            rw [i32_lt] at g1 g2
            exfalso; omega
      subst e
      rw [ih h.cons_inv pA.2 pB.2]
theorem ord_of {k1 : Nat → Int32} {n1 : Nat → Int64} {n : Nat} {B : List sT} (h : (takeS k1 n1 0 n).Perm B) (hB : sOrd B) (hs : ∀ i j, i < j → j < n → k1 i ≤ k1 j) : takeS k1 n1 0 n = B := by
  refine perm_ord_eq h ?_ hB
  rw [sOrd_iff]
  intro i j hij hj
  rw [Nat.zero_add, Nat.zero_add]
  have h1 := hs i j hij hj
  have hd : (B.map (·.1)).Nodup := by
    rw [List.Nodup, List.pairwise_map]
    exact hB.imp (fun {a b} hab e => by rw [e] at hab; exact absurd hab Int32.lt_irrefl)
  have hd2 : ((takeS k1 n1 0 n).map (·.1)).Nodup := (h.map (·.1)).nodup_iff.mpr hd
  have hne : ¬ k1 i = k1 j := by
    intro e
    rw [List.Nodup, List.pairwise_iff_getElem] at hd2
    have hl : ((takeS k1 n1 0 n).map (·.1)).length = n := by rw [List.length_map, takeS_len]
    have := hd2 i j (by omega) (by omega) hij
    apply this
    have e1 : ∀ m, (hm : m < ((takeS k1 n1 0 n).map (·.1)).length) → ((takeS k1 n1 0 n).map (·.1))[m] = k1 m := by
      intro m hm
      have q := takeS_get (ks := k1) (ns := n1) (off := 0) (show m < n by omega)
      rw [Nat.zero_add] at q
      rw [List.getElem_map]
      obtain ⟨q1, q2⟩ := List.getElem?_eq_some_iff.mp q
      rw [q2]
    rw [e1, e1]; exact e
  rw [i32_le] at h1
  rw [i32_lt]
  rw [i32_eq] at hne
  omega
theorem keepS_isS {F C : List sT} (h : F.Perm (C.filter nz)) : (keepS C).isSome = isS F := by
  have h1 : F.all (fun q => sG q 4) = (C.filter nz).all (fun q => sG q 4) := by
    rw [Bool.eq_iff_iff, List.all_eq_true, List.all_eq_true]
    exact ⟨fun g q hq => g q (h.mem_iff.mpr hq), fun g q hq => g q (h.mem_iff.mp hq)⟩
  unfold keepS isS
  rw [h1, h.length_eq, Bool.and_comm]
  split
  · rename_i hc; rw [hc]; rfl
  · rename_i hc
    cases hb : (decide ((C.filter nz).length ≤ 300) && (C.filter nz).all (fun q => sG q 4)) with
    | false => rfl
    | true => exact absurd hb hc
theorem keepS_some {C S : List sT} (h : keepS C = some S) : S = C.filter nz ∧ S.length ≤ 300 := by
  unfold keepS at h
  split at h
  · rename_i hc
    cases h
    exact ⟨rfl, of_decide_eq_true (Bool.and_eq_true_iff.mp hc).2⟩
  · cases h
/-- a sum's cells -/
def sW3 (cy : Nat → ClassId) (s0 s1 s2 : Nat) (sz : Int32) (sk : Nat → Int32) (sn : Nat → Int64) : va_W := [(s0, .inr (7, [.ref s1, .ref s2, .int sz])), (s1, .inl (cy 0, 300, .inl sk)), (s2, .inl (cy 1, 300, .inr (.inl sn)))]
def noMin (C : List sT) : Prop := ∀ q ∈ C, ¬ q.2.toInt = -9223372036854775808
theorem cpy_in {f g : Nat → Int32} {n j : Nat} (h : j < n) : va_cpy f g 0 0 n (0 + j) = f (0 + j) := by
  unfold va_cpy; rw [if_pos (by omega)]; congr 1; omega
theorem cpyL_in {f g : Nat → Int64} {n j : Nat} (h : j < n) : va_cpy f g 0 0 n (0 + j) = f (0 + j) := by
  unfold va_cpy; rw [if_pos (by omega)]; congr 1; omega
/-- a mixer at a0 that may begin -/
def mxC (cy : Nat → ClassId) (a0 : Nat) (w : va_W) : Prop := ∃ (a1 a2 a3 a4 a5 a6 : Nat) (sz : Int32) (u : Nat) (kk : Nat → Int32) (nn : Nat → Int64) (k2 : Nat → Int32) (n2 : Nat → Int64) (sl su : Nat → Int32), w = xW cy a0 a1 a2 a3 a4 a5 a6 sz (nI u) kk nn k2 n2 sl su ∧ hcl u sl su
def qx_set (cy : Nat → ClassId) (a0 s0 s1 s2 : Nat) (C : List sT) (sz : Int32) (sk : Nat → Int32) (sn : Nat → Int64) : gw_Q := fun r w' => r = some (.int (bI (keepS C).isSome)) ∧ ∃ x, mxC cy a0 x ∧ ∃ (z : Int32) (kz : Nat → Int32) (nz' : Nat → Int64), w' = x ++ sW3 cy s0 s1 s2 z kz nz' ∧ (keepS C = none → z = sz ∧ kz = sk ∧ nz' = sn) ∧ ∀ S, keepS C = some S → z = nI S.length ∧ takeS kz nz' 0 S.length = S
abbrev kX4_settle : gw_K := (yX4_settle, cX4_settle, 2, { frames := 2, cells := 0, slots := 0, locals := 63 }, (some .boolean))
theorem ok_X4_settle : gw_calV kX4_settle 1 := ⟨⟨wd_310, wd_58, by decide, by decide, by decide +kernel⟩, wd_309, wd_12⟩
set_option maxHeartbeats 4000000 in
set_option maxRecDepth 100000 in
theorem c_xsettle (l : Launch) (cy : Nat → ClassId) (a0 a1 a2 a3 a4 a5 a6 : Nat) (kk : Nat → Int32) (nn : Nat → Int64) (k2 : Nat → Int32) (n2 : Nat → Int64) (sl su : Nat → Int32) (s0 s1 s2 : Nat) (sz : Int32) (sk : Nat → Int32) (sn : Nat → Int64) (u n : Nat) (C : List sT) (hn : n ≤ 900) (hc : hcl u sl su) (hE : (takeS kk nn 0 n).Perm C) (ho : sOrd C) (hmin : noMin C) : gw_M l kX4_settle cy [.ref (a0), .ref (s0)] ((xW cy a0 a1 a2 a3 a4 a5 a6 (nI n) (nI u) kk nn k2 n2 sl su) ++ (sW3 cy s0 s1 s2 (sz) sk sn)) (qx_set cy a0 s0 s1 s2 C sz sk sn) := by
  refine gw_M.mk (lv := [some (.ref (a0)), some (.ref (s0))]) (by decide) (Nat.le_of_ble_eq_true rfl) rfl ?_
  generalize hpost : (qx_set cy a0 s0 s1 s2 C sz sk sn : gw_Q) = post
  refine gw_W.wd (w' := [(a0, .inr (3, [.ref (a1), .ref (a2), .ref (a3), .ref (a4), .int (nI (n)), .ref (a5), .ref (a6), .int (nI (u))])), (a1, .inl (cy 0, 900, .inl (kk))), (a2, .inl (cy 1, 900, .inr (.inl (nn)))), (a3, .inl (cy 0, 900, .inl (k2))), (a4, .inl (cy 1, 900, .inr (.inl (n2)))), (a5, .inl (cy 0, 2048, .inl (sl))), (a6, .inl (cy 0, 900, .inl (su))), (s0, .inr (7, [.ref (s1), .ref (s2), .int (sz)])), (s1, .inl (cy 0, 300, .inl (sk))), (s2, .inl (cy 1, 300, .inr (.inl (sn))))]) rfl ?_
  refine gw_aload_n dX4_settle_0 rfl ?_
  refine gw_W.wd (w' := (xW cy a0 a1 a2 a3 a4 a5 a6 (nI n) (nI u) kk nn k2 n2 sl su) ++ (sW3 cy s0 s1 s2 (sz) sk sn)) rfl ?_
  refine gw_callV 0 (As := []) (st := []) ((c_xdrop l cy a0 a1 a2 a3 a4 a5 a6 kk nn k2 n2 sl su (nI u) n hn).frame (f := (sW3 cy s0 s1 s2 (sz) sk sn)) (List.Perm.refl _)) ok_X4_dropZeros rfl rfl rfl wd_311 rfl rfl dX4_settle_1 (by decide) (by decide) (Nat.le_of_ble_eq_true rfl) (fun r1 w1 hp1 => ?_)
  obtain ⟨w1, ⟨rfl, m, k1, n1, rfl, m1, m2⟩, rfl⟩ := hp1
  refine gw_W.norm (st' := []) (k1 := 0) (k2 := 0) rfl rfl rfl ?_
  refine gw_W.wd (w' := [(a0, .inr (3, [.ref (a1), .ref (a2), .ref (a3), .ref (a4), .int (nI (m)), .ref (a5), .ref (a6), .int (nI (u))])), (a1, .inl (cy 0, 900, .inl (k1))), (a2, .inl (cy 1, 900, .inr (.inl (n1)))), (a3, .inl (cy 0, 900, .inl (k2))), (a4, .inl (cy 1, 900, .inr (.inl (n2)))), (a5, .inl (cy 0, 2048, .inl (sl))), (a6, .inl (cy 0, 900, .inl (su))), (s0, .inr (7, [.ref (s1), .ref (s2), .int (sz)])), (s1, .inl (cy 0, 300, .inl (sk))), (s2, .inl (cy 1, 300, .inr (.inl (sn))))]) rfl ?_
  have hF : (takeS k1 n1 0 m).Perm (C.filter nz) := by rw [m2]; exact hE.filter _
  have hM : ∀ i, i < m → ¬ (n1 i).toInt = -9223372036854775808 := fun i hi => hmin (k1 i, n1 i) (List.mem_filter.mp (hF.mem_iff.mp (takeS_mem.mpr ⟨i, hi, by simp⟩))).1
  refine gw_aload_n dX4_settle_4 rfl ?_
  refine gw_W.wd (w' := (xW cy a0 a1 a2 a3 a4 a5 a6 (nI m) (nI u) k1 n1 k2 n2 sl su) ++ (sW3 cy s0 s1 s2 (sz) sk sn)) rfl ?_
  refine gw_callV 0 (As := []) (st := []) ((c_xisSum l cy a0 a1 a2 a3 a4 a5 a6 k1 n1 k2 n2 sl su (nI u) m (by omega) hM).frame (f := (sW3 cy s0 s1 s2 (sz) sk sn)) (List.Perm.refl _)) ok_X4_isSum rfl rfl rfl wd_315 rfl rfl dX4_settle_5 (by decide) (by decide) (Nat.le_of_ble_eq_true rfl) (fun r5 w5 hp5 => ?_)
  obtain ⟨w5, ⟨rfl, rfl⟩, rfl⟩ := hp5
  refine gw_W.norm (st' := [.int (bI (isS (takeS k1 n1 0 m)))]) (k1 := 0) (k2 := 0) rfl rfl rfl ?_
  refine gw_W.wd (w' := [(a0, .inr (3, [.ref (a1), .ref (a2), .ref (a3), .ref (a4), .int (nI (m)), .ref (a5), .ref (a6), .int (nI (u))])), (a1, .inl (cy 0, 900, .inl (k1))), (a2, .inl (cy 1, 900, .inr (.inl (n1)))), (a3, .inl (cy 0, 900, .inl (k2))), (a4, .inl (cy 1, 900, .inr (.inl (n2)))), (a5, .inl (cy 0, 2048, .inl (sl))), (a6, .inl (cy 0, 900, .inl (su))), (s0, .inr (7, [.ref (s1), .ref (s2), .int (sz)])), (s1, .inl (cy 0, 300, .inl (sk))), (s2, .inl (cy 1, 300, .inr (.inl (sn))))]) rfl ?_
  refine gw_if_ne (tgt := 13) dX4_settle_8 (by decide) (fun c8 => ?_) (fun c8 => ?_)
  · rw [bI_n0] at c8
    have m5 : m ≤ 300 := by
      unfold isS at c8; rw [takeS_len] at c8
      exact of_decide_eq_true (Bool.and_eq_true_iff.mp c8).1
    refine gw_aload_n dX4_settle_13 rfl ?_
    refine gw_W.wd (w' := (xW cy a0 a1 a2 a3 a4 a5 a6 (nI m) (nI u) k1 n1 k2 n2 sl su) ++ (sW3 cy s0 s1 s2 (sz) sk sn)) rfl ?_
    refine gw_callV 0 (As := []) (st := []) ((c_xsort l cy a0 a1 a2 a3 a4 a5 a6 k1 n1 k2 n2 sl su (nI u) m (by omega)).frame (f := (sW3 cy s0 s1 s2 (sz) sk sn)) (List.Perm.refl _)) ok_X4_sort rfl rfl rfl wd_326 rfl rfl dX4_settle_14 (by decide) (by decide) (Nat.le_of_ble_eq_true rfl) (fun r14 w14 hp14 => ?_)
    obtain ⟨w14, ⟨rfl, b1, b2, b3, b4, k3, n3, k4, n4, rfl, m3, m4⟩, rfl⟩ := hp14
    refine gw_W.norm (st' := []) (k1 := 0) (k2 := 0) rfl rfl rfl ?_
    refine gw_W.wd (w' := [(a0, .inr (3, [.ref (b1), .ref (b2), .ref (b3), .ref (b4), .int (nI (m)), .ref (a5), .ref (a6), .int (nI (u))])), (b1, .inl (cy 0, 900, .inl (k3))), (b2, .inl (cy 1, 900, .inr (.inl (n3)))), (b3, .inl (cy 0, 900, .inl (k4))), (b4, .inl (cy 1, 900, .inr (.inl (n4)))), (a5, .inl (cy 0, 2048, .inl (sl))), (a6, .inl (cy 0, 900, .inl (su))), (s0, .inr (7, [.ref (s1), .ref (s2), .int (sz)])), (s1, .inl (cy 0, 300, .inl (sk))), (s2, .inl (cy 1, 300, .inr (.inl (sn))))]) rfl ?_
    refine gw_aload_n dX4_settle_17 rfl ?_
    refine gw_get (C0 := RX4) (T := TX4) (N := 8) (ref := RX4) 0 rfl rfl inX4 0 (by decide) wd_90 (Or.inl rfl) rfl dX4_settle_18 ?_
    refine gw_iconst (v := nI (0)) dX4_settle_21 (by decide) ?_
    refine gw_aload_n dX4_settle_22 rfl ?_
    refine gw_getN (C0 := RX9) (T := TX9) (N := 3) (ref := RX9) 7 rfl rfl inX9 0 (by decide) (host := "SpinBench") (by decide +kernel) (Or.inl rfl) rfl dX4_settle_23 ?_
    refine gw_iconst (v := nI (0)) dX4_settle_26 (by decide) ?_
    refine gw_aload_n dX4_settle_27 rfl ?_
    refine gw_get (C0 := RX4) (T := TX4) (N := 8) (ref := RX4) 0 rfl rfl inX4 4 (by decide) wd_94 (Or.inl rfl) rfl dX4_settle_28 ?_
    refine gw_copyI (sp := 0) (dp := 0) (n := m) wd_335 wd_268 wd_267 wd_64 1 8 rfl rfl (rfl) (rfl) (rfl) (by omega) (by omega) (by decide) ⟨by decide, Nat.le_of_ble_eq_true rfl⟩ dX4_settle_31 ?_
    refine gw_W.wd (w' := [(a0, .inr (3, [.ref (b1), .ref (b2), .ref (b3), .ref (b4), .int (nI (m)), .ref (a5), .ref (a6), .int (nI (u))])), (b1, .inl (cy 0, 900, .inl (k3))), (b2, .inl (cy 1, 900, .inr (.inl (n3)))), (b3, .inl (cy 0, 900, .inl (k4))), (b4, .inl (cy 1, 900, .inr (.inl (n4)))), (a5, .inl (cy 0, 2048, .inl (sl))), (a6, .inl (cy 0, 900, .inl (su))), (s0, .inr (7, [.ref (s1), .ref (s2), .int (sz)])), (s1, .inl (cy 0, 300, .inl (va_cpy k3 sk 0 0 m))), (s2, .inl (cy 1, 300, .inr (.inl (sn))))]) rfl ?_
    refine gw_aload_n dX4_settle_34 rfl ?_
    refine gw_get (C0 := RX4) (T := TX4) (N := 8) (ref := RX4) 0 rfl rfl inX4 1 (by decide) wd_91 (Or.inl rfl) rfl dX4_settle_35 ?_
    refine gw_iconst (v := nI (0)) dX4_settle_38 (by decide) ?_
    refine gw_aload_n dX4_settle_39 rfl ?_
    refine gw_getN (C0 := RX9) (T := TX9) (N := 3) (ref := RX9) 7 rfl rfl inX9 1 (by decide) (host := "SpinBench") (by decide +kernel) (Or.inl rfl) rfl dX4_settle_40 ?_
    refine gw_iconst (v := nI (0)) dX4_settle_43 (by decide) ?_
    refine gw_aload_n dX4_settle_44 rfl ?_
    refine gw_get (C0 := RX4) (T := TX4) (N := 8) (ref := RX4) 0 rfl rfl inX4 4 (by decide) wd_94 (Or.inl rfl) rfl dX4_settle_45 ?_
    refine gw_copyJ (sp := 0) (dp := 0) (n := m) wd_335 wd_268 wd_267 wd_64 2 9 rfl rfl (rfl) (rfl) (rfl) (by omega) (by omega) (by decide) ⟨by decide, Nat.le_of_ble_eq_true rfl⟩ dX4_settle_48 ?_
    refine gw_W.wd (w' := [(a0, .inr (3, [.ref (b1), .ref (b2), .ref (b3), .ref (b4), .int (nI (m)), .ref (a5), .ref (a6), .int (nI (u))])), (b1, .inl (cy 0, 900, .inl (k3))), (b2, .inl (cy 1, 900, .inr (.inl (n3)))), (b3, .inl (cy 0, 900, .inl (k4))), (b4, .inl (cy 1, 900, .inr (.inl (n4)))), (a5, .inl (cy 0, 2048, .inl (sl))), (a6, .inl (cy 0, 900, .inl (su))), (s0, .inr (7, [.ref (s1), .ref (s2), .int (sz)])), (s1, .inl (cy 0, 300, .inl (va_cpy k3 sk 0 0 m))), (s2, .inl (cy 1, 300, .inr (.inl (va_cpy n3 sn 0 0 m))))]) rfl ?_
    refine gw_aload_n dX4_settle_51 rfl ?_
    refine gw_aload_n dX4_settle_52 rfl ?_
    refine gw_get (C0 := RX4) (T := TX4) (N := 8) (ref := RX4) 0 rfl rfl inX4 4 (by decide) wd_94 (Or.inl rfl) rfl dX4_settle_53 ?_
    refine gw_putN (C0 := RX9) (T := TX9) (N := 3) (ref := RX9) (ty := tyX9 2) 7 rfl rfl inX9 2 (by decide) tyX9 tyX9_ok nmX9 (host := "SpinBench") (by decide +kernel) (Or.inl rfl) rfl (tyX9_ok 2 (by decide)) (rfl) rfl (Nat.le_of_ble_eq_true rfl) dX4_settle_56 ?_
    refine gw_W.wd (w' := [(a0, .inr (3, [.ref (b1), .ref (b2), .ref (b3), .ref (b4), .int (nI (m)), .ref (a5), .ref (a6), .int (nI (u))])), (b1, .inl (cy 0, 900, .inl (k3))), (b2, .inl (cy 1, 900, .inr (.inl (n3)))), (b3, .inl (cy 0, 900, .inl (k4))), (b4, .inl (cy 1, 900, .inr (.inl (n4)))), (a5, .inl (cy 0, 2048, .inl (sl))), (a6, .inl (cy 0, 900, .inl (su))), (s0, .inr (7, [.ref (s1), .ref (s2), .int (nI (m))])), (s1, .inl (cy 0, 300, .inl (va_cpy k3 sk 0 0 m))), (s2, .inl (cy 1, 300, .inr (.inl (va_cpy n3 sn 0 0 m))))]) rfl ?_
    refine gw_iconst (v := nI (1)) dX4_settle_59 (by decide) ?_
    refine gw_zret (?_) (by decide) (by decide) rfl (by decide) dX4_settle_60
    subst hpost
    have e9 : takeS k3 n3 0 m = C.filter nz := ord_of (m3.trans hF) (List.Pairwise.filter _ ho) m4
    have e8 : keepS C = some (C.filter nz) := by
      cases hk : keepS C with
      | none => have := keepS_isS hF; rw [hk, c8] at this; cases this
      | some S => rw [(keepS_some hk).1]
    have e7 : m = (C.filter nz).length := by rw [← e9, takeS_len]
    unfold qx_set
    rw [e8]
    refine ⟨rfl, _, ⟨_, _, _, _, _, _, _, _, _, _, _, _, _, _, rfl, hc⟩, _, _, _, rfl, (fun h => by cases h), fun S h => ?_⟩
    cases h
    refine ⟨by rw [e7], ?_⟩
    rw [← e7]
    conv => rhs; rw [← e9]
    exact takeS_congr (fun j hj => ⟨cpy_in (by omega), cpyL_in (by omega)⟩)
  · rw [bI_0] at c8
    refine gw_iconst (v := nI (0)) dX4_settle_11 (by decide) ?_
    refine gw_zret (?_) (by decide) (by decide) rfl (by decide) dX4_settle_12
    subst hpost
    have e : keepS C = none := by
      cases hk : keepS C with
      | none => rfl
      | some S => have := keepS_isS hF; rw [hk, c8] at this; cases this
    unfold qx_set
    rw [e]
    exact ⟨rfl, _, ⟨_, _, _, _, _, _, _, _, _, _, _, _, _, _, rfl, hc⟩, sz, sk, sn, rfl, fun _ => ⟨rfl, rfl, rfl⟩, fun S h => by cases h⟩
