/-! products: multiply. Rows that read a cell of which only its membership is known -/
theorem gw_getMN {l : Launch} {κ : gw_K} {cy : Nat → ClassId} {Z : gw_Z} {w : va_W} {n1 n2 pc : Nat} {lv : List (Option Value)} {st : List Value} {a ci index N : Nat} {ref C0 : String} {T : u_T} {fs : List Value} (hm : (a, .inr (ci, fs)) ∈ w) (hc : vwCl[ci]? = some (C0, T, N)) (hin : ∀ x ∈ u_ws C0 T N, x ∈ gw_All) (f : Nat) (hf : f < N) {host : String} (hk : Cond.fieldLinkNest κ.1.cls index ref (T f).2.1 (T f).2.2.1 host ∈ gw_N) (hs : gw_same gw_All ref (T f).1 (T f).2.1 (T f).2.2.1) {v : Value} (hv : fs[f]? = some v) (hd : decode κ.2.1 pc = .ok (.getfield index, 3)) (k : gw_W l κ cy Z w n1 n2 (pc + 3) lv (v :: st)) : gw_W l κ cy Z w n1 n2 pc lv (.ref a :: st) := by
  obtain ⟨q0, he⟩ := List.getElem?_of_mem hm
  exact gw_getN q0 he hc hin f hf hk hs hv hd k
theorem gw_getM {l : Launch} {κ : gw_K} {cy : Nat → ClassId} {Z : gw_Z} {w : va_W} {n1 n2 pc : Nat} {lv : List (Option Value)} {st : List Value} {a ci index N : Nat} {ref C0 : String} {T : u_T} {fs : List Value} (hm : (a, .inr (ci, fs)) ∈ w) (hc : vwCl[ci]? = some (C0, T, N)) (hin : ∀ x ∈ u_ws C0 T N, x ∈ gw_All) (f : Nat) (hf : f < N) (hk : Cond.fieldLink κ.1.cls index ref (T f).2.1 (T f).2.2.1 ∈ gw_All) (hs : gw_same gw_All ref (T f).1 (T f).2.1 (T f).2.2.1) {v : Value} (hv : fs[f]? = some v) (hd : decode κ.2.1 pc = .ok (.getfield index, 3)) (k : gw_W l κ cy Z w n1 n2 (pc + 3) lv (v :: st)) : gw_W l κ cy Z w n1 n2 pc lv (.ref a :: st) := by
  obtain ⟨q0, he⟩ := List.getElem?_of_mem hm
  exact gw_get q0 he hc hin f hf hk hs hv hd k
theorem gw_ialdM {l : Launch} {κ : gw_K} {cy : Nat → ClassId} {Z : gw_Z} {w : va_W} {n1 n2 pc : Nat} {lv : List (Option Value)} {st : List Value} {a N j : Nat} {f : Nat → Int32} {i : Int32} (hm : (a, .inl (cy 0, N, .inl f)) ∈ w) (hi : i = nI j) (hj : j < N) (hN : N < 2 ^ 31) (hd : decode κ.2.1 pc = .ok (.iaload, 1)) (k : gw_W l κ cy Z w n1 n2 (pc + 1) lv (.int (f j) :: st)) : gw_W l κ cy Z w n1 n2 pc lv (.int i :: .ref a :: st) := by
  obtain ⟨q0, he⟩ := List.getElem?_of_mem hm
  exact gw_iald q0 he hi hj hN hd k
theorem gw_laldM {l : Launch} {κ : gw_K} {cy : Nat → ClassId} {Z : gw_Z} {w : va_W} {n1 n2 pc : Nat} {lv : List (Option Value)} {st : List Value} {a N j : Nat} {f : Nat → Int64} {i : Int32} (hm : (a, .inl (cy 1, N, .inr (.inl f))) ∈ w) (hi : i = nI j) (hj : j < N) (hN : N < 2 ^ 31) (hd : decode κ.2.1 pc = .ok (.laload, 1)) (k : gw_W l κ cy Z w n1 n2 (pc + 1) lv (.long (f j) :: st)) : gw_W l κ cy Z w n1 n2 pc lv (.int i :: .ref a :: st) := by
  obtain ⟨q0, he⟩ := List.getElem?_of_mem hm
  exact gw_lald q0 he hi hj hN hd k
theorem ssP_mem {cy : Nat → ClassId} {sa : Nat → Nat} {cs : Nat → List sT} {s : va_W} (h : ssP cy sa cs s) {i : Nat} (hi : i < 18) : ∃ (sk : Nat → Int32) (sn : Nat → Int64), (sa (3 * i), .inr (7, [.ref (sa (3 * i + 1)), .ref (sa (3 * i + 2)), .int (nI (cs i).length)])) ∈ s ∧ (sa (3 * i + 1), .inl (cy 0, 300, .inl sk)) ∈ s ∧ (sa (3 * i + 2), .inl (cy 1, 300, .inr (.inl sn))) ∈ s ∧ (cs i).length ≤ 300 ∧ takeS sk sn 0 (cs i).length = cs i := by
  obtain ⟨sk, sn, R, g1, g2, g3, -⟩ := ssP_open h hi
  refine ⟨sk, sn, ?_, ?_, ?_, g2, g3⟩
  · exact g1.mem_iff.mpr (List.mem_append_left _ (List.mem_cons_self ..))
  · exact g1.mem_iff.mpr (List.mem_append_left _ (List.mem_cons_of_mem _ (List.mem_cons_self ..)))
  · exact g1.mem_iff.mpr (List.mem_append_left _ (List.mem_cons_of_mem _ (List.mem_cons_of_mem _ (List.mem_cons_self ..))))
theorem uP_m {n : Nat} {k : Int32} (hn : n ≤ 4) (h : keyOK n k) : uProd k = mProd k := by rw [uProd_kn h hn, kn_prod h hn]
theorem prS_bad2 {ka kb : Nat → Int32} {na nb : Nat → Int64} {i j a b : Nat} {F : Option (List sT)} (hi : i < a) (hj : j < b) (hF : prS (takeS ka na 0 i) (takeS kb nb 0 b) = F) (hN : prRow F (ka i, na i) (takeS kb nb 0 (j + 1)) = none) : prS (takeS ka na 0 a) (takeS kb nb 0 b) = none := by
  obtain ⟨d, rfl⟩ : ∃ d, a = (i + 1) + d := ⟨a - (i + 1), by omega⟩
  obtain ⟨e, rfl⟩ : ∃ e, b = (j + 1) + e := ⟨b - (j + 1), by omega⟩
  have h1 : prRow F (ka i, na i) (takeS kb nb 0 (j + 1 + e)) = none := by
    rw [takeS_split kb nb 0 (j + 1) e, prRow_app, hN, prRow_none]
  rw [takeS_split ka na 0 (i + 1) d, takeS_snoc, Nat.zero_add]
  unfold prS
  rw [List.foldl_append]
  have h2 : (takeS ka na 0 i ++ [(ka i, na i)]).foldl (fun F p => prRow F p (takeS kb nb 0 (j + 1 + e))) (some []) = none := by
    have := prS_snoc (ka i, na i) (takeS ka na 0 i) (takeS kb nb 0 (j + 1 + e))
    rw [hF, h1] at this; exact this
  rw [h2, prS_none]
theorem prIn_mul {v u : Int64} (h : prIn v u = true) : (v * u).toInt.natAbs ≤ 1000000000000 := by
  unfold prIn at h
  rw [inZ_t] at h
  have h2 : v.toInt.natAbs ≤ 1000000000000 / u.toInt.natAbs := by
    have e : (1000000000000 : Int) / (u.toInt.natAbs : Int) = ((1000000000000 / u.toInt.natAbs : Nat) : Int) := by rw [Int.natCast_ediv]; rfl
    omega
  have h3 : v.toInt.natAbs * u.toInt.natAbs ≤ 1000000000000 := Nat.le_trans (Nat.mul_le_mul_right _ h2) (Nat.div_mul_le_self _ _)
  rw [i64_mul' (by omega), Int.natAbs_mul]; exact h3
theorem mulP_bnd {a b : Int32} {v : Int64} (h : v.toInt.natAbs ≤ 1000000000000) : bnd 1000000000000 (mulP a b v) := by
  intro q hq
  unfold mulP mRows at hq
  obtain ⟨so, -, e⟩ := List.mem_map.mp hq
  rw [← e]
  show (mNum v so 4).toInt.natAbs ≤ _
  rw [mNum_c]
  split
  · exact h
  · rw [Int64.toInt_neg, Int.bmod_eq_of_le]
    · omega
    · have : (2 ^ 64 : Nat) / 2 = 9223372036854775808 := by decide
      omega
    · have : ((2 ^ 64 : Nat) + 1) / 2 = 9223372036854775808 := by decide
      omega
theorem mul_bnd {C : List sT} {a b : Int32} {v : Int64} {z : Nat} (h : v.toInt.natAbs ≤ 1000000000000) (hC : bnd (16000000000000 * z) C) (hz : z ≤ 100000) : bnd (16000000000000 * (z + 1)) (sPuts C (mulP a b v)) := by
  have hl : (mulP a b v).length ≤ 16 := mRows_le _ _ _ _
  have h1 := sPuts_bnd (mulP_bnd (a := a) (b := b) h) hC (by omega)
  intro q hq
  have := h1 q hq
  omega
noncomputable def prF (A B : List sT) : Option (List sT) := (prS A B).bind keepS
abbrev kX4_multiply : gw_K := (yX4_multiply, cX4_multiply, 6, { frames := 4, cells := 0, slots := 0, locals := 91 }, (some .boolean))
theorem ok_X4_multiply : gw_calV kX4_multiply 3 := ⟨⟨wd_432, wd_58, by decide, by decide, by decide +kernel⟩, wd_431, wd_23⟩
set_option maxHeartbeats 4000000 in
set_option maxRecDepth 100000 in
theorem s_multiply (l : Launch) (cy : Nat → ClassId) (a0 : Nat) (sa : Nat → Nat) (cs : Nat → List sT) (w : va_W) (t i j n : Nat) (hx : xsP cy a0 sa cs w) (ht : t < 18) (hi : i < 18) (hj : j < 18) (hn : n ≤ 4) (hA : ∀ y ∈ cs i, nz y = true ∧ sG y 4 = true ∧ keyOK n y.1) (hB : ∀ y ∈ cs j, nz y = true ∧ sG y 4 = true ∧ keyOK n y.1) : gw_M l kX4_multiply cy [.ref (a0), .ref (sa (3 * t)), .ref (sa (3 * i)), .ref (sa (3 * j))] w (fun r w' => r = some (.int (bI (prF (cs i) (cs j)).isSome)) ∧ xsP cy a0 sa (kpc cs t (prF (cs i) (cs j))) w') := by
  refine gw_M.mk (lv := [some (.ref (a0)), some (.ref (sa (3 * t))), some (.ref (sa (3 * i))), some (.ref (sa (3 * j))), none, none]) (by decide) (Nat.le_of_ble_eq_true rfl) rfl ?_
  generalize hpost : (fun r w' => r = some (.int (bI (prF (cs i) (cs j)).isSome)) ∧ xsP cy a0 sa (kpc cs t (prF (cs i) (cs j))) w' : gw_Q) = post
  refine gw_aload_n dX4_multiply_0 rfl ?_
  refine gw_callH (As := []) (st := []) (s_begin l cy a0 sa cs w hx) ok_X4_begin (xsP_has hx) rfl rfl wd_354 rfl rfl dX4_multiply_1 (by decide) (by decide) (Nat.le_of_ble_eq_true rfl) (fun r1 w1 hp1 => ?_)
  obtain ⟨rfl, x, s, hw, hx0, hs⟩ := hp1
  obtain ⟨kp, np, p1, p2, p3, p4, p5⟩ := ssP_mem hs hi
  obtain ⟨kq, nq, q1, q2, q3, q4, q5⟩ := ssP_mem hs hj
  refine gw_W.norm (st' := []) (k1 := 0) (k2 := 0) rfl rfl rfl ?_
  refine gw_W.perm hw ?_
  refine gw_iconst (v := nI (0)) dX4_multiply_4 (by decide) ?_
  refine gw_istore dX4_multiply_5 (by decide) rfl ?_
  have cut7 : ∀ (fu : Nat) (p : Nat) (C1 : List sT) (x1 : va_W), (p ≤ (cs i).length) → (prS (takeS kp np 0 p) (takeS kq nq 0 (cs j).length) = some C1) → (C1.length ≤ 300) → (mxP cy a0 C1 x1) → (bnd (16000000000000 * (p * 300)) C1) → ((cs i).length - p) < fu → gw_W l kX4_multiply cy (gw_R kX4_multiply post) (x1 ++ s) 0 0 7 [some (.ref (a0)), some (.ref (sa (3 * t))), some (.ref (sa (3 * i))), some (.ref (sa (3 * j))), some (.int (nI (p))), none] [] := by
    intro fu
    induction fu with
    | zero => intro p C1 x1 h1 h2 h3 h4 h5 hfu; exact absurd hfu (Nat.not_lt_zero _)
    | succ fu ih7 =>
      intro p C1 x1 h1 h2 h3 h4 h5 hfu
      refine gw_iload dX4_multiply_7 rfl ?_
      refine gw_aload_n dX4_multiply_9 rfl ?_
      refine gw_getMN (C0 := RX9) (T := TX9) (N := 3) (ref := RX9) (List.mem_append_right _ p1) rfl inX9 2 (by decide) (host := "SpinBench") (by decide +kernel) (Or.inl rfl) rfl dX4_multiply_10 ?_
      refine gw_icmpN_ge (tgt := 124) dX4_multiply_13 (by decide) (by omega) (by omega) (fun c13 => ?_) (fun c13 => ?_)
      · have e1 : p = (cs i).length := by omega
        rw [e1, p5, q5] at h2
        rw [e1] at h5
        refine gw_aload_n dX4_multiply_124 rfl ?_
        refine gw_aload_n dX4_multiply_125 rfl ?_
        refine gw_callH (As := [.ref (sa (3 * t))]) (st := []) (s_settle l cy a0 sa cs C1 (x1 ++ s) t ⟨x1, s, List.Perm.refl _, h4, hs⟩ ht (bnd_min h5 (by omega))) ok_X4_settle ((mxP_has h4).left) rfl rfl wd_356 rfl rfl dX4_multiply_126 (by decide) (by decide) (Nat.le_of_ble_eq_true rfl) (fun r126 w126 hp126 => ?_)
        obtain ⟨rfl, h9⟩ := hp126
        refine gw_W.norm (st' := [.int (bI (keepS C1).isSome)]) (k1 := 0) (k2 := 0) rfl rfl rfl ?_
        refine gw_zret (?_) (by decide) (by decide) rfl (bI_nar _) dX4_multiply_129
        subst hpost
        have eF : prF (cs i) (cs j) = keepS C1 := by unfold prF; rw [h2]; rfl
        rw [eF]
        exact ⟨rfl, h9⟩
      · refine gw_iconst (v := nI (0)) dX4_multiply_16 (by decide) ?_
        refine gw_istore dX4_multiply_17 (by decide) rfl ?_
        have cut19 : ∀ (fu : Nat) (q : Nat) (C1 : List sT) (x1 : va_W), (q ≤ (cs j).length) → (prRow (prS (takeS kp np 0 p) (takeS kq nq 0 (cs j).length)) (kp p, np p) (takeS kq nq 0 q) = some C1) → (C1.length ≤ 300) → (mxP cy a0 C1 x1) → (bnd (16000000000000 * (p * 300 + q)) C1) → ((cs j).length - q) < fu → gw_W l kX4_multiply cy (gw_R kX4_multiply post) (x1 ++ s) 0 0 19 [some (.ref (a0)), some (.ref (sa (3 * t))), some (.ref (sa (3 * i))), some (.ref (sa (3 * j))), some (.int (nI (p))), some (.int (nI (q)))] [] := by
          intro fu
          induction fu with
          | zero => intro q C1 x1 g1 g2 g3 g4 g5 hfu; exact absurd hfu (Nat.not_lt_zero _)
          | succ fu ih19 =>
            intro q C1 x1 g1 g2 g3 g4 g5 hfu
            refine gw_iload dX4_multiply_19 rfl ?_
            refine gw_aload_n dX4_multiply_21 rfl ?_
            refine gw_getMN (C0 := RX9) (T := TX9) (N := 3) (ref := RX9) (List.mem_append_right _ q1) rfl inX9 2 (by decide) (host := "SpinBench") (by decide +kernel) (Or.inl rfl) rfl dX4_multiply_22 ?_
            refine gw_icmpN_ge (tgt := 118) dX4_multiply_25 (by decide) (by omega) (by omega) (fun c25 => ?_) (fun c25 => ?_)
            · have e2 : q = (cs j).length := by omega
              rw [e2] at g2
              refine gw_iinc (v := nI (p + 1)) dX4_multiply_118 rfl (nI_add _ 1) (by decide) rfl ?_
              refine gw_goto (tgt := 7) dX4_multiply_121 (by decide) ?_
              refine gw_W.forget 5 ?_
              refine ih7 (p + 1) (C1) (x1) (by omega) (by rw [takeS_snoc, prS_snoc, Nat.zero_add]; exact g2) g3 g4 (fun y hy => Nat.le_trans (g5 y hy) (by omega)) ?_
              omega
            · have kp1 := hA (kp p, np p) (by rw [← p5]; exact takeS_mem.mpr ⟨p, by omega, by rw [Nat.zero_add]⟩)
              have kq1 := hB (kq q, nq q) (by rw [← q5]; exact takeS_mem.mpr ⟨q, by omega, by rw [Nat.zero_add]⟩)
              have kok : keyOK n (kp p) ∧ keyOK n (kq q) := ⟨kp1.2.2, kq1.2.2⟩
              have un : ¬ nq q = 0 := of_decide_eq_true kq1.1
              have ug := (Bool.and_eq_true_iff.mp kq1.2.1).1
              have vg := (Bool.and_eq_true_iff.mp kp1.2.1).1
              have ug : -1000000000000 ≤ (nq q).toInt ∧ (nq q).toInt ≤ 1000000000000 := inZ_t.mp ug
              have vg : -1000000000000 ≤ (np p).toInt ∧ (np p).toInt ≤ 1000000000000 := inZ_t.mp vg
              have cut112 : ∀ (C2 : List sT) (x2 : va_W), (prRow (prS (takeS kp np 0 p) (takeS kq nq 0 (cs j).length)) (kp p, np p) (takeS kq nq 0 (q + 1)) = some C2) → (C2.length ≤ 300) → (mxP cy a0 C2 x2) → (bnd (16000000000000 * (p * 300 + (q + 1))) C2) → gw_W l kX4_multiply cy (gw_R kX4_multiply post) (x2 ++ s) 0 0 112 [some (.ref (a0)), some (.ref (sa (3 * t))), some (.ref (sa (3 * i))), some (.ref (sa (3 * j))), some (.int (nI (p))), some (.int (nI (q)))] [] := by
                intro C2 x2 r2 r3 r4 r5
                refine gw_iinc (v := nI (q + 1)) dX4_multiply_112 rfl (nI_add _ 1) (by decide) rfl ?_
                refine gw_goto (tgt := 19) dX4_multiply_115 (by decide) ?_
                refine ih19 (q + 1) (C2) (x2) (by omega) r2 r3 r4 r5 ?_
                omega
              refine gw_aload_n dX4_multiply_28 rfl ?_
              refine gw_getMN (C0 := RX9) (T := TX9) (N := 3) (ref := RX9) (List.mem_append_right _ p1) rfl inX9 0 (by decide) (host := "SpinBench") (by decide +kernel) (Or.inl rfl) rfl dX4_multiply_29 ?_
              refine gw_iload dX4_multiply_32 rfl ?_
              refine gw_ialdM (List.mem_append_right _ p2) (rfl) (by omega) (by decide) dX4_multiply_34 ?_
              refine gw_callSN (As := [.int (kp (p))]) (st := []) (c_productOf l cy (kp (p)) (x1 ++ s)) ok_X11_productOf (host := "SpinBench") (by decide +kernel) rfl rfl dX4_multiply_35 (by decide) (by decide) (Nat.le_of_ble_eq_true rfl) (fun r35 w35 hp35 => ?_)
              obtain ⟨rfl, hw35⟩ := hp35
              rw [hw35]
              clear hw35 w35
              refine gw_W.norm (st' := [.int (uProd (kp (p)))]) (k1 := 0) (k2 := 0) rfl rfl rfl ?_
              refine gw_aload_n dX4_multiply_38 rfl ?_
              refine gw_getMN (C0 := RX9) (T := TX9) (N := 3) (ref := RX9) (List.mem_append_right _ q1) rfl inX9 0 (by decide) (host := "SpinBench") (by decide +kernel) (Or.inl rfl) rfl dX4_multiply_39 ?_
              refine gw_iload dX4_multiply_42 rfl ?_
              refine gw_ialdM (List.mem_append_right _ q2) (rfl) (by omega) (by decide) dX4_multiply_44 ?_
              refine gw_callSN (As := [.int (kq (q))]) (st := [.int (uProd (kp (p)))]) (c_productOf l cy (kq (q)) (x1 ++ s)) ok_X11_productOf (host := "SpinBench") (by decide +kernel) rfl rfl dX4_multiply_45 (by decide) (by decide) (Nat.le_of_ble_eq_true rfl) (fun r45 w45 hp45 => ?_)
              obtain ⟨rfl, hw45⟩ := hp45
              rw [hw45]
              clear hw45 w45
              refine gw_W.norm (st' := [.int (uProd (kq (q))), .int (uProd (kp (p)))]) (k1 := 0) (k2 := 0) rfl rfl rfl ?_
              refine gw_icmp_eq (tgt := 54) dX4_multiply_48 (by decide) (fun c48 => ?_) (fun c48 => ?_)
              · rw [uP_m hn kok.1, uP_m hn kok.2] at c48
                refine gw_aload_n dX4_multiply_54 rfl ?_
                refine gw_getMN (C0 := RX9) (T := TX9) (N := 3) (ref := RX9) (List.mem_append_right _ p1) rfl inX9 1 (by decide) (host := "SpinBench") (by decide +kernel) (Or.inl rfl) rfl dX4_multiply_55 ?_
                refine gw_iload dX4_multiply_58 rfl ?_
                refine gw_laldM (List.mem_append_right _ p3) (rfl) (by omega) (by decide) dX4_multiply_60 ?_
                refine gw_aload_n dX4_multiply_61 rfl ?_
                refine gw_getMN (C0 := RX9) (T := TX9) (N := 3) (ref := RX9) (List.mem_append_right _ q1) rfl inX9 1 (by decide) (host := "SpinBench") (by decide +kernel) (Or.inl rfl) rfl dX4_multiply_62 ?_
                refine gw_iload dX4_multiply_65 rfl ?_
                refine gw_laldM (List.mem_append_right _ q3) (rfl) (by omega) (by decide) dX4_multiply_67 ?_
                refine gw_callS (As := [.long (np (p)), .long (nq (q))]) (st := []) (c_isBeyond l cy (np (p)) (nq (q)) (by omega) un (by omega) (x1 ++ s)) ok_X4_isBeyond wd_434 rfl rfl dX4_multiply_68 (by decide) (by decide) (Nat.le_of_ble_eq_true rfl) (fun r68 w68 hp68 => ?_)
                obtain ⟨rfl, hw68⟩ := hp68
                rw [hw68]
                clear hw68 w68
                refine gw_W.norm (st' := [.int (bI (!prIn (np (p)) (nq (q))))]) (k1 := 0) (k2 := 0) rfl rfl rfl ?_
                refine gw_if_ne (tgt := 110) dX4_multiply_71 (by decide) (fun c71 => ?_) (fun c71 => ?_)
                · have d71 : prIn (np p) (nq q) = false := by rw [bI_n0] at c71; simpa using c71
                  refine gw_iconst (v := nI (0)) dX4_multiply_110 (by decide) ?_
                  refine gw_zret (?_) (by decide) (by decide) rfl (by decide) dX4_multiply_111
                  subst hpost
                  have eN : prRow (prS (takeS kp np 0 p) (takeS kq nq 0 (cs j).length)) (kp p, np p) (takeS kq nq 0 (q + 1)) = none := by
                    rw [takeS_snoc, prRow_snoc, g2, Nat.zero_add]
                    first
                    | exact prOne_no (p := (kp p, np p)) (q := (kq q, nq q)) c48 (Or.inl d71)
                    | exact prOne_no (p := (kp p, np p)) (q := (kq q, nq q)) c48 (Or.inr c107)
                  have eS := prS_bad2 (i := p) (j := q) (a := (cs i).length) (b := (cs j).length) (by omega) (by omega) rfl eN
                  rw [p5, q5] at eS
                  have eF : prF (cs i) (cs j) = none := by unfold prF; rw [eS]; rfl
                  rw [eF]
                  first
                    | exact ⟨rfl, x1, s, List.Perm.refl _, mxP_C g4, hs⟩
                    | exact ⟨rfl, x104, s, List.Perm.refl _, z104, hs⟩
                · have d71 : prIn (np p) (nq q) = true := by rw [bI_0] at c71; simpa using c71
                  refine gw_aload_n dX4_multiply_74 rfl ?_
                  refine gw_aload_n dX4_multiply_75 rfl ?_
                  refine gw_getMN (C0 := RX9) (T := TX9) (N := 3) (ref := RX9) (List.mem_append_right _ p1) rfl inX9 0 (by decide) (host := "SpinBench") (by decide +kernel) (Or.inl rfl) rfl dX4_multiply_76 ?_
                  refine gw_iload dX4_multiply_79 rfl ?_
                  refine gw_ialdM (List.mem_append_right _ p2) (rfl) (by omega) (by decide) dX4_multiply_81 ?_
                  refine gw_aload_n dX4_multiply_82 rfl ?_
                  refine gw_getMN (C0 := RX9) (T := TX9) (N := 3) (ref := RX9) (List.mem_append_right _ q1) rfl inX9 0 (by decide) (host := "SpinBench") (by decide +kernel) (Or.inl rfl) rfl dX4_multiply_83 ?_
                  refine gw_iload dX4_multiply_86 rfl ?_
                  refine gw_ialdM (List.mem_append_right _ q2) (rfl) (by omega) (by decide) dX4_multiply_88 ?_
                  refine gw_aload_n dX4_multiply_89 rfl ?_
                  refine gw_getMN (C0 := RX9) (T := TX9) (N := 3) (ref := RX9) (List.mem_append_right _ p1) rfl inX9 1 (by decide) (host := "SpinBench") (by decide +kernel) (Or.inl rfl) rfl dX4_multiply_90 ?_
                  refine gw_iload dX4_multiply_93 rfl ?_
                  refine gw_laldM (List.mem_append_right _ p3) (rfl) (by omega) (by decide) dX4_multiply_95 ?_
                  refine gw_aload_n dX4_multiply_96 rfl ?_
                  refine gw_getMN (C0 := RX9) (T := TX9) (N := 3) (ref := RX9) (List.mem_append_right _ q1) rfl inX9 1 (by decide) (host := "SpinBench") (by decide +kernel) (Or.inl rfl) rfl dX4_multiply_97 ?_
                  refine gw_iload dX4_multiply_100 rfl ?_
                  refine gw_laldM (List.mem_append_right _ q3) (rfl) (by omega) (by decide) dX4_multiply_102 ?_
                  refine gw_lmul dX4_multiply_103 ?_
                  refine gw_callH (As := [.int (kp (p)), .int (kq (q)), .long ((np (p)) * (nq (q)))]) (st := []) ((p_putRows l cy a0 C1 x1 n (kp p) (kq q) (np p * nq q) hn kok.1 kok.2 g4 g3).frame (f := s) (List.Perm.refl _)) ok_X4_putRows ((mxP_has g4).left) rfl rfl wd_437 rfl rfl dX4_multiply_104 (by decide) (by decide) (Nat.le_of_ble_eq_true rfl) (fun r104 w104 hp104 => ?_)
                  obtain ⟨x104, ⟨rfl, y104, z104⟩, rfl⟩ := hp104
                  refine gw_W.norm (st' := [.int (bI (mulOk (kp p &&& 1048575) (kq q &&& 1048575) (np p * nq q) C1))]) (k1 := 0) (k2 := 0) rfl rfl rfl ?_
                  refine gw_if_ne (tgt := 112) dX4_multiply_107 (by decide) (fun c107 => ?_) (fun c107 => ?_)
                  · rw [bI_n0] at c107
                    refine cut112 (sPuts C1 (mulP (kp p &&& 1048575) (kq q &&& 1048575) (np p * nq q))) (x104) (by rw [takeS_snoc, prRow_snoc, g2, Nat.zero_add]; exact prOne_ok (p := (kp p, np p)) (q := (kq q, nq q)) c48 d71 c107) (mulOk_len c107) (y104 c107) (mul_bnd (z := p * 300 + q) (prIn_mul d71) g5 (by omega))
                  · rw [bI_0] at c107
                    refine gw_iconst (v := nI (0)) dX4_multiply_110 (by decide) ?_
                    refine gw_zret (?_) (by decide) (by decide) rfl (by decide) dX4_multiply_111
                    subst hpost
                    have eN : prRow (prS (takeS kp np 0 p) (takeS kq nq 0 (cs j).length)) (kp p, np p) (takeS kq nq 0 (q + 1)) = none := by
                      rw [takeS_snoc, prRow_snoc, g2, Nat.zero_add]
                      first
                      | exact prOne_no (p := (kp p, np p)) (q := (kq q, nq q)) c48 (Or.inl d71)
                      | exact prOne_no (p := (kp p, np p)) (q := (kq q, nq q)) c48 (Or.inr c107)
                    have eS := prS_bad2 (i := p) (j := q) (a := (cs i).length) (b := (cs j).length) (by omega) (by omega) rfl eN
                    rw [p5, q5] at eS
                    have eF : prF (cs i) (cs j) = none := by unfold prF; rw [eS]; rfl
                    rw [eF]
                    first
                      | exact ⟨rfl, x1, s, List.Perm.refl _, mxP_C g4, hs⟩
                      | exact ⟨rfl, x104, s, List.Perm.refl _, z104, hs⟩
              · rw [uP_m hn kok.1, uP_m hn kok.2] at c48
                refine gw_goto (tgt := 112) dX4_multiply_51 (by decide) ?_
                refine cut112 (C1) (x1) (by rw [takeS_snoc, prRow_snoc, g2, Nat.zero_add]; exact prOne_eq (p := (kp p, np p)) (q := (kq q, nq q)) c48) g3 g4 (fun y hy => Nat.le_trans (g5 y hy) (by omega))
        refine cut19 _ (0) (C1) (x1) (Nat.zero_le _) h2 h3 h4 h5 (Nat.lt_succ_self _)
  refine cut7 _ (0) ([]) (x) (Nat.zero_le _) rfl (Nat.zero_le _) hx0 (fun q hq => by cases hq) (Nat.lt_succ_self _)
