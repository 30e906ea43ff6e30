/-! run: what the ops do, over the sums -/
def qS (n g q : Nat) (S : List sT) : List sT := (keepS (quartC n g q S)).getD S
def axF (f : Nat) : Nat := if f % 2 = 0 then 1 else 2
def quF (f t : Nat) : Nat := if f < 2 then t else (4 - t) % 4
def plS (n : Nat) (a : Int32) (f t : Nat) (S : List sT) : Nat → List sT
  | 0 => S
  | s + 1 => if (a >>> (nI s &&& 31)) &&& nI 1 = nI 1 then qS n (axF f * 4 ^ s) (quF f t) (plS n a f t S s) else plS n a f t S s
def cyF (p v : Int32) : Nat := ((p.toInt + v.toInt) % 4).toNat
def doK (sm : Nat → List sT) (t : Nat) (F : Option (List sT)) : Int32 × (Nat → List sT) := match F with
  | some S => (0, va_up sm t S)
  | none => (-1000003, sm)
def doM (n : Nat) (tb : Nat → aT) (sm : Nat → List sT) (t : Nat) (o : aO) : Int32 × (Nat → List sT) :=
  if o.1 = 2 then (0, va_up sm 8 (plS n o.2.1 (tI o.2.2.1) (tI o.2.2.2.1) (sm 8) n))
  else if o.1 = 3 then (match tb (tI o.2.2.2.2) with
    | none => (1, sm)
    | some q => if t < q.2.length then (0, va_up sm 8 (plS n o.2.1 (cyF o.2.2.1 (q.2.getD t 0)) (tI o.2.2.2.1) (sm 8) n)) else (2, sm))
  else if o.1 = 4 then doK sm 8 (keepS (letC n (tI o.2.1) o.2.2.1 o.2.2.2.1 (sm 8)))
  else if o.1 = 7 then doK sm (tI o.2.1) (keepS (joinC (sm (tI o.2.1)) (sm 8) o.2.2.1))
  else (0, sm)
def opJ (O : List aO) (j : Nat) : aO := O.getD j (0, 0, 0, 0, 0)
def rsT (rs : List (Nat × Nat)) : Nat × Nat := rs.getD (rs.length - 1) (0, 0)
def rsD (rs : List (Nat × Nat)) : Nat := if rs.length = 0 then 0 else (rsT rs).2
def rnN (O : List aO) (at' : Nat) (rs : List (Nat × Nat)) (o : aO) : Nat × List (Nat × Nat) :=
  if o.1 = 5 then (at' + 1, rs ++ [(at', 0)])
  else if o.1 = 6 then (if (((rsT rs).2 + 1 : Nat) : Int) < (opJ O (rsT rs).1).2.1.toInt then ((rsT rs).1 + 1, rs.set (rs.length - 1) ((rsT rs).1, (rsT rs).2 + 1)) else (at' + 1, rs.dropLast))
  else (at' + 1, rs)
/-- what, the sums, how many steps are left, the latest place -/
def rn (n : Nat) (tb : Nat → aT) (O : List aO) : Nat → (Nat → List sT) → Nat → List (Nat × Nat) → Int32 → Int32 × (Nat → List sT) × Nat × Int32
  | 0, sm, p, _, y => if p < O.length then (-1000003, sm, 0, y) else (0, sm, 0, y)
  | f + 1, sm, p, rs, y => if p < O.length then (if (doM n tb sm (rsD rs) (opJ O p)).1 = 0 then rn n tb O f (doM n tb sm (rsD rs) (opJ O p)).2 (rnN O p rs (opJ O p)).1 (rnN O p rs (opJ O p)).2 (nI p) else ((doM n tb sm (rsD rs) (opJ O p)).1, (doM n tb sm (rsD rs) (opJ O p)).2, f + 1, nI p)) else (0, sm, f + 1, y)
def wSm (σ : aS) (sm : Nat → List sT) : aS := (σ.1, σ.2.1, sm, σ.2.2.2)
def rnA (σ : aS) : Int32 × (Nat → List sT) × Nat × Int32 := rn σ.1 (sTb σ) (sOp σ) 500 (sSm σ) 0 [] (-1000000)
def spRun (σ : aS) : Int32 × aS := if opC σ = 0 then (if (rnA σ).1 = 0 then (nI (500 - (rnA σ).2.2.1), setSt (setTo (wSm σ (rnA σ).2.1) (nI (500 - (rnA σ).2.2.1)) (rnA σ).2.2.2) 0) else if (rnA σ).1 = -1000003 then (-1000003, setTo σ (nI (500 - (rnA σ).2.2.1)) (rnA σ).2.2.2) else ((-1000010) - (rnA σ).1, setSt (setTo σ (nI (500 - (rnA σ).2.2.1)) (rnA σ).2.2.2) (rnA σ).1)) else (-1000002, σ)
theorem opJ_t {n : Nat} {O : List aO} {v12 v18 : Int32} {a13 a14 a15 a16 a17 : Nat → Int32} (h : mI4 n O v12 v18 a13 a14 a15 a16 a17) {j : Nat} (hj : j < O.length) : j < 40 ∧ a13 j = nI (opJ O j).1 ∧ a14 j = (opJ O j).2.1 ∧ a15 j = (opJ O j).2.2.1 ∧ a16 j = (opJ O j).2.2.2.1 ∧ a17 j = (opJ O j).2.2.2.2 ∧ opOK n (opJ O j) := by
  obtain ⟨h1, h2, -, h4, h5⟩ := h
  have e2 : opJ O j = O[j] := by
    unfold opJ; rw [List.getD_eq_getElem?_getD, List.getElem?_eq_getElem hj]; rfl
  have h7 := h5 j hj
  rw [← e2] at h7
  exact ⟨by omega, h7.1, h7.2.1, h7.2.2.1, h7.2.2.2.1, h7.2.2.2.2, by rw [e2]; exact h4 _ (List.getElem_mem hj)⟩
/-- what a call that works on sums leaves alone -/
def mKp (iv : Nat → Int32) (ia : Nat → Nat → Int32) (la : Nat → Nat → Int64) (iv' : Nat → Int32) (ia' : Nat → Nat → Int32) (la' : Nat → Nat → Int64) : Prop := (∀ k, k ≠ 9 → k ≠ 24 → iv' k = iv k) ∧ (∀ k, k ≠ 6 → k ≠ 7 → k ≠ 10 → ia' k = ia k) ∧ (∀ t, 9 ≤ t → ia' 6 t = ia 6 t) ∧ ∀ j, 2700 ≤ j → ia' 7 j = ia 7 j ∧ la' 8 j = la 8 j
theorem mKp_rfl (iv : Nat → Int32) (ia : Nat → Nat → Int32) (la : Nat → Nat → Int64) : mKp iv ia la iv ia la := ⟨fun _ _ _ => rfl, fun _ _ _ _ => rfl, fun _ _ => rfl, fun _ _ => ⟨rfl, rfl⟩⟩
theorem mKp_tr {iv iv' iv'' : Nat → Int32} {ia ia' ia'' : Nat → Nat → Int32} {la la' la'' : Nat → Nat → Int64} (h : mKp iv ia la iv' ia' la') (g : mKp iv' ia' la' iv'' ia'' la'') : mKp iv ia la iv'' ia'' la'' :=
  ⟨fun k h1 h2 => (g.1 k h1 h2).trans (h.1 k h1 h2), fun k h1 h2 h3 => (g.2.1 k h1 h2 h3).trans (h.2.1 k h1 h2 h3), fun t ht => (g.2.2.1 t ht).trans (h.2.2.1 t ht), fun j hj => ⟨(g.2.2.2 j hj).1.trans (h.2.2.2 j hj).1, (g.2.2.2 j hj).2.trans (h.2.2.2 j hj).2⟩⟩
def kpS (σ : aS) (t : Nat) (F : Option (List sT)) : aS := match F with
  | some S => setSm σ t S
  | none => σ
def qmS (cy : Nat → ClassId) (ad : Nat → Nat) (iv : Nat → Int32) (ia : Nat → Nat → Int32) (la : Nat → Nat → Int64) (r0 : Option Value) (σ' : aS) : gw_Q := fun r w' => r = r0 ∧ ∃ (iv' : Nat → Int32) (ia' : Nat → Nat → Int32) (la' : Nat → Nat → Int64), w' = mW cy ad iv' ia' la' ∧ mInv σ' iv' ia' la' ∧ mKp iv ia la iv' ia' la'
theorem kept_S {cy : Nat → ClassId} {ad : Nat → Nat} {iv : Nat → Int32} {ia : Nat → Nat → Int32} {la : Nat → Nat → Int64} {σ : aS} (hI : mInv σ iv ia la) {C : List sT} {t : Nat} {ans : Option (List sT) → Option Value} {r : Option Value} {w' : va_W} {sg : Int32} (ht : t < 9) (ho : sOrd C) (hk : ∀ q ∈ C, keyOK σ.1 q.1) (h : qm_kept cy ad (va_up iv 24 sg) ia la C t ans r w') : qmS cy ad iv ia la (ans (keepS C)) (kpS σ t (keepS C)) r w' := by
  obtain ⟨i1, i2, i3, i4, i5, i6, i7, i8⟩ := hI
  obtain ⟨hr, m, k1, n1, hN, hS⟩ := h
  refine ⟨hr, ?_⟩
  cases hF : keepS C with
  | none => exact ⟨_, _, _, hN hF, ⟨i1, i2, i3, i4, i5, i6, i7, i8⟩, fun k h9 h24 => by rw [va_up_ne _ _ h9, va_up_ne _ _ h24], fun k h6 h7 h10 => by rw [va_up_ne _ _ h10], fun _ _ => rfl, fun _ _ => ⟨rfl, rfl⟩⟩
  | some S =>
    obtain ⟨kk, nn, hw, hT, hO⟩ := hS S hF
    refine ⟨_, _, _, hw, ⟨i1, i2, mI3_set i3 ht (keepS_ok ho hk hF) hT hO, i4, i5, i6, i7, i8⟩, fun k h9 h24 => by rw [va_up_ne _ _ h9, va_up_ne _ _ h24], fun k h6 h7 h10 => by rw [va_up_ne _ _ h10, va_up_ne _ _ h7, va_up_ne _ _ h6], fun u hu => ?_, fun j hj => ?_⟩
    · show upd (ia 6) t (nI S.length) u = ia 6 u
      exact pk_un (by omega)
    · show kk j = ia 7 j ∧ nn j = la 8 j
      exact hO j (by omega)
theorem hks_of {n : Nat} {sm : Nat → List sT} {a6 a7 : Nat → Int32} {b8 : Nat → Int64} (h : mI3 n sm a6 a7 b8) : ∀ j, j < (sm 8).length → keyOK n (a7 (2400 + j)) := fun j hj => (mI3_take h (t := 8) (by decide)).2.2.2 (a7 (2400 + j), b8 (2400 + j)) (by
  have q1 : (a7 (2400 + j), b8 (2400 + j)) ∈ takeS a7 b8 (300 * 8) (sm 8).length := takeS_mem.mpr ⟨j, hj, rfl⟩
  rw [(mI3_take h (t := 8) (by decide)).2.2.1] at q1; exact q1)
theorem t_mturnQ (l : Launch) (cy : Nat → ClassId) (ad : Nat → Nat) (iv : Nat → Int32) (ia : Nat → Nat → Int32) (la : Nat → Nat → Int64) (σ : aS) (hI : mInv σ iv ia la) (g q : Nat) (hg : g < 4 ^ σ.1) (hq : q < 4) : gw_M l kX12_turnQuarter cy [.ref (ad 0), .int (nI g), .int (nI q)] (mW cy ad iv ia la) (qmS cy ad iv ia la none (setSm σ 8 (qS σ.1 g q (sSm σ 8)))) := by
  obtain ⟨a1, a2, a3, a4⟩ := mI3_take hI.2.2.1 (t := 8) (by decide)
  obtain ⟨jo, jk⟩ := quartC_ok (q := q) hI.1.2.1 hg a4
  refine (c_mturnQuarter l cy ad iv ia la σ.1 g (sSm σ 8).length hI.1.2.2.1 hI.1.2.1 hg a1 a2 (hks_of hI.2.2.1) q hq).less (fun r w' h => ?_)
  obtain ⟨sg, h⟩ := h
  rw [show takeS (ia 7) (la 8) 2400 (sSm σ 8).length = sSm σ 8 from a3] at h
  have h2 := kept_S hI (by decide) jo jk h
  obtain ⟨hr, iv', ia', la', hw, hi, hm⟩ := h2
  refine ⟨hr, iv', ia', la', hw, ?_, hm⟩
  unfold qS
  cases hF : keepS (quartC σ.1 g q (sSm σ 8)) with
  | none =>
    rw [hF] at hi
    show mInv (setSm σ 8 (sSm σ 8)) iv' ia' la'
    unfold setSm
    rw [va_up_id]; exact hi
  | some S => rw [hF] at hi; exact hi
theorem t_mturnL (l : Launch) (cy : Nat → ClassId) (ad : Nat → Nat) (iv : Nat → Int32) (ia : Nat → Nat → Int32) (la : Nat → Nat → Int64) (σ : aS) (hI : mInv σ iv ia la) (g x : Nat) (way : Int32) (hg : g < 4 ^ σ.1) (hx : x < 4) : gw_M l kX12_turnLetter cy [.ref (ad 0), .int (nI g), .int (nI x), .int way] (mW cy ad iv ia la) (qmS cy ad iv ia la (ansB (keepS (letC σ.1 g (nI x) way (sSm σ 8)))) (kpS σ 8 (keepS (letC σ.1 g (nI x) way (sSm σ 8))))) := by
  obtain ⟨a1, a2, a3, a4⟩ := mI3_take hI.2.2.1 (t := 8) (by decide)
  obtain ⟨jo, jk⟩ := letC_ok (way := way) hI.1.2.1 hg hx (S := sSm σ 8) (fun q hq => ⟨((hI.2.2.1 8 (by decide)).1.2.2 q hq).2.2, ((hI.2.2.1 8 (by decide)).1.2.2 q hq).2.1⟩)
  refine (c_mturnLetter l cy ad iv ia la σ.1 g (sSm σ 8).length hI.1.2.2.1 hI.1.2.1 hg a1 a2 (hks_of hI.2.2.1) (nI x) way).less (fun r w' h => ?_)
  obtain ⟨sg, h⟩ := h
  rw [show takeS (ia 7) (la 8) 2400 (sSm σ 8).length = sSm σ 8 from a3] at h
  exact kept_S hI (by decide) jo jk h
theorem t_mjoinS (l : Launch) (cy : Nat → ClassId) (ad : Nat → Nat) (iv : Nat → Int32) (ia : Nat → Nat → Int32) (la : Nat → Nat → Int64) (σ : aS) (hI : mInv σ iv ia la) (t f : Nat) (v : Int32) (ht : t < 9) (hf : f < 9) : gw_M l kX12_joined cy [.ref (ad 0), .int (nI t), .int (nI f), .int v] (mW cy ad iv ia la) (qmS cy ad iv ia la (ansB (keepS (joinC (sSm σ t) (sSm σ f) v))) (kpS σ t (keepS (joinC (sSm σ t) (sSm σ f) v)))) := by
  obtain ⟨a1, a2, a3, a4⟩ := mI3_take hI.2.2.1 ht
  obtain ⟨b1, b2, b3, b4⟩ := mI3_take hI.2.2.1 hf
  obtain ⟨jo, jk⟩ := joinC_ok (v := v) a4 b4
  refine (c_mjoined l cy ad iv ia la t f (sSm σ t).length (sSm σ f).length v a1 b1 (by omega) (by omega) a2 b2).less (fun r w' h => ?_)
  rw [a3, b3, ← va_up_id iv 24] at h
  exact kept_S hI ht jo jk h
theorem shl_ax {a s : Nat} (ha : a ≤ 2) (hs : s < 4) : nI a <<< (nI (2 * s) &&& 31) = nI (a * 4 ^ s) := by
  rcases (show a = 0 ∨ a = 1 ∨ a = 2 by omega) with rfl | rfl | rfl <;> rcases (show s = 0 ∨ s = 1 ∨ s = 2 ∨ s = 3 by omega) with rfl | rfl | rfl | rfl <;> decide
theorem axF_le (f : Nat) : axF f ≤ 2 := by unfold axF; split <;> omega
theorem ax_lt4 {a s n : Nat} (ha : a ≤ 2) (hs : s < n) : a * 4 ^ s < 4 ^ n := by
  have h1 : 4 ^ (s + 1) ≤ 4 ^ n := Nat.pow_le_pow_right (by decide) hs
  have h2 : 0 < 4 ^ s := Nat.pow_pos (by decide)
  have h3 : a * 4 ^ s ≤ 2 * 4 ^ s := Nat.mul_le_mul_right _ ha
  rw [Nat.pow_succ] at h1
  omega
theorem quF_lt {f t : Nat} (h : t < 4) : quF f t < 4 := by unfold quF; split <;> omega
theorem va_up2 {α : Type} (f : Nat → α) (t : Nat) (A B : α) : va_up (va_up f t A) t B = va_up f t B := by
  funext j
  by_cases e : j = t
  · subst e; rw [va_up_self, va_up_self]
  · rw [va_up_ne _ _ e, va_up_ne _ _ e, va_up_ne _ _ e]
theorem setSm_8 (σ : aS) (t : Nat) (A B : List sT) : setSm (setSm σ t A) t B = setSm σ t B := by
  unfold setSm
  simp only
  rw [va_up2]
theorem tm4 (x : Int) : -3 ≤ x.tmod 4 ∧ x.tmod 4 ≤ 3 ∧ x.tmod 4 + 4 * x.tdiv 4 = x ∧ (0 ≤ x → 0 ≤ x.tmod 4) ∧ (x ≤ 0 → x.tmod 4 ≤ 0) := by
  have h := Int.tmod_add_mul_tdiv x 4
  rcases Int.le_total 0 x with h0 | h0
  · have e := Int.tmod_eq_emod_of_nonneg (b := 4) h0
    omega
  · have e : x.tmod 4 = -((-x) % 4) := by rw [← Int.tmod_eq_emod_of_nonneg (a := -x) (by omega), Int.neg_tmod, Int.neg_neg]
    omega
theorem rem4 (v : Int32) : (v - v / nI 4 * nI 4).toInt = v.toInt.tmod 4 := by
  have h1 := Int32.toInt_lt v; have h2 := Int32.le_toInt v
  have e4 : (nI 4).toInt = 4 := by decide
  obtain ⟨t1, t2, ht, t4, t5⟩ := tm4 v.toInt
  have hd : (v / nI 4).toInt = v.toInt.tdiv 4 := by
    rw [Int32.toInt_div, e4, Int.bmod_eq_of_le]
    · have : (2 ^ 32 : Nat) / 2 = 2147483648 := by decide
      omega
    · have : ((2 ^ 32 : Nat) + 1) / 2 = 2147483648 := by decide
      omega
  have hm : (v / nI 4 * nI 4).toInt = v.toInt.tdiv 4 * 4 := by
    rw [Int32.toInt_mul, hd, e4, Int.bmod_eq_of_le]
    · have : (2 ^ 32 : Nat) / 2 = 2147483648 := by decide
      omega
    · have : ((2 ^ 32 : Nat) + 1) / 2 = 2147483648 := by decide
      omega
  rw [Int32.toInt_sub, hm, Int.bmod_eq_of_le]
  · omega
  · have : (2 ^ 32 : Nat) / 2 = 2147483648 := by decide
    omega
  · have : ((2 ^ 32 : Nat) + 1) / 2 = 2147483648 := by decide
    omega
theorem cyF_nat {p v : Int32} (h0 : 0 ≤ p.toInt) (h4 : p.toInt < 4) : ∃ z : Nat, z ≤ 10 ∧ p + (v - v / nI 4 * nI 4) + nI 4 = nI z ∧ z % 4 = cyF p v := by
  have e := rem4 v
  obtain ⟨t1, t2, ht, t4, t5⟩ := tm4 v.toInt
  have e4 : (nI 4).toInt = 4 := by decide
  have hs : (p + (v - v / nI 4 * nI 4)).toInt = p.toInt + v.toInt.tmod 4 := by
    rw [Int32.toInt_add, e, Int.bmod_eq_of_le]
    · have : (2 ^ 32 : Nat) / 2 = 2147483648 := by decide
      omega
    · have : ((2 ^ 32 : Nat) + 1) / 2 = 2147483648 := by decide
      omega
  have hs2 : (p + (v - v / nI 4 * nI 4) + nI 4).toInt = p.toInt + v.toInt.tmod 4 + 4 := by
    rw [Int32.toInt_add, hs, e4, Int.bmod_eq_of_le]
    · have : (2 ^ 32 : Nat) / 2 = 2147483648 := by decide
      omega
    · have : ((2 ^ 32 : Nat) + 1) / 2 = 2147483648 := by decide
      omega
  refine ⟨(p.toInt + v.toInt.tmod 4 + 4).toNat, by omega, ?_, ?_⟩
  · rw [i32_eq, hs2, nI_toInt (by omega)]; omega
  · unfold cyF; omega
theorem cyF_lt (p v : Int32) : cyF p v < 4 := by unfold cyF; omega
