/-! product: the math -/
def prIn (v w : Int64) : Bool := inZ v.toInt (-(1000000000000 / (w.toInt.natAbs : Int))) (1000000000000 / (w.toInt.natAbs : Int))
noncomputable def prOne (F : Option (List sT)) (p q : sT) : Option (List sT) := match F with
  | none => none
  | some C => if mProd p.1 = mProd q.1 then (if prIn p.2 q.2 = true ∧ mulOk (p.1 &&& 1048575) (q.1 &&& 1048575) (p.2 * q.2) C = true then some (sPuts C (mulP (p.1 &&& 1048575) (q.1 &&& 1048575) (p.2 * q.2))) else none) else some C
noncomputable def prRow (F : Option (List sT)) (p : sT) (B : List sT) : Option (List sT) := B.foldl (fun F q => prOne F p q) F
noncomputable def prS (A B : List sT) : Option (List sT) := A.foldl (fun F p => prRow F p B) (some [])
noncomputable def spProduct (σ : aS) (t a b : Int32) : Int32 × aS := if inZ t.toInt (-1) 7 = true ∧ inZ a.toInt (-1) 7 = true ∧ inZ b.toInt (-1) 7 = true then (match prS (sSm σ (mPl a)) (sSm σ (mPl b)) with
  | none => (-1000003, σ)
  | some C => ofKeep σ (mPl t) (keepS C)) else (-1000001, σ)
theorem prRow_none (p : sT) (B : List sT) : prRow none p B = none := by
  unfold prRow
  induction B with
  | nil => rfl
  | cons q t ih => exact ih
theorem prS_none (A B : List sT) : A.foldl (fun F p => prRow F p B) none = none := by
  induction A with
  | nil => rfl
  | cons p t ih => rw [List.foldl_cons, prRow_none]; exact ih
theorem prRow_app (F : Option (List sT)) (p : sT) (A B : List sT) : prRow F p (A ++ B) = prRow (prRow F p A) p B := by simp [prRow, List.foldl_append]
theorem prRow_snoc (F : Option (List sT)) (p q : sT) (A : List sT) : prRow F p (A ++ [q]) = prOne (prRow F p A) p q := by simp [prRow, List.foldl_append]
theorem prS_snoc (p : sT) (A B : List sT) : prS (A ++ [p]) B = prRow (prS A B) p B := by simp [prS, List.foldl_append]
theorem prS_bad {ks : Nat → Int32} {ns : Nat → Int64} {x y i j a b : Nat} {F : Option (List sT)} (hi : i < a) (hj : j < b) (hF : prS (takeS ks ns x i) (takeS ks ns y b) = F) (hN : prRow F (ks (x + i), ns (x + i)) (takeS ks ns y (j + 1)) = none) : prS (takeS ks ns x a) (takeS ks ns y b) = none := by
  obtain ⟨d, rfl⟩ : ∃ d, a = (i + 1) + d := ⟨a - (i + 1), by omega⟩
  obtain ⟨e, rfl⟩ : ∃ e, b = (j + 1) + e := ⟨b - (j + 1), by omega⟩
  have h1 : prRow F (ks (x + i), ns (x + i)) (takeS ks ns y (j + 1 + e)) = none := by
    rw [takeS_split ks ns y (j + 1) e, prRow_app, hN, prRow_none]
  rw [takeS_split ks ns x (i + 1) d, takeS_snoc]
  unfold prS
  rw [List.foldl_append]
  have h2 : (takeS ks ns x i ++ [(ks (x + i), ns (x + i))]).foldl (fun F p => prRow F p (takeS ks ns y (j + 1 + e))) (some []) = none := by
    have := prS_snoc (ks (x + i), ns (x + i)) (takeS ks ns x i) (takeS ks ns y (j + 1 + e))
    rw [hF, h1] at this; exact this
  rw [h2, prS_none]
theorem pr_div {w : Int64} (h0 : ¬ w = 0) (h1 : inZ w.toInt (-1000000000000) 1000000000000 = true) (u : Int64) (hu : u = if w < 0 then -w else w) : ((1000000000000 : Int64) / u).toInt = 1000000000000 / (w.toInt.natAbs : Int) ∧ (-((1000000000000 : Int64) / u)).toInt = -(1000000000000 / (w.toInt.natAbs : Int)) := by
  rw [inZ_t] at h1
  have hz : ¬ w.toInt = 0 := fun e => h0 (Int64.toInt_inj.mp e)
  have eu : u.toInt = (w.toInt.natAbs : Int) := by
    rw [hu]
    by_cases hn : w < 0
    · rw [if_pos hn, Int64.toInt_neg]
      rw [i64_lt] at hn
      have hn : w.toInt < 0 := hn
      rw [Int.bmod_eq_of_le]
      · omega
      · have : (2 ^ 64 : Nat) / 2 = 9223372036854775808 := by decide
        omega
      · have : ((2 ^ 64 : Nat) + 1) / 2 = 9223372036854775808 := by decide
        omega
    · rw [if_neg hn]
      rw [i64_lt] at hn
      have hn : ¬ w.toInt < 0 := hn
      omega
  have e1 : ((1000000000000 : Int64) / u).toInt = 1000000000000 / (w.toInt.natAbs : Int) := by
    rw [Int64.toInt_div, eu, show (1000000000000 : Int64).toInt = 1000000000000 from by decide, Int.tdiv_eq_ediv_of_nonneg (by decide)]
    have h2 : (0 : Int) ≤ 1000000000000 / (w.toInt.natAbs : Int) := Int.ediv_nonneg (by decide) (by omega)
    have h3 : (1000000000000 : Int) / (w.toInt.natAbs : Int) ≤ 1000000000000 := Int.ediv_le_self _ (by decide)
    rw [Int.bmod_eq_of_le]
    · have : (2 ^ 64 : Nat) / 2 = 9223372036854775808 := by decide
      omega
    · have : ((2 ^ 64 : Nat) + 1) / 2 = 9223372036854775808 := by decide
      omega
  refine ⟨e1, ?_⟩
  rw [Int64.toInt_neg, e1]
  have h2 : (0 : Int) ≤ 1000000000000 / (w.toInt.natAbs : Int) := Int.ediv_nonneg (by decide) (by omega)
  have h3 : (1000000000000 : Int) / (w.toInt.natAbs : Int) ≤ 1000000000000 := Int.ediv_le_self _ (by decide)
  rw [Int.bmod_eq_of_le]
  · have : (2 ^ 64 : Nat) / 2 = 9223372036854775808 := by decide
    omega
  · have : ((2 ^ 64 : Nat) + 1) / 2 = 9223372036854775808 := by decide
    omega
theorem pr_u0 {w u : Int64} (h0 : ¬ w = 0) (hu : u = if w < 0 then -w else w) : ¬ u = 0 := by
  intro e
  rw [e] at hu
  split at hu
  · exact h0 (by rw [← Int64.neg_neg (a := w), ← hu]; rfl)
  · exact h0 hu.symm
theorem key_and {n : Nat} {k : Int32} (hn : n ≤ 4) (h : keyOK n k) : keyOK 0 (k &&& 1048575) := by
  have h3 := kn_lt h
  have h4 := pow4_le hn
  have e : k &&& 1048575 = nI (kn k % 2 ^ 20) := by
    conv => lhs; rw [kn_eq h hn]
    rw [show (1048575 : Int32) = nI (2 ^ 20 - 1) from by decide, pk_andN (k := 20) (by omega) (by decide)]
  rw [e]
  exact key_of (by decide) (by have := Nat.mod_lt (kn k) (show 0 < 2 ^ 20 by decide); omega)
theorem mul_tau {a b : Int32} (ha : keyOK 0 a) (hb : keyOK 0 b) {x : Nat} (hx : x < 4) (ho : mOk a b x = true) : ∃ z : Nat, z ≤ 25 * 2 ^ (15 - 5 * x) ∧ mC2 a b x * mOneC (nI x) + (if mS2 a b x = nI 1 then mOneS (nI x) else nI 0) = nI z := by
  unfold mOk at ho
  have ho := of_decide_eq_true ho
  have e2 : mC2 a b x = nI (kn a / 2 ^ (16 - 5 * x) % 16 + kn b / 2 ^ (16 - 5 * x) % 16) := by
    unfold mC2; rw [cos_kn (by decide) ha hx, cos_kn (by decide) hb hx, nI_add]
  have hc : kn a / 2 ^ (16 - 5 * x) % 16 < 16 := Nat.mod_lt _ (by decide)
  have hd : kn b / 2 ^ (16 - 5 * x) % 16 < 16 := Nat.mod_lt _ (by decide)
  rw [e2] at ho ⊢
  have hcd : kn a / 2 ^ (16 - 5 * x) % 16 + kn b / 2 ^ (16 - 5 * x) % 16 < 32 := by omega
  generalize kn a / 2 ^ (16 - 5 * x) % 16 + kn b / 2 ^ (16 - 5 * x) % 16 = c at *
  have hs : c ≤ 12 := by
    rw [i32_le, nI_toInt (show 12 < 2 ^ 31 by decide)] at ho
    cases hbo : mBoth a b x with
    | false =>
      rw [hbo, show cond false (nI 2) (nI 0) = nI 0 from rfl, nI_add, nI_toInt (by omega)] at ho; omega
    | true =>
      rw [hbo, show cond true (nI 2) (nI 0) = nI 2 from rfl, nI_add, nI_toInt (by omega)] at ho; omega
  rw [oneC_kn hx, oneS_kn hx, show nI c * nI (2 ^ (16 - 5 * x)) = nI (c * 2 ^ (16 - 5 * x)) from (Int32.ofNat_mul _ _).symm]
  by_cases h1 : mS2 a b x = nI 1
  · rw [if_pos h1, nI_add]
    refine ⟨_, ?_, rfl⟩
    rcases (show x = 0 ∨ x = 1 ∨ x = 2 ∨ x = 3 by omega) with rfl | rfl | rfl | rfl <;> simp only [Nat.reduceMul, Nat.reduceSub, Nat.reducePow] <;> omega
  · rw [if_neg h1, nI_add]
    refine ⟨_, ?_, rfl⟩
    rcases (show x = 0 ∨ x = 1 ∨ x = 2 ∨ x = 3 by omega) with rfl | rfl | rfl | rfl <;> simp only [Nat.reduceMul, Nat.reduceSub, Nat.reducePow] <;> omega
theorem mRow_step {r : Int32} {so x B : Nat} (hx : x < 4) (h : ∃ z : Nat, z ≤ B ∧ r = nI z) : ∃ z : Nat, z ≤ B + 4 * 2 ^ (15 - 5 * x) ∧ (if (nI so >>> (nI x &&& 31)) &&& nI 1 = nI 1 then r + nI 2 * mOneC (nI x) else r) = nI z := by
  obtain ⟨z, h1, h2⟩ := h
  by_cases hb : (nI so >>> (nI x &&& 31)) &&& nI 1 = nI 1
  · rw [if_pos hb, h2, oneC_kn hx, show nI 2 * nI (2 ^ (16 - 5 * x)) = nI (2 * 2 ^ (16 - 5 * x)) from (Int32.ofNat_mul _ _).symm, nI_add]
    refine ⟨_, ?_, rfl⟩
    rcases (show x = 0 ∨ x = 1 ∨ x = 2 ∨ x = 3 by omega) with rfl | rfl | rfl | rfl <;> simp only [Nat.reduceMul, Nat.reduceSub, Nat.reducePow] <;> omega
  · rw [if_neg hb, h2]; exact ⟨z, by omega, rfl⟩
theorem mul_key {n : Nat} {a b : Int32} {v : Int64} {q : sT} (hn : n ≤ 4) (ha : keyOK 0 a) (hb : keyOK 0 b) (ho : (List.range 4).all (mOk a b) = true) (hq : q ∈ mulP a b v) : keyOK n q.1 := by
  have hx : ∀ x, x < 4 → mOk a b x = true := fun x hx => List.all_eq_true.mp ho x (List.mem_range.mpr hx)
  obtain ⟨z0, l0, e0⟩ := mul_tau ha hb (x := 0) (by decide) (hx 0 (by decide))
  obtain ⟨z1, l1, e1⟩ := mul_tau ha hb (x := 1) (by decide) (hx 1 (by decide))
  obtain ⟨z2, l2, e2⟩ := mul_tau ha hb (x := 2) (by decide) (hx 2 (by decide))
  obtain ⟨z3, l3, e3⟩ := mul_tau ha hb (x := 3) (by decide) (hx 3 (by decide))
  have hp : mPlain a b 4 = nI (z0 + z1 + z2 + z3) := by
    rw [mPlain, mPlain, mPlain, mPlain, mPlain, e0, e1, e2, e3, nI_add, nI_add, nI_add, nI_add]
    congr 1; omega
  unfold mulP mRows at hq
  obtain ⟨so, -, hso⟩ := List.mem_map.mp hq
  rw [← hso]
  show keyOK n (mRow (mPlain a b 4) so 4)
  rw [hp]
  obtain ⟨z, hz, e⟩ := mRow_step (so := so) (x := 3) (by decide) (mRow_step (so := so) (x := 2) (by decide) (mRow_step (so := so) (x := 1) (by decide) (mRow_step (so := so) (x := 0) (by decide) ⟨z0 + z1 + z2 + z3, Nat.le_refl _, rfl⟩)))
  rw [mRow, mRow, mRow, mRow, mRow, e]
  refine key_of hn ?_
  have h4 : 1 ≤ 4 ^ n := Nat.one_le_pow _ _ (by decide)
  simp only [Nat.reduceMul, Nat.reduceSub, Nat.reducePow] at *
  have h5 : 1048576 ≤ 4 ^ n * 1048576 := by omega
  omega
theorem prOne_key {n : Nat} {F : Option (List sT)} {p q : sT} (hn : n ≤ 4) (hp : keyOK n p.1) (hq : keyOK n q.1) (hF : ∀ C, F = some C → ∀ y ∈ C, keyOK n y.1) : ∀ C, prOne F p q = some C → ∀ y ∈ C, keyOK n y.1 := by
  intro C h
  cases F with
  | none => cases h
  | some D =>
    unfold prOne at h
    simp only at h
    by_cases h1 : mProd p.1 = mProd q.1
    · rw [if_pos h1] at h
      by_cases h2 : prIn p.2 q.2 = true ∧ mulOk (p.1 &&& 1048575) (q.1 &&& 1048575) (p.2 * q.2) D = true
      · rw [if_pos h2] at h
        cases h
        intro y hy
        rcases sPuts_mem hy with ⟨x, hx, e⟩ | ⟨x, hx, e⟩
        · rw [← e]; exact hF D rfl x hx
        · rw [← e]
          refine mul_key hn (key_and hn hp) (key_and hn hq) ?_ hx
          have h3 := h2.2
          unfold mulOk at h3
          exact (Bool.and_eq_true_iff.mp h3).1
      · rw [if_neg h2] at h; cases h
    · rw [if_neg h1] at h
      exact hF C h
theorem prRow_key {n : Nat} {p : sT} {B : List sT} (hn : n ≤ 4) (hp : keyOK n p.1) (hB : ∀ q ∈ B, keyOK n q.1) : ∀ (F : Option (List sT)), (∀ C, F = some C → ∀ y ∈ C, keyOK n y.1) → ∀ C, prRow F p B = some C → ∀ y ∈ C, keyOK n y.1 := by
  induction B with
  | nil => intro F hF C h; exact hF C h
  | cons q t ih => intro F hF C h; exact ih (fun x hx => hB x (List.mem_cons_of_mem _ hx)) _ (prOne_key hn hp (hB q (List.mem_cons_self ..)) hF) C h
theorem prS_key0 {n : Nat} {A B : List sT} (hn : n ≤ 4) (hA : ∀ q ∈ A, keyOK n q.1) (hB : ∀ q ∈ B, keyOK n q.1) : ∀ (F : Option (List sT)), (∀ C, F = some C → ∀ y ∈ C, keyOK n y.1) → ∀ C, A.foldl (fun F p => prRow F p B) F = some C → ∀ y ∈ C, keyOK n y.1 := by
  induction A with
  | nil => intro F hF C h; exact hF C h
  | cons p t ih => intro F hF C h; exact ih (fun x hx => hA x (List.mem_cons_of_mem _ hx)) _ (prRow_key hn (hA p (List.mem_cons_self ..)) hB F hF) C h
theorem prS_key {n : Nat} {A B C : List sT} (hn : n ≤ 4) (hA : ∀ q ∈ A, keyOK n q.1) (hB : ∀ q ∈ B, keyOK n q.1) (h : prS A B = some C) : ∀ y ∈ C, keyOK n y.1 := prS_key0 hn hA hB (some []) (fun C h => by cases h; exact fun y hy => by cases hy) C h
theorem prOne_eq {C : List sT} {p q : sT} (h : ¬ mProd p.1 = mProd q.1) : prOne (some C) p q = some C := by unfold prOne; simp only; rw [if_neg h]
theorem prOne_ok {C : List sT} {p q : sT} (h : mProd p.1 = mProd q.1) (h1 : prIn p.2 q.2 = true) (h2 : mulOk (p.1 &&& 1048575) (q.1 &&& 1048575) (p.2 * q.2) C = true) : prOne (some C) p q = some (sPuts C (mulP (p.1 &&& 1048575) (q.1 &&& 1048575) (p.2 * q.2))) := by unfold prOne; simp only; rw [if_pos h, if_pos ⟨h1, h2⟩]
theorem prOne_no {C : List sT} {p q : sT} (h : mProd p.1 = mProd q.1) (h1 : prIn p.2 q.2 = false ∨ mulOk (p.1 &&& 1048575) (q.1 &&& 1048575) (p.2 * q.2) C = false) : prOne (some C) p q = none := by
  unfold prOne; simp only; rw [if_pos h, if_neg (fun e => by rcases h1 with g | g; exact absurd e.1 (by rw [g]; decide); exact absurd e.2 (by rw [g]; decide))]
theorem mulOk_len {a b : Int32} {v : Int64} {C : List sT} (h : mulOk a b v C = true) : (sPuts C (mulP a b v)).length ≤ 300 := by
  unfold mulOk at h
  exact of_decide_eq_true (Bool.and_eq_true_iff.mp h).2
