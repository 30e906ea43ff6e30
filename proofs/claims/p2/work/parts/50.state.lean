/-! THE STATE that class and reference hold alike: how many spins, tables (none: missing; lane, items), sums (0 .. 7 the shelves, 8 WORK), ops (kind, set, phase, turns, table), status, trace, steps, latest -/
abbrev aT : Type := Option (Nat × List Int32)
abbrev aO : Type := Nat × Int32 × Int32 × Int32 × Int32
abbrev aS : Type := Nat × (Nat → aT) × (Nat → List sT) × List aO × Int32 × List Int32 × Int32 × Int32
abbrev sTb (σ : aS) : Nat → aT := σ.2.1
abbrev sSm (σ : aS) : Nat → List sT := σ.2.2.1
abbrev sOp (σ : aS) : List aO := σ.2.2.2.1
abbrev sTr (σ : aS) : List Int32 := σ.2.2.2.2.2.1
def setTb (σ : aS) (t : Nat) (x : aT) : aS := (σ.1, va_up σ.2.1 t x, σ.2.2)
def setSm (σ : aS) (i : Nat) (S : List sT) : aS := (σ.1, σ.2.1, va_up σ.2.2.1 i S, σ.2.2.2)
def setOp (σ : aS) (O : List aO) : aS := (σ.1, σ.2.1, σ.2.2.1, O, σ.2.2.2.2)
def setSt (σ : aS) (v : Int32) : aS := (σ.1, σ.2.1, σ.2.2.1, σ.2.2.2.1, v, σ.2.2.2.2.2)
def setTr (σ : aS) (T : List Int32) : aS := (σ.1, σ.2.1, σ.2.2.1, σ.2.2.2.1, σ.2.2.2.2.1, T, σ.2.2.2.2.2.2)
def setTo (σ : aS) (a b : Int32) : aS := (σ.1, σ.2.1, σ.2.2.1, σ.2.2.2.1, σ.2.2.2.2.1, σ.2.2.2.2.2.1, a, b)
def sOK (n : Nat) (S : List sT) : Prop := sOrd S ∧ S.length ≤ 300 ∧ ∀ q ∈ S, nz q = true ∧ sG q 4 = true ∧ keyOK n q.1
def opOK (n : Nat) (o : aO) : Prop :=
  ((o.1 = 2 ∨ o.1 = 3) ∧ 1 ≤ o.2.1.toInt ∧ o.2.1.toInt < 2 ^ n ∧ 0 ≤ o.2.2.1.toInt ∧ o.2.2.1.toInt < 4 ∧ 0 ≤ o.2.2.2.1.toInt ∧ o.2.2.2.1.toInt < 4 ∧ 0 ≤ o.2.2.2.2.toInt ∧ o.2.2.2.2.toInt < 8)
  ∨ (o.1 = 4 ∧ 0 ≤ o.2.1.toInt ∧ o.2.1.toInt < 4 ^ n ∧ 0 ≤ o.2.2.1.toInt ∧ o.2.2.1.toInt < 4 ∧ (o.2.2.2.1 = 1 ∨ o.2.2.2.1 = -1))
  ∨ (o.1 = 5 ∧ 1 ≤ o.2.1.toInt ∧ o.2.1.toInt ≤ 8)
  ∨ o.1 = 6
  ∨ (o.1 = 7 ∧ 0 ≤ o.2.1.toInt ∧ o.2.1.toInt < 8 ∧ -3 ≤ o.2.2.1.toInt ∧ o.2.2.1.toInt ≤ 3)
/-- how many rounds are open behind these ops; none: an end too much, or more than three -/
def opStep (c : Option Nat) (o : aO) : Option Nat := match c with
  | none => none
  | some c => if o.1 = 5 then (if c < 3 then some (c + 1) else none) else if o.1 = 6 then (if 0 < c then some (c - 1) else none) else some c
def opn (O : List aO) : Option Nat := O.foldl opStep (some 0)
def mTab (t : aT) (ln sz : Int32) (a4 : Nat → Int32) (off : Nat) : Prop := match t with
  | none => ln = nI 0
  | some q => q.1 < 3 ∧ ln = nI (q.1 + 1) ∧ q.2.length ≤ 60 ∧ sz = nI q.2.length ∧ ∀ j, j < q.2.length → a4 (off + j) = q.2.getD j 0
def mI1 (n : Nat) (v0 v1 : Int32) : Prop := 1 ≤ n ∧ n ≤ 4 ∧ v0 = nI n ∧ v1 = nI (4 ^ n)
def mI2 (tb : Nat → aT) (a2 a3 a4 : Nat → Int32) : Prop := ∀ t, t < 8 → mTab (tb t) (a2 t) (a3 t) a4 (60 * t)
def mI3 (n : Nat) (sm : Nat → List sT) (a6 a7 : Nat → Int32) (b8 : Nat → Int64) : Prop := ∀ i, i < 9 → sOK n (sm i) ∧ a6 i = nI (sm i).length ∧ takeS a7 b8 (300 * i) (sm i).length = sm i
def mI4 (n : Nat) (O : List aO) (v12 v18 : Int32) (a13 a14 a15 a16 a17 : Nat → Int32) : Prop := O.length ≤ 40 ∧ v12 = nI O.length ∧ (∃ c, opn O = some c ∧ c ≤ 3 ∧ v18 = nI c) ∧ (∀ o ∈ O, opOK n o) ∧ ∀ j, (h : j < O.length) → a13 j = nI O[j].1 ∧ a14 j = O[j].2.1 ∧ a15 j = O[j].2.2.1 ∧ a16 j = O[j].2.2.2.1 ∧ a17 j = O[j].2.2.2.2
def trR (v21 : Int32) (a20 : Nat → Int32) (T : List Int32) : Prop := T.length ≤ 16 ∧ v21 = nI T.length ∧ ∀ j, j < T.length → a20 j = T.getD j 0
/-- the reference holds the state σ -/
def mInv (σ : aS) (iv : Nat → Int32) (ia : Nat → Nat → Int32) (la : Nat → Nat → Int64) : Prop :=
  mI1 σ.1 (iv 0) (iv 1) ∧ mI2 σ.2.1 (ia 2) (ia 3) (ia 4) ∧ mI3 σ.1 σ.2.2.1 (ia 6) (ia 7) (la 8) ∧ mI4 σ.1 σ.2.2.2.1 (iv 12) (iv 18) (ia 13) (ia 14) (ia 15) (ia 16) (ia 17) ∧ iv 19 = σ.2.2.2.2.1 ∧ trR (iv 21) (ia 20) σ.2.2.2.2.2.1 ∧ iv 22 = σ.2.2.2.2.2.2.1 ∧ iv 23 = σ.2.2.2.2.2.2.2
def mPost (cy : Nat → ClassId) (ad : Nat → Nat) (x : Int32 × aS) : gw_Q := fun r w' => r = some (.int x.1) ∧ ∃ (iv : Nat → Int32) (ia : Nat → Nat → Int32) (la : Nat → Nat → Int64), w' = mW cy ad iv ia la ∧ mInv x.2 iv ia la
def mPostL (cy : Nat → ClassId) (ad : Nat → Nat) (x : Int64 × aS) : gw_Q := fun r w' => r = some (.long x.1) ∧ ∃ (iv : Nat → Int32) (ia : Nat → Nat → Int32) (la : Nat → Nat → Int64), w' = mW cy ad iv ia la ∧ mInv x.2 iv ia la
def tI (t : Int32) : Nat := t.toInt.toNat
theorem tI_eq {t : Int32} {m : Int} (h : inZ t.toInt 0 m = true) : t = nI (tI t) := by
  rw [inZ_t] at h
  have h2 := Int32.toInt_lt t
  rw [i32_eq, nI_toInt (by unfold tI; omega)]; unfold tI; omega
theorem tI_lt {t : Int32} {m : Nat} (h : inZ t.toInt 0 m = true) : tI t < m + 1 := by
  rw [inZ_t] at h; unfold tI; omega
/-- drop -/
def spDrop (σ : aS) (t : Int32) : Int32 × aS := if inZ t.toInt 0 7 = true then (match sTb σ (tI t) with
  | none => (-1000011, setSt σ 1)
  | some q => (nI q.2.length, setSt (setTb σ (tI t) none) 0)) else (-1000001, σ)
def fitL (a : Nat) (v : Int32) : Int32 := if a = 0 then v.toInt8.toInt32 else if a = 1 then v.toInt16.toInt32 else v
def spSet (σ : aS) (t i v : Int32) : Int32 × aS := if inZ t.toInt 0 7 = true then (match sTb σ (tI t) with
  | none => (-1000011, setSt σ 1)
  | some q => if inZ i.toInt 0 ((q.2.length : Int) - 1) = true then (fitL q.1 v, setSt (setTb σ (tI t) (some (q.1, q.2.set (tI i) (fitL q.1 v)))) 0) else (-1000012, setSt σ 2)) else (-1000001, σ)
def spTable (σ : aS) (t a n : Int32) : Int32 × aS := if inZ t.toInt 0 7 = true ∧ inZ a.toInt 0 2 = true ∧ n.toInt ≤ 60 then (if n.toInt < 0 then (-1000014, setSt σ 4) else (n, setSt (setTb σ (tI t) (some (tI a, List.replicate (tI n) 0))) 0)) else (-1000001, σ)
