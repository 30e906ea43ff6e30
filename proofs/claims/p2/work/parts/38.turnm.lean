/-! keys as numbers, and what a turn puts -/
def kn (k : Int32) : Nat := k.toInt.toNat
def keyOK (n : Nat) (k : Int32) : Prop := 0 ≤ k.toInt ∧ kn k < 4 ^ n * 2 ^ 20
theorem pow4_le {n : Nat} (h : n ≤ 4) : 4 ^ n ≤ 256 := by
  rcases (show n = 0 ∨ n = 1 ∨ n = 2 ∨ n = 3 ∨ n = 4 by omega) with rfl | rfl | rfl | rfl | rfl <;> decide
theorem kn_lt {n : Nat} {k : Int32} (h : keyOK n k) : kn k < 4 ^ n * 2 ^ 20 := h.2
theorem kn_eq {n : Nat} {k : Int32} (h : keyOK n k) (hn : n ≤ 4) : k = nI (kn k) := by
  have h1 := h.1
  have h3 := kn_lt h
  have h4 := pow4_le hn
  rw [i32_eq, nI_toInt (by omega)]
  unfold kn; omega
theorem kn_prod {n : Nat} {k : Int32} (h : keyOK n k) (hn : n ≤ 4) : mProd k = nI (kn k / 2 ^ 20) := by
  have h3 := kn_lt h
  have h4 := pow4_le hn
  unfold mProd
  conv => lhs; rw [kn_eq h hn]
  exact pk_shrN (by omega) _ 20 (by decide)
theorem kn_prod_lt {n : Nat} {k : Int32} (h : keyOK n k) : kn k / 2 ^ 20 < 4 ^ n := by
  rw [Nat.div_lt_iff_lt_mul (by decide)]; exact kn_lt h
def tqK (g : Nat) (k : Int32) : Int32 := nI ((g ^^^ (kn k / 2 ^ 20)) * 2 ^ 20 + kn k % 2 ^ 20)
theorem tqK_eq {n g : Nat} {k : Int32} (h : keyOK n k) (hn : n ≤ 4) (hx : g ^^^ (kn k / 2 ^ 20) < 256) : (nI (g ^^^ (kn k / 2 ^ 20)) <<< (nI 20 &&& 31)) ||| (k &&& 1048575) = tqK g k := by
  have h3 := kn_lt h
  have h4 := pow4_le hn
  have e3 : ∀ a b : Nat, nI a ||| nI b = nI (a ||| b) := fun a b => by
    apply Int32.toBitVec_inj.mp
    show BitVec.ofNat 32 a ||| BitVec.ofNat 32 b = BitVec.ofNat 32 (a ||| b)
    apply BitVec.eq_of_getLsbD_eq
    intro i hi
    simp [BitVec.getLsbD_ofNat, Nat.testBit_or, hi]
  rw [pk_shlN _ 20 (by decide) (by omega)]
  conv => lhs; rw [kn_eq h hn]
  rw [pk_andN (k := 20) (by omega) (by decide), ← kn_eq h hn, e3]
  unfold tqK
  rw [Nat.mul_comm, Nat.two_pow_add_eq_or_of_lt (Nat.mod_lt _ (by decide))]
def tq (n g q : Nat) (x : sT) : sT := if fitN n g (kn x.1 / 2 ^ 20) = true ∨ q = 0 then x else if q = 2 then (x.1, -x.2) else (tqK g x.1, if q = 1 then (sgN n g (kn x.1 / 2 ^ 20)).toInt64 * x.2 else (-sgN n g (kn x.1 / 2 ^ 20)).toInt64 * x.2)
theorem tq_a {n g q : Nat} {x : sT} (h : fitN n g (kn x.1 / 2 ^ 20) = true ∨ q = 0) : tq n g q x = x := if_pos h
theorem tq_b {n g q : Nat} {x : sT} (h : ¬ fitN n g (kn x.1 / 2 ^ 20) = true) (h0 : ¬ q = 0) (h2 : q = 2) : tq n g q x = (x.1, -x.2) := by
  rw [tq, if_neg (fun e => e.elim h h0), if_pos h2]
theorem tq_c {n g q : Nat} {x : sT} (h : ¬ fitN n g (kn x.1 / 2 ^ 20) = true) (h0 : ¬ q = 0) (h2 : ¬ q = 2) (h1 : q = 1) : tq n g q x = (tqK g x.1, (sgN n g (kn x.1 / 2 ^ 20)).toInt64 * x.2) := by
  rw [tq, if_neg (fun e => e.elim h h0), if_neg h2, if_pos h1]
theorem tq_d {n g q : Nat} {x : sT} (h : ¬ fitN n g (kn x.1 / 2 ^ 20) = true) (h0 : ¬ q = 0) (h2 : ¬ q = 2) (h1 : ¬ q = 1) : tq n g q x = (tqK g x.1, (-sgN n g (kn x.1 / 2 ^ 20)).toInt64 * x.2) := by
  rw [tq, if_neg (fun e => e.elim h h0), if_neg h2, if_neg h1]
