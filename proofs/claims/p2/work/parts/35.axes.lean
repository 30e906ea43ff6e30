/-! axes of products: place s of a product is its digit s to the base 4; which clash, and how -/
def axN (g s : Nat) : Nat := g / 4 ^ s % 4
def clash (a b : Nat) : Bool := decide (¬ a = 0 ∧ ¬ b = 0 ∧ ¬ a = b)
def upw (a b : Nat) : Bool := decide ((b + 3 - a) % 3 = 1)
def cntN (g p : Nat) : Nat → Nat
  | 0 => 0
  | s + 1 => cntN g p s + cond (clash (axN g s) (axN p s)) 1 0
def uN4 (g p : Nat) : Nat → Nat
  | 0 => 0
  | s + 1 => uN4 g p s + cond (clash (axN g s) (axN p s) && upw (axN g s) (axN p s)) 1 0
def dN4 (g p : Nat) : Nat → Nat
  | 0 => 0
  | s + 1 => dN4 g p s + cond (clash (axN g s) (axN p s) && !upw (axN g s) (axN p s)) 1 0
def fitN (n g p : Nat) : Bool := decide (cntN g p n % 2 = 0)
def sgN (n g p : Nat) : Int32 := if (uN4 g p n + 7 - dN4 g p n) % 4 = 0 then 1 else -1
theorem ax_lt (g s : Nat) : axN g s < 4 := Nat.mod_lt _ (by decide)
theorem ax_eq {g s : Nat} (hg : g < 2 ^ 31) (hs : s < 4) : (nI g >>> (nI (2 * s) &&& 31)) &&& nI 3 = nI (axN g s) := by
  have h : ∀ k, ((nI (2 * s) &&& 31).toBitVec.smod 32).toNat = k → (nI g >>> (nI (2 * s) &&& 31)) &&& nI 3 = nI (g / 2 ^ k % 4) := by
    intro k hk
    rw [pk_shrN hg _ k hk, pk_andN (k := 2) (Nat.lt_of_le_of_lt (Nat.div_le_self _ _) (by omega)) (by decide)]
  unfold axN
  rcases (show s = 0 ∨ s = 1 ∨ s = 2 ∨ s = 3 by omega) with rfl | rfl | rfl | rfl
  · exact h 0 (by decide)
  · exact h 2 (by decide)
  · exact h 4 (by decide)
  · exact h 6 (by decide)
theorem cnt_le (g p s : Nat) : cntN g p s ≤ s := by
  induction s with
  | zero => exact Nat.le_refl _
  | succ s ih => rw [cntN]; cases clash (axN g s) (axN p s) <;> simp <;> omega
theorem ud_le (g p s : Nat) : uN4 g p s + dN4 g p s = cntN g p s := by
  induction s with
  | zero => rfl
  | succ s ih =>
    rw [cntN, uN4, dN4]
    cases clash (axN g s) (axN p s) <;> cases upw (axN g s) (axN p s) <;> simp <;> omega
theorem clash_f1 {a b : Nat} (h : a = 0) : clash a b = false := by simp [clash, h]
theorem clash_f2 {a b : Nat} (h : b = 0) : clash a b = false := by simp [clash, h]
theorem clash_f3 {a b : Nat} (h : a = b) : clash a b = false := by simp [clash, h]
theorem clash_t {a b : Nat} (h1 : ¬ a = 0) (h2 : ¬ b = 0) (h3 : ¬ a = b) : clash a b = true := by simp [clash, h1, h2, h3]
theorem ax_xor (g p s : Nat) : axN (g ^^^ p) s = axN g s ^^^ axN p s := by
  unfold axN
  rw [show (4 : Nat) = 2 ^ 2 from rfl, ← Nat.pow_mul, Nat.xor_div_two_pow, Nat.xor_mod_two_pow]
theorem xor4 : ∀ a, a < 4 → ∀ b, b < 4 → a ^^^ b = (if a = 0 then b else if b = 0 then a else if a = b then 0 else 6 - a - b) := by decide
theorem or_ax {x s : Nat} (hs : s < 4) : nI (x % 4 ^ s) ||| (nI (axN x s) <<< (nI (2 * s) &&& 31)) = nI (x % 4 ^ (s + 1)) := by
  have hx := ax_lt x s
  have h : ∀ k, 4 ^ s = 2 ^ k → k ≤ 6 → ((nI (2 * s) &&& 31).toBitVec.smod 32).toNat = k → nI (x % 4 ^ s) ||| (nI (axN x s) <<< (nI (2 * s) &&& 31)) = nI (x % 4 ^ (s + 1)) := by
    intro k e hk6 hk
    have hp : 2 ^ k ≤ 2 ^ 6 := Nat.pow_le_pow_right (by decide) hk6
    have hlt : x % 2 ^ k < 2 ^ k := Nat.mod_lt _ (Nat.two_pow_pos k)
    have hm : axN x s * 2 ^ k ≤ 3 * 2 ^ k := Nat.mul_le_mul_right _ (by omega)
    rw [pk_shlN _ k hk (by omega), e]
    have e2 : x % 4 ^ (s + 1) = 2 ^ k * axN x s + x % 2 ^ k := by
      rw [Nat.pow_succ, e, Nat.mod_mul]
      unfold axN; rw [e]; omega
    have e3 : ∀ a b : Nat, nI a ||| nI b = nI (a ||| b) := fun a b => by
      apply Int32.toBitVec_inj.mp
      show BitVec.ofNat 32 a ||| BitVec.ofNat 32 b = BitVec.ofNat 32 (a ||| b)
      apply BitVec.eq_of_getLsbD_eq
      intro i hi
      simp [BitVec.getLsbD_ofNat, Nat.testBit_or, hi]
    rw [e3, e2, Nat.mul_comm, Nat.two_pow_add_eq_or_of_lt hlt, Nat.or_comm]
  rcases (show s = 0 ∨ s = 1 ∨ s = 2 ∨ s = 3 by omega) with rfl | rfl | rfl | rfl
  · exact h 0 rfl (by decide) (by decide)
  · exact h 2 rfl (by decide) (by decide)
  · exact h 4 rfl (by decide) (by decide)
  · exact h 6 rfl (by decide) (by decide)
theorem up_eq : ∀ a, a < 4 → ∀ b, b < 4 → (¬ a = 0 ∧ ¬ b = 0) → (((nI b - nI a) + nI 3) - ((nI b - nI a) + nI 3) / nI 3 * nI 3 = nI 1 ↔ upw a b = true) := by decide
theorem sg_eq : ∀ u, u < 5 → ∀ d, d < 5 → u + d < 5 → ((((nI u - nI (d + 1)) - (nI u - nI (d + 1)) / nI 4 * nI 4 + nI 4) - ((nI u - nI (d + 1)) - (nI u - nI (d + 1)) / nI 4 * nI 4 + nI 4) / nI 4 * nI 4 = 0) ↔ (u + 7 - d) % 4 = 0) := by decide
