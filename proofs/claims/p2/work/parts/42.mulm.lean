/-! the product of two rows of powers, as the reference has it -/
def mC2 (a b : Int32) (x : Nat) : Int32 := mCos a (nI x) + mCos b (nI x)
def mS2 (a b : Int32) (x : Nat) : Int32 := mSin a (nI x) + mSin b (nI x)
def mBoth (a b : Int32) (x : Nat) : Bool := decide (mS2 a b x = nI 2)
def mOk (a b : Int32) (x : Nat) : Bool := decide (mC2 a b x + cond (mBoth a b x) (nI 2) (nI 0) ≤ nI 12)
def mPlain (a b : Int32) : Nat → Int32
  | 0 => nI 0
  | x + 1 => mPlain a b x + (mC2 a b x * mOneC (nI x) + (if mS2 a b x = nI 1 then mOneS (nI x) else nI 0))
def mTwice (a b : Int32) : Nat → Int32
  | 0 => nI 0
  | x + 1 => mTwice a b x ||| cond (mBoth a b x) (nI 1 <<< (nI x &&& 31)) (nI 0)
def mBit (so x : Nat) : Prop := (nI so >>> (nI x &&& 31)) &&& nI 1 = nI 1
theorem mBit_dec (so x : Nat) : mBit so x ∨ ¬ mBit so x := Classical.em _
noncomputable def mRow (pl : Int32) (so : Nat) : Nat → Int32
  | 0 => pl
  | x + 1 => if (nI so >>> (nI x &&& 31)) &&& nI 1 = nI 1 then mRow pl so x + nI 2 * mOneC (nI x) else mRow pl so x
def mNum (v : Int64) (so : Nat) : Nat → Int64
  | 0 => v
  | x + 1 => if (nI so >>> (nI x &&& 31)) &&& nI 1 = nI 1 then -mNum v so x else mNum v so x
def mSub (tw : Int32) (so : Nat) : Bool := decide (nI so &&& (tw ^^^ (-1)) = 0)
noncomputable def mRows (pl tw : Int32) (v : Int64) (j : Nat) : List sT := ((List.range j).filter (mSub tw)).map (fun so => (mRow pl so 4, mNum v so 4))
noncomputable def mulP (a b : Int32) (v : Int64) : List sT := mRows (mPlain a b 4) (mTwice a b 4) v 16
noncomputable def mulOk (a b : Int32) (v : Int64) (C : List sT) : Bool := (List.range 4).all (mOk a b) && decide ((sPuts C (mulP a b v)).length ≤ 300)
theorem mRows_t {pl tw : Int32} {v : Int64} {so : Nat} (h : nI so &&& (tw ^^^ (-1)) = 0) : mRows pl tw v (so + 1) = mRows pl tw v so ++ [(mRow pl so 4, mNum v so 4)] := by
  have hb : mSub tw so = true := decide_eq_true h
  unfold mRows
  rw [List.range_succ, List.filter_append, List.map_append, List.filter_cons, if_pos hb]; rfl
theorem mRows_f {pl tw : Int32} {v : Int64} {so : Nat} (h : ¬ nI so &&& (tw ^^^ (-1)) = 0) : mRows pl tw v (so + 1) = mRows pl tw v so := by
  have hb : ¬ mSub tw so = true := fun e => h (of_decide_eq_true e)
  unfold mRows
  rw [List.range_succ, List.filter_append, List.map_append, List.filter_cons, if_neg hb]
  exact List.append_nil _
theorem sIns_ge (k : Int32) (v : Int64) (C : List sT) : C.length ≤ (sIns k v C).length := by
  induction C with
  | nil => simp [sIns]
  | cons a t ih =>
    obtain ⟨x, y⟩ := a
    rw [sIns]; split
    · simp; exact ih
    · split <;> simp
theorem sPuts_ge (C P : List sT) : C.length ≤ (sPuts C P).length := by
  induction P generalizing C with
  | nil => exact Nat.le_refl _
  | cons a t ih => exact Nat.le_trans (sIns_ge a.1 a.2 C) (ih (sIns a.1 a.2 C))
theorem mRows_pre (pl tw : Int32) (v : Int64) {i j : Nat} (h : i ≤ j) : ∃ Q, mRows pl tw v j = mRows pl tw v i ++ Q := by
  obtain ⟨b, rfl⟩ : ∃ b, j = i + b := ⟨j - i, by omega⟩
  refine ⟨(((List.range b).map (i + ·)).filter (mSub tw)).map (fun so => (mRow pl so 4, mNum v so 4)), ?_⟩
  unfold mRows
  rw [List.range_add, List.filter_append, List.map_append]
theorem mRows_len (C : List sT) (pl tw : Int32) (v : Int64) {i j : Nat} (h : i ≤ j) : (sPuts C (mRows pl tw v i)).length ≤ (sPuts C (mRows pl tw v j)).length := by
  obtain ⟨Q, hQ⟩ := mRows_pre pl tw v h
  rw [hQ, sPuts_app]; exact sPuts_ge _ _
theorem mulOk_bad1 {a b : Int32} {v : Int64} {C : List sT} {x : Nat} (hx : x < 4) (h : mOk a b x = false) : mulOk a b v C = false := by
  unfold mulOk
  rw [Bool.and_eq_false_iff]; left
  rw [List.all_eq_false]
  exact ⟨x, List.mem_range.mpr hx, by rw [h]; decide⟩
theorem mulOk_bad2 {a b : Int32} {v : Int64} {C : List sT} {so : Nat} (hs : so ≤ 16) (h : 300 < (sPuts C (mRows (mPlain a b 4) (mTwice a b 4) v so)).length) : mulOk a b v C = false := by
  unfold mulOk mulP
  rw [Bool.and_eq_false_iff]; right
  have := mRows_len C (mPlain a b 4) (mTwice a b 4) v hs
  exact decide_eq_false (by omega)
theorem mulOk_good {a b : Int32} {v : Int64} {C : List sT} (h1 : ∀ x, x < 4 → mOk a b x = true) (h2 : (sPuts C (mulP a b v)).length ≤ 300) : mulOk a b v C = true := by
  unfold mulOk
  rw [Bool.and_eq_true, List.all_eq_true]
  exact ⟨fun x hx => h1 x (List.mem_range.mp hx), decide_eq_true h2⟩
