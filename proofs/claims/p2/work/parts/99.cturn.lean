/-! the class: turnByQuarters, turnByLetter -/
theorem take_S {ks : Nat → Int32} {ns : Nat → Int64} {S : List sT} (h : takeS ks ns 0 S.length = S) {t : Nat} (ht : t < S.length) : S.take (t + 1) = S.take t ++ [(ks t, ns t)] := by
  have := takeS_get (ks := ks) (ns := ns) (off := 0) ht
  rw [h, Nat.zero_add] at this
  rw [List.take_add_one, this]; rfl
theorem quart_min {n g : Nat} {S : List sT} (q : Nat) (hn : n ≤ 4) (hg : g < 4 ^ n) (hS : sOK n S) : noMin (quartC n g q S) := by
  refine noMin_of (n := n) (S := S) (m := 1) (P := S.map (tq n g q)) (fun x hx => ?_) (by rw [List.length_map]; have := hS.2.1; omega)
  obtain ⟨y, hy, e⟩ := List.mem_map.mp hx
  have := (tq_good (q := q) hn hg (hS.2.2 y hy)).2
  have := (Bool.and_eq_true_iff.mp this).1
  rw [← e]
  rw [inZ_t] at this; omega
theorem and_pow {K j : Nat} (hK : K < 2 ^ 31) (hj : j < 30) : nI K &&& nI (2 ^ j) = 0 ↔ K / 2 ^ j % 2 = 0 := by
  have e3 : nI K &&& nI (2 ^ j) = nI (K &&& 2 ^ j) := by
    apply Int32.toBitVec_inj.mp
    show BitVec.ofNat 32 K &&& BitVec.ofNat 32 (2 ^ j) = BitVec.ofNat 32 (K &&& 2 ^ j)
    apply BitVec.eq_of_getLsbD_eq
    intro i hi
    simp [BitVec.getLsbD_ofNat, Nat.testBit_and, hi]
  have hle : K &&& 2 ^ j ≤ K := Nat.and_le_left
  rw [e3]
  have hz : nI (K &&& 2 ^ j) = 0 ↔ K &&& 2 ^ j = 0 := ⟨fun e => nI_inj (b := 0) (by omega) (by decide) e, fun e => by rw [e]; rfl⟩
  rw [hz]
  have ht : K.testBit j = decide (K / 2 ^ j % 2 = 1) := Nat.testBit_eq_decide_div_mod_eq
  constructor
  · intro e
    have h1 : (K &&& 2 ^ j).testBit j = false := by rw [e]; exact Nat.zero_testBit j
    rw [Nat.testBit_and, Nat.testBit_two_pow_self, Bool.and_true, ht] at h1
    have := of_decide_eq_false h1
    omega
  · intro e
    apply Nat.eq_of_testBit_eq
    intro i
    rw [Nat.testBit_and, Nat.zero_testBit, Nat.testBit_two_pow]
    by_cases hij : j = i
    · subst hij; rw [ht, decide_eq_false (by omega)]; rfl
    · rw [decide_eq_false hij, Bool.and_false]
theorem pts_tl {n g x : Nat} {k : Int32} {v : Int64} (hn : n ≤ 4) (hg : g < 4 ^ n) (hx : x < 4) (h : keyOK n k) : ptsP (tqK g k) x v = if mSin k (nI x) = 0 then [(tqK g k + mOneS (nI x), v)] else [(tqK g k - mOneS (nI x), v), (tqK g k - mOneS (nI x) + nI 2 * mOneC (nI x), -v)] := by
  have hk := tqK_ok hn hg h
  have h3 := kn_lt hk
  have h4 := pow4_le hn
  have e : (tqK g k &&& mOneS (nI x) = 0) ↔ mSin k (nI x) = 0 := by
    rw [oneS_kn hx, sin_kn hn h hx]
    conv => lhs; rw [kn_eq hk hn]
    rw [and_pow (by omega) (by omega), (low_fields (tqK_kn hn hg h) hx).2]
    have h5 := Nat.mod_lt (kn k / 2 ^ (15 - 5 * x)) (show 0 < 2 by decide)
    exact ⟨fun e => by rw [e]; rfl, fun e => nI_inj (b := 0) (by omega) (by decide) e⟩
  unfold ptsP
  by_cases hs : mSin k (nI x) = 0
  · rw [if_pos (e.mpr hs), if_pos hs]
  · rw [if_neg (fun h => hs (e.mp h)), if_neg hs]
theorem by_eq {s w : Int32} {v : Int64} (hs : s = 1 ∨ s = -1) (hw : w = 1 ∨ w = -1) : v * s.toInt64 * w.toInt64 = (w * s).toInt64 * v := by
  rcases hs with e | e <;> rcases hw with f | f <;> rw [e, f]
  · rw [show (1 : Int32).toInt64 = 1 from by decide, show ((1 : Int32) * 1).toInt64 = 1 from by decide, Int64.mul_one, Int64.mul_one, Int64.one_mul]
  · rw [show (1 : Int32).toInt64 = 1 from by decide, show ((-1 : Int32) * 1).toInt64 = -1 from by decide, show (-1 : Int32).toInt64 = -1 from by decide, Int64.mul_one, Int64.mul_comm]
  · rw [show (1 : Int32).toInt64 = 1 from by decide, show ((1 : Int32) * -1).toInt64 = -1 from by decide, show (-1 : Int32).toInt64 = -1 from by decide, Int64.mul_one, Int64.mul_comm]
  · rw [show (-1 : Int32).toInt64 = -1 from by decide, show ((-1 : Int32) * -1).toInt64 = 1 from by decide, Int64.mul_comm v, Int64.neg_mul, Int64.one_mul, Int64.mul_comm, Int64.neg_mul, Int64.one_mul, Int64.neg_neg]
theorem tlP_len (n g : Nat) (x way : Int32) (q : sT) : (tlP n g x way q).length ≤ 3 := by
  unfold tlP; split
  · simp
  · split <;> simp
theorem flat_len (n g : Nat) (x way : Int32) (S : List sT) : (S.flatMap (tlP n g x way)).length ≤ 3 * S.length := by
  induction S with
  | nil => simp
  | cons a t ih => rw [List.flatMap_cons, List.length_append, List.length_cons]; have := tlP_len n g x way a; omega
theorem tlP_num {n g : Nat} {x way : Int32} {q y : sT} (hw : way = 1 ∨ way = -1) (hy : y ∈ tlP n g x way q) : y.2 = q.2 ∨ y.2 = -q.2 := by
  have hs := sg_pm n g (kn q.1 / 2 ^ 20)
  have hb : (way * sgN n g (kn q.1 / 2 ^ 20)).toInt64 * q.2 = q.2 ∨ (way * sgN n g (kn q.1 / 2 ^ 20)).toInt64 * q.2 = -q.2 := by
    refine i64_pm ?_
    rcases hs with e | e <;> rcases hw with f | f <;> rw [e, f] <;> decide
  unfold tlP at hy
  split at hy
  · rw [List.mem_singleton] at hy; rw [hy]; exact Or.inl rfl
  · rcases List.mem_cons.mp hy with e | hy
    · rw [e]; exact Or.inl rfl
    · split at hy
      · rw [List.mem_singleton] at hy; rw [hy]; exact hb
      · rcases List.mem_cons.mp hy with e | hy
        · rw [e]; exact hb
        · rw [List.mem_singleton] at hy; rw [hy]
          show -((way * sgN n g (kn q.1 / 2 ^ 20)).toInt64 * q.2) = _ ∨ -((way * sgN n g (kn q.1 / 2 ^ 20)).toInt64 * q.2) = _
          rcases hb with e | e
          · right; rw [e]
          · left; rw [e, Int64.neg_neg]
theorem let_min {n g : Nat} {x way : Int32} {S : List sT} (hw : way = 1 ∨ way = -1) (hS : sOK n S) : noMin (letC n g x way S) := by
  refine noMin_of (n := n) (S := S) (m := 1) (P := S.flatMap (tlP n g x way)) (fun y hy => ?_) (by have := flat_len n g x way S; have := hS.2.1; omega)
  obtain ⟨q, hq, e⟩ := List.mem_flatMap.mp hy
  have hb := bnd_ok hS q hq
  rcases tlP_num hw e with f | f
  · rw [f]; omega
  · rw [f, Int64.toInt_neg, Int.bmod_eq_of_le]
    · omega
    · have : (2 ^ 64 : Nat) / 2 = 9223372036854775808 := by decide
      omega
    · have : ((2 ^ 64 : Nat) + 1) / 2 = 9223372036854775808 := by decide
      omega
theorem tl_a {n g : Nat} {x way : Int32} {q : sT} (h : fitN n g (kn q.1 / 2 ^ 20) = true) : tlP n g x way q = [q] := if_pos h
theorem tl_b {n g x : Nat} {way k : Int32} {v : Int64} (hn : n ≤ 4) (hg : g < 4 ^ n) (hx : x < 4) (hk : keyOK n k) (h : ¬ fitN n g (kn k / 2 ^ 20) = true) : tlP n g (nI x) way (k, v) = (k + mOneC (nI x), v) :: ptsP (tqK g k) x ((way * sgN n g (kn k / 2 ^ 20)).toInt64 * v) := by
  rw [pts_tl hn hg hx hk]; exact if_neg h
