/-! a letter's turn: the keys that it puts are keys -/
theorem cos_kn {n : Nat} {k : Int32} (hn : n ≤ 4) (h : keyOK n k) {x : Nat} (hx : x < 4) : mCos k (nI x) = nI (kn k / 2 ^ (16 - 5 * x) % 16) := by
  have h3 := kn_lt h
  have h4 := pow4_le hn
  have e := kn_eq h hn
  have key : ∀ s, (((nI 16 - nI 5 * nI x) &&& 31).toBitVec.smod 32).toNat = s → mCos k (nI x) = nI (kn k / 2 ^ s % 16) := by
    intro s hs
    unfold mCos
    conv => lhs; rw [e]
    rw [pk_shrN (by omega) _ s hs, pk_andN (k := 4) (Nat.lt_of_le_of_lt (Nat.div_le_self _ _) (by omega)) (by decide)]
  rcases (show x = 0 ∨ x = 1 ∨ x = 2 ∨ x = 3 by omega) with rfl | rfl | rfl | rfl
  · exact key 16 (by decide)
  · exact key 11 (by decide)
  · exact key 6 (by decide)
  · exact key 1 (by decide)
theorem sin_kn {n : Nat} {k : Int32} (hn : n ≤ 4) (h : keyOK n k) {x : Nat} (hx : x < 4) : mSin k (nI x) = nI (kn k / 2 ^ (15 - 5 * x) % 2) := by
  have h3 := kn_lt h
  have h4 := pow4_le hn
  have e := kn_eq h hn
  have key : ∀ s, (((nI 15 - nI 5 * nI x) &&& 31).toBitVec.smod 32).toNat = s → mSin k (nI x) = nI (kn k / 2 ^ s % 2) := by
    intro s hs
    unfold mSin
    conv => lhs; rw [e]
    rw [pk_shrN (by omega) _ s hs, pk_andN (k := 1) (Nat.lt_of_le_of_lt (Nat.div_le_self _ _) (by omega)) (by decide)]
  rcases (show x = 0 ∨ x = 1 ∨ x = 2 ∨ x = 3 by omega) with rfl | rfl | rfl | rfl
  · exact key 15 (by decide)
  · exact key 10 (by decide)
  · exact key 5 (by decide)
  · exact key 0 (by decide)
theorem oneC_kn {x : Nat} (hx : x < 4) : mOneC (nI x) = nI (2 ^ (16 - 5 * x)) := by
  rcases (show x = 0 ∨ x = 1 ∨ x = 2 ∨ x = 3 by omega) with rfl | rfl | rfl | rfl <;> decide
theorem oneS_kn {x : Nat} (hx : x < 4) : mOneS (nI x) = nI (2 ^ (15 - 5 * x)) := by
  rcases (show x = 0 ∨ x = 1 ∨ x = 2 ∨ x = 3 by omega) with rfl | rfl | rfl | rfl <;> decide
theorem cos_le {n : Nat} {q : sT} (hn : n ≤ 4) (h : keyOK n q.1) (hg : sG q 4 = true) {x : Nat} (hx : x < 4) : kn q.1 / 2 ^ (16 - 5 * x) % 16 ≤ 12 := by
  unfold sG at hg
  rw [Bool.and_eq_true, List.all_eq_true] at hg
  have h1 := of_decide_eq_true (hg.2 x (List.mem_range.mpr hx))
  rw [cos_kn hn h hx, i32_lt, nI_toInt (by have := Nat.mod_lt (kn q.1 / 2 ^ (16 - 5 * x)) (show 0 < 16 by decide); omega)] at h1
  have e : (13 : Int32).toInt = 13 := by decide
  omega
theorem tqK_kn {n g : Nat} {k : Int32} (hn : n ≤ 4) (hg : g < 4 ^ n) (h : keyOK n k) : kn (tqK g k) % 2 ^ 20 = kn k % 2 ^ 20 := by
  have h1 := (tqK_ok hn hg h).2
  have h4 := pow4_le hn
  have h5 := xor_lt4 hg (kn_prod_lt h)
  unfold tqK
  rw [kn_nI (by omega)]; omega
theorem let_k1 {n : Nat} {k : Int32} {x : Nat} (hn : n ≤ 4) (h : keyOK n k) (hx : x < 4) (hc : kn k / 2 ^ (16 - 5 * x) % 16 ≤ 12) : keyOK n (k + mOneC (nI x)) := by
  have h3 := kn_lt h
  rw [oneC_kn hx, kn_eq h hn, nI_add]
  refine key_of hn ?_
  generalize 4 ^ n = M at h3 ⊢
  rcases (show x = 0 ∨ x = 1 ∨ x = 2 ∨ x = 3 by omega) with rfl | rfl | rfl | rfl <;> simp only [Nat.reduceMul, Nat.reduceSub, Nat.reducePow] at hc h3 ⊢ <;> omega
theorem let_k2 {n : Nat} {k : Int32} {x : Nat} (hn : n ≤ 4) (h : keyOK n k) (hx : x < 4) (hs : kn k / 2 ^ (15 - 5 * x) % 2 = 0) : keyOK n (k + mOneS (nI x)) := by
  have h3 := kn_lt h
  rw [oneS_kn hx, kn_eq h hn, nI_add]
  refine key_of hn ?_
  generalize 4 ^ n = M at h3 ⊢
  rcases (show x = 0 ∨ x = 1 ∨ x = 2 ∨ x = 3 by omega) with rfl | rfl | rfl | rfl <;> simp only [Nat.reduceMul, Nat.reduceSub, Nat.reducePow] at hs h3 ⊢ <;> omega
theorem let_k3 {n : Nat} {k : Int32} {x : Nat} (hn : n ≤ 4) (h : keyOK n k) (hx : x < 4) (hs : kn k / 2 ^ (15 - 5 * x) % 2 = 1) : 2 ^ (15 - 5 * x) ≤ kn k ∧ k - mOneS (nI x) = nI (kn k - 2 ^ (15 - 5 * x)) ∧ keyOK n (k - mOneS (nI x)) := by
  have h3 := kn_lt h
  have h5 : 2 ^ (15 - 5 * x) ≤ kn k := by
    rcases (show x = 0 ∨ x = 1 ∨ x = 2 ∨ x = 3 by omega) with rfl | rfl | rfl | rfl <;> simp only [Nat.reduceMul, Nat.reduceSub, Nat.reducePow] at hs ⊢ <;> omega
  have e1 : k - mOneS (nI x) = nI (kn k - 2 ^ (15 - 5 * x)) := by
    conv => lhs; rw [kn_eq h hn, oneS_kn hx]
    exact pk_sub h5
  exact ⟨h5, e1, by rw [e1]; exact key_of hn (Nat.lt_of_le_of_lt (Nat.sub_le _ _) h3)⟩
theorem let_k4 {n : Nat} {k : Int32} {x : Nat} (hn : n ≤ 4) (h : keyOK n k) (hx : x < 4) (hs : kn k / 2 ^ (15 - 5 * x) % 2 = 1) (hc : kn k / 2 ^ (16 - 5 * x) % 16 ≤ 12) : keyOK n (k - mOneS (nI x) + nI 2 * mOneC (nI x)) := by
  have h3 := kn_lt h
  obtain ⟨h5, e1, -⟩ := let_k3 hn h hx hs
  rw [e1, oneC_kn hx, pk_mul, nI_add]
  refine key_of hn ?_
  generalize 4 ^ n = M at h3 ⊢
  rcases (show x = 0 ∨ x = 1 ∨ x = 2 ∨ x = 3 by omega) with rfl | rfl | rfl | rfl <;> simp only [Nat.reduceMul, Nat.reduceSub, Nat.reducePow] at hs hc h3 h5 ⊢ <;> omega
theorem low_fields {a b : Nat} (h : a % 2 ^ 20 = b % 2 ^ 20) {x : Nat} (hx : x < 4) : a / 2 ^ (16 - 5 * x) % 16 = b / 2 ^ (16 - 5 * x) % 16 ∧ a / 2 ^ (15 - 5 * x) % 2 = b / 2 ^ (15 - 5 * x) % 2 := by
  rcases (show x = 0 ∨ x = 1 ∨ x = 2 ∨ x = 3 by omega) with rfl | rfl | rfl | rfl <;> simp only [Nat.reduceMul, Nat.reduceSub, Nat.reducePow] at h ⊢ <;> omega
theorem tlP_key {n g x : Nat} {way : Int32} {q y : sT} (hn : n ≤ 4) (hg : g < 4 ^ n) (hx : x < 4) (h : keyOK n q.1) (hG : sG q 4 = true) (hy : y ∈ tlP n g (nI x) way q) : keyOK n y.1 := by
  have hc := cos_le hn h hG hx
  have ht := tqK_ok hn hg h
  obtain ⟨f1, f2⟩ := low_fields (tqK_kn hn hg h) hx
  unfold tlP at hy
  split at hy
  · rw [List.mem_singleton] at hy; rw [hy]; exact h
  · rcases List.mem_cons.mp hy with hy | hy
    · rw [hy]; exact let_k1 hn h hx hc
    · split at hy
      · rename_i hs
        rw [List.mem_singleton] at hy; rw [hy]
        rw [sin_kn hn h hx] at hs
        refine let_k2 hn ht hx ?_
        rw [f2]
        have h9 := Nat.mod_lt (kn q.1 / 2 ^ (15 - 5 * x)) (show 0 < 2 by decide)
        exact (nI_eq (by omega) (by decide)).mp (hs.trans nI_0.symm)
      · rename_i hs
        rw [sin_kn hn h hx] at hs
        have h9 := Nat.mod_lt (kn q.1 / 2 ^ (15 - 5 * x)) (show 0 < 2 by decide)
        have h8 : kn q.1 / 2 ^ (15 - 5 * x) % 2 = 1 := by
          rcases Nat.eq_zero_or_pos (kn q.1 / 2 ^ (15 - 5 * x) % 2) with e | e
          · rw [e] at hs; exact absurd nI_0 hs
          · omega
        rcases List.mem_cons.mp hy with hy | hy
        · rw [hy]; exact (let_k3 hn ht hx (by rw [f2]; exact h8)).2.2
        · rw [List.mem_singleton] at hy; rw [hy]
          exact let_k4 hn ht hx (by rw [f2]; exact h8) (by rw [f1]; exact hc)
def letC (n g : Nat) (x way : Int32) (S : List sT) : List sT := sPuts [] (S.flatMap (tlP n g x way))
theorem letC_ok {n g x : Nat} {way : Int32} {S : List sT} (hn : n ≤ 4) (hg : g < 4 ^ n) (hx : x < 4) (hS : ∀ q ∈ S, keyOK n q.1 ∧ sG q 4 = true) : sOrd (letC n g (nI x) way S) ∧ ∀ y ∈ letC n g (nI x) way S, keyOK n y.1 := by
  refine ⟨sPuts_ord List.Pairwise.nil, fun y hy => ?_⟩
  rcases sPuts_mem hy with ⟨p, hp, e⟩ | ⟨p, hp, e⟩
  · cases hp
  · obtain ⟨q, hq, hp⟩ := List.mem_flatMap.mp hp
    rw [← e]; exact tlP_key hn hg hx (hS q hq).1 (hS q hq).2 hp
def spLetter (σ : aS) (p x way : Int32) : Int32 × aS := if inZ p.toInt 0 ((4 ^ σ.1 : Nat) - 1) = true ∧ inZ x.toInt 0 3 = true ∧ (way = 1 ∨ way = -1) then ofKeep σ 8 (keepS (letC σ.1 (tI p) x way (sSm σ 8))) else (-1000001, σ)
