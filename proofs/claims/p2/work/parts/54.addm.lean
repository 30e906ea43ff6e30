/-! keys of what is added and turned stay keys -/
theorem kn_nI {z : Nat} (h : z < 2 ^ 31) : kn (nI z) = z := by unfold kn; rw [nI_toInt h]; omega
theorem key_of {n z : Nat} (hn : n ≤ 4) (h : z < 4 ^ n * 2 ^ 20) : keyOK n (nI z) := by
  have h4 := pow4_le hn
  have hz : z < 2 ^ 31 := by omega
  exact ⟨by rw [nI_toInt hz]; omega, by rw [kn_nI hz]; exact h⟩
theorem key_shl {n p : Nat} (hn : n ≤ 4) (h : p < 4 ^ n) : nI p <<< (nI 20 &&& 31) = nI (p * 2 ^ 20) ∧ keyOK n (nI (p * 2 ^ 20)) := by
  have h4 := pow4_le hn
  exact ⟨pk_shlN _ 20 (by decide) (by omega), key_of hn (Nat.mul_lt_mul_of_pos_right h (by decide))⟩
theorem tqK_ok {n g : Nat} {k : Int32} (hn : n ≤ 4) (hg : g < 4 ^ n) (h : keyOK n k) : keyOK n (tqK g k) := by
  unfold tqK
  refine key_of hn ?_
  have h1 := xor_lt4 hg (kn_prod_lt h)
  have h2 : kn k % 2 ^ 20 < 2 ^ 20 := Nat.mod_lt _ (by decide)
  have h3 : ((g ^^^ (kn k / 2 ^ 20)) + 1) * 2 ^ 20 ≤ 4 ^ n * 2 ^ 20 := Nat.mul_le_mul_right _ h1
  omega
theorem tq_key {n g q : Nat} {x : sT} (hn : n ≤ 4) (hg : g < 4 ^ n) (h : keyOK n x.1) : keyOK n (tq n g q x).1 := by
  unfold tq
  split
  · exact h
  · split
    · exact h
    · exact tqK_ok hn hg h
def addC (S : List sT) (p v : Int32) : List sT := sIns (p <<< (nI 20 &&& 31)) v.toInt64 (sPuts [] (sScale 1 S))
def spAdd (σ : aS) (s p v : Int32) : Int32 × aS := if inZ s.toInt (-1) 7 = true ∧ inZ p.toInt 0 ((4 ^ σ.1 : Nat) - 1) = true then ofKeep σ (mPl s) (keepS (addC (sSm σ (mPl s)) p v)) else (-1000001, σ)
theorem addC_ok {n : Nat} {S : List sT} {p v : Int32} (hn : n ≤ 4) (hp : inZ p.toInt 0 ((4 ^ n : Nat) - 1) = true) (hS : ∀ q ∈ S, keyOK n q.1) : sOrd (addC S p v) ∧ ∀ q ∈ addC S p v, keyOK n q.1 := by
  refine ⟨sIns_ord (sPuts_ord List.Pairwise.nil), fun q hq => ?_⟩
  rcases sIns_mem hq with e | ⟨p1, hp1, e⟩
  · rw [e]
    have h1 := tI_eq hp
    rw [inZ_t] at hp
    have h2 : tI p < 4 ^ n := by unfold tI; omega
    rw [h1, (key_shl hn h2).1]; exact (key_shl hn h2).2
  · rcases sPuts_mem hp1 with ⟨p2, hp2, e2⟩ | ⟨p2, hp2, e2⟩
    · cases hp2
    · obtain ⟨p3, hp3, e3⟩ := sScale_mem hp2
      rw [← e, ← e2, ← e3]; exact hS p3 hp3
def quartC (n g q : Nat) (S : List sT) : List sT := sPuts [] (S.map (tq n g q))
def spQuarter (σ : aS) (p q : Int32) : Int32 × aS := if inZ p.toInt 0 ((4 ^ σ.1 : Nat) - 1) = true ∧ inZ q.toInt 0 3 = true then (match keepS (quartC σ.1 (tI p) (tI q) (sSm σ 8)) with
  | some S => (nI S.length, setSm σ 8 S)
  | none => (nI (sSm σ 8).length, σ)) else (-1000001, σ)
theorem quartC_ok {n g q : Nat} {S : List sT} (hn : n ≤ 4) (hg : g < 4 ^ n) (hS : ∀ x ∈ S, keyOK n x.1) : sOrd (quartC n g q S) ∧ ∀ x ∈ quartC n g q S, keyOK n x.1 := by
  refine ⟨sPuts_ord List.Pairwise.nil, fun x hx => ?_⟩
  rcases sPuts_mem hx with ⟨p, hp, e⟩ | ⟨p, hp, e⟩
  · cases hp
  · obtain ⟨y, hy, rfl⟩ := List.mem_map.mp hp
    rw [← e]; exact tq_key hn hg (hS y hy)
