/-! sums of the state: what is kept is a sum; a new sum at a shelf -/
theorem sPuts_mem {C P : List sT} {q : sT} (h : q ∈ sPuts C P) : (∃ p ∈ C, p.1 = q.1) ∨ ∃ p ∈ P, p.1 = q.1 := by
  induction P generalizing C with
  | nil => exact Or.inl ⟨q, h, rfl⟩
  | cons a t ih =>
    rcases ih (C := sIns a.1 a.2 C) h with ⟨p, hp, e⟩ | ⟨p, hp, e⟩
    · rcases sIns_mem hp with e2 | ⟨p2, hp2, e2⟩
      · exact Or.inr ⟨a, List.mem_cons_self, by rw [← e, e2]⟩
      · exact Or.inl ⟨p2, hp2, by rw [e2, e]⟩
    · exact Or.inr ⟨p, List.mem_cons_of_mem _ hp, e⟩
theorem keepS_ok {n : Nat} {C S : List sT} (ho : sOrd C) (hk : ∀ q ∈ C, keyOK n q.1) (h : keepS C = some S) : sOK n S := by
  unfold keepS at h
  split at h
  · rename_i hc
    cases h
    rw [Bool.and_eq_true, List.all_eq_true] at hc
    refine ⟨List.Pairwise.filter _ ho, of_decide_eq_true hc.2, fun q hq => ⟨(List.mem_filter.mp hq).2, hc.1 q hq, hk q (List.mem_filter.mp hq).1⟩⟩
  · cases h
theorem sOK_nil (n : Nat) : sOK n [] := ⟨List.Pairwise.nil, Nat.zero_le _, fun q h => by cases h⟩
theorem mI3_set {n t : Nat} {sm : Nat → List sT} {a6 a7 kk : Nat → Int32} {b8 nn : Nat → Int64} {S : List sT} (h : mI3 n sm a6 a7 b8) (ht : t < 9) (hS : sOK n S) (hT : takeS kk nn (300 * t) S.length = S) (hO : ∀ j, (j < 300 * t ∨ 300 * t + 300 ≤ j) → kk j = a7 j ∧ nn j = b8 j) : mI3 n (va_up sm t S) (upd a6 t (nI S.length)) kk nn := by
  intro i hi
  by_cases e : i = t
  · subst e; rw [va_up_self, pk_us]; exact ⟨hS, rfl, hT⟩
  · rw [va_up_ne _ _ e, pk_un e]
    obtain ⟨h1, h2, h3⟩ := h i hi
    refine ⟨h1, h2, ?_⟩
    have h4 := h1.2.1
    rw [takeS_congr (ks := kk) (ns := nn) (ks' := a7) (ns' := b8) (off' := 300 * i) (fun j hj => hO _ (by omega))]
    exact h3
theorem mI3_take {n t : Nat} {sm : Nat → List sT} {a6 a7 : Nat → Int32} {b8 : Nat → Int64} (h : mI3 n sm a6 a7 b8) (ht : t < 9) : a6 t = nI (sm t).length ∧ (sm t).length ≤ 300 ∧ takeS a7 b8 (300 * t) (sm t).length = sm t ∧ ∀ q ∈ sm t, keyOK n q.1 := ⟨(h t ht).2.1, (h t ht).1.2.1, (h t ht).2.2, fun q hq => ((h t ht).1.2.2 q hq).2.2⟩
theorem sScale_mem {v : Int64} {S : List sT} {q : sT} (h : q ∈ sScale v S) : ∃ p ∈ S, p.1 = q.1 := by
  obtain ⟨p, hp, rfl⟩ := List.mem_map.mp h
  exact ⟨p, hp, rfl⟩
def spClear (σ : aS) (s : Int32) : Int32 × aS := if inZ s.toInt (-1) 7 = true then (nI (sSm σ (mPl s)).length, setSm σ (mPl s) []) else (-1000001, σ)
def spTerms (σ : aS) (s : Int32) : Int32 × aS := if inZ s.toInt (-1) 7 = true then (nI (sSm σ (mPl s)).length, σ) else (-1000001, σ)
theorem t_mterms (l : Launch) (cy : Nat → ClassId) (ad : Nat → Nat) (iv : Nat → Int32) (ia : Nat → Nat → Int32) (la : Nat → Nat → Int64) (σ : aS) (hI : mInv σ iv ia la) (s : Int32) : gw_M l kX12_terms cy [.ref (ad 0), .int s] (mW cy ad iv ia la) (mPost cy ad (spTerms σ s)) := (c_mterms l cy ad iv ia la s).less (fun r w' h => by
  obtain ⟨rfl, rfl⟩ := h
  unfold spTerms
  by_cases hs : inZ s.toInt (-1) 7 = true
  · rw [if_pos hs, if_pos hs]
    exact ⟨congrArg (fun z => some (Value.int z)) (mI3_take hI.2.2.1 (mPl_lt hs)).1, iv, ia, la, rfl, hI⟩
  · rw [if_neg hs, if_neg hs]
    exact ⟨rfl, iv, ia, la, rfl, hI⟩)
theorem t_mclear (l : Launch) (cy : Nat → ClassId) (ad : Nat → Nat) (iv : Nat → Int32) (ia : Nat → Nat → Int32) (la : Nat → Nat → Int64) (σ : aS) (hI : mInv σ iv ia la) (s : Int32) : gw_M l kX12_clear cy [.ref (ad 0), .int s] (mW cy ad iv ia la) (mPost cy ad (spClear σ s)) := (c_mclear l cy ad iv ia la s).less (fun r w' h => by
  obtain ⟨rfl, rfl⟩ := h
  unfold spClear
  by_cases hs : inZ s.toInt (-1) 7 = true
  · rw [if_pos hs, if_pos hs, if_pos hs]
    obtain ⟨i1, i2, i3, i4, i5, i6, i7, i8⟩ := hI
    exact ⟨congrArg (fun z => some (Value.int z)) (mI3_take i3 (mPl_lt hs)).1, _, _, _, rfl, i1, i2, mI3_set i3 (mPl_lt hs) (sOK_nil _) rfl (fun _ _ => ⟨rfl, rfl⟩), i4, i5, i6, i7, i8⟩
  · rw [if_neg hs, if_neg hs, if_neg hs]
    exact ⟨rfl, iv, ia, la, rfl, hI⟩)
