/-! an op comes behind the others -/
theorem opn_snoc (O : List aO) (o : aO) : opn (O ++ [o]) = opStep (opn O) o := by simp [opn, List.foldl_append]
theorem mI4_snoc {n : Nat} {O : List aO} {o : aO} {v12 v18 v18' : Int32} {a13 a14 a15 a16 a17 : Nat → Int32} {c : Nat} (h : mI4 n O v12 v18 a13 a14 a15 a16 a17) (hl : O.length < 40) (ho : opOK n o) (hc : opStep (opn O) o = some c) (h3 : c ≤ 3) (hv : v18' = nI c) :
    mI4 n (O ++ [o]) (nI (O.length + 1)) v18' (upd a13 O.length (nI o.1)) (upd a14 O.length o.2.1) (upd a15 O.length o.2.2.1) (upd a16 O.length o.2.2.2.1) (upd a17 O.length o.2.2.2.2) := by
  obtain ⟨h1, h2, -, h4, h5⟩ := h
  refine ⟨by rw [List.length_append]; simp; omega, by rw [List.length_append]; rfl, ⟨c, by rw [opn_snoc]; exact hc, h3, hv⟩, fun x hx => ?_, fun j hj => ?_⟩
  · rcases List.mem_append.mp hx with hx | hx
    · exact h4 x hx
    · rw [List.mem_singleton] at hx; rw [hx]; exact ho
  · rw [List.length_append, List.length_singleton] at hj
    by_cases e : j = O.length
    · subst e
      rw [pk_us, pk_us, pk_us, pk_us, pk_us]
      have e2 : (O ++ [o])[O.length]'(by rw [List.length_append]; simp) = o := by simp
      rw [e2]; exact ⟨rfl, rfl, rfl, rfl, rfl⟩
    · have hj2 : j < O.length := by omega
      rw [pk_un e, pk_un e, pk_un e, pk_un e, pk_un e, List.getElem_append_left hj2]
      exact h5 j hj2
theorem opStep_keep {O : List aO} {o : aO} {c : Nat} (h : opn O = some c) (h5 : ¬ o.1 = 5) (h6 : ¬ o.1 = 6) : opStep (opn O) o = some c := by
  rw [h]; simp [opStep, h5, h6]
/-- an op that is neither a round nor an end comes, or there is no place -/
def spCome (σ : aS) (o : aO) : Int32 × aS := if (sOp σ).length = 40 then (-1000003, σ) else (nI (sOp σ).length, setOp σ (sOp σ ++ [o]))
