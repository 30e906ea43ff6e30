/-! what is kept of what was put: TERMS that aren't 0, if each is good and they aren't too many -/
def nz (q : sT) : Bool := decide (q.2 ≠ 0)
def sG (q : sT) (x : Nat) : Bool := inZ q.2.toInt (-1000000000000) 1000000000000 && (List.range x).all (fun y => decide (mCos q.1 (nI y) < 13))
def keepS (C : List sT) : Option (List sT) := if (C.filter nz).all (fun q => sG q 4) && decide ((C.filter nz).length ≤ 300) then some (C.filter nz) else none
def sPuts (C P : List sT) : List sT := P.foldl (fun C q => sIns q.1 q.2 C) C
theorem sG_succ (q : sT) (x : Nat) : sG q (x + 1) = (sG q x && decide (mCos q.1 (nI x) < 13)) := by
  simp [sG, List.range_succ, Bool.and_assoc]
theorem takeS_snoc (ks : Nat → Int32) (ns : Nat → Int64) (off i : Nat) : takeS ks ns off (i + 1) = takeS ks ns off i ++ [(ks (off + i), ns (off + i))] := by
  rw [takeS_split]; rfl
theorem nz_t {ks : Nat → Int32} {ns : Nat → Int64} {i : Nat} (h : ¬ ns i = 0) : (takeS ks ns 0 (i + 1)).filter nz = (takeS ks ns 0 i).filter nz ++ [(ks i, ns i)] := by
  rw [takeS_snoc, List.filter_append]; simp [nz, h]
theorem nz_f {ks : Nat → Int32} {ns : Nat → Int64} {i : Nat} (h : ns i = 0) : (takeS ks ns 0 (i + 1)).filter nz = (takeS ks ns 0 i).filter nz := by
  rw [takeS_snoc, List.filter_append]; simp [nz, h]
theorem nz_mono {ks : Nat → Int32} {ns : Nat → Int64} {i n : Nat} (h : i ≤ n) : ((takeS ks ns 0 i).filter nz).length ≤ ((takeS ks ns 0 n).filter nz).length := by
  obtain ⟨b, rfl⟩ : ∃ b, n = i + b := ⟨n - i, by omega⟩
  rw [takeS_split, List.filter_append, List.length_append]; omega
theorem nz_len {ks : Nat → Int32} {ns : Nat → Int64} {i : Nat} : ((takeS ks ns 0 i).filter nz).length ≤ i := by
  refine Nat.le_trans (List.length_filter_le _ _) ?_
  rw [takeS_len]; exact Nat.le_refl _
theorem keepS_bad {ks : Nat → Int32} {ns : Nat → Int64} {i n : Nat} (h : i < n) (hz : ¬ ns i = 0) (hb : sG (ks i, ns i) 4 = false) : keepS (takeS ks ns 0 n) = none := by
  unfold keepS
  rw [if_neg]
  rw [Bool.and_eq_true, List.all_eq_true]
  rintro ⟨h1, -⟩
  have := h1 (ks i, ns i) (List.mem_filter.mpr ⟨takeS_mem.mpr ⟨i, h, by simp⟩, by simp [nz, hz]⟩)
  rw [hb] at this; cases this
theorem keepS_many {C : List sT} (h : ¬ (C.filter nz).length ≤ 300) : keepS C = none := by
  unfold keepS; rw [if_neg]; simp; intro _; omega
theorem keepS_good {C : List sT} (h : (C.filter nz).length ≤ 300) (hg : ∀ q ∈ C.filter nz, sG q 4 = true) : keepS C = some (C.filter nz) := by
  unfold keepS; rw [if_pos]; rw [Bool.and_eq_true, List.all_eq_true]; exact ⟨hg, decide_eq_true h⟩
theorem sIns_len (k : Int32) (v : Int64) (C : List sT) : (sIns k v C).length ≤ C.length + 1 := by
  induction C with
  | nil => simp [sIns]
  | cons a t ih =>
    obtain ⟨x, y⟩ := a
    rw [sIns]; split
    · simp; exact ih
    · split <;> simp
theorem sIns_mem {k : Int32} {v : Int64} {C : List sT} {q : sT} (h : q ∈ sIns k v C) : q.1 = k ∨ ∃ p ∈ C, p.1 = q.1 := by
  induction C with
  | nil => simp [sIns] at h; left; rw [h]
  | cons a t ih =>
    obtain ⟨x, y⟩ := a
    rw [sIns] at h
    split at h
    · rcases List.mem_cons.mp h with h | h
      · right; exact ⟨(x, y), List.mem_cons_self, by rw [h]⟩
      · rcases ih h with h | ⟨p, hp, e⟩
        · left; exact h
        · right; exact ⟨p, List.mem_cons_of_mem _ hp, e⟩
    · split at h
      · rcases List.mem_cons.mp h with h | h
        · right; exact ⟨(x, y), List.mem_cons_self, by rw [h]⟩
        · right; exact ⟨q, List.mem_cons_of_mem _ h, rfl⟩
      · rcases List.mem_cons.mp h with h | h
        · left; rw [h]
        · right; exact ⟨q, h, rfl⟩
theorem sIns_ord {k : Int32} {v : Int64} {C : List sT} (h : sOrd C) : sOrd (sIns k v C) := by
  induction C with
  | nil => simp [sIns, sOrd]
  | cons a t ih =>
    obtain ⟨x, y⟩ := a
    have h1 := List.pairwise_cons.mp h
    rw [sIns]; split
    · rename_i hx
      refine List.pairwise_cons.mpr ⟨fun q hq => ?_, ih h1.2⟩
      rcases sIns_mem hq with e | ⟨p, hp, e⟩
      · rw [e]; exact hx
      · rw [← e]; exact h1.1 p hp
    · split
      · exact List.pairwise_cons.mpr ⟨fun q hq => h1.1 q hq, h1.2⟩
      · rename_i hx he
        refine List.pairwise_cons.mpr ⟨fun q hq => ?_, h⟩
        have hk : k < x := by rw [i32_lt] at hx ⊢; rw [i32_eq] at he; omega
        rcases List.mem_cons.mp hq with e | hq
        · rw [e]; exact hk
        · have := h1.1 q hq
          rw [i32_lt] at hk this ⊢; simp only at this ⊢; omega
theorem sPuts_ord {C P : List sT} (h : sOrd C) : sOrd (sPuts C P) := by
  induction P generalizing C with
  | nil => exact h
  | cons a t ih => exact ih (sIns_ord h)
theorem sPuts_len (C P : List sT) : (sPuts C P).length ≤ C.length + P.length := by
  induction P generalizing C with
  | nil => simp [sPuts]
  | cons a t ih =>
    have := ih (sIns a.1 a.2 C)
    have h2 := sIns_len a.1 a.2 C
    simp only [sPuts, List.foldl_cons, List.length_cons] at this ⊢
    omega
theorem sPuts_snoc (C P : List sT) (q : sT) : sPuts C (P ++ [q]) = sIns q.1 q.2 (sPuts C P) := by simp [sPuts, List.foldl_append]
theorem sPuts_app (C P P' : List sT) : sPuts C (P ++ P') = sPuts (sPuts C P) P' := by simp [sPuts, List.foldl_append]
def sScale (v : Int64) (S : List sT) : List sT := S.map (fun q => (q.1, v * q.2))
