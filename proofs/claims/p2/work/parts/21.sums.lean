/-! sums as lists: TERMS are pairs of a key and a number; a row of a heap read as such a list; the reference's putting: into a list that is in order -/
abbrev sT : Type := Int32 × Int64
def takeS (ks : Nat → Int32) (ns : Nat → Int64) (off n : Nat) : List sT := (List.range n).map (fun j => (ks (off + j), ns (off + j)))
def sOrd (C : List sT) : Prop := C.Pairwise (fun a b => a.1 < b.1)
def sIns (k : Int32) (v : Int64) : List sT → List sT
  | [] => [(k, v)]
  | (a, x) :: t => if a < k then (a, x) :: sIns k v t else if a = k then (a, x + v) :: t else (k, v) :: (a, x) :: t
theorem i32_lt {a b : Int32} : a < b ↔ a.toInt < b.toInt := Int32.lt_iff_toInt_lt
theorem i32_le {a b : Int32} : a ≤ b ↔ a.toInt ≤ b.toInt := Int32.le_iff_toInt_le
theorem i32_eq {a b : Int32} : a = b ↔ a.toInt = b.toInt := ⟨fun h => by rw [h], fun h => Int32.toInt_inj.mp h⟩
theorem takeS_len (ks : Nat → Int32) (ns : Nat → Int64) (off n : Nat) : (takeS ks ns off n).length = n := by simp [takeS]
theorem takeS_get {ks : Nat → Int32} {ns : Nat → Int64} {off n j : Nat} (h : j < n) : (takeS ks ns off n)[j]? = some (ks (off + j), ns (off + j)) := by
  simp [takeS, h]
theorem takeS_congr {ks ks' : Nat → Int32} {ns ns' : Nat → Int64} {off off' n : Nat} (h : ∀ j, j < n → ks (off + j) = ks' (off' + j) ∧ ns (off + j) = ns' (off' + j)) : takeS ks ns off n = takeS ks' ns' off' n := by
  unfold takeS
  refine List.map_congr_left fun j hj => ?_
  obtain ⟨h1, h2⟩ := h j (List.mem_range.mp hj)
  rw [h1, h2]
theorem takeS_split (ks : Nat → Int32) (ns : Nat → Int64) (off a b : Nat) : takeS ks ns off (a + b) = takeS ks ns off a ++ takeS ks ns (off + a) b := by
  unfold takeS
  rw [List.range_add, List.map_append, List.map_map]
  congr 1
  refine List.map_congr_left fun j _ => ?_
  simp only [Function.comp]
  rw [Nat.add_assoc]
theorem takeS_cons (ks : Nat → Int32) (ns : Nat → Int64) (off n : Nat) : takeS ks ns off (n + 1) = (ks off, ns off) :: takeS ks ns (off + 1) n := by
  rw [Nat.add_comm n 1, takeS_split]
  rfl
theorem takeS_zero (ks : Nat → Int32) (ns : Nat → Int64) (off : Nat) : takeS ks ns off 0 = [] := rfl
theorem sOrd_iff {ks : Nat → Int32} {ns : Nat → Int64} {off n : Nat} : sOrd (takeS ks ns off n) ↔ ∀ i j, i < j → j < n → ks (off + i) < ks (off + j) := by
  unfold sOrd
  rw [List.pairwise_iff_getElem]
  constructor
  · intro h i j hij hj
    have := h i j (by rw [takeS_len]; omega) (by rw [takeS_len]; exact hj) hij
    simpa [takeS] using this
  · intro h i j hi hj hij
    rw [takeS_len] at hi hj
    have := h i j hij hj
    simpa [takeS] using this
theorem sIns_app {k : Int32} {v : Int64} {A B : List sT} (h : ∀ q ∈ A, q.1 < k) : sIns k v (A ++ B) = A ++ sIns k v B := by
  induction A with
  | nil => rfl
  | cons a t ih =>
    obtain ⟨x, y⟩ := a
    have h1 : x < k := h (x, y) List.mem_cons_self
    rw [List.cons_append, sIns, if_pos h1, ih (fun q hq => h q (List.mem_cons_of_mem _ hq)), List.cons_append]
theorem takeS_mem {ks : Nat → Int32} {ns : Nat → Int64} {off n : Nat} {q : sT} : q ∈ takeS ks ns off n ↔ ∃ j, j < n ∧ q = (ks (off + j), ns (off + j)) := by
  unfold takeS
  rw [List.mem_map]
  constructor
  · rintro ⟨j, hj, e⟩; exact ⟨j, List.mem_range.mp hj, e.symm⟩
  · rintro ⟨j, hj, e⟩; exact ⟨j, List.mem_range.mpr hj, e.symm⟩
/-- the reference's row behind a new key -/
theorem sIns_new {ks kk : Nat → Int32} {ns nn : Nat → Int64} {n low : Nat} {k : Int32} {v : Int64} (hl : low ≤ n) (h1 : ∀ j, j < low → ks j < k) (h2 : low = n ∨ k < ks low)
    (hA : ∀ j, j < low → kk j = ks j ∧ nn j = ns j) (hk : kk low = k ∧ nn low = v) (hB : ∀ j, low < j → j ≤ n → kk j = ks (j - 1) ∧ nn j = ns (j - 1)) : takeS kk nn 0 (n + 1) = sIns k v (takeS ks ns 0 n) := by
  obtain ⟨b, rfl⟩ : ∃ b, n = low + b := ⟨n - low, by omega⟩
  rw [takeS_split ks ns, Nat.add_assoc, takeS_split kk nn, takeS_cons, sIns_app (fun q hq => by
    obtain ⟨j, hj, rfl⟩ := takeS_mem.mp hq
    simpa using h1 j hj)]
  simp only [Nat.zero_add]
  rw [hk.1, hk.2, takeS_congr (ks' := ks) (ns' := ns) (off' := 0) (n := low) (fun j hj => by simpa using hA j hj)]
  congr 1
  have e2 : takeS kk nn (low + 1) b = takeS ks ns low b := takeS_congr (fun j hj => by
    have := hB (low + 1 + j) (by omega) (by omega)
    rw [show low + 1 + j - 1 = low + j by omega] at this
    exact this)
  rw [e2]
  cases b with
  | zero => rfl
  | succ b =>
    have h3 : k < ks low := by rcases h2 with h2 | h2; omega; exact h2
    rw [takeS_cons, sIns, if_neg, if_neg]
    · intro e; rw [i32_lt, e] at h3; omega
    · intro e; rw [i32_lt] at h3 e; omega
/-- the reference's row where the key was there -/
theorem sIns_old {ks : Nat → Int32} {ns nn : Nat → Int64} {n low : Nat} {k : Int32} {v : Int64} (hl : low < n) (h1 : ∀ j, j < low → ks j < k) (h2 : ks low = k)
    (hA : ∀ j, j ≠ low → nn j = ns j) (hk : nn low = ns low + v) : takeS ks nn 0 n = sIns k v (takeS ks ns 0 n) := by
  obtain ⟨b, rfl⟩ : ∃ b, n = low + (b + 1) := ⟨n - low - 1, by omega⟩
  rw [takeS_split ks ns, takeS_split ks nn, takeS_cons, takeS_cons, sIns_app (fun q hq => by
    obtain ⟨j, hj, rfl⟩ := takeS_mem.mp hq
    simpa using h1 j hj)]
  simp only [Nat.zero_add]
  rw [takeS_congr (ks := ks) (ns := nn) (ks' := ks) (ns' := ns) (off' := 0) (n := low) (fun j hj => ⟨rfl, by simpa using hA j (by omega)⟩)]
  congr 1
  have e2 : takeS ks nn (low + 1) b = takeS ks ns (low + 1) b := takeS_congr (fun j hj => ⟨rfl, hA _ (by omega)⟩)
  have h3 : ¬ ks low < k := by rw [h2, i32_lt]; omega
  rw [e2, sIns, if_neg h3, if_pos h2, hk]
