/-! the mixer: entries in the order of their coming, each key once; a permutation of the reference's made list -/
def xKeys (E : List sT) : List Int32 := E.map (·.1)
def xUpd (k : Int32) (v : Int64) (E : List sT) : List sT := E.map (fun q => if q.1 = k then (q.1, q.2 + v) else q)
noncomputable def xPut (k : Int32) (v : Int64) (E : List sT) : List sT := if k ∈ xKeys E then xUpd k v E else E ++ [(k, v)]
theorem xUpd_len (k : Int32) (v : Int64) (E : List sT) : (xUpd k v E).length = E.length := by simp [xUpd]
theorem sIns_new' {k : Int32} {v : Int64} {C : List sT} (ho : sOrd C) (h : k ∉ xKeys C) : (sIns k v C).Perm (C ++ [(k, v)]) := by
  induction C with
  | nil => simp [sIns]
  | cons a t ih =>
    obtain ⟨x, y⟩ := a
    have hx : ¬ x = k := fun e => h (by simp [xKeys, e])
    have ht : k ∉ xKeys t := fun e => h (by simp only [xKeys, List.map_cons, List.mem_cons]; exact Or.inr e)
    rw [sIns]
    split
    · exact (ih (List.Pairwise.of_cons ho) ht).cons _
    · exact (List.perm_append_comm (l₁ := [(k, v)]) (l₂ := (x, y) :: t))
theorem sIns_upd {k : Int32} {v : Int64} {C : List sT} (ho : sOrd C) (h : k ∈ xKeys C) : sIns k v C = xUpd k v C := by
  induction C with
  | nil => simp [xKeys] at h
  | cons a t ih =>
    obtain ⟨x, y⟩ := a
    rw [sIns]
    have hp := List.pairwise_cons.mp ho
    split
    · rename_i h1
      have hx : ¬ x = k := fun e => by rw [e] at h1; exact absurd h1 Int32.lt_irrefl
      have ht : k ∈ xKeys t := by
        simp only [xKeys, List.map_cons, List.mem_cons] at h
        rcases h with h | h
        · exact absurd h.symm hx
        · exact h
      rw [ih hp.2 ht]; simp [xUpd, hx]
    · rename_i h1
      split
      · rename_i h2
        subst h2
        have e : xUpd x v t = t := by
          unfold xUpd
          conv => rhs; rw [← List.map_id t]
          apply List.map_congr_left
          intro q hq
          have : x < q.1 := hp.1 q hq
          rw [if_neg (fun e => by rw [e] at this; exact absurd this Int32.lt_irrefl)]; rfl
        simp only [xUpd, List.map_cons, if_true]
        congr 1
        exact e.symm
      · rename_i h2
        exfalso
        simp only [xKeys, List.map_cons, List.mem_cons] at h
        rcases h with h | h
        · exact h2 h.symm
        · obtain ⟨q, hq, e⟩ := List.mem_map.mp h
          have : x < q.1 := hp.1 q hq
          rw [e] at this; exact h1 this
theorem xPut_perm {k : Int32} {v : Int64} {E C : List sT} (ho : sOrd C) (h : E.Perm C) : (xPut k v E).Perm (sIns k v C) := by
  have hk : xKeys E = E.map (·.1) := rfl
  have hm : k ∈ xKeys E ↔ k ∈ xKeys C := (h.map (·.1)).mem_iff
  unfold xPut
  by_cases hi : k ∈ xKeys E
  · rw [if_pos hi, sIns_upd ho (hm.mp hi)]; exact h.map _
  · rw [if_neg hi]
    exact (h.append_right _).trans (sIns_new' ho (fun e => hi (hm.mpr e))).symm
theorem pigeon : ∀ (n m : Nat) (f : Nat → Nat), (∀ s, s < m → ∃ i, i < n ∧ f i = s) → m ≤ n := by
  intro n
  induction n with
  | zero =>
    intro m f h
    cases m with
    | zero => exact Nat.le_refl _
    | succ m => obtain ⟨i, hi, -⟩ := h 0 (by omega); omega
  | succ n ih =>
    intro m f h
    cases m with
    | zero => omega
    | succ m =>
      obtain ⟨i0, hi0, e0⟩ := h m (by omega)
      have := ih m (fun i => if i = i0 then f n else f i) (fun s hs => by
        obtain ⟨i, hi, e⟩ := h s (by omega)
        by_cases c : i = n
        · subst c
          refine ⟨i0, ?_, by simp [e]⟩
          rcases Nat.lt_or_ge i0 i with g | g
          · exact g
          · have : i0 = i := by omega
            rw [this] at e0; omega
        · refine ⟨i, by omega, ?_⟩
          by_cases c2 : i = i0
          · rw [c2] at e; omega
          · simp [c2, e])
      omega
/-- the slot at which the search for a key begins -/
def xH (k : Int32) : Nat := (k * (-1640531535)).toBitVec.toNat / 2 ^ 21
theorem xH_lt (k : Int32) : xH k < 2048 := by
  unfold xH
  have := (k * (-1640531535)).toBitVec.isLt
  omega
theorem xH_eq (k : Int32) : ((k * (-1640531535)).toUInt32 >>> ((nI 21).toUInt32 &&& Int32.toUInt32 31)).toInt32 = nI ((xH k + 0) % 2048) := by
  have h := pk_ushr (k * (-1640531535)) (nI 21) 21 (by decide)
  have h2 := xH_lt k
  apply Int32.toBitVec_inj.mp
  apply BitVec.eq_of_toNat_eq
  rw [h]
  show xH k = (BitVec.ofNat 32 ((xH k + 0) % 2048)).toNat
  rw [BitVec.toNat_ofNat]; omega
theorem slot_next (x t : Nat) : nI ((x + t) % 2048 + 1) &&& nI 2047 = nI ((x + (t + 1)) % 2048) := by
  rw [pk_andN (k := 11) (by omega) (by decide)]
  congr 1; omega
/-- the hash table: used, slotsUsed and slots; n entries with the keys kk -/
def hsh (n : Nat) (kk : Nat → Int32) (sl su : Nat → Int32) : Prop :=
  (∀ i, i < n → ∃ s, s < 2048 ∧ su i = nI s ∧ sl s = nI (i + 1) ∧ ∃ t, t < 2048 ∧ s = (xH (kk i) + t) % 2048 ∧ ∀ u, u < t → ¬ sl ((xH (kk i) + u) % 2048) = 0)
  ∧ ∀ s, s < 2048 → sl s = 0 ∨ ∃ i, i < n ∧ sl s = nI (i + 1) ∧ su i = nI s
/-- what begin needs -/
def hcl (n : Nat) (sl su : Nat → Int32) : Prop := n ≤ 900 ∧ (∀ i, i < n → ∃ s, s < 2048 ∧ su i = nI s) ∧ ∀ s, s < 2048 → sl s = 0 ∨ ∃ i, i < n ∧ su i = nI s
theorem nI_inj {a b : Nat} (ha : a < 2 ^ 31) (hb : b < 2 ^ 31) (h : nI a = nI b) : a = b := by
  have := congrArg Int32.toInt h
  rw [nI_toInt ha, nI_toInt hb] at this; omega
theorem hsh_cl {n : Nat} {kk sl su : Nat → Int32} (hn : n ≤ 900) (h : hsh n kk sl su) : hcl n sl su := ⟨hn, fun i hi => by obtain ⟨s, h1, h2, -⟩ := h.1 i hi; exact ⟨s, h1, h2⟩, fun s hs => by
  rcases h.2 s hs with g | ⟨i, g1, g2, g3⟩
  · exact Or.inl g
  · exact Or.inr ⟨i, g1, g3⟩⟩
theorem hsh_nil {kk sl su : Nat → Int32} (h : ∀ s, s < 2048 → sl s = 0) : hsh 0 kk sl su := ⟨fun i hi => absurd hi (Nat.not_lt_zero _), fun s hs => Or.inl (h s hs)⟩
/-- a new entry -/
theorem hsh_new {n t : Nat} {kk sl su : Nat → Int32} {k : Int32} (hn : n < 900) (h : hsh n kk sl su) (ht : t < 2048) (h0 : sl ((xH k + t) % 2048) = 0) (hb : ∀ u, u < t → ¬ sl ((xH k + u) % 2048) = 0) : hsh (n + 1) (upd kk n k) (upd sl ((xH k + t) % 2048) (nI (n + 1))) (upd su n (nI ((xH k + t) % 2048))) := by
  have hs : (xH k + t) % 2048 < 2048 := Nat.mod_lt _ (by decide)
  have hz : ¬ nI (n + 1) = 0 := by
    intro e; have := nI_inj (a := n + 1) (b := 0) (by omega) (by decide) e; omega
  have hup : ∀ s, ¬ sl s = 0 → ¬ upd sl ((xH k + t) % 2048) (nI (n + 1)) s = 0 := by
    intro s hs
    by_cases e : s = (xH k + t) % 2048
    · subst e; exact absurd h0 hs
    · rw [pk_un e]; exact hs
  refine ⟨fun i hi => ?_, fun s hs2 => ?_⟩
  · by_cases e : i = n
    · subst e
      refine ⟨(xH k + t) % 2048, hs, pk_us, pk_us, t, ht, by rw [pk_us], fun u hu => ?_⟩
      rw [pk_us]; exact hup _ (hb u hu)
    · obtain ⟨s, h1, h2, h3, t2, h4, h5, h6⟩ := h.1 i (by omega)
      have hne : ¬ s = (xH k + t) % 2048 := by
        intro e2; rw [e2, h0] at h3
        have := nI_inj (a := 0) (b := i + 1) (by decide) (by omega) h3; omega
      refine ⟨s, h1, by rw [pk_un e]; exact h2, by rw [pk_un hne]; exact h3, t2, h4, by rw [pk_un e]; exact h5, fun u hu => ?_⟩
      rw [pk_un e]; exact hup _ (h6 u hu)
  · by_cases e : s = (xH k + t) % 2048
    · subst e; exact Or.inr ⟨n, by omega, pk_us, pk_us⟩
    · rw [pk_un e]
      rcases h.2 s hs2 with g | ⟨i, g1, g2, g3⟩
      · exact Or.inl g
      · exact Or.inr ⟨i, by omega, g2, by rw [pk_un (by omega)]; exact g3⟩
/-- an empty slot: the key isn't there -/
theorem hsh_no {n t : Nat} {kk sl su : Nat → Int32} {k : Int32} (hn : n ≤ 900) (h : hsh n kk sl su) (h0 : sl ((xH k + t) % 2048) = 0) (hb : ∀ u, u < t → ∃ i, i < n ∧ sl ((xH k + u) % 2048) = nI (i + 1) ∧ ¬ kk i = k) : ∀ i, i < n → ¬ kk i = k := by
  intro i hi e
  obtain ⟨s, h1, h2, h3, t2, h4, h5, h6⟩ := h.1 i hi
  rw [e] at h5 h6
  rcases Nat.lt_or_ge t t2 with g | g
  · exact h6 t g h0
  · rcases Nat.lt_or_ge t2 t with g2 | g2
    · obtain ⟨j, j1, j2, j3⟩ := hb t2 g2
      rw [← h5, h3] at j2
      have := nI_inj (by omega) (by omega) j2
      have e2 : i = j := by omega
      rw [← e2] at j3; exact j3 e
    · have e2 : t2 = t := by omega
      rw [e2] at h5
      rw [← h5, h3] at h0
      have := nI_inj (a := i + 1) (b := 0) (by omega) (by decide) h0; omega
/-- not every slot is taken -/
theorem hsh_full {n : Nat} {kk sl su : Nat → Int32} {k : Int32} (hn : n ≤ 900) (h : hsh n kk sl su) (hb : ∀ u, u < 2048 → ∃ i, i < n ∧ sl ((xH k + u) % 2048) = nI (i + 1) ∧ ¬ kk i = k) : False := by
  have := pigeon n 2048 (fun i => (su i).toInt.toNat) (fun s hs => by
    obtain ⟨i, h1, h2, -⟩ := hb ((s + 2048 - xH k % 2048) % 2048) (Nat.mod_lt _ (by decide))
    have e : (xH k + (s + 2048 - xH k % 2048) % 2048) % 2048 = s := by omega
    rw [e] at h2
    rcases h.2 s hs with g | ⟨j, g1, g2, g3⟩
    · rw [g] at h2; have := nI_inj (a := 0) (b := i + 1) (by decide) (by omega) h2; omega
    · refine ⟨j, g1, ?_⟩
      show (su j).toInt.toNat = s
      rw [g3, nI_toInt (by omega)]; omega)
  omega
/-- the mixer's cells -/
def xW (cy : Nat → ClassId) (a0 a1 a2 a3 a4 a5 a6 : Nat) (sz us : Int32) (kk : Nat → Int32) (nn : Nat → Int64) (k2 : Nat → Int32) (n2 : Nat → Int64) (sl su : Nat → Int32) : va_W := [(a0, .inr (3, [.ref a1, .ref a2, .ref a3, .ref a4, .int sz, .ref a5, .ref a6, .int us])), (a1, .inl (cy 0, 900, .inl kk)), (a2, .inl (cy 1, 900, .inr (.inl nn))), (a3, .inl (cy 0, 900, .inl k2)), (a4, .inl (cy 1, 900, .inr (.inl n2))), (a5, .inl (cy 0, 2048, .inl sl)), (a6, .inl (cy 0, 900, .inl su))]
/-- it holds the entries E -/
def mxE (E : List sT) (kk : Nat → Int32) (nn : Nat → Int64) (sl su : Nat → Int32) : Prop := E.length ≤ 900 ∧ takeS kk nn 0 E.length = E ∧ hsh E.length kk sl su ∧ ∀ i j, i < j → j < E.length → ¬ kk i = kk j
theorem mxE_key {E : List sT} {kk : Nat → Int32} {nn : Nat → Int64} {sl su : Nat → Int32} (h : mxE E kk nn sl su) (k : Int32) : k ∈ xKeys E ↔ ∃ i, i < E.length ∧ kk i = k := by
  have e := h.2.1
  constructor
  · intro hk
    obtain ⟨q, hq, e2⟩ := List.mem_map.mp hk
    rw [← e] at hq
    obtain ⟨j, hj, e3⟩ := takeS_mem.mp hq
    exact ⟨j, hj, by rw [← e2, e3]; simp⟩
  · rintro ⟨i, hi, e2⟩
    refine List.mem_map.mpr ⟨(kk i, nn i), ?_, e2⟩
    rw [← e]
    exact takeS_mem.mpr ⟨i, hi, by simp⟩
theorem mxE_new {E : List sT} {kk : Nat → Int32} {nn : Nat → Int64} {sl su : Nat → Int32} {k : Int32} {v : Int64} {t : Nat} (h : mxE E kk nn sl su) (hl : E.length < 900) (ht : t < 2048) (h0 : sl ((xH k + t) % 2048) = 0) (hb : ∀ u, u < t → ∃ i, i < E.length ∧ sl ((xH k + u) % 2048) = nI (i + 1) ∧ ¬ kk i = k) : mxE (xPut k v E) (upd kk E.length k) (vp_updL nn E.length v) (upd sl ((xH k + t) % 2048) (nI (E.length + 1))) (upd su E.length (nI ((xH k + t) % 2048))) ∧ (xPut k v E).length = E.length + 1 := by
  obtain ⟨h1, h2, h3, h4⟩ := id h
  have hno := hsh_no h1 h3 h0 hb
  have e : xPut k v E = E ++ [(k, v)] := by
    unfold xPut
    rw [if_neg]
    intro hk
    obtain ⟨i, hi, e⟩ := (mxE_key h k).mp hk
    exact hno i hi e
  have el : (E ++ [(k, v)]).length = E.length + 1 := by simp
  have hb2 : ∀ u, u < t → ¬ sl ((xH k + u) % 2048) = 0 := by
    intro u hu e0
    obtain ⟨i, i1, i2, -⟩ := hb u hu
    rw [e0] at i2
    have := nI_inj (a := 0) (b := i + 1) (by decide) (by omega) i2; omega
  rw [e]
  refine ⟨⟨by rw [el]; omega, ?_, by rw [el]; exact hsh_new hl h3 ht h0 hb2, ?_⟩, el⟩
  · rw [el, takeS_snoc]
    have e2 : takeS (upd kk E.length k) (vp_updL nn E.length v) 0 E.length = E := by
      conv => rhs; rw [← h2]
      exact takeS_congr (fun j hj => ⟨pk_un (by omega), pk_uLn (by omega)⟩)
    rw [e2, Nat.zero_add, pk_us, pk_uLs]
  · intro i j hij hj
    rw [el] at hj
    by_cases ej : j = E.length
    · subst ej; rw [pk_us, pk_un (by omega)]; exact hno i (by omega)
    · rw [pk_un (by omega), pk_un ej]; exact h4 i j hij (by omega)
theorem mxE_old {E : List sT} {kk : Nat → Int32} {nn : Nat → Int64} {sl su : Nat → Int32} {v : Int64} {i : Nat} (h : mxE E kk nn sl su) (hi : i < E.length) : mxE (xPut (kk i) v E) kk (vp_updL nn i (nn i + v)) sl su ∧ (xPut (kk i) v E).length = E.length := by
  obtain ⟨h1, h2, h3, h4⟩ := id h
  have e : xPut (kk i) v E = xUpd (kk i) v E := by unfold xPut; rw [if_pos ((mxE_key h _).mpr ⟨i, hi, rfl⟩)]
  have el : (xUpd (kk i) v E).length = E.length := xUpd_len _ _ _
  rw [e]
  refine ⟨⟨by rw [el]; exact h1, ?_, by rw [el]; exact h3, by rw [el]; exact h4⟩, el⟩
  rw [el]
  apply List.ext_getElem?
  intro j
  by_cases hj : j < E.length
  · rw [takeS_get hj]
    have hE : E[j]? = some (kk j, nn j) := by
      have := takeS_get (ks := kk) (ns := nn) (off := 0) hj
      rw [h2, Nat.zero_add] at this; exact this
    unfold xUpd
    rw [List.getElem?_map, hE, Nat.zero_add]
    by_cases ej : j = i
    · subst ej; simp [pk_uLs]
    · have hne : ¬ kk j = kk i := by
        rcases Nat.lt_or_ge i j with g | g
        · exact fun e => h4 i j g hj e.symm
        · exact h4 j i (by omega) hi
      rw [pk_uLn ej]; simp [hne]
  · rw [List.getElem?_eq_none (by rw [takeS_len]; omega), List.getElem?_eq_none (by rw [el]; omega)]
