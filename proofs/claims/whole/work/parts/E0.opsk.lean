/-! the class's ops, and the rounds around them -/
theorem opJ_app {O : List aO} {o : aO} {j : Nat} (h : j < O.length) : opJ (O ++ [o]) j = opJ O j := by
  unfold opJ; rw [List.getD_eq_getElem?_getD, List.getD_eq_getElem?_getD, List.getElem?_append_left h]
theorem opJ_last {O : List aO} {o : aO} : opJ (O ++ [o]) O.length = o := by
  unfold opJ; simp [List.getD_eq_getElem?_getD]
theorem opk_lt (O : List aO) : ∀ (j k : Nat), k ∈ opk O j → k < j := by
  intro j
  induction j with
  | zero => intro k h; simp [opk] at h
  | succ j ih =>
    intro k h
    unfold opk at h
    split at h
    · rcases List.mem_cons.mp h with h | h
      · omega
      · have := ih k h; omega
    · split at h
      · have := ih k (List.mem_of_mem_tail h); omega
      · have := ih k h; omega
theorem opk_app {O : List aO} {o : aO} : ∀ j, j ≤ O.length → opk (O ++ [o]) j = opk O j := by
  intro j
  induction j with
  | zero => intro _; rfl
  | succ j ih =>
    intro h
    unfold opk
    rw [opJ_app (by omega), ih (by omega)]
theorem opk_tail (O : List aO) : ∀ (n j : Nat) (r : List Nat), opk O n = j :: r → opk O j = r ∧ (opJ O j).1 = 5 := by
  intro n
  induction n using Nat.strongRecOn with
  | ind n ih =>
    intro j r h
    cases n with
    | zero => simp [opk] at h
    | succ n =>
      unfold opk at h
      split at h
      · rename_i h5
        obtain ⟨rfl, rfl⟩ := List.cons.inj h
        exact ⟨rfl, h5⟩
      · split at h
        · cases e : opk O n with
          | nil => rw [e] at h; simp at h
          | cons i t =>
            rw [e] at h
            have h2 : t = j :: r := h
            have lt := opk_lt O n i (by rw [e]; exact List.mem_cons_self ..)
            exact ih i (by omega) j r ((ih n (by omega) i t e).1.trans h2)
        · exact ih n (by omega) j r h
theorem opk_last {O : List aO} {o : aO} : opk (O ++ [o]) (O.length + 1) = (if o.1 = 5 then O.length :: opk O O.length else if o.1 = 6 then (opk O O.length).tail else opk O O.length) := by
  rw [opk, opJ_last, opk_app _ (Nat.le_refl _)]
theorem opk_head {O : List aO} {oa : Nat → Nat} {q n : Nat} {L : List Nat} (h : ∀ k ∈ L, k < n) : L.head?.map (va_up oa n q) = L.head?.map oa := by
  cases L with
  | nil => rfl
  | cons k r =>
    have := h k (List.mem_cons_self ..)
    show some (va_up oa n q k) = some (oa k)
    rw [va_up_ne _ _ (by omega)]
theorem arOf_app {O : List aO} {o : aO} {oa : Nat → Nat} {q j : Nat} (h : j ≤ O.length) : arOf (O ++ [o]) (va_up oa O.length q) j = arOf O oa j := by
  unfold arOf
  rw [opk_app j h]
  exact opk_head (O := O) (fun k hk => by have := opk_lt O j k hk; omega)
theorem arOf_app0 {O : List aO} {o : aO} {oa : Nat → Nat} {j : Nat} (h : j ≤ O.length) : arOf (O ++ [o]) oa j = arOf O oa j := by
  unfold arOf
  rw [opk_app j h]
theorem arOf_5 {O : List aO} {o : aO} {oa : Nat → Nat} {q : Nat} (h : o.1 = 5) : arOf (O ++ [o]) (va_up oa O.length q) (O.length + 1) = some q := by
  unfold arOf
  rw [opk_last, if_pos h]
  show some (va_up oa O.length q O.length) = some q
  rw [va_up_self]
theorem arOf_n {O : List aO} {o : aO} {oa : Nat → Nat} {q : Nat} (h5 : ¬ o.1 = 5) (h6 : ¬ o.1 = 6) : arOf (O ++ [o]) (va_up oa O.length q) (O.length + 1) = arOf O oa O.length := by
  unfold arOf
  rw [opk_last, if_neg h5, if_neg h6]
  exact opk_head (O := O) (fun k hk => opk_lt O _ k hk)
theorem arOf_6 {O : List aO} {o : aO} {oa : Nat → Nat} {q j : Nat} {r : List Nat} (h : o.1 = 6) (e : opk O O.length = j :: r) : arOf (O ++ [o]) (va_up oa O.length q) (O.length + 1) = arOf O oa j := by
  have hj := opk_lt O O.length j (by rw [e]; exact List.mem_cons_self ..)
  have ht := (opk_tail O _ _ _ e).1
  unfold arOf
  rw [opk_last, if_neg (by omega), if_pos h, e, ht]
  show r.head?.map (va_up oa O.length q) = r.head?.map oa
  rw [← ht]
  exact opk_head (O := O) (fun k hk => by have := opk_lt O j k hk; omega)
theorem opP_push {oa : Nat → Nat} {O : List aO} {lo : Option Nat} {pg : Nat → Option Nat} {td : Nat → Int32} {w w' : va_W} (h : opP oa O lo pg td w) (o : aO) (q : Nat) (t0 : Int32) (hw : w'.Perm (w ++ [(q, .inr (opCe o O.length lo t0))])) {lo' : Option Nat} (hl : lo' = arOf (O ++ [o]) (va_up oa O.length q) (O.length + 1)) : opP (va_up oa O.length q) (O ++ [o]) lo' (va_up pg O.length (some q)) (va_up td O.length t0) w' := by
  obtain ⟨h1, h2, h3⟩ := h
  refine ⟨hw.trans ?_, by rw [hl, List.length_append]; rfl, fun j hj => ?_⟩
  · rw [List.length_append, List.length_singleton]
    rw [famW_snoc (n := O.length) (f := opF O oa td) (fun j hj => by
      unfold opF
      rw [opJ_app hj, arOf_app (by omega), va_up_ne _ _ (by omega), va_up_ne _ _ (by omega)])]
    rw [show opF (O ++ [o]) (va_up oa O.length q) (va_up td O.length t0) O.length = [(q, .inr (opCe o O.length lo t0))] from by
      unfold opF
      rw [opJ_last, arOf_app (Nat.le_refl _), va_up_self, va_up_self, ← h2]]
    exact h1.append_right _
  · rw [List.length_append, List.length_singleton] at hj
    by_cases e : j = O.length
    · subst e; rw [va_up_self, va_up_self]
    · rw [va_up_ne _ _ e, va_up_ne _ _ e]; exact h3 j (by omega)
theorem opP_pop {oa : Nat → Nat} {O : List aO} {o : aO} {lo : Option Nat} {pg pg' : Nat → Option Nat} {td : Nat → Int32} {w : va_W} (h : opP oa (O ++ [o]) lo pg td w) (hpg : ∀ j, j < O.length → pg' j = pg j) : ∃ w', w.Perm (w' ++ [(oa O.length, .inr (opCe o O.length (arOf O oa O.length) (td O.length)))]) ∧ opP oa O (arOf O oa O.length) pg' td w' := by
  obtain ⟨h1, h2, h3⟩ := h
  refine ⟨famW O.length (opF O oa td), ?_, List.Perm.refl _, rfl, fun j hj => ?_⟩
  · rw [List.length_append, List.length_singleton] at h1
    rw [famW_snoc (n := O.length) (f := opF O oa td) (fun j hj => by
      unfold opF
      rw [opJ_app hj, arOf_app0 (by omega)])] at h1
    rw [show opF (O ++ [o]) oa td O.length = [(oa O.length, .inr (opCe o O.length (arOf O oa O.length) (td O.length)))] from by
      unfold opF
      rw [opJ_last, arOf_app0 (Nat.le_refl _)]] at h1
    exact h1
  · rw [hpg j hj]; exact h3 j (by rw [List.length_append, List.length_singleton]; omega)
theorem opP_mem {oa : Nat → Nat} {O : List aO} {lo : Option Nat} {pg : Nat → Option Nat} {td : Nat → Int32} {w : va_W} (h : opP oa O lo pg td w) {j : Nat} (hj : j < O.length) : (oa j, .inr (opCe (opJ O j) j (arOf O oa j) (td j))) ∈ w := by
  refine h.1.mem_iff.mpr ?_
  unfold famW
  exact List.mem_flatMap.mpr ⟨j, List.mem_range.mpr hj, List.mem_singleton.mpr rfl⟩
theorem opk_len (O : List aO) : ∀ (n c : Nat), n ≤ O.length → opn (O.take n) = some c → (opk O n).length = c := by
  intro n
  induction n with
  | zero => intro c _ h; simp [opn] at h; subst h; rfl
  | succ n ih =>
    intro c hn h
    rw [List.take_succ_eq_append_getElem (by omega), opn_snoc] at h
    have e2 : opJ O n = O[n] := by unfold opJ; rw [List.getD_eq_getElem?_getD, List.getElem?_eq_getElem (by omega)]; rfl
    cases e : opn (O.take n) with
    | none => rw [e] at h; cases h
    | some d =>
      have hd := ih d (by omega) e
      rw [e] at h
      unfold opStep at h
      simp only at h
      unfold opk
      rw [e2]
      split at h
      · rename_i h5
        rw [if_pos h5]
        split at h
        · cases h; rw [List.length_cons, hd]
        · cases h
      · rename_i h5
        rw [if_neg h5]
        split at h
        · rename_i h6
          rw [if_pos h6]
          split at h
          · cases h; rw [List.length_tail, hd]
          · cases h
        · rename_i h6
          rw [if_neg h6]
          cases h; exact hd
theorem opk_C {σ : aS} {c : Nat} (h : opn (sOp σ) = some c) : (opk (sOp σ) (sOp σ).length).length = c := opk_len _ _ _ (Nat.le_refl _) (by rw [List.take_length]; exact h)
