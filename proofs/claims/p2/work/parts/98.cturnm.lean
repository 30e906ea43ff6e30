/-! quarter turns never run over; the class's signs and keys are the reference's -/
theorem ax_0 {g n s : Nat} (h : g < 4 ^ n) (hs : n ≤ s) : axN g s = 0 := by
  unfold axN
  have h1 : 4 ^ n ≤ 4 ^ s := Nat.pow_le_pow_right (by decide) hs
  rw [Nat.div_eq_of_lt (by omega)]
theorem cud_ext {g p n : Nat} (h : g < 4 ^ n) (d : Nat) : cntN g p (n + d) = cntN g p n ∧ uN4 g p (n + d) = uN4 g p n ∧ dN4 g p (n + d) = dN4 g p n := by
  induction d with
  | zero => exact ⟨rfl, rfl, rfl⟩
  | succ d ih =>
    have hc : clash (axN g (n + d)) (axN p (n + d)) = false := clash_f1 (ax_0 h (by omega))
    rw [← Nat.add_assoc]
    obtain ⟨y1, y2⟩ := sig_step.2.2 hc
    have h1 := ud_le g p (n + d + 1)
    have h2 := ud_le g p (n + d)
    obtain ⟨i1, i2, i3⟩ := ih
    refine ⟨by omega, by omega, by omega⟩
theorem sig_n {g p n : Nat} (hn : n ≤ 4) (h : g < 4 ^ n) : sigN g p = if fitN n g p = true then 0 else sgN n g p := by
  obtain ⟨d, hd⟩ : ∃ d, 4 = n + d := ⟨4 - n, by omega⟩
  obtain ⟨e1, e2, e3⟩ := cud_ext (p := p) h d
  unfold sigN fitN sgN
  rw [hd, e1, e2, e3]
theorem sg_pm (n g p : Nat) : sgN n g p = 1 ∨ sgN n g p = -1 := by unfold sgN; split; exact Or.inl rfl; exact Or.inr rfl
theorem sig_0 {g p n : Nat} (hn : n ≤ 4) (h : g < 4 ^ n) : (sigN g p = 0 ↔ fitN n g p = true) ∧ (¬ fitN n g p = true → sigN g p = sgN n g p) := by
  rw [sig_n hn h]
  by_cases hf : fitN n g p = true
  · rw [if_pos hf]; exact ⟨⟨fun _ => hf, fun _ => rfl⟩, fun e => absurd hf e⟩
  · rw [if_neg hf]
    refine ⟨⟨fun e => ?_, fun e => absurd e hf⟩, fun _ => rfl⟩
    rcases sg_pm n g p with e2 | e2 <;> rw [e2] at e <;> exact absurd e (by decide)
theorem with_tq {n g : Nat} {k : Int32} (hn : n ≤ 4) (hg : g < 4 ^ n) (h : keyOK n k) : k ^^^ (nI g <<< (nI 20 &&& 31)) = tqK g k := by
  have h3 := kn_lt h
  have h4 := pow4_le hn
  have e3 : ∀ a b : Nat, nI a ^^^ nI b = nI (a ^^^ b) := fun a b => by
    apply Int32.toBitVec_inj.mp
    show BitVec.ofNat 32 a ^^^ BitVec.ofNat 32 b = BitVec.ofNat 32 (a ^^^ b)
    apply BitVec.eq_of_getLsbD_eq
    intro i hi
    simp [BitVec.getLsbD_ofNat, Nat.testBit_xor, hi]
  conv => lhs; rw [kn_eq h hn]
  rw [pk_shlN _ 20 (by decide) (by omega), e3]
  unfold tqK
  congr 1
  apply Nat.eq_of_testBit_eq
  intro i
  rw [Nat.testBit_xor, Nat.mul_comm g, Nat.mul_comm (g ^^^ _), Nat.testBit_two_pow_mul, Nat.testBit_two_pow_mul_add _ (Nat.mod_lt _ (by decide)), Nat.testBit_xor, Nat.testBit_div_two_pow, Nat.testBit_mod_two_pow]
  by_cases hi : i < 20
  · have : ¬ i ≥ 20 := by omega
    simp [hi, this]
  · have h5 : i ≥ 20 := by omega
    have h6 : i - 20 + 20 = i := by omega
    simp [hi, h5, h6, Bool.xor_comm]
theorem clash_xor : ∀ a, a < 4 → ∀ b, b < 4 → clash a (a ^^^ b) = clash a b := by decide
theorem cnt_xor (g p s : Nat) : cntN g (g ^^^ p) s = cntN g p s := by
  induction s with
  | zero => rfl
  | succ s ih =>
    rw [cntN, cntN, ih, ax_xor, clash_xor _ (ax_lt g s) _ (ax_lt p s)]
theorem fit_xor (n g p : Nat) : fitN n g (g ^^^ p) = fitN n g p := by unfold fitN; rw [cnt_xor]
theorem tqK_prod {n g : Nat} {k : Int32} (hn : n ≤ 4) (hg : g < 4 ^ n) (h : keyOK n k) : kn (tqK g k) / 2 ^ 20 = g ^^^ (kn k / 2 ^ 20) := by
  have h3 := kn_prod_lt h
  have h4 := pow4_le hn
  have hx : g ^^^ (kn k / 2 ^ 20) < 4 ^ n := by
    rw [show (4 : Nat) ^ n = 2 ^ (2 * n) by rw [Nat.pow_mul]] at *
    exact Nat.xor_lt_two_pow hg h3
  have h5 := Nat.mod_lt (kn k) (show 0 < 2 ^ 20 by decide)
  unfold tqK
  rw [kn_nI (by omega)]
  omega
theorem tqK_inj {n g : Nat} {k k' : Int32} (hn : n ≤ 4) (hg : g < 4 ^ n) (h : keyOK n k) (h' : keyOK n k') (e : tqK g k = tqK g k') : k = k' := by
  have p1 := tqK_prod hn hg h
  have p2 := tqK_prod hn hg h'
  have q1 := tqK_kn hn hg h
  have q2 := tqK_kn hn hg h'
  rw [e, p2] at p1
  rw [e, q2] at q1
  have e1 : kn k' / 2 ^ 20 = kn k / 2 ^ 20 := by
    have := congrArg (fun z => g ^^^ z) p1
    simp only [← Nat.xor_assoc, Nat.xor_self, Nat.zero_xor] at this
    exact this
  have e2 : kn k = kn k' := by omega
  rw [kn_eq h hn, kn_eq h' hn, e2]
theorem tq_key_ne {n g q : Nat} {x y : sT} (hn : n ≤ 4) (hg : g < 4 ^ n) (hx : keyOK n x.1) (hy : keyOK n y.1) (hne : ¬ x.1 = y.1) : ¬ (tq n g q x).1 = (tq n g q y).1 := by
  have fx := fit_xor n g (kn x.1 / 2 ^ 20)
  have fy := fit_xor n g (kn y.1 / 2 ^ 20)
  rw [← tqK_prod hn hg hx] at fx
  rw [← tqK_prod hn hg hy] at fy
  unfold tq
  by_cases h2 : q = 2
  · split <;> split <;> simp [h2] <;> exact hne
  · by_cases ha : fitN n g (kn x.1 / 2 ^ 20) = true ∨ q = 0
    · rw [if_pos ha]
      by_cases hb : fitN n g (kn y.1 / 2 ^ 20) = true ∨ q = 0
      · rw [if_pos hb]; exact hne
      · rw [if_neg hb, if_neg h2]
        intro e
        have e : x.1 = tqK g y.1 := e
        rcases ha with ha | ha
        · rw [e, fy] at ha; exact hb (Or.inl ha)
        · exact hb (Or.inr ha)
    · rw [if_neg ha, if_neg h2]
      by_cases hb : fitN n g (kn y.1 / 2 ^ 20) = true ∨ q = 0
      · rw [if_pos hb]
        intro e
        have e : tqK g x.1 = y.1 := e
        rcases hb with hb | hb
        · rw [← e, fx] at hb; exact ha (Or.inl hb)
        · exact ha (Or.inr hb)
      · rw [if_neg hb, if_neg h2]
        intro e
        exact hne (tqK_inj hn hg hx hy e)
theorem sPuts_perm {P : List sT} : ∀ {C : List sT}, sOrd C → (xKeys (C ++ P)).Nodup → (sPuts C P).Perm (C ++ P) := by
  induction P with
  | nil => intro C _ _; rw [List.append_nil]; exact List.Perm.refl _
  | cons a t ih =>
    intro C ho hd
    have hk : a.1 ∉ xKeys C := by
      intro hm
      unfold xKeys at hd hm
      rw [List.map_append, List.nodup_append] at hd
      exact hd.2.2 a.1 hm a.1 (by simp) rfl
    have hp := sIns_new' (v := a.2) ho hk
    have hd2 : (xKeys (sIns a.1 a.2 C ++ t)).Nodup := by
      have e : (sIns a.1 a.2 C ++ t).Perm (C ++ a :: t) := (hp.append_right t).trans (by rw [List.append_assoc]; exact List.Perm.refl _)
      exact (List.Perm.nodup_iff (List.Perm.map (fun q : sT => q.1) e)).mpr hd
    exact (ih (sIns_ord ho) hd2).trans ((hp.append_right t).trans (by rw [List.append_assoc]; exact List.Perm.refl _))
theorem i64_pm {s : Int32} {v : Int64} (hs : s = 1 ∨ s = -1) : s.toInt64 * v = v ∨ s.toInt64 * v = -v := by
  rcases hs with e | e
  · left; rw [e, show (1 : Int32).toInt64 = 1 from by decide]; exact Int64.one_mul v
  · right; rw [e, show (-1 : Int32).toInt64 = -1 from by decide, Int64.neg_mul, Int64.one_mul]
theorem tq_num {n g q : Nat} {x : sT} : (tq n g q x).2 = x.2 ∨ (tq n g q x).2 = -x.2 := by
  unfold tq
  have hs := sg_pm n g (kn x.1 / 2 ^ 20)
  split
  · exact Or.inl rfl
  · split
    · exact Or.inr rfl
    · show (if q = 1 then _ else _) = _ ∨ (if q = 1 then _ else _) = _
      split
      · exact i64_pm hs
      · refine i64_pm ?_
        rcases hs with e | e
        · right; rw [e]
        · left; rw [e]; decide
theorem tq_good {n g q : Nat} {x : sT} (hn : n ≤ 4) (hg : g < 4 ^ n) (h : nz x = true ∧ sG x 4 = true ∧ keyOK n x.1) : nz (tq n g q x) = true ∧ sG (tq n g q x) 4 = true := by
  obtain ⟨h1, h2, h3⟩ := h
  have hz : ¬ x.2 = 0 := of_decide_eq_true h1
  have hb := (Bool.and_eq_true_iff.mp h2).1
  rw [inZ_t] at hb
  have hneg : (-x.2).toInt = -x.2.toInt := by
    rw [Int64.toInt_neg, Int.bmod_eq_of_le]
    · have : (2 ^ 64 : Nat) / 2 = 9223372036854775808 := by decide
      omega
    · have : ((2 ^ 64 : Nat) + 1) / 2 = 9223372036854775808 := by decide
      omega
  have hnum : ¬ (tq n g q x).2 = 0 ∧ inZ (tq n g q x).2.toInt (-1000000000000) 1000000000000 = true := by
    rcases tq_num (n := n) (g := g) (q := q) (x := x) with e | e
    · rw [e]; exact ⟨hz, inZ_t.mpr hb⟩
    · rw [e]
      refine ⟨fun e0 => hz (by rw [← Int64.neg_neg (a := x.2), e0]; rfl), inZ_t.mpr (by omega)⟩
  have hkey : ∀ y, y < 4 → mCos (tq n g q x).1 (nI y) = mCos x.1 (nI y) := by
    intro y hy
    have ht : mCos (tqK g x.1) (nI y) = mCos x.1 (nI y) := by
      rw [cos_kn hn (tqK_ok hn hg h3) hy, cos_kn hn h3 hy, (low_fields (tqK_kn hn hg h3) hy).1]
    unfold tq
    split
    · rfl
    · split
      · rfl
      · exact ht
  refine ⟨decide_eq_true hnum.1, ?_⟩
  unfold sG
  rw [hnum.2, Bool.true_and, List.all_eq_true]
  intro y hy
  have hall := List.all_eq_true.mp (Bool.and_eq_true_iff.mp h2).2 y hy
  rw [hkey y (List.mem_range.mp hy)]; exact hall
theorem quart_keep {n g : Nat} {S : List sT} (q : Nat) (hn : n ≤ 4) (hg : g < 4 ^ n) (hS : sOK n S) : ∃ S', keepS (quartC n g q S) = some S' := by
  have hnd : (xKeys ([] ++ S.map (tq n g q))).Nodup := by
    rw [List.nil_append]
    unfold xKeys
    rw [List.map_map, List.Nodup, List.pairwise_map]
    refine List.Pairwise.imp_of_mem ?_ hS.1
    intro a b ha hb hab
    exact tq_key_ne hn hg (hS.2.2 a ha).2.2 (hS.2.2 b hb).2.2 (fun e => by rw [e] at hab; exact absurd hab Int32.lt_irrefl)
  have hp : (quartC n g q S).Perm (S.map (tq n g q)) := sPuts_perm List.Pairwise.nil hnd
  have hall : ∀ x ∈ quartC n g q S, nz x = true ∧ sG x 4 = true := by
    intro x hx
    obtain ⟨y, hy, e⟩ := List.mem_map.mp (hp.mem_iff.mp hx)
    rw [← e]; exact tq_good hn hg (hS.2.2 y hy)
  have hf : (quartC n g q S).filter nz = quartC n g q S := List.filter_eq_self.mpr (fun x hx => (hall x hx).1)
  refine ⟨_, keepS_good (by rw [hf, hp.length_eq, List.length_map]; exact hS.2.1) (fun x hx => ?_)⟩
  rw [hf] at hx; exact (hall x hx).2
theorem sOrd_snoc_lt {A : List sT} {x : sT} (h : sOrd (A ++ [x])) : ∀ q ∈ A, q.1 < x.1 := fun q hq => (List.pairwise_append.mp h).2.2 q hq x (by simp)
theorem sPuts_self {S : List sT} (hS : sOrd S) : sPuts [] S = S := by
  refine perm_ord_eq (sPuts_perm List.Pairwise.nil ?_) (sPuts_ord List.Pairwise.nil) hS
  rw [List.nil_append]
  unfold xKeys
  rw [List.Nodup, List.pairwise_map]
  exact hS.imp (fun {a b} hab e => by rw [e] at hab; exact absurd hab Int32.lt_irrefl)
theorem qS_0 {n g : Nat} {S : List sT} (hS : sOK n S) : qS n g 0 S = S := by
  have e : quartC n g 0 S = S := by
    unfold quartC
    have : S.map (tq n g 0) = S := by
      conv => rhs; rw [← List.map_id S]
      exact List.map_congr_left (fun x _ => tq_a (Or.inr rfl))
    rw [this, sPuts_self hS.1]
  have hf : S.filter nz = S := List.filter_eq_self.mpr (fun x hx => (hS.2.2 x hx).1)
  unfold qS
  rw [e, keepS_good (by rw [hf]; exact hS.2.1) (fun x hx => by rw [hf] at hx; exact (hS.2.2 x hx).2.1), hf]; rfl
theorem q3_eq {s : Int32} {v : Int64} (hs : s = 1 ∨ s = -1) : -v * s.toInt64 = (-s).toInt64 * v := by
  rcases hs with e | e
  · rw [e, show (1 : Int32).toInt64 = 1 from by decide, show (-1 : Int32).toInt64 = -1 from by decide, Int64.mul_one, Int64.neg_mul, Int64.one_mul]
  · rw [e, show (-1 : Int32).toInt64 = -1 from by decide, show (-(-1 : Int32)).toInt64 = 1 from by decide, Int64.one_mul, Int64.mul_comm, Int64.neg_mul, Int64.one_mul, Int64.neg_neg]
