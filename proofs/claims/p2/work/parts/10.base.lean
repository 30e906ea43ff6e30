/-! The judgement gw_W: from a symbolic state (a world of cells, locals, stack, at a place of a method's code) the machine comes to its end. Everything of the machine is quantified inside, so that a walk speaks of worlds, locals and stacks alone. gw_M: a contract of that form. -/
abbrev gw_K : Type := MethodName × ByteArray × Nat × Room × Option FieldType
abbrev gw_ws (κ : gw_K) : List Cond := Cond.code κ.1 κ.2.1 κ.2.2.1 κ.2.2.2.2 :: gw_All
abbrev gw_T (cy : Nat → ClassId) : List (ClassId × FieldType) := [(cy 0, .int), (cy 1, .long), (cy 2, .object RX5), (cy 3, .object RX9), (cy 4, .object RX10)]
def gw_N : List Cond := [.methodLinkNest "SpinBench" 20 ⟨"SpinBench$Mixer", "<init>", "()V"⟩ "SpinBench", .methodLinkNest "SpinBench" 58 ⟨"SpinBench$Sum", "<init>", "()V"⟩ "SpinBench", .fieldLinkNest "SpinBench$Mixer" 46 "SpinBench$Sum" "keys" "[I" "SpinBench", .fieldLinkNest "SpinBench" 158 "SpinBench$Sum" "keys" "[I" "SpinBench", .fieldLinkNest "SpinBench$Mixer" 47 "SpinBench$Sum" "numbers" "[J" "SpinBench", .fieldLinkNest "SpinBench" 154 "SpinBench$Sum" "numbers" "[J" "SpinBench", .fieldLinkNest "SpinBench$Mixer" 43 "SpinBench$Sum" "size" "I" "SpinBench", .fieldLinkNest "SpinBench" 114 "SpinBench$Sum" "size" "I" "SpinBench", .methodLinkNest "SpinBench" 63 ⟨"SpinBench$Table", "<init>", "()V"⟩ "SpinBench", .fieldLinkNest "SpinBench" 92 "SpinBench$Table" "items" "[I" "SpinBench", .fieldLinkNest "SpinBench$Cycled" 52 "SpinBench$Table" "items" "[I" "SpinBench", .fieldLinkNest "SpinBench" 84 "SpinBench$Table" "missing" "Z" "SpinBench", .fieldLinkNest "SpinBench$Cycled" 30 "SpinBench$Table" "missing" "Z" "SpinBench", .fieldLinkNest "SpinBench" 98 "SpinBench$Table" "lane" "I" "SpinBench", .fieldLinkNest "SpinBench" 107 "SpinBench$Table" "size" "I" "SpinBench", .fieldLinkNest "SpinBench$Store" 34 "SpinBench" "work" "LSpinBench$Sum;" "SpinBench", .fieldLinkNest "SpinBench$Store" 30 "SpinBench" "mixer" "LSpinBench$Mixer;" "SpinBench", .fieldLinkNest "SpinBench$End" 27 "SpinBench" "next" "I" "SpinBench", .methodLinkNest "SpinBench" 77 ⟨"SpinBench$Table", "make", "(II)V"⟩ "SpinBench", .methodLinkNest "SpinBench" 88 ⟨"SpinBench$Table", "hasPlaces", "(II)Z"⟩ "SpinBench", .methodLinkNest "SpinBench" 95 ⟨"SpinBench$Table", "fitted", "(I)I"⟩ "SpinBench", .methodLinkNest "SpinBench" 119 ⟨"SpinBench$Mixer", "begin", "()V"⟩ "SpinBench", .methodLinkNest "SpinBench" 122 ⟨"SpinBench$Mixer", "putSum", "(LSpinBench$Sum;I)V"⟩ "SpinBench", .methodLinkNest "SpinBench" 126 ⟨"SpinBench$Mixer", "put", "(IJ)V"⟩ "SpinBench", .methodLinkNest "SpinBench" 130 ⟨"SpinBench$Mixer", "settle", "(LSpinBench$Sum;)Z"⟩ "SpinBench", .methodLinkNest "SpinBench$Mixer" 89 ⟨"SpinBench", "cosinesOf", "(II)I"⟩ "SpinBench", .methodLinkNest "SpinBench" 135 ⟨"SpinBench$Sum", "become", "(LSpinBench$Sum;)V"⟩ "SpinBench", .methodLinkNest "SpinBench" 139 ⟨"SpinBench$Mixer", "joinSums", "(LSpinBench$Sum;LSpinBench$Sum;I)Z"⟩ "SpinBench", .methodLinkNest "SpinBench" 287 ⟨"SpinBench$Mixer", "putTimesSine", "(IIJ)V"⟩ "SpinBench", .methodLinkNest "SpinBench$Mixer" 52 ⟨"SpinBench", "oneSine", "(I)I"⟩ "SpinBench", .methodLinkNest "SpinBench$Mixer" 56 ⟨"SpinBench", "oneCosine", "(I)I"⟩ "SpinBench", .methodLinkNest "SpinBench" 167 ⟨"SpinBench$Sum", "isLike", "(LSpinBench$Sum;)Z"⟩ "SpinBench", .methodLinkNest "SpinBench" 170 ⟨"SpinBench$Mixer", "multiply", "(LSpinBench$Sum;LSpinBench$Sum;LSpinBench$Sum;)Z"⟩ "SpinBench", .methodLinkNest "SpinBench$Mixer" 70 ⟨"SpinBench", "productOf", "(I)I"⟩ "SpinBench", .methodLinkNest "SpinBench$Mixer" 93 ⟨"SpinBench", "sinesOf", "(II)I"⟩ "SpinBench", .fieldLinkNest "SpinBench$End" 21 "SpinBench$Round" "often" "I" "SpinBench", .fieldLinkNest "SpinBench$End" 15 "SpinBench$Round" "timesDone" "I" "SpinBench", .fieldLinkNest "SpinBench$Cycled" 40 "SpinBench$Round" "timesDone" "I" "SpinBench", .methodLinkNest "SpinBench$Cycled" 15 ⟨"SpinBench", "leaveBody", "(I)V"⟩ "SpinBench", .methodLinkNest "SpinBench$Pulse" 25 ⟨"SpinBench", "leaveBody", "(I)V"⟩ "SpinBench", .methodLinkNest "SpinBench$Lead" 13 ⟨"SpinBench", "leaveBody", "(I)V"⟩ "SpinBench", .methodLinkNest "SpinBench$Round" 15 ⟨"SpinBench", "leaveBody", "(I)V"⟩ "SpinBench", .methodLinkNest "SpinBench$Op" 23 ⟨"SpinBench", "leaveBody", "(I)V"⟩ "SpinBench", .methodLinkNest "SpinBench$Delay" 21 ⟨"SpinBench", "leaveBody", "(I)V"⟩ "SpinBench", .methodLinkNest "SpinBench$Store" 18 ⟨"SpinBench", "leaveBody", "(I)V"⟩ "SpinBench", .methodLinkNest "SpinBench$Cycled" 26 ⟨"SpinBench", "tableAt", "(I)LSpinBench$Table;"⟩ "SpinBench", .methodLinkNest "SpinBench$Cycled" 45 ⟨"SpinBench$Table", "hasPlaces", "(II)Z"⟩ "SpinBench", .methodLinkNest "SpinBench$Pulse" 43 ⟨"SpinBench", "turnByQuarters", "(II)Z"⟩ "SpinBench", .methodLinkNest "SpinBench$Delay" 29 ⟨"SpinBench", "turnByLetter", "(III)Z"⟩ "SpinBench", .methodLinkNest "SpinBench$Store" 26 ⟨"SpinBench", "sumAt", "(I)LSpinBench$Sum;"⟩ "SpinBench", .methodLinkNest "SpinBench$Store" 38 ⟨"SpinBench$Mixer", "joinSums", "(LSpinBench$Sum;LSpinBench$Sum;I)Z"⟩ "SpinBench", .castable "SpinBench$Cycled" "SpinBench$Pulse", .castable "SpinBench$Pulse" "SpinBench$Pulse", .castable "SpinBench$Cycled" "SpinBench$Op", .castable "SpinBench$Delay" "SpinBench$Op", .castable "SpinBench$End" "SpinBench$Op", .castable "SpinBench$Pulse" "SpinBench$Op", .castable "SpinBench$Round" "SpinBench$Op", .castable "SpinBench$Store" "SpinBench$Op", .declares ⟨"SpinBench$Op", "ownKind", "()I"⟩, .declares ⟨"SpinBench$Op", "perform", "(LSpinBench;)I"⟩]
def gw_isN (w : Cond) : Bool := match w with
  | .fieldLinkNest .. => true
  | .methodLinkNest .. => true
  | .castable .. => true
  | .declares .. => true
  | _ => false
theorem gw_N_ok : ∀ w ∈ gw_N, gw_isN w = true := by decide +kernel
theorem gw_Nw_warm {w : Cond} (h : gw_isN w = true) {s U : State} (hW : s.WarmedH U.vm) (hZ : va_Nw w s) : va_Nw w U := by
  cases w <;> first | exact va_Nw.warmF hW hZ | exact va_Nw.warmM hW hZ | exact va_Nw.warmC hW hZ | exact va_Nw.warmD hW hZ | (simp [gw_isN] at h)
theorem gw_Nw_same {w : Cond} (h : gw_isN w = true) {s U : State} (hv : s.vm = U.vm) (hZ : va_Nw w s) : va_Nw w U := by
  cases w <;> first | exact va_Nw.same rfl hv hZ | (simp [gw_isN] at h)
/-- what no word list carries: nest links, casts that hold, arrays of objects, casts that fail -/
def gw_E (U : State) : Prop := (∀ w ∈ gw_N, va_Nw w U) ∧ (va_AO RX5 U ∧ va_AO RX9 U ∧ va_AO RX10 U) ∧ va_Nc RX1 RX6 U ∧ va_Nc RX2 RX6 U ∧ va_Nc RX7 RX6 U ∧ va_Nc RX8 RX6 U
theorem gw_E.warm {s U : State} (hW : s.WarmedH U.vm) (h : gw_E s) : gw_E U :=
  ⟨fun w hw => gw_Nw_warm (gw_N_ok w hw) hW (h.1 w hw), ⟨va_AO.moved hW.alike h.2.1.1, va_AO.moved hW.alike h.2.1.2.1, va_AO.moved hW.alike h.2.1.2.2⟩, va_Nc.moved hW.alike h.2.2.1, va_Nc.moved hW.alike h.2.2.2.1, va_Nc.moved hW.alike h.2.2.2.2.1, va_Nc.moved hW.alike h.2.2.2.2.2⟩
theorem gw_E.same {s U : State} (hv : s.vm = U.vm) (h : gw_E s) : gw_E U :=
  have hA : s.vm.Alike U.vm := hv ▸ Vm.Alike.refl s.vm
  ⟨fun w hw => gw_Nw_same (gw_N_ok w hw) hv (h.1 w hw), ⟨va_AO.moved hA h.2.1.1, va_AO.moved hA h.2.1.2.1, va_AO.moved hA h.2.1.2.2⟩, va_Nc.moved hA h.2.2.1, va_Nc.moved hA h.2.2.2.1, va_Nc.moved hA h.2.2.2.2.1, va_Nc.moved hA h.2.2.2.2.2⟩
/-- what a method's walk stands on -/
def gw_C (κ : gw_K) (cy : Nat → ClassId) (p : Program) (s : State) (m : MethodId) (args : Array Value) (meth : Method) (c : Code) (D : va_G) (A : Nat → Prop) : Prop :=
  p.tables.exec = Jvm.exec ∧ c.code = κ.2.1 ∧ meth.sig.returnType = κ.2.2.2.2 ∧ c.maxLocals = κ.2.2.1 ∧ s.vm.findClass κ.1.cls = some m.cls ∧ (∀ w ∈ gw_All, w.before args s = true) ∧ meth.locks = false ∧ meth.name = κ.1.name ∧ va_K D vwCl (gw_T cy) s ∧ gw_E s ∧ (∀ q, s.heap.size ≤ q → A q)
/-- locals by their places; none: nothing is known there -/
def gw_L (ls : Array Slot) (nL : Nat) (lv : List (Option Value)) : Prop := ls.size = nL ∧ lv_wf ls ∧ ∀ (i : Nat) (v : Value), lv[i]? = some (some v) → ls[i]? = some (.val v)
def gw_l : Nat → List (Option Value) → List (Nat × Value)
  | _, [] => []
  | k, none :: t => gw_l (k + 1) t
  | k, some v :: t => (k, v) :: gw_l (k + 1) t
theorem gw_l_mem (lv : List (Option Value)) : ∀ (k : Nat) (q : Nat × Value), q ∈ gw_l k lv ↔ ∃ i, q.1 = k + i ∧ lv[i]? = some (some q.2) := by
  induction lv with
  | nil => intro k q; simp [gw_l]
  | cons a t ih =>
    intro k q
    cases a with
    | none =>
      rw [gw_l, ih]
      constructor
      · rintro ⟨i, h1, h2⟩; exact ⟨i + 1, by omega, by simpa using h2⟩
      · rintro ⟨i, h1, h2⟩
        cases i with
        | zero => simp at h2
        | succ i => exact ⟨i, by omega, by simpa using h2⟩
    | some v =>
      rw [gw_l, List.mem_cons, ih]
      constructor
      · rintro (h | ⟨i, h1, h2⟩)
        · subst h; exact ⟨0, rfl, rfl⟩
        · exact ⟨i + 1, by omega, by simpa using h2⟩
      · rintro ⟨i, h1, h2⟩
        cases i with
        | zero => left; simp at h2; subst h2; exact Prod.ext (by simpa using h1) rfl
        | succ i => right; exact ⟨i, by omega, by simpa using h2⟩
theorem gw_L.has {ls : Array Slot} {nL : Nat} {lv : List (Option Value)} (h : gw_L ls nL lv) : lv_has ls nL (gw_l 0 lv) :=
  ⟨h.1, h.2.1, fun q hq => by obtain ⟨i, h1, h2⟩ := (gw_l_mem lv 0 q).mp hq; rw [h1, Nat.zero_add]; exact h.2.2 i q.2 h2⟩
/-- the local ahead of place i isn't the first half of a long -/
def gw_ok (lv : List (Option Value)) (i : Nat) : Bool := match i with
  | 0 => true
  | j + 1 => match lv[j]? with
    | some (some v) => v.category != 2
    | _ => true
theorem gw_ok_ne {lv : List (Option Value)} {i j : Nat} {v : Value} (h : gw_ok lv i = true) (hj : j + 1 = i) (hv : lv[j]? = some (some v)) : (v.category == 2) = false := by
  subst hj
  simp only [gw_ok, hv] at h
  simpa [bne] using h
theorem gw_L.set1 {ls' : Array Slot} {nL i : Nat} {lv : List (Option Value)} {x : Value} {l' : List (Nat × Value)} (hk : gw_ok lv i = true) (hl : (i, x) :: (gw_l 0 lv).filter (fun q => !(q.1 == i) && !(q.1 + 1 == i && q.2.category == 2)) = l') (h : lv_has ls' nL l') : gw_L ls' nL (lv.set i (some x)) := by
  subst hl
  refine ⟨h.1, h.2.1, fun j v hj => ?_⟩
  by_cases e : i = j
  · subst e
    have hv : v = x := by
      rw [List.getElem?_set] at hj
      by_cases hi : i < lv.length
      · simp [hi] at hj; exact hj.symm
      · simp [hi] at hj
    subst hv
    exact h.2.2 (i, v) List.mem_cons_self
  · rw [List.getElem?_set_ne e] at hj
    refine h.2.2 (j, v) (List.mem_cons_of_mem _ (List.mem_filter.mpr ⟨(gw_l_mem lv 0 (j, v)).mpr ⟨j, by simp, hj⟩, ?_⟩))
    have e1 : (j == i) = false := by simpa using fun h => e h.symm
    have e2 : (j + 1 == i && v.category == 2) = false := by
      by_cases g : j + 1 = i
      · simp [gw_ok_ne hk g hj]
      · simp [g]
    simp only [e1, e2]; rfl
theorem gw_L.set2 {ls' : Array Slot} {nL i : Nat} {lv : List (Option Value)} {x : Value} {l' : List (Nat × Value)} (hk : gw_ok lv i = true) (hl : (i, x) :: (gw_l 0 lv).filter (fun q => !(q.1 == i) && (!(q.1 == i + 1) && !(q.1 + 1 == i && q.2.category == 2))) = l') (h : lv_has ls' nL l') : gw_L ls' nL ((lv.set i (some x)).set (i + 1) none) := by
  subst hl
  refine ⟨h.1, h.2.1, fun j v hj => ?_⟩
  by_cases e0 : i + 1 = j
  · subst e0
    rw [List.getElem?_set] at hj
    by_cases hi : i + 1 < (lv.set i (some x)).length
    · simp [hi] at hj
    · simp [hi] at hj
  rw [List.getElem?_set_ne e0] at hj
  by_cases e : i = j
  · subst e
    have hv : v = x := by
      rw [List.getElem?_set] at hj
      by_cases hi : i < lv.length
      · simp [hi] at hj; exact hj.symm
      · simp [hi] at hj
    subst hv
    exact h.2.2 (i, v) List.mem_cons_self
  · rw [List.getElem?_set_ne e] at hj
    refine h.2.2 (j, v) (List.mem_cons_of_mem _ (List.mem_filter.mpr ⟨(gw_l_mem lv 0 (j, v)).mpr ⟨j, by simp, hj⟩, ?_⟩))
    have e1 : (j == i) = false := by simpa using fun h => e h.symm
    have e3 : (j == i + 1) = false := by simpa using fun h => e0 h.symm
    have e2 : (j + 1 == i && v.category == 2) = false := by
      by_cases g : j + 1 = i
      · simp [gw_ok_ne hk g hj]
      · simp [g]
    simp only [e1, e2, e3]; rfl
/-- the locals with which a method begins -/
def gw_args : List Value → List (Option Value)
  | [] => []
  | v :: t => if v.category = 2 then some v :: none :: gw_args t else some v :: gw_args t
theorem gw_args_mem (vs : List Value) : ∀ (k i : Nat) (v : Value), (gw_args vs)[i]? = some (some v) → (k + i, v) ∈ lv_args k vs := by
  induction vs with
  | nil => intro k i v h; simp [gw_args] at h
  | cons a t ih =>
    intro k i v h
    by_cases hc : a.category = 2
    · simp only [gw_args, hc, if_true] at h
      match i, h with
      | 0, h => simp at h; subst h; simp [lv_args]
      | 1, h => simp at h
      | i + 2, h =>
        simp at h
        have h2 := ih (k + 2) i v h
        rw [show k + (i + 2) = k + 2 + i by omega]
        simp [lv_args, hc, h2]
    · simp only [gw_args, hc, if_false] at h
      match i, h with
      | 0, h => simp at h; subst h; simp [lv_args]
      | i + 1, h =>
        simp at h
        have h2 := ih (k + 1) i v h
        rw [show k + (i + 1) = k + 1 + i by omega]
        have h3 : a.category = 1 := by cases a <;> simp [Value.category] at hc ⊢
        simp [lv_args, h3, h2]
abbrev gw_Z : Type := Program → Env → State → MethodId → Array Value → List Frame → Method → Code → va_G → (Nat → Prop) → (State → Prop) → Prop
abbrev gw_Q : Type := Option Value → va_W → Prop
def gw_Qc (D : va_G) (A : Nat → Prop) (post : gw_Q) : Array Value → State → Outcome → State → Prop := fun _ st oc t => (∃ (r : Option Value) (w' : va_W), oc = .returned r ∧ post r w' ∧ va_P D vwCl w' t.heap ∧ va_D A w') ∧ va_F A st t
/-- the end of a method's walk: its contract's -/
def gw_R (κ : gw_K) (post : gw_Q) : gw_Z := fun _ _ s _ args below _ _ D A Q => Q = MQ below (gw_Qc D A post) args s κ.2.2.2.1.cells κ.2.2.2.1.slots A
def gw_W (l : Launch) (κ : gw_K) (cy : Nat → ClassId) (Z : gw_Z) (w : va_W) (n1 n2 pc : Nat) (lv : List (Option Value)) (st : List Value) : Prop :=
  ∀ (p : Program) (e : Env) (s : State) (m : MethodId) (args : Array Value) (below : List Frame) (meth : Method) (c : Code) (D : va_G) (A : Nat → Prop) (Q : State → Prop) (H : Heap) (locs : List Loc) (ls : Array Slot),
    gw_C κ cy p s m args meth c D A → Z p e s m args below meth c D A Q → va_P D vwCl w H → va_D A w → va_S A s.heap H locs → gw_L ls κ.2.2.1 lv → W p l e κ.2.2.2.1 s m args below meth c H locs n1 n2 Q (F0 m pc ls st)
/-- a method's contract: from the world w, with these arguments, it answers r and leaves w', so that post r w' -/
def gw_M (l : Launch) (κ : gw_K) (cy : Nat → ClassId) (av : List Value) (w : va_W) (post : gw_Q) : Prop :=
  ∀ (D : va_G) (sz : Nat), Met l κ.1 (gw_ws κ) κ.2.2.2.1 (va_Pc av (fun U => U.heap.size = sz ∧ va_P D vwCl w U.heap ∧ va_K D vwCl (gw_T cy) U ∧ gw_E U ∧ va_D (fun _ => True) w)) (gw_Qc D (va_A w sz) post) κ.2.2.2.1.cells κ.2.2.2.1.slots (va_A w sz)
theorem gw_M.mk {l : Launch} {κ : gw_K} {cy : Nat → ClassId} {av : List Value} {w : va_W} {post : gw_Q} {lv : List (Option Value)} (hy : plainName κ.1.cls = true) (hn : (lg_sl av).length ≤ κ.2.2.1) (hlv : gw_args av ++ List.replicate (κ.2.2.1 - (gw_args av).length) none = lv)
    (k : gw_W l κ cy (gw_R κ post) w 0 0 0 lv []) : gw_M l κ cy av w post := by
  intro D sz
  refine Met.ofW (cc := κ.2.1) (maxL := κ.2.2.1) (ret := κ.2.2.2.2) hy rfl ?_
  intro p e s m args below meth c s₁ B hml hv
  obtain ⟨rfl, hsz, hP, hK, hE, hD0⟩ := hv
  subst hsz
  have hl := lv_entry av (n := κ.2.2.1) hn
  rw [lg_entry_eq]
  generalize (lg_sl av ++ List.replicate (κ.2.2.1 - (lg_sl av).length) Slot.unset).toArray = ls at hl ⊢
  refine k p e s m _ below meth c D (va_A w s.heap.size) _ s.heap [] ls ⟨B.exec, B.bytes, B.returns, hml, findClass_of_methodNamed B.named, fun w hw => atoms_spec (ws := gw_ws κ) B.pre w (List.mem_cons_of_mem _ hw), B.notSynchronized, (name_of_methodNamed B.named B.method).1, hK, hE, fun q h => Or.inr h⟩ rfl hP hD0.self va_S.rf ⟨hl.1, hl.2.1, fun i v hi => ?_⟩
  subst hlv
  have hm : (gw_args av)[i]? = some (some v) := by
    by_cases hlt : i < (gw_args av).length
    · rwa [List.getElem?_append_left hlt] at hi
    · rw [List.getElem?_append_right (by omega), List.getElem?_replicate] at hi
      split at hi <;> simp at hi
  have := gw_args_mem av 0 i v hm
  rw [Nat.zero_add] at this
  exact hl.2.2 (i, v) this
section GW
variable {l : Launch} {κ : gw_K} {cy : Nat → ClassId} {Z : gw_Z} {w : va_W} {n1 n2 pc : Nat} {lv : List (Option Value)} {st : List Value}
theorem gw_W.rst {st' : List Value} (h : st = st') (k : gw_W l κ cy Z w n1 n2 pc lv st') : gw_W l κ cy Z w n1 n2 pc lv st := h ▸ k
theorem gw_W.wd {w' : va_W} (h : w = w') (k : gw_W l κ cy Z w' n1 n2 pc lv st) : gw_W l κ cy Z w n1 n2 pc lv st := h ▸ k
theorem gw_W.rlv {lv' : List (Option Value)} (h : lv = lv') (k : gw_W l κ cy Z w n1 n2 pc lv' st) : gw_W l κ cy Z w n1 n2 pc lv st := h ▸ k
theorem gw_W.widen {k1 k2 : Nat} (h1 : n1 ≤ k1) (h2 : n2 ≤ k2) (k : gw_W l κ cy Z w k1 k2 pc lv st) : gw_W l κ cy Z w n1 n2 pc lv st := fun p e s m args below meth c D A Q H locs ls C z hP hD hS hl => W.widen h1 h2 (k p e s m args below meth c D A Q H locs ls C z hP hD hS hl)
/-- less is known of the locals -/
theorem gw_W.less {lv' : List (Option Value)} (h : ∀ (i : Nat) (v : Value), lv'[i]? = some (some v) → lv[i]? = some (some v)) (k : gw_W l κ cy Z w n1 n2 pc lv' st) : gw_W l κ cy Z w n1 n2 pc lv st := fun p e s m args below meth c D A Q H locs ls C z hP hD hS hl => k p e s m args below meth c D A Q H locs ls C z hP hD hS ⟨hl.1, hl.2.1, fun i v hi => hl.2.2 i v (h i v hi)⟩
theorem gw_W.forget (i : Nat) (k : gw_W l κ cy Z w n1 n2 pc (lv.set i none) st) : gw_W l κ cy Z w n1 n2 pc lv st := gw_W.less (fun j v hj => by
  rw [List.getElem?_set] at hj
  split at hj
  · split at hj <;> simp at hj
  · exact hj) k
theorem gw_topi {x y : Int32} (h : x = y) (k : gw_W l κ cy Z w n1 n2 pc lv (.int y :: st)) : gw_W l κ cy Z w n1 n2 pc lv (.int x :: st) := h ▸ k
theorem gw_topl {x y : Int64} (h : x = y) (k : gw_W l κ cy Z w n1 n2 pc lv (.long y :: st)) : gw_W l κ cy Z w n1 n2 pc lv (.long x :: st) := h ▸ k
theorem gw_iconst {n : Int} {v : Int32} (hd : decode κ.2.1 pc = .ok (.iconst n, 1)) (hv : Int32.ofInt n = v) (k : gw_W l κ cy Z w n1 n2 (pc + 1) lv (.int v :: st)) : gw_W l κ cy Z w n1 n2 pc lv (st) := fun p e s m args below meth c D A Q H locs ls C z hP hD hS hl => lv_iconst C.1 C.2.1 hd hv (k p e s m args below meth c D A Q H locs ls C z hP hD hS hl)
theorem gw_bipush {n : Int} {v : Int32} (hd : decode κ.2.1 pc = .ok (.bipush n, 2)) (hv : (Int8.ofInt n).toInt32 = v) (k : gw_W l κ cy Z w n1 n2 (pc + 2) lv (.int v :: st)) : gw_W l κ cy Z w n1 n2 pc lv (st) := fun p e s m args below meth c D A Q H locs ls C z hP hD hS hl => lv_bipush C.1 C.2.1 hd hv (k p e s m args below meth c D A Q H locs ls C z hP hD hS hl)
theorem gw_sipush {n : Int} {v : Int32} (hd : decode κ.2.1 pc = .ok (.sipush n, 3)) (hv : (Int16.ofInt n).toInt32 = v) (k : gw_W l κ cy Z w n1 n2 (pc + 3) lv (.int v :: st)) : gw_W l κ cy Z w n1 n2 pc lv (st) := fun p e s m args below meth c D A Q H locs ls C z hP hD hS hl => lv_sipush C.1 C.2.1 hd hv (k p e s m args below meth c D A Q H locs ls C z hP hD hS hl)
theorem gw_lconst {n : Fin 2} {v : Int64} (hd : decode κ.2.1 pc = .ok (.lconst n, 1)) (hv : Int64.ofNat (n : Nat) = v) (k : gw_W l κ cy Z w n1 n2 (pc + 1) lv (.long v :: st)) : gw_W l κ cy Z w n1 n2 pc lv (st) := fun p e s m args below meth c D A Q H locs ls C z hP hD hS hl => lv_lconst C.1 C.2.1 hd hv (k p e s m args below meth c D A Q H locs ls C z hP hD hS hl)
theorem gw_ldc {i : Nat} {v : Int32} (hd : decode κ.2.1 pc = .ok (.ldc i, 2)) (hc : Cond.constant κ.1.cls i v ∈ gw_All) (k : gw_W l κ cy Z w n1 n2 (pc + 2) lv (.int v :: st)) : gw_W l κ cy Z w n1 n2 pc lv (st) := fun p e s m args below meth c D A Q H locs ls C z hP hD hS hl => lv_ldc C.1 C.2.1 C.2.2.2.2.1 (C.2.2.2.2.2.1 _ hc) hd (k p e s m args below meth c D A Q H locs ls C z hP hD hS hl)
theorem gw_ldcw {i : Nat} {v : Int32} (hd : decode κ.2.1 pc = .ok (.ldc_w i, 3)) (hc : Cond.constant κ.1.cls i v ∈ gw_All) (k : gw_W l κ cy Z w n1 n2 (pc + 3) lv (.int v :: st)) : gw_W l κ cy Z w n1 n2 pc lv (st) := fun p e s m args below meth c D A Q H locs ls C z hP hD hS hl => lv_ldcw C.1 C.2.1 C.2.2.2.2.1 (C.2.2.2.2.2.1 _ hc) hd (k p e s m args below meth c D A Q H locs ls C z hP hD hS hl)
theorem gw_ldc2 {i : Nat} {v : Int64} (hd : decode κ.2.1 pc = .ok (.ldc2_w i, 3)) (hc : Cond.constantLong κ.1.cls i v ∈ gw_All) (k : gw_W l κ cy Z w n1 n2 (pc + 3) lv (.long v :: st)) : gw_W l κ cy Z w n1 n2 pc lv (st) := fun p e s m args below meth c D A Q H locs ls C z hP hD hS hl => lv_ldc2 C.1 C.2.1 C.2.2.2.2.1 (C.2.2.2.2.2.1 _ hc) hd (k p e s m args below meth c D A Q H locs ls C z hP hD hS hl)
theorem gw_null (hd : decode κ.2.1 pc = .ok (.aconst_null, 1)) (k : gw_W l κ cy Z w n1 n2 (pc + 1) lv (.null :: st)) : gw_W l κ cy Z w n1 n2 pc lv (st) := fun p e s m args below meth c D A Q H locs ls C z hP hD hS hl => lv_null C.1 C.2.1 hd (k p e s m args below meth c D A Q H locs ls C z hP hD hS hl)
theorem gw_iload_n {j : Fin 4} {x : Int32} (hd : decode κ.2.1 pc = .ok (.iload_n j, 1)) (h : lv[(j : Nat)]? = some (some (.int x))) (k : gw_W l κ cy Z w n1 n2 (pc + 1) lv (.int x :: st)) : gw_W l κ cy Z w n1 n2 pc lv (st) := fun p e s m args below meth c D A Q H locs ls C z hP hD hS hl => lv_iload_n C.1 C.2.1 hd rfl (hl.2.2 _ _ h) (k p e s m args below meth c D A Q H locs ls C z hP hD hS hl)
theorem gw_iload {i : Nat} {x : Int32} (hd : decode κ.2.1 pc = .ok (.iload i, 2)) (h : lv[i]? = some (some (.int x))) (k : gw_W l κ cy Z w n1 n2 (pc + 2) lv (.int x :: st)) : gw_W l κ cy Z w n1 n2 pc lv (st) := fun p e s m args below meth c D A Q H locs ls C z hP hD hS hl => lv_iload C.1 C.2.1 hd (hl.2.2 _ _ h) (k p e s m args below meth c D A Q H locs ls C z hP hD hS hl)
theorem gw_lload_n {j : Fin 4} {x : Int64} (hd : decode κ.2.1 pc = .ok (.lload_n j, 1)) (h : lv[(j : Nat)]? = some (some (.long x))) (k : gw_W l κ cy Z w n1 n2 (pc + 1) lv (.long x :: st)) : gw_W l κ cy Z w n1 n2 pc lv (st) := fun p e s m args below meth c D A Q H locs ls C z hP hD hS hl => lv_lload_n C.1 C.2.1 hd rfl (hl.2.2 _ _ h) (k p e s m args below meth c D A Q H locs ls C z hP hD hS hl)
theorem gw_lload {i : Nat} {x : Int64} (hd : decode κ.2.1 pc = .ok (.lload i, 2)) (h : lv[i]? = some (some (.long x))) (k : gw_W l κ cy Z w n1 n2 (pc + 2) lv (.long x :: st)) : gw_W l κ cy Z w n1 n2 pc lv (st) := fun p e s m args below meth c D A Q H locs ls C z hP hD hS hl => lv_lload C.1 C.2.1 hd (hl.2.2 _ _ h) (k p e s m args below meth c D A Q H locs ls C z hP hD hS hl)
theorem gw_aload_n {j : Fin 4} {x : Nat} (hd : decode κ.2.1 pc = .ok (.aload_n j, 1)) (h : lv[(j : Nat)]? = some (some (.ref x))) (k : gw_W l κ cy Z w n1 n2 (pc + 1) lv (.ref x :: st)) : gw_W l κ cy Z w n1 n2 pc lv (st) := fun p e s m args below meth c D A Q H locs ls C z hP hD hS hl => lv_aload_n C.1 C.2.1 hd rfl (hl.2.2 _ _ h) (k p e s m args below meth c D A Q H locs ls C z hP hD hS hl)
theorem gw_aload {i : Nat} {x : Nat} (hd : decode κ.2.1 pc = .ok (.aload i, 2)) (h : lv[i]? = some (some (.ref x))) (k : gw_W l κ cy Z w n1 n2 (pc + 2) lv (.ref x :: st)) : gw_W l κ cy Z w n1 n2 pc lv (st) := fun p e s m args below meth c D A Q H locs ls C z hP hD hS hl => lv_aload C.1 C.2.1 hd (hl.2.2 _ _ h) (k p e s m args below meth c D A Q H locs ls C z hP hD hS hl)
theorem gw_aload_nN {j : Fin 4} (hd : decode κ.2.1 pc = .ok (.aload_n j, 1)) (h : lv[(j : Nat)]? = some (some .null)) (k : gw_W l κ cy Z w n1 n2 (pc + 1) lv (.null :: st)) : gw_W l κ cy Z w n1 n2 pc lv (st) := fun p e s m args below meth c D A Q H locs ls C z hP hD hS hl => lv_aload_nN C.1 C.2.1 hd rfl (hl.2.2 _ _ h) (k p e s m args below meth c D A Q H locs ls C z hP hD hS hl)
theorem gw_aloadN {i : Nat} (hd : decode κ.2.1 pc = .ok (.aload i, 2)) (h : lv[i]? = some (some .null)) (k : gw_W l κ cy Z w n1 n2 (pc + 2) lv (.null :: st)) : gw_W l κ cy Z w n1 n2 pc lv (st) := fun p e s m args below meth c D A Q H locs ls C z hP hD hS hl => lv_aloadN C.1 C.2.1 hd (hl.2.2 _ _ h) (k p e s m args below meth c D A Q H locs ls C z hP hD hS hl)
theorem gw_istore_n {j : Fin 4} {x : Int32} (hd : decode κ.2.1 pc = .ok (.istore_n j, 1)) (hn : (j : Nat) < κ.2.2.1) (ho : gw_ok lv (j : Nat) = true) (k : gw_W l κ cy Z w n1 n2 (pc + 1) (lv.set (j : Nat) (some (.int x))) st) : gw_W l κ cy Z w n1 n2 pc lv (.int x :: st) := fun p e s m args below meth c D A Q H locs ls C z hP hD hS hl => lv_istore_n C.1 C.2.1 hd rfl hl.has hn rfl (fun ls' hl' => k p e s m args below meth c D A Q H locs ls' C z hP hD hS (gw_L.set1 ho rfl hl'))
theorem gw_istore {i : Nat} {x : Int32} (hd : decode κ.2.1 pc = .ok (.istore i, 2)) (hn : i < κ.2.2.1) (ho : gw_ok lv i = true) (k : gw_W l κ cy Z w n1 n2 (pc + 2) (lv.set i (some (.int x))) st) : gw_W l κ cy Z w n1 n2 pc lv (.int x :: st) := fun p e s m args below meth c D A Q H locs ls C z hP hD hS hl => lv_istore C.1 C.2.1 hd  hl.has hn rfl (fun ls' hl' => k p e s m args below meth c D A Q H locs ls' C z hP hD hS (gw_L.set1 ho rfl hl'))
theorem gw_lstore_n {j : Fin 4} {x : Int64} (hd : decode κ.2.1 pc = .ok (.lstore_n j, 1)) (hn : (j : Nat) + 1 < κ.2.2.1) (ho : gw_ok lv (j : Nat) = true) (k : gw_W l κ cy Z w n1 n2 (pc + 1) ((lv.set (j : Nat) (some (.long x))).set ((j : Nat) + 1) none) st) : gw_W l κ cy Z w n1 n2 pc lv (.long x :: st) := fun p e s m args below meth c D A Q H locs ls C z hP hD hS hl => lv_lstore_n C.1 C.2.1 hd rfl hl.has hn rfl (fun ls' hl' => k p e s m args below meth c D A Q H locs ls' C z hP hD hS (gw_L.set2 ho rfl hl'))
theorem gw_lstore {i : Nat} {x : Int64} (hd : decode κ.2.1 pc = .ok (.lstore i, 2)) (hn : i + 1 < κ.2.2.1) (ho : gw_ok lv i = true) (k : gw_W l κ cy Z w n1 n2 (pc + 2) ((lv.set i (some (.long x))).set (i + 1) none) st) : gw_W l κ cy Z w n1 n2 pc lv (.long x :: st) := fun p e s m args below meth c D A Q H locs ls C z hP hD hS hl => lv_lstore C.1 C.2.1 hd  hl.has hn rfl (fun ls' hl' => k p e s m args below meth c D A Q H locs ls' C z hP hD hS (gw_L.set2 ho rfl hl'))
theorem gw_astore_n {j : Fin 4} {x : Nat} (hd : decode κ.2.1 pc = .ok (.astore_n j, 1)) (hn : (j : Nat) < κ.2.2.1) (ho : gw_ok lv (j : Nat) = true) (k : gw_W l κ cy Z w n1 n2 (pc + 1) (lv.set (j : Nat) (some (.ref x))) st) : gw_W l κ cy Z w n1 n2 pc lv (.ref x :: st) := fun p e s m args below meth c D A Q H locs ls C z hP hD hS hl => lv_astore_n C.1 C.2.1 hd rfl hl.has hn rfl (fun ls' hl' => k p e s m args below meth c D A Q H locs ls' C z hP hD hS (gw_L.set1 ho rfl hl'))
theorem gw_astore {i : Nat} {x : Nat} (hd : decode κ.2.1 pc = .ok (.astore i, 2)) (hn : i < κ.2.2.1) (ho : gw_ok lv i = true) (k : gw_W l κ cy Z w n1 n2 (pc + 2) (lv.set i (some (.ref x))) st) : gw_W l κ cy Z w n1 n2 pc lv (.ref x :: st) := fun p e s m args below meth c D A Q H locs ls C z hP hD hS hl => lv_astore C.1 C.2.1 hd  hl.has hn rfl (fun ls' hl' => k p e s m args below meth c D A Q H locs ls' C z hP hD hS (gw_L.set1 ho rfl hl'))
theorem gw_astore_nN {j : Fin 4} (hd : decode κ.2.1 pc = .ok (.astore_n j, 1)) (hn : (j : Nat) < κ.2.2.1) (ho : gw_ok lv (j : Nat) = true) (k : gw_W l κ cy Z w n1 n2 (pc + 1) (lv.set (j : Nat) (some (.null))) st) : gw_W l κ cy Z w n1 n2 pc lv (.null :: st) := fun p e s m args below meth c D A Q H locs ls C z hP hD hS hl => lv_astore_nN C.1 C.2.1 hd rfl hl.has hn rfl (fun ls' hl' => k p e s m args below meth c D A Q H locs ls' C z hP hD hS (gw_L.set1 ho rfl hl'))
theorem gw_astoreN {i : Nat} (hd : decode κ.2.1 pc = .ok (.astore i, 2)) (hn : i < κ.2.2.1) (ho : gw_ok lv i = true) (k : gw_W l κ cy Z w n1 n2 (pc + 2) (lv.set i (some (.null))) st) : gw_W l κ cy Z w n1 n2 pc lv (.null :: st) := fun p e s m args below meth c D A Q H locs ls C z hP hD hS hl => lv_astoreN C.1 C.2.1 hd  hl.has hn rfl (fun ls' hl' => k p e s m args below meth c D A Q H locs ls' C z hP hD hS (gw_L.set1 ho rfl hl'))
theorem gw_l_get {lv : List (Option Value)} {i : Nat} {v : Value} (h : lv[i]? = some (some v)) : ∃ k : Nat, (gw_l 0 lv)[k]? = some (i, v) := by
  have := (gw_l_mem lv 0 (i, v)).mpr ⟨i, by simp, h⟩
  exact List.getElem?_of_mem this
theorem gw_iinc {i : Nat} {n : Int} {x v : Int32} (hd : decode κ.2.1 pc = .ok (.iinc i n, 3)) (h : lv[i]? = some (some (.int x))) (hv : x + Int32.ofInt n = v) (hn : i < κ.2.2.1) (ho : gw_ok lv i = true) (k : gw_W l κ cy Z w n1 n2 (pc + 3) (lv.set i (some (.int v))) st) : gw_W l κ cy Z w n1 n2 pc lv st := fun p e s m args below meth c D A Q H locs ls C z hP hD hS hl => by
  obtain ⟨kk, hkk⟩ := gw_l_get h
  exact lv_iinc C.1 C.2.1 hd hl.has hkk hv hn rfl (fun ls' hl' => k p e s m args below meth c D A Q H locs ls' C z hP hD hS (gw_L.set1 ho rfl hl'))
theorem gw_iadd {x y : Int32} (hd : decode κ.2.1 pc = .ok (.iadd, 1)) (k : gw_W l κ cy Z w n1 n2 (pc + 1) lv (.int (x + y) :: st)) : gw_W l κ cy Z w n1 n2 pc lv (.int y :: .int x :: st) := fun p e s m args below meth c D A Q H locs ls C z hP hD hS hl => lv_iadd C.1 C.2.1 hd (k p e s m args below meth c D A Q H locs ls C z hP hD hS hl)
theorem gw_isub {x y : Int32} (hd : decode κ.2.1 pc = .ok (.isub, 1)) (k : gw_W l κ cy Z w n1 n2 (pc + 1) lv (.int (x - y) :: st)) : gw_W l κ cy Z w n1 n2 pc lv (.int y :: .int x :: st) := fun p e s m args below meth c D A Q H locs ls C z hP hD hS hl => lv_isub C.1 C.2.1 hd (k p e s m args below meth c D A Q H locs ls C z hP hD hS hl)
theorem gw_imul {x y : Int32} (hd : decode κ.2.1 pc = .ok (.imul, 1)) (k : gw_W l κ cy Z w n1 n2 (pc + 1) lv (.int (x * y) :: st)) : gw_W l κ cy Z w n1 n2 pc lv (.int y :: .int x :: st) := fun p e s m args below meth c D A Q H locs ls C z hP hD hS hl => lv_imul C.1 C.2.1 hd (k p e s m args below meth c D A Q H locs ls C z hP hD hS hl)
theorem gw_iand {x y : Int32} (hd : decode κ.2.1 pc = .ok (.iand, 1)) (k : gw_W l κ cy Z w n1 n2 (pc + 1) lv (.int (x &&& y) :: st)) : gw_W l κ cy Z w n1 n2 pc lv (.int y :: .int x :: st) := fun p e s m args below meth c D A Q H locs ls C z hP hD hS hl => lv_iand C.1 C.2.1 hd (k p e s m args below meth c D A Q H locs ls C z hP hD hS hl)
theorem gw_ior {x y : Int32} (hd : decode κ.2.1 pc = .ok (.ior, 1)) (k : gw_W l κ cy Z w n1 n2 (pc + 1) lv (.int (x ||| y) :: st)) : gw_W l κ cy Z w n1 n2 pc lv (.int y :: .int x :: st) := fun p e s m args below meth c D A Q H locs ls C z hP hD hS hl => lv_ior C.1 C.2.1 hd (k p e s m args below meth c D A Q H locs ls C z hP hD hS hl)
theorem gw_ixor {x y : Int32} (hd : decode κ.2.1 pc = .ok (.ixor, 1)) (k : gw_W l κ cy Z w n1 n2 (pc + 1) lv (.int (x ^^^ y) :: st)) : gw_W l κ cy Z w n1 n2 pc lv (.int y :: .int x :: st) := fun p e s m args below meth c D A Q H locs ls C z hP hD hS hl => lv_ixor C.1 C.2.1 hd (k p e s m args below meth c D A Q H locs ls C z hP hD hS hl)
theorem gw_ishl {x y : Int32} (hd : decode κ.2.1 pc = .ok (.ishl, 1)) (k : gw_W l κ cy Z w n1 n2 (pc + 1) lv (.int (x <<< (y &&& 31)) :: st)) : gw_W l κ cy Z w n1 n2 pc lv (.int y :: .int x :: st) := fun p e s m args below meth c D A Q H locs ls C z hP hD hS hl => lv_ishl C.1 C.2.1 hd (k p e s m args below meth c D A Q H locs ls C z hP hD hS hl)
theorem gw_ishr {x y : Int32} (hd : decode κ.2.1 pc = .ok (.ishr, 1)) (k : gw_W l κ cy Z w n1 n2 (pc + 1) lv (.int (x >>> (y &&& 31)) :: st)) : gw_W l κ cy Z w n1 n2 pc lv (.int y :: .int x :: st) := fun p e s m args below meth c D A Q H locs ls C z hP hD hS hl => lv_ishr C.1 C.2.1 hd (k p e s m args below meth c D A Q H locs ls C z hP hD hS hl)
theorem gw_iushr {x y v : Int32} (hd : decode κ.2.1 pc = .ok (.iushr, 1)) (hv : (x.toUInt32 >>> (y.toUInt32 &&& Int32.toUInt32 31)).toInt32 = v) (k : gw_W l κ cy Z w n1 n2 (pc + 1) lv (.int v :: st)) : gw_W l κ cy Z w n1 n2 pc lv (.int y :: .int x :: st) := fun p e s m args below meth c D A Q H locs ls C z hP hD hS hl => lv_iushr C.1 C.2.1 hd hv (k p e s m args below meth c D A Q H locs ls C z hP hD hS hl)
theorem gw_idiv {x y : Int32} (hd : decode κ.2.1 pc = .ok (.idiv, 1)) (hne : ¬ y = 0) (k : gw_W l κ cy Z w n1 n2 (pc + 1) lv (.int (x / y) :: st)) : gw_W l κ cy Z w n1 n2 pc lv (.int y :: .int x :: st) := fun p e s m args below meth c D A Q H locs ls C z hP hD hS hl => lv_idiv C.1 C.2.1 hd hne (k p e s m args below meth c D A Q H locs ls C z hP hD hS hl)
theorem gw_irem {x y : Int32} (hd : decode κ.2.1 pc = .ok (.irem, 1)) (hne : ¬ y = 0) (k : gw_W l κ cy Z w n1 n2 (pc + 1) lv (.int (x - x / y * y) :: st)) : gw_W l κ cy Z w n1 n2 pc lv (.int y :: .int x :: st) := fun p e s m args below meth c D A Q H locs ls C z hP hD hS hl => lv_irem C.1 C.2.1 hd hne (k p e s m args below meth c D A Q H locs ls C z hP hD hS hl)
theorem gw_ineg {x : Int32} (hd : decode κ.2.1 pc = .ok (.ineg, 1)) (k : gw_W l κ cy Z w n1 n2 (pc + 1) lv (.int (-x) :: st)) : gw_W l κ cy Z w n1 n2 pc lv (.int x :: st) := fun p e s m args below meth c D A Q H locs ls C z hP hD hS hl => lv_ineg C.1 C.2.1 hd (k p e s m args below meth c D A Q H locs ls C z hP hD hS hl)
theorem gw_ladd {x y : Int64} (hd : decode κ.2.1 pc = .ok (.ladd, 1)) (k : gw_W l κ cy Z w n1 n2 (pc + 1) lv (.long (x + y) :: st)) : gw_W l κ cy Z w n1 n2 pc lv (.long y :: .long x :: st) := fun p e s m args below meth c D A Q H locs ls C z hP hD hS hl => lv_ladd C.1 C.2.1 hd (k p e s m args below meth c D A Q H locs ls C z hP hD hS hl)
theorem gw_lsub {x y : Int64} (hd : decode κ.2.1 pc = .ok (.lsub, 1)) (k : gw_W l κ cy Z w n1 n2 (pc + 1) lv (.long (x - y) :: st)) : gw_W l κ cy Z w n1 n2 pc lv (.long y :: .long x :: st) := fun p e s m args below meth c D A Q H locs ls C z hP hD hS hl => lv_lsub C.1 C.2.1 hd (k p e s m args below meth c D A Q H locs ls C z hP hD hS hl)
theorem gw_lmul {x y : Int64} (hd : decode κ.2.1 pc = .ok (.lmul, 1)) (k : gw_W l κ cy Z w n1 n2 (pc + 1) lv (.long (x * y) :: st)) : gw_W l κ cy Z w n1 n2 pc lv (.long y :: .long x :: st) := fun p e s m args below meth c D A Q H locs ls C z hP hD hS hl => lv_lmul C.1 C.2.1 hd (k p e s m args below meth c D A Q H locs ls C z hP hD hS hl)
theorem gw_ldiv {x y : Int64} (hd : decode κ.2.1 pc = .ok (.ldiv, 1)) (hne : ¬ y = 0) (k : gw_W l κ cy Z w n1 n2 (pc + 1) lv (.long (x / y) :: st)) : gw_W l κ cy Z w n1 n2 pc lv (.long y :: .long x :: st) := fun p e s m args below meth c D A Q H locs ls C z hP hD hS hl => lv_ldiv C.1 C.2.1 hd hne (k p e s m args below meth c D A Q H locs ls C z hP hD hS hl)
theorem gw_lneg {x : Int64} (hd : decode κ.2.1 pc = .ok (.lneg, 1)) (k : gw_W l κ cy Z w n1 n2 (pc + 1) lv (.long (-x) :: st)) : gw_W l κ cy Z w n1 n2 pc lv (.long x :: st) := fun p e s m args below meth c D A Q H locs ls C z hP hD hS hl => lv_lneg C.1 C.2.1 hd (k p e s m args below meth c D A Q H locs ls C z hP hD hS hl)
theorem gw_lcmp {x y : Int64} (hd : decode κ.2.1 pc = .ok (.lcmp, 1)) (k : gw_W l κ cy Z w n1 n2 (pc + 1) lv (.int (lg_cmp x y) :: st)) : gw_W l κ cy Z w n1 n2 pc lv (.long y :: .long x :: st) := fun p e s m args below meth c D A Q H locs ls C z hP hD hS hl => W.lcmp C.1 C.2.1 hd (k p e s m args below meth c D A Q H locs ls C z hP hD hS hl)
theorem gw_i2l {x : Int32} {v : Int64} (hd : decode κ.2.1 pc = .ok (.i2l, 1)) (hv : x.toInt64 = v) (k : gw_W l κ cy Z w n1 n2 (pc + 1) lv (.long v :: st)) : gw_W l κ cy Z w n1 n2 pc lv (.int x :: st) := fun p e s m args below meth c D A Q H locs ls C z hP hD hS hl => lv_i2l C.1 C.2.1 hd hv (k p e s m args below meth c D A Q H locs ls C z hP hD hS hl)
theorem gw_i2b {x v : Int32} (hd : decode κ.2.1 pc = .ok (.i2b, 1)) (hv : x.toInt8.toInt32 = v) (k : gw_W l κ cy Z w n1 n2 (pc + 1) lv (.int v :: st)) : gw_W l κ cy Z w n1 n2 pc lv (.int x :: st) := fun p e s m args below meth c D A Q H locs ls C z hP hD hS hl => lv_i2b C.1 C.2.1 hd hv (k p e s m args below meth c D A Q H locs ls C z hP hD hS hl)
theorem gw_i2s {x v : Int32} (hd : decode κ.2.1 pc = .ok (.i2s, 1)) (hv : x.toInt16.toInt32 = v) (k : gw_W l κ cy Z w n1 n2 (pc + 1) lv (.int v :: st)) : gw_W l κ cy Z w n1 n2 pc lv (.int x :: st) := fun p e s m args below meth c D A Q H locs ls C z hP hD hS hl => lv_i2s C.1 C.2.1 hd hv (k p e s m args below meth c D A Q H locs ls C z hP hD hS hl)
theorem gw_dup {va : Value} (hd : decode κ.2.1 pc = .ok (.dup, 1)) (hva : va.category = 1) (k : gw_W l κ cy Z w n1 n2 (pc + 1) lv (va :: va :: st)) : gw_W l κ cy Z w n1 n2 pc lv (va :: st) := fun p e s m args below meth c D A Q H locs ls C z hP hD hS hl => lv_dup C.1 C.2.1 hd hva (k p e s m args below meth c D A Q H locs ls C z hP hD hS hl)
theorem gw_dup2 {va vb : Value} (hd : decode κ.2.1 pc = .ok (.dup2, 1)) (hva : va.category = 1) (hvb : vb.category = 1) (k : gw_W l κ cy Z w n1 n2 (pc + 1) lv (va :: vb :: va :: vb :: st)) : gw_W l κ cy Z w n1 n2 pc lv (va :: vb :: st) := fun p e s m args below meth c D A Q H locs ls C z hP hD hS hl => lv_dup2_11 C.1 C.2.1 hd hva hvb (k p e s m args below meth c D A Q H locs ls C z hP hD hS hl)
theorem gw_dup2L {va : Value} (hd : decode κ.2.1 pc = .ok (.dup2, 1)) (hva : va.category = 2) (k : gw_W l κ cy Z w n1 n2 (pc + 1) lv (va :: va :: st)) : gw_W l κ cy Z w n1 n2 pc lv (va :: st) := fun p e s m args below meth c D A Q H locs ls C z hP hD hS hl => lv_dup2_2 C.1 C.2.1 hd hva (k p e s m args below meth c D A Q H locs ls C z hP hD hS hl)
theorem gw_if_eq {x : Int32} {off : Int} {tgt : Nat} (hd : decode κ.2.1 pc = .ok (.ifCond .eq off, 3)) (ht : (pc : Int) + off = (tgt : Int)) (kt : x = 0 → gw_W l κ cy Z w n1 n2 tgt lv st) (kf : ¬ x = 0 → gw_W l κ cy Z w n1 n2 (pc + 3) lv st) : gw_W l κ cy Z w n1 n2 pc lv (.int x :: st) := fun p e s m args below meth c D A Q H locs ls C z hP hD hS hl => lv_if_eq C.1 C.2.1 hd ht (fun h => kt h p e s m args below meth c D A Q H locs ls C z hP hD hS hl) (fun h => kf h p e s m args below meth c D A Q H locs ls C z hP hD hS hl)
theorem gw_icmp_eq {x y : Int32} {off : Int} {tgt : Nat} (hd : decode κ.2.1 pc = .ok (.if_icmp .eq off, 3)) (ht : (pc : Int) + off = (tgt : Int)) (kt : x = y → gw_W l κ cy Z w n1 n2 tgt lv st) (kf : ¬ x = y → gw_W l κ cy Z w n1 n2 (pc + 3) lv st) : gw_W l κ cy Z w n1 n2 pc lv (.int y :: .int x :: st) := fun p e s m args below meth c D A Q H locs ls C z hP hD hS hl => lv_icmp_eq C.1 C.2.1 hd ht (fun h => kt h p e s m args below meth c D A Q H locs ls C z hP hD hS hl) (fun h => kf h p e s m args below meth c D A Q H locs ls C z hP hD hS hl)
theorem gw_if_ne {x : Int32} {off : Int} {tgt : Nat} (hd : decode κ.2.1 pc = .ok (.ifCond .ne off, 3)) (ht : (pc : Int) + off = (tgt : Int)) (kt : ¬ x = 0 → gw_W l κ cy Z w n1 n2 tgt lv st) (kf : x = 0 → gw_W l κ cy Z w n1 n2 (pc + 3) lv st) : gw_W l κ cy Z w n1 n2 pc lv (.int x :: st) := fun p e s m args below meth c D A Q H locs ls C z hP hD hS hl => lv_if_ne C.1 C.2.1 hd ht (fun h => kt h p e s m args below meth c D A Q H locs ls C z hP hD hS hl) (fun h => kf h p e s m args below meth c D A Q H locs ls C z hP hD hS hl)
theorem gw_icmp_ne {x y : Int32} {off : Int} {tgt : Nat} (hd : decode κ.2.1 pc = .ok (.if_icmp .ne off, 3)) (ht : (pc : Int) + off = (tgt : Int)) (kt : ¬ x = y → gw_W l κ cy Z w n1 n2 tgt lv st) (kf : x = y → gw_W l κ cy Z w n1 n2 (pc + 3) lv st) : gw_W l κ cy Z w n1 n2 pc lv (.int y :: .int x :: st) := fun p e s m args below meth c D A Q H locs ls C z hP hD hS hl => lv_icmp_ne C.1 C.2.1 hd ht (fun h => kt h p e s m args below meth c D A Q H locs ls C z hP hD hS hl) (fun h => kf h p e s m args below meth c D A Q H locs ls C z hP hD hS hl)
theorem gw_if_lt {x : Int32} {off : Int} {tgt : Nat} (hd : decode κ.2.1 pc = .ok (.ifCond .lt off, 3)) (ht : (pc : Int) + off = (tgt : Int)) (kt : x < 0 → gw_W l κ cy Z w n1 n2 tgt lv st) (kf : ¬ x < 0 → gw_W l κ cy Z w n1 n2 (pc + 3) lv st) : gw_W l κ cy Z w n1 n2 pc lv (.int x :: st) := fun p e s m args below meth c D A Q H locs ls C z hP hD hS hl => lv_if_lt C.1 C.2.1 hd ht (fun h => kt h p e s m args below meth c D A Q H locs ls C z hP hD hS hl) (fun h => kf h p e s m args below meth c D A Q H locs ls C z hP hD hS hl)
theorem gw_icmp_lt {x y : Int32} {off : Int} {tgt : Nat} (hd : decode κ.2.1 pc = .ok (.if_icmp .lt off, 3)) (ht : (pc : Int) + off = (tgt : Int)) (kt : x < y → gw_W l κ cy Z w n1 n2 tgt lv st) (kf : ¬ x < y → gw_W l κ cy Z w n1 n2 (pc + 3) lv st) : gw_W l κ cy Z w n1 n2 pc lv (.int y :: .int x :: st) := fun p e s m args below meth c D A Q H locs ls C z hP hD hS hl => lv_icmp_lt C.1 C.2.1 hd ht (fun h => kt h p e s m args below meth c D A Q H locs ls C z hP hD hS hl) (fun h => kf h p e s m args below meth c D A Q H locs ls C z hP hD hS hl)
theorem gw_if_ge {x : Int32} {off : Int} {tgt : Nat} (hd : decode κ.2.1 pc = .ok (.ifCond .ge off, 3)) (ht : (pc : Int) + off = (tgt : Int)) (kt : 0 ≤ x → gw_W l κ cy Z w n1 n2 tgt lv st) (kf : ¬ 0 ≤ x → gw_W l κ cy Z w n1 n2 (pc + 3) lv st) : gw_W l κ cy Z w n1 n2 pc lv (.int x :: st) := fun p e s m args below meth c D A Q H locs ls C z hP hD hS hl => lv_if_ge C.1 C.2.1 hd ht (fun h => kt h p e s m args below meth c D A Q H locs ls C z hP hD hS hl) (fun h => kf h p e s m args below meth c D A Q H locs ls C z hP hD hS hl)
theorem gw_icmp_ge {x y : Int32} {off : Int} {tgt : Nat} (hd : decode κ.2.1 pc = .ok (.if_icmp .ge off, 3)) (ht : (pc : Int) + off = (tgt : Int)) (kt : y ≤ x → gw_W l κ cy Z w n1 n2 tgt lv st) (kf : ¬ y ≤ x → gw_W l κ cy Z w n1 n2 (pc + 3) lv st) : gw_W l κ cy Z w n1 n2 pc lv (.int y :: .int x :: st) := fun p e s m args below meth c D A Q H locs ls C z hP hD hS hl => lv_icmp_ge C.1 C.2.1 hd ht (fun h => kt h p e s m args below meth c D A Q H locs ls C z hP hD hS hl) (fun h => kf h p e s m args below meth c D A Q H locs ls C z hP hD hS hl)
theorem gw_if_gt {x : Int32} {off : Int} {tgt : Nat} (hd : decode κ.2.1 pc = .ok (.ifCond .gt off, 3)) (ht : (pc : Int) + off = (tgt : Int)) (kt : 0 < x → gw_W l κ cy Z w n1 n2 tgt lv st) (kf : ¬ 0 < x → gw_W l κ cy Z w n1 n2 (pc + 3) lv st) : gw_W l κ cy Z w n1 n2 pc lv (.int x :: st) := fun p e s m args below meth c D A Q H locs ls C z hP hD hS hl => lv_if_gt C.1 C.2.1 hd ht (fun h => kt h p e s m args below meth c D A Q H locs ls C z hP hD hS hl) (fun h => kf h p e s m args below meth c D A Q H locs ls C z hP hD hS hl)
theorem gw_icmp_gt {x y : Int32} {off : Int} {tgt : Nat} (hd : decode κ.2.1 pc = .ok (.if_icmp .gt off, 3)) (ht : (pc : Int) + off = (tgt : Int)) (kt : y < x → gw_W l κ cy Z w n1 n2 tgt lv st) (kf : ¬ y < x → gw_W l κ cy Z w n1 n2 (pc + 3) lv st) : gw_W l κ cy Z w n1 n2 pc lv (.int y :: .int x :: st) := fun p e s m args below meth c D A Q H locs ls C z hP hD hS hl => lv_icmp_gt C.1 C.2.1 hd ht (fun h => kt h p e s m args below meth c D A Q H locs ls C z hP hD hS hl) (fun h => kf h p e s m args below meth c D A Q H locs ls C z hP hD hS hl)
theorem gw_if_le {x : Int32} {off : Int} {tgt : Nat} (hd : decode κ.2.1 pc = .ok (.ifCond .le off, 3)) (ht : (pc : Int) + off = (tgt : Int)) (kt : x ≤ 0 → gw_W l κ cy Z w n1 n2 tgt lv st) (kf : ¬ x ≤ 0 → gw_W l κ cy Z w n1 n2 (pc + 3) lv st) : gw_W l κ cy Z w n1 n2 pc lv (.int x :: st) := fun p e s m args below meth c D A Q H locs ls C z hP hD hS hl => lv_if_le C.1 C.2.1 hd ht (fun h => kt h p e s m args below meth c D A Q H locs ls C z hP hD hS hl) (fun h => kf h p e s m args below meth c D A Q H locs ls C z hP hD hS hl)
theorem gw_icmp_le {x y : Int32} {off : Int} {tgt : Nat} (hd : decode κ.2.1 pc = .ok (.if_icmp .le off, 3)) (ht : (pc : Int) + off = (tgt : Int)) (kt : x ≤ y → gw_W l κ cy Z w n1 n2 tgt lv st) (kf : ¬ x ≤ y → gw_W l κ cy Z w n1 n2 (pc + 3) lv st) : gw_W l κ cy Z w n1 n2 pc lv (.int y :: .int x :: st) := fun p e s m args below meth c D A Q H locs ls C z hP hD hS hl => lv_icmp_le C.1 C.2.1 hd ht (fun h => kt h p e s m args below meth c D A Q H locs ls C z hP hD hS hl) (fun h => kf h p e s m args below meth c D A Q H locs ls C z hP hD hS hl)
theorem gw_goto {off : Int} {tgt : Nat} (hd : decode κ.2.1 pc = .ok (.goto off, 3)) (ht : (pc : Int) + off = (tgt : Int)) (k : gw_W l κ cy Z w n1 n2 tgt lv st) : gw_W l κ cy Z w n1 n2 pc lv st := fun p e s m args below meth c D A Q H locs ls C z hP hD hS hl => lv_goto C.1 C.2.1 hd ht (k p e s m args below meth c D A Q H locs ls C z hP hD hS hl)
theorem gw_ifnull {x : Nat} {off : Int} (hd : decode κ.2.1 pc = .ok (.ifnull off, 3)) (k : gw_W l κ cy Z w n1 n2 (pc + 3) lv st) : gw_W l κ cy Z w n1 n2 pc lv (.ref x :: st) := fun p e s m args below meth c D A Q H locs ls C z hP hD hS hl => lv_ifnull C.1 C.2.1 hd (k p e s m args below meth c D A Q H locs ls C z hP hD hS hl)
theorem gw_ifnonnull {x : Nat} {off : Int} {tgt : Nat} (hd : decode κ.2.1 pc = .ok (.ifnonnull off, 3)) (ht : (pc : Int) + off = (tgt : Int)) (k : gw_W l κ cy Z w n1 n2 tgt lv st) : gw_W l κ cy Z w n1 n2 pc lv (.ref x :: st) := fun p e s m args below meth c D A Q H locs ls C z hP hD hS hl => lv_ifnonnull C.1 C.2.1 hd ht (k p e s m args below meth c D A Q H locs ls C z hP hD hS hl)
theorem gw_ifnullN {off : Int} {tgt : Nat} (hd : decode κ.2.1 pc = .ok (.ifnull off, 3)) (ht : (pc : Int) + off = (tgt : Int)) (k : gw_W l κ cy Z w n1 n2 tgt lv st) : gw_W l κ cy Z w n1 n2 pc lv (.null :: st) := fun p e s m args below meth c D A Q H locs ls C z hP hD hS hl => lv_ifnullN C.1 C.2.1 hd ht (k p e s m args below meth c D A Q H locs ls C z hP hD hS hl)
theorem gw_ifnonnullN {off : Int} (hd : decode κ.2.1 pc = .ok (.ifnonnull off, 3)) (k : gw_W l κ cy Z w n1 n2 (pc + 3) lv st) : gw_W l κ cy Z w n1 n2 pc lv (.null :: st) := fun p e s m args below meth c D A Q H locs ls C z hP hD hS hl => lv_ifnonnullN C.1 C.2.1 hd (k p e s m args below meth c D A Q H locs ls C z hP hD hS hl)
theorem gw_tableIn {dflt lo hi : Int} {offs : Array Int} {len : Nat} {x : Int32} {off : Int} {tgt : Nat} (hd : decode κ.2.1 pc = .ok (.tableswitch dflt lo hi offs, len)) (h1 : ¬ x.toInt < lo) (h2 : ¬ hi < x.toInt) (ho : offs[(x.toInt - lo).toNat]? = some off) (ht : (pc : Int) + off = (tgt : Int)) (k : gw_W l κ cy Z w n1 n2 tgt lv st) : gw_W l κ cy Z w n1 n2 pc lv (.int x :: st) := fun p e s m args below meth c D A Q H locs ls C z hP hD hS hl => lv_tableIn C.1 C.2.1 hd h1 h2 ho ht (k p e s m args below meth c D A Q H locs ls C z hP hD hS hl)
theorem gw_tableOut {dflt lo hi : Int} {offs : Array Int} {len : Nat} {x : Int32} {tgt : Nat} (hd : decode κ.2.1 pc = .ok (.tableswitch dflt lo hi offs, len)) (h : x.toInt < lo ∨ hi < x.toInt) (ht : (pc : Int) + dflt = (tgt : Int)) (k : gw_W l κ cy Z w n1 n2 tgt lv st) : gw_W l κ cy Z w n1 n2 pc lv (.int x :: st) := fun p e s m args below meth c D A Q H locs ls C z hP hD hS hl => lv_tableOut C.1 C.2.1 hd h ht (k p e s m args below meth c D A Q H locs ls C z hP hD hS hl)
theorem gw_lookup {dflt : Int} {ps : Array (Int × Int)} {len : Nat} {x : Int32} {off : Int} {tgt : Nat} (hd : decode κ.2.1 pc = .ok (.lookupswitch dflt ps, len)) (hp : (ps.toList.zip (ps.toList.drop 1)).all (fun (a, next) => a.1 < next.1) = true) (ho : Op.lookupswitch.offset ps.toList dflt x.toInt = off) (ht : (pc : Int) + off = (tgt : Int)) (k : gw_W l κ cy Z w n1 n2 tgt lv st) : gw_W l κ cy Z w n1 n2 pc lv (.int x :: st) := fun p e s m args below meth c D A Q H locs ls C z hP hD hS hl => lv_lookup C.1 C.2.1 hd hp ho ht (k p e s m args below meth c D A Q H locs ls C z hP hD hS hl)
end GW
