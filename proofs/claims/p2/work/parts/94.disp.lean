/-! calls by the receiver's class; calls of the superclass's method; instanceof, checkcast -/
/-- the method x is declared: by its words, or by what no word list carries -/
def gw_dec (x : MethodName) : Prop := ∀ (s : State) (args : Array Value), (∀ w ∈ gw_All, w.before args s = true) → gw_E s → va_Decl s x
theorem gw_dec.abs {x : MethodName} (h : Cond.declares x ∈ gw_N) : gw_dec x := fun _ _ _ hE => va_Decl.abs (hE.1 _ h)
theorem gw_dec.code {x : MethodName} {b : ByteArray} {m : Nat} {ret : Option FieldType} (h1 : Cond.instanceMethod x ∈ gw_All) (h2 : Cond.code x b m ret ∈ gw_All) : gw_dec x := fun _ _ hw _ => va_Decl.of (hw _ h1) (hw _ h2)
theorem gw_callD {l : Launch} {κ : gw_K} {cy : Nat → ClassId} {Z : gw_Z} {w : va_W} {n1 n2 pc : Nat} {lv : List (Option Value)} {st : List Value} {κ' : gw_K} {index n : Nat} {As stk : List Value} {post : gw_Q} {b ci : Nat} {q : vw_C} {x : MethodName} {owner : String} (hM : gw_M l κ' cy (.ref b :: As) w post) (hc : gw_calB κ' n) (hin : Cond.instanceMethod κ'.1 ∈ gw_All) (hh : gw_has w b ci) (hq : vwCl[ci]? = some q) (hsel : Cond.selects q.1 x κ'.1 ∈ gw_All) (hsm : Cond.sameMethod x.cls owner x.name x.desc ∈ gw_All) (hdc : gw_dec ⟨owner, x.name, x.desc⟩) (hmh : owner ≠ "java/lang/invoke/MethodHandle" ∧ owner ≠ "java/lang/invoke/VarHandle") (hde : x.desc = κ'.1.desc) (hk : Cond.methodLink κ.1.cls index x ∈ gw_All) (hn : As.length = n) (hs : stk = As.reverse ++ .ref b :: st) (hd : decode κ.2.1 pc = .ok (.invokevirtual index, 3)) (hR : κ'.2.2.2.1.frames + 1 ≤ κ.2.2.2.1.frames ∧ 8 + (κ'.2.2.1 + 11) + κ'.2.2.2.1.locals ≤ κ.2.2.2.1.locals) (hf : n1 + κ'.2.2.2.1.cells ≤ κ.2.2.2.1.cells ∧ n2 + κ'.2.2.2.1.slots ≤ κ.2.2.2.1.slots) (hr : (st.map fun v => v.category).sum ≤ 8) (k : ∀ (r : Option Value) (w' : va_W), post r w' → gw_W l κ cy Z w' (n1 + κ'.2.2.2.1.cells) (n2 + κ'.2.2.2.1.slots) (pc + 3) lv (r.toList ++ st)) : gw_W l κ cy Z w n1 n2 pc lv stk := by
  obtain ⟨fs, hm⟩ := hh
  obtain ⟨q0, he⟩ := List.getElem?_of_mem hm
  intro p e s m args below meth c D A Q H locs ls C z hP hD hS hl
  have hrc := va_recv C.2.2.2.2.2.2.2.2.1 hP hq he
  have hpre := gw_preS (av := .ref b :: As) hP C.2.2.2.2.2.2.2.2.1 C.2.2.2.2.2.2.2.2.2.1 hD
  have ht := C.2.2.2.2.2.1
  have hlen : ∀ sig, parseMethodDescriptor x.desc = some sig → n = sig.parameters.length := by
    intro sig h
    have h2 := hc.2.2.2.2
    rw [← hde, h] at h2
    exact (Option.some.inj h2).symm
  exact gw_go (va_runU (x := x) (owner := owner) (As := As) (rest := st) ⟨C.1, C.2.1, C.2.2.2.1, C.2.2.2.2.1, C.2.2.2.2.2.1⟩ (hM D H.size) ⟨⟨rfl, rfl, hR.1, hR.2, pay_in ht (gw_goodws hc.1), List.mem_cons_self⟩, ht _ hc.1, ht _ hc.2.1, hmh, hlen, ht _ hk, ht _ hsm, hdc s args ht C.2.2.2.2.2.2.2.2.2.1, ht _ hsel, ht _ hin⟩ ⟨hpre.1, hrc, hpre.2⟩ rfl hn hl.1 hs (lv_room hr) hd hf) hS hD C.2.2.2.2.2.2.2.2.2.2 (fun r w' H1 locs1 hp hP1 hD1 hS1 => k r w' hp p e s m args below meth c D A Q H1 locs1 ls C z hP1 hD1 hS1 hl)
theorem gw_callU {l : Launch} {κ : gw_K} {cy : Nat → ClassId} {Z : gw_Z} {w : va_W} {n1 n2 pc : Nat} {lv : List (Option Value)} {st : List Value} {κ' : gw_K} {index n : Nat} {As stk : List Value} {post : gw_Q} {b ci : Nat} {q : vw_C} (hM : gw_M l κ' cy (.ref b :: As) w post) (hc : gw_calB κ' n) (hin : Cond.instanceMethod κ'.1 ∈ gw_All) (hh : gw_has w b ci) (hq : vwCl[ci]? = some q) (hsm : Cond.sameMethod κ'.1.cls κ'.1.cls κ'.1.name κ'.1.desc ∈ gw_All) (hsu : Cond.superclass κ.1.cls κ'.1.cls ∈ gw_All) (hni : κ'.1.name ≠ "<init>") (hk : Cond.methodLink κ.1.cls index κ'.1 ∈ gw_All) (hn : As.length = n) (hs : stk = As.reverse ++ .ref b :: st) (hd : decode κ.2.1 pc = .ok (.invokespecial index, 3)) (hR : κ'.2.2.2.1.frames + 1 ≤ κ.2.2.2.1.frames ∧ 8 + (κ'.2.2.1 + 11) + κ'.2.2.2.1.locals ≤ κ.2.2.2.1.locals) (hf : n1 + κ'.2.2.2.1.cells ≤ κ.2.2.2.1.cells ∧ n2 + κ'.2.2.2.1.slots ≤ κ.2.2.2.1.slots) (hr : (st.map fun v => v.category).sum ≤ 8) (k : ∀ (r : Option Value) (w' : va_W), post r w' → gw_W l κ cy Z w' (n1 + κ'.2.2.2.1.cells) (n2 + κ'.2.2.2.1.slots) (pc + 3) lv (r.toList ++ st)) : gw_W l κ cy Z w n1 n2 pc lv stk := by
  obtain ⟨fs, hm⟩ := hh
  obtain ⟨q0, he⟩ := List.getElem?_of_mem hm
  intro p e s m args below meth c D A Q H locs ls C z hP hD hS hl
  have hrc := va_recv C.2.2.2.2.2.2.2.2.1 hP hq he
  have hpre := gw_preS (av := .ref b :: As) hP C.2.2.2.2.2.2.2.2.1 C.2.2.2.2.2.2.2.2.2.1 hD
  have ht := C.2.2.2.2.2.1
  have hlen : ∀ sig, parseMethodDescriptor κ'.1.desc = some sig → n = sig.parameters.length := by
    intro sig h
    have h2 := hc.2.2.2.2
    rw [h] at h2
    exact (Option.some.inj h2).symm
  exact gw_go (va_runSU (As := As) (rest := st) (C.2.2.2.2.2.2.2.2.1.1 ci q hq).2 ⟨C.1, C.2.1, C.2.2.2.1, C.2.2.2.2.1, C.2.2.2.2.2.1⟩ (hM D H.size) ⟨⟨rfl, rfl, hR.1, hR.2, pay_in ht (gw_goodws hc.1), List.mem_cons_self⟩, ht _ hk, ht _ hsm, ht _ hsu, ht _ hin, ht _ hc.2.1, ht _ hc.1, hni, hlen⟩ ⟨hpre.1, hrc, hpre.2⟩ rfl hn hl.1 hs (lv_room hr) hd hf) hS hD C.2.2.2.2.2.2.2.2.2.2 (fun r w' H1 locs1 hp hP1 hD1 hS1 => k r w' hp p e s m args below meth c D A Q H1 locs1 ls C z hP1 hD1 hS1 hl)
theorem gw_instY {l : Launch} {κ : gw_K} {cy : Nat → ClassId} {Z : gw_Z} {w : va_W} {n1 n2 pc : Nat} {lv : List (Option Value)} {st : List Value} {a ci index : Nat} {q : vw_C} {nm : String} (hh : gw_has w a ci) (hq : vwCl[ci]? = some q) (hk : Cond.classLink κ.1.cls index nm ∈ gw_All) (hc : q.1 = nm ∨ Cond.castable q.1 nm ∈ gw_N) (hd : decode κ.2.1 pc = .ok (.instanceof index, 3)) (k : gw_W l κ cy Z w n1 n2 (pc + 3) lv (.int 1 :: st)) : gw_W l κ cy Z w n1 n2 pc lv (.ref a :: st) := by
  obtain ⟨fs, hm⟩ := hh
  obtain ⟨q0, he⟩ := List.getElem?_of_mem hm
  intro p e s m args below meth c D A Q H locs ls C z hP hD hS hl
  have hrc := va_recv C.2.2.2.2.2.2.2.2.1 hP hq he
  rcases hc with e1 | hc
  · subst e1
    exact va_instS C.1 C.2.1 C.2.2.2.2.1 (C.2.2.2.2.2.1 _ hk) (C.2.2.2.2.2.2.2.2.1.1 ci q hq).2 hrc hd (k p e s m args below meth c D A Q H locs ls C z hP hD hS hl)
  · exact va_instY C.1 C.2.1 C.2.2.2.2.1 (C.2.2.2.2.2.1 _ hk) (C.2.2.2.2.2.2.2.2.2.1.1 _ hc) hrc hd (k p e s m args below meth c D A Q H locs ls C z hP hD hS hl)
theorem gw_castY {l : Launch} {κ : gw_K} {cy : Nat → ClassId} {Z : gw_Z} {w : va_W} {n1 n2 pc : Nat} {lv : List (Option Value)} {st : List Value} {a ci index : Nat} {q : vw_C} {nm : String} (hh : gw_has w a ci) (hq : vwCl[ci]? = some q) (hk : Cond.classLink κ.1.cls index nm ∈ gw_All) (hc : q.1 = nm ∨ Cond.castable q.1 nm ∈ gw_N) (hd : decode κ.2.1 pc = .ok (.checkcast index, 3)) (k : gw_W l κ cy Z w n1 n2 (pc + 3) lv (.ref a :: st)) : gw_W l κ cy Z w n1 n2 pc lv (.ref a :: st) := by
  obtain ⟨fs, hm⟩ := hh
  obtain ⟨q0, he⟩ := List.getElem?_of_mem hm
  intro p e s m args below meth c D A Q H locs ls C z hP hD hS hl
  have hrc := va_recv C.2.2.2.2.2.2.2.2.1 hP hq he
  rcases hc with e1 | hc
  · subst e1
    exact va_castS C.1 C.2.1 C.2.2.2.2.1 (C.2.2.2.2.2.1 _ hk) (C.2.2.2.2.2.2.2.2.1.1 ci q hq).2 hrc hd (k p e s m args below meth c D A Q H locs ls C z hP hD hS hl)
  · exact va_castY C.1 C.2.1 C.2.2.2.2.1 (C.2.2.2.2.2.1 _ hk) (C.2.2.2.2.2.2.2.2.2.1.1 _ hc) hrc hd (k p e s m args below meth c D A Q H locs ls C z hP hD hS hl)
theorem gw_instN {l : Launch} {κ : gw_K} {cy : Nat → ClassId} {Z : gw_Z} {w : va_W} {n1 n2 pc : Nat} {lv : List (Option Value)} {st : List Value} {a ci index : Nat} {q : vw_C} {nm : String} (hh : gw_has w a ci) (hq : vwCl[ci]? = some q) (hk : Cond.classLink κ.1.cls index nm ∈ gw_All) (hc : ∀ U, gw_E U → va_Nc q.1 nm U) (hd : decode κ.2.1 pc = .ok (.instanceof index, 3)) (k : gw_W l κ cy Z w n1 n2 (pc + 3) lv (.int 0 :: st)) : gw_W l κ cy Z w n1 n2 pc lv (.ref a :: st) := by
  obtain ⟨fs, hm⟩ := hh
  obtain ⟨q0, he⟩ := List.getElem?_of_mem hm
  intro p e s m args below meth c D A Q H locs ls C z hP hD hS hl
  have hrc := va_recv C.2.2.2.2.2.2.2.2.1 hP hq he
  exact va_instNo C.1 C.2.1 C.2.2.2.2.1 (C.2.2.2.2.2.1 _ hk) (hc s C.2.2.2.2.2.2.2.2.2.1) hrc hd (k p e s m args below meth c D A Q H locs ls C z hP hD hS hl)
/-- cells that nobody wants any more -/
theorem gw_W.drop {l : Launch} {κ : gw_K} {cy : Nat → ClassId} {Z : gw_Z} {w : va_W} {n1 n2 pc : Nat} {lv : List (Option Value)} {st : List Value} {f : va_W} (k : gw_W l κ cy Z w n1 n2 pc lv st) : gw_W l κ cy Z (w ++ f) n1 n2 pc lv st := by
  intro p e s m args below meth c D A Q H locs ls C z hP hD hS hl
  exact k p e s m args below meth c D A Q H locs ls C z (gw_P_iff.mpr (fun c hc => gw_P_iff.mp hP c (List.mem_append_left _ hc))) (gw_D_iff.mpr ⟨by have h := (gw_D_iff.mp hD).1; rw [List.map_append] at h; exact (List.nodup_append.mp h).1, fun q hq => (gw_D_iff.mp hD).2 q (List.mem_append_left _ hq)⟩) hS hl
