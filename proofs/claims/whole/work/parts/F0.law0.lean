/-! the law: its end, its script, cell -/
def R_law : String := "SpinBenchLaw"
def lw_P (b : Addr) (xs : List Int32) (args : Array Value) (s : State) : Prop := args = #[.ref b] ∧ s.IntsAt b xs ∧ xs.length ≤ 3073 ∧ (Jvm.Cond.and given_1 narrow_1).before args s = true
def lw_Q (_ : Array Value) (s : State) (o : Outcome) (t : State) : Prop := o = .returned (some (.int 1)) ∧ Framed s o t [] 600000 7302250
def lw_Z (below : List Frame) (a : Array Value) (s : State) : State → Prop := fun t => ∃ o, t.status = .running ∧ Ended t below o ∧ lw_Q a s o t
/-- the law's own end, with 1 on the stack, nothing written that was there before, its room as the claim has it -/
theorem lw_ret {p : Program} {l : Launch} {e : Env} {s : State} {m : MethodId} {below : List Frame} {meth : Method} {c : Code} {b : Nat} (hx : p.tables.exec = Jvm.exec) (hb : c.code = code) (hr : meth.sig.returnType = ret) (hlocks : meth.locks = false) {pc : Nat} {H : Heap} {ls : Array Slot} (hdg : decode code pc = .ok (.ireturn, 1)) : W p l e room_1 s m #[Value.ref b] below meth c H [] 600000 7302250 (lw_Z below #[Value.ref b] s) (F0 m pc ls [.int 1]) := by
  intro T hT X
  obtain ⟨fs, hret, hrun, hended, hW, hframe⟩ := X.leave (v := some (.int 1)) (hlocks := hlocks) (fun h => by rw [hr] at h; cases h)
  have hmeth' : T.vm.method? m = some meth := X.method'
  refine ⟨T.setFrames fs, ?_, .returned (some (.int 1)), hrun, hended, rfl, ⟨_, rfl⟩, hW, hframe⟩
  jvm_step X.here [X.here.top, hx, hb, hdg, hmeth', hr, ret, narrow_b1]
  (try refine ⟨rfl, ?_⟩); (try refine ⟨rfl, ?_⟩)
  first | (intro acts; rw [hret _ acts rfl rfl rfl]) | rw [hret _ _ rfl rfl rfl]
  exact Steps.refl _
theorem gw_W.zof {l : Launch} {κ : gw_K} {cy : Nat → ClassId} {Z Z1 : gw_Z} {w : va_W} {n1 n2 pc : Nat} {lv : List (Option Value)} {st : List Value} (h : ∀ p e s m args below meth c D A Q, Z1 p e s m args below meth c D A Q → Z p e s m args below meth c D A Q) (k : gw_W l κ cy Z w n1 n2 pc lv st) : gw_W l κ cy Z1 w n1 n2 pc lv st :=
  fun p e s m args below meth c D A Q H locs ls C z hP hD hS hl => k p e s m args below meth c D A Q H locs ls C (h p e s m args below meth c D A Q z) hP hD hS hl
/-- the walk stands on a script of L ints xs at b, which it does not write -/
def gl_Z (Z : gw_Z) (b L : Nat) (xs : Nat → Int32) : Prop := ∀ p e s m args below meth c D A Q, Z p e s m args below meth c D A Q → va_X b L xs s s.heap ∧ b < s.heap.size ∧ ¬ A b
theorem gl_sld {l : Launch} {κ : gw_K} {cy : Nat → ClassId} {Z : gw_Z} {w : va_W} {n1 n2 pc : Nat} {lv : List (Option Value)} {st : List Value} {b L j : Nat} {xs : Nat → Int32} {i : Int32} (hZ : gl_Z Z b L xs) (hi : i = nI j) (hj : j < L) (hL : L < 2 ^ 31) (hd : decode κ.2.1 pc = .ok (.iaload, 1)) (k : gw_W l κ cy Z w n1 n2 (pc + 1) lv (.int (xs j) :: st)) : gw_W l κ cy Z w n1 n2 pc lv (.int i :: .ref b :: st) := by
  subst hi
  intro p e s m args below meth c D A Q H locs ls C z hP hD hS hl
  obtain ⟨hX, hbl, hbA⟩ := hZ p e s m args below meth c D A Q z
  exact va_sld C.1 C.2.1 hX hbl hbA hS (vp_in_nI hj hL) hd (by rw [nI_clamp (Nat.lt_trans hj hL)]; exact k p e s m args below meth c D A Q H locs ls C z hP hD hS hl)
theorem gl_slen {l : Launch} {κ : gw_K} {cy : Nat → ClassId} {Z : gw_Z} {w : va_W} {n1 n2 pc : Nat} {lv : List (Option Value)} {st : List Value} {b L : Nat} {xs : Nat → Int32} (hZ : gl_Z Z b L xs) (hd : decode κ.2.1 pc = .ok (.arraylength, 1)) (k : gw_W l κ cy Z w n1 n2 (pc + 1) lv (.int (nI L) :: st)) : gw_W l κ cy Z w n1 n2 pc lv (.ref b :: st) := by
  intro p e s m args below meth c D A Q H locs ls C z hP hD hS hl
  obtain ⟨hX, hbl, hbA⟩ := hZ p e s m args below meth c D A Q z
  exact va_slen C.1 C.2.1 hX hbl hbA hS hd (k p e s m args below meth c D A Q H locs ls C z hP hD hS hl)
def cellV (L : Nat) (xs : Nat → Int32) : Int32 := if 0 < L then xs 0 else 0
abbrev kL_cell : gw_K := (yL_cell, cL_cell, 2, { frames := 0, cells := 0, slots := 0, locals := 0 }, some .int)
theorem ok_L_cell : gw_calS kL_cell 2 := ⟨⟨wd_798, wd_56, by decide, by decide, by decide +kernel⟩, wd_797⟩
def qC (L : Nat) (xs : Nat → Int32) : gw_Q := fun r w' => r = some (.int (cellV L xs)) ∧ w' = []
def zC (b L : Nat) (xs : Nat → Int32) : gw_Z := fun p e s m args below meth c D A Q => (va_X b L xs s s.heap ∧ b < s.heap.size ∧ ¬ A b) ∧ gw_R kL_cell (qC L xs) p e s m args below meth c D A Q
theorem zC_Z (b L : Nat) (xs : Nat → Int32) : gl_Z (zC b L xs) b L xs := fun p e s m args below meth c D A Q h => h.1
set_option maxHeartbeats 4000000 in
theorem cell_W (l : Launch) (cy : Nat → ClassId) (b L : Nat) (xs : Nat → Int32) (hL : L < 2 ^ 31) : gw_W l kL_cell cy (zC b L xs) [] 0 0 0 [some (.ref b), some (.int (nI 0))] [] := by
  refine gw_iload_n dL_cell_0 rfl ?_
  refine gw_aload_n dL_cell_1 rfl ?_
  refine gl_slen (zC_Z b L xs) dL_cell_2 ?_
  refine gw_icmpN_ge (tgt := 12) dL_cell_3 (by decide) (by omega) (by omega) (fun h3 => ?_) (fun h3 => ?_)
  · refine gw_iconst (v := 0) dL_cell_12 (by decide) ?_
    refine gw_W.zof (fun p e s m args below meth c D A Q h => h.2) ?_
    refine gw_iret (?_) (by decide) (by decide) rfl dL_cell_13
    refine ⟨?_, rfl⟩
    unfold cellV; rw [if_neg (by omega)]
  · refine gw_aload_n dL_cell_6 rfl ?_
    refine gw_iload_n dL_cell_7 rfl ?_
    refine gl_sld (zC_Z b L xs) rfl (by omega) hL dL_cell_8 ?_
    refine gw_goto (tgt := 13) dL_cell_9 (by decide) ?_
    refine gw_W.zof (fun p e s m args below meth c D A Q h => h.2) ?_
    refine gw_iret (?_) (by decide) (by decide) rfl dL_cell_13
    refine ⟨?_, rfl⟩
    unfold cellV; rw [if_pos (by omega)]
def pC (cy : Nat → ClassId) (b L : Nat) (xs : Nat → Int32) (D : va_G) (sz : Nat) (U : State) : Prop := U.heap.size = sz ∧ va_X b L xs U U.heap ∧ va_K D vwCl (gw_T cy) U ∧ gw_E U
theorem va_X.lt {b L : Nat} {xs : Nat → Int32} {U : State} {H : Heap} (h : va_X b L xs U H) : b < H.size := by
  obtain ⟨scr, h1, -⟩ := h
  exact (Array.getElem?_eq_some_iff.mp h1).1
theorem cell_M (l : Launch) (cy : Nat → ClassId) (b L : Nat) (xs : Nat → Int32) (hL : L < 2 ^ 31) (D : va_G) (sz : Nat) : Met l kL_cell.1 (gw_ws kL_cell) kL_cell.2.2.2.1 (va_Pc [.ref b, .int (nI 0)] (pC cy b L xs D sz)) (gw_Qc D (va_A [] sz) (qC L xs)) kL_cell.2.2.2.1.cells kL_cell.2.2.2.1.slots (va_A [] sz) := by
  refine Met.ofW (cc := kL_cell.2.1) (maxL := kL_cell.2.2.1) (ret := kL_cell.2.2.2.2) (by decide) rfl ?_
  intro p e s m args below meth c s₁ B hml hv
  obtain ⟨rfl, hsz, hX, hK, hE⟩ := hv
  subst hsz
  have hl := lv_entry [.ref b, .int (nI 0)] (n := kL_cell.2.2.1) (Nat.le_of_ble_eq_true rfl)
  rw [lg_entry_eq]
  generalize (lg_sl [.ref b, .int (nI 0)] ++ List.replicate (kL_cell.2.2.1 - (lg_sl [.ref b, .int (nI 0)]).length) Slot.unset).toArray = ls at hl ⊢
  have hbl := va_X.lt hX
  refine cell_W l cy b L xs hL p e s m _ below meth c D (va_A [] s.heap.size) _ s.heap [] ls ⟨B.exec, B.bytes, B.returns, hml, findClass_of_methodNamed B.named, fun w hw => atoms_spec (ws := gw_ws kL_cell) B.pre w (List.mem_cons_of_mem _ hw), B.notSynchronized, (name_of_methodNamed B.named B.method).1, hK, hE, fun q h => Or.inr h⟩ ⟨⟨hX, hbl, fun h => ?_⟩, rfl⟩ (fun k q h => by simp at h) ⟨fun i j p q h => by simp at h, fun k q h => by simp at h⟩ va_S.rf ⟨hl.1, hl.2.1, fun i v hi => ?_⟩
  · rcases h with ⟨k, q, h⟩ | h
    · cases h
    · omega
  · have hm : (gw_args [.ref b, .int (nI 0)])[i]? = some (some v) := hi
    have := gw_args_mem [.ref b, .int (nI 0)] 0 i v hm
    rw [Nat.zero_add] at this
    exact hl.2.2 (i, v) this
theorem pC_blind {cy : Nat → ClassId} {b L : Nat} {xs : Nat → Int32} {D : va_G} {sz : Nat} {av : List Value} : FrameBlind (va_Pc av (pC cy b L xs D sz)) := fun a U g mk q => by
  obtain ⟨q0, q1, qX, qK, qE⟩ := q
  exact ⟨q0, q1, va_X.moved (u := U) (U := U.calling g mk a) (Vm.Alike.refl U.vm) qX, va_K.moved (u := U) (U := U.calling g mk a) (Vm.Alike.refl U.vm) qK, gw_E.same (s := U) rfl qE⟩
/-- the call of cell: it changes nothing -/
theorem gl_cell {l : Launch} {κ : gw_K} {cy : Nat → ClassId} {Z : gw_Z} {w : va_W} {n1 n2 pc : Nat} {lv : List (Option Value)} {st : List Value} {b L index : Nat} {xs : Nat → Int32} (hZ : gl_Z Z b L xs) (hL : L < 2 ^ 31) (hk : Cond.methodLink κ.1.cls index kL_cell.1 ∈ gw_All) (hd : decode κ.2.1 pc = .ok (.invokestatic index, 3)) (hR : kL_cell.2.2.2.1.frames + 1 ≤ κ.2.2.2.1.frames ∧ 8 + (kL_cell.2.2.1 + 11) + kL_cell.2.2.2.1.locals ≤ κ.2.2.2.1.locals) (hf : n1 + kL_cell.2.2.2.1.cells ≤ κ.2.2.2.1.cells ∧ n2 + kL_cell.2.2.2.1.slots ≤ κ.2.2.2.1.slots) (hr : (st.map fun v => v.category).sum ≤ 8) (k : gw_W l κ cy Z w n1 n2 (pc + 3) lv (.int (cellV L xs) :: st)) : gw_W l κ cy Z w n1 n2 pc lv (.int (nI 0) :: .ref b :: st) := by
  intro p e s m args below meth c D A Q H locs ls C z hP hD hS hl
  obtain ⟨hX, hbl, hbA⟩ := hZ p e s m args below meth c D A Q z
  have hXH : va_X b L xs s H := hX.kept (hS.2.1 b hbl hbA)
  have hc := ok_L_cell
  have hpre : PreS s H (va_Pc [.ref b, .int (nI 0)] (pC cy b L xs D H.size)) [.ref b, .int (nI 0)] := ⟨pC_blind, fun U hU hW => ⟨rfl, by rw [hU], by rw [hU]; exact va_X.moved hW.alike hXH, va_K.moved hW.alike C.2.2.2.2.2.2.2.2.1, gw_E.warm hW C.2.2.2.2.2.2.2.2.2.1⟩⟩
  have hrun := va_runS (e := e) (As := [.ref b, .int (nI 0)]) (rest := st) (g := F0 m pc ls (.int (nI 0) :: .ref b :: st)) (locs := locs) (cells := n1) (slots := n2) (below := below) (meth := meth) ⟨C.1, C.2.1, C.2.2.2.1, C.2.2.2.2.1, C.2.2.2.2.2.1⟩ (cell_M l cy b L xs hL D H.size) ⟨(callB_of 2 C.2.2.2.2.2.1 (gw_goodws hc.1.1) rfl rfl rfl (C.2.2.2.2.2.1 _ hc.1.2.1) (C.2.2.2.2.2.1 _ hk) hc.1.2.2 hR), C.2.2.2.2.2.1 _ hc.2⟩ hpre rfl rfl hl.1 rfl (lv_room hr) hd hf
  intro T hT X
  obtain ⟨v, st₀, t, T', L1, h0, X', hL1, e1, e2, ⟨⟨r, w', hv, hp, hP', hD'⟩, hz, hkk⟩, stp⟩ := hrun T hT X
  obtain ⟨hr1, -⟩ := hp
  subst hr1
  cases hv
  rw [h0] at hz hkk
  have hkeep : ∀ q, q < H.size → T'.heap[q]? = H[q]? := fun q hq => by
    rw [e1]
    refine hkk q hq (fun h => ?_)
    rcases h with ⟨k1, e3, h⟩ | h
    · simp at h
    · omega
  have hAA : ∀ q, va_A [] H.size q → A q := fun q h => by
    rcases h with ⟨k1, e3, h⟩ | h
    · simp at h
    · exact C.2.2.2.2.2.2.2.2.2.2 q (Nat.le_trans hS.1 h)
  obtain ⟨t2, a1, b1⟩ := k p e s m args below meth c D A Q T'.heap (locs ++ L1) ls C z (gw_P_iff.mpr fun q hq => gw_at_kept (gw_P_iff.mp hP q hq) (hkeep q.1 (va_at.lt (gw_P_iff.mp hP q hq)))) hD
    ⟨Nat.le_trans hS.1 (by rw [e1]; exact hz), fun q h1 h2 => by rw [hkeep q (Nat.lt_of_lt_of_le h1 hS.1)]; exact hS.2.1 q h1 h2, fun q hq => by
      rcases List.mem_append.mp hq with h | h
      · exact hS.2.2 q h
      · exact hAA _ (hL1 q h)⟩ hl T' rfl X'
  exact ⟨t2, stp t2 a1, b1⟩
/-! the law's own method -/
abbrev kL_law : gw_K := (yL_law, cL_law, 4, room_1, ret)
def zL (b L : Nat) (xs : Nat → Int32) : gw_Z := fun _ _ s _ args below _ _ _ A Q => (va_X b L xs s s.heap ∧ b < s.heap.size ∧ ¬ A b) ∧ (∀ q, A q → s.heap.size ≤ q) ∧ args = #[Value.ref b] ∧ Q = lw_Z below #[Value.ref b] s
theorem zL_Z (b L : Nat) (xs : Nat → Int32) : gl_Z (zL b L xs) b L xs := fun p e s m args below meth c D A Q h => h.1
theorem gl_end {l : Launch} {cy : Nat → ClassId} {w : va_W} {n1 n2 pc : Nat} {lv : List (Option Value)} {b L : Nat} {xs : Nat → Int32} (h1 : n1 ≤ 600000) (h2 : n2 ≤ 7302250) (hd : decode code pc = .ok (.ireturn, 1)) : gw_W l kL_law cy (zL b L xs) w n1 n2 pc lv [.int 1] := by
  intro p e s m args below meth c D A Q H locs ls C z hP hD hS hl
  obtain ⟨-, hA, rfl, rfl⟩ := z
  refine va_forget (fun q hq => hA _ (hS.2.2 q hq)) ?_
  refine W.widen h1 h2 ?_
  exact lw_ret C.1 C.2.1 C.2.2.1 C.2.2.2.2.2.2.1 hd
theorem cInv_has {cy : Nat → ClassId} {b : Nat} {σ : aS} {w : va_W} (h : cInv cy b σ w) : gw_has w b 9 := by
  obtain ⟨ad, sa, ta, oa, nx, lo, pg, bo, cs, xs, tb, op, td, rfl, hw, -⟩ := h
  exact ⟨_, hw.mem_iff.mpr (List.mem_append_left _ (by unfold bW; exact List.mem_cons_self ..))⟩
theorem mW_has {cy : Nat → ClassId} {ad : Nat → Nat} {iv : Nat → Int32} {ia : Nat → Nat → Int32} {la : Nat → Nat → Int64} : gw_has (mW cy ad iv ia la) (ad 0) 10 := ⟨_, by unfold mW; exact List.mem_cons_self ..⟩
def qAL (x : Int64) : gw_Q := fun r _ => r = some (.long x)
theorem and31 (x : Int32) : 0 ≤ (x &&& nI 31).toInt ∧ (x &&& nI 31).toInt < 32 := by
  have e2 : (nI 31).toBitVec.toNat = 31 := by decide
  have h1 : (x &&& nI 31).toBitVec.toNat ≤ 31 := by
    rw [Int32.toBitVec_and, BitVec.toNat_and, e2]; exact Nat.and_le_right
  have e : (x &&& nI 31).toInt = ((x &&& nI 31).toBitVec.toNat : Int) := BitVec.toInt_eq_toNat_of_lt (by omega)
  omega
