/-! calls by contract, the frame rule, worlds in another order -/
theorem gw_P_iff {D : va_G} {cl : List vw_C} {w : va_W} {H : Heap} : va_P D cl w H ↔ ∀ q ∈ w, va_at D cl q H := by
  constructor
  · intro h q hq
    obtain ⟨k, hk⟩ := List.getElem?_of_mem hq
    exact h k q hk
  · intro h k q hk
    exact h q (List.mem_of_getElem? hk)
theorem gw_D_iff {A : Nat → Prop} {w : va_W} : va_D A w ↔ (w.map (·.1)).Nodup ∧ ∀ q ∈ w, A q.1 := by
  constructor
  · intro h
    refine ⟨?_, fun q hq => ?_⟩
    · rw [List.nodup_iff_pairwise_ne, List.pairwise_iff_getElem]
      intro i j hi hj hij e
      simp only [List.length_map] at hi hj
      simp only [List.getElem_map] at e
      have := h.1 i j w[i] w[j] (List.getElem?_eq_getElem hi) (List.getElem?_eq_getElem hj) e
      omega
    · obtain ⟨k, hk⟩ := List.getElem?_of_mem hq
      exact h.2 k q hk
  · rintro ⟨h1, h2⟩
    refine ⟨fun i j p q hp hq e => ?_, fun k q hk => h2 q (List.mem_of_getElem? hk)⟩
    rw [List.nodup_iff_pairwise_ne, List.pairwise_iff_getElem] at h1
    obtain ⟨hi, ei⟩ := List.getElem?_eq_some_iff.mp hp
    obtain ⟨hj, ej⟩ := List.getElem?_eq_some_iff.mp hq
    by_cases hij : i = j
    · exact hij
    · exfalso
      rcases Nat.lt_or_gt_of_ne hij with g | g
      · exact h1 i j (by simpa using hi) (by simpa using hj) g (by simp only [List.getElem_map, ei, ej]; exact e)
      · exact h1 j i (by simpa using hj) (by simpa using hi) g (by simp only [List.getElem_map, ei, ej]; exact e.symm)
theorem gw_P_perm {D : va_G} {cl : List vw_C} {w w' : va_W} {H : Heap} (h : w.Perm w') (hP : va_P D cl w H) : va_P D cl w' H := gw_P_iff.mpr fun q hq => gw_P_iff.mp hP q (h.mem_iff.mpr hq)
theorem gw_D_perm {A : Nat → Prop} {w w' : va_W} (h : w.Perm w') (hD : va_D A w) : va_D A w' := by
  rw [gw_D_iff] at hD ⊢
  exact ⟨(h.map (·.1)).nodup_iff.mp hD.1, fun q hq => hD.2 q (h.mem_iff.mpr hq)⟩
section GWC
variable {l : Launch} {κ : gw_K} {cy : Nat → ClassId} {Z : gw_Z} {w : va_W} {n1 n2 pc : Nat} {lv : List (Option Value)} {st : List Value}
theorem gw_W.perm {w' : va_W} (h : w.Perm w') (k : gw_W l κ cy Z w' n1 n2 pc lv st) : gw_W l κ cy Z w n1 n2 pc lv st := fun p e s m args below meth c D A Q H locs ls C z hP hD hS hl => k p e s m args below meth c D A Q H locs ls C z (gw_P_perm h hP) (gw_D_perm h hD) hS hl
theorem gw_A_perm {w w' : va_W} (h : w.Perm w') {sz q : Nat} (ha : va_A w sz q) : va_A w' sz q := by
  rcases ha with ⟨k, e, hk⟩ | ha
  · obtain ⟨j, hj⟩ := List.getElem?_of_mem (h.mem_iff.mp (List.mem_of_getElem? hk))
    exact Or.inl ⟨j, e, hj⟩
  · exact Or.inr ha
theorem gw_at_kept {D : va_G} {cl : List vw_C} {q : Nat × va_E} {H H1 : Heap} (h : va_at D cl q H) (hk : H1[q.1]? = H[q.1]?) : va_at D cl q H1 := va_at.kept h hk
/-- THE FRAME: a contract in a larger world: what is beside it stays -/
theorem gw_M.frame {av : List Value} {post : gw_Q} {f w2 : va_W} (h : gw_M l κ cy av w post) (hw : w2.Perm (w ++ f)) : gw_M l κ cy av w2 (fun r w' => ∃ w1, post r w1 ∧ w' = w1 ++ f) := by
  intro D sz p e ha hc hk s m args below hf hap hP hK
  obtain ⟨e1, e2, hP2, hK2, hE2, hD2⟩ := hP
  have hP3 := gw_P_iff.mp (gw_P_perm hw hP2)
  have hD3 := gw_D_iff.mp (gw_D_perm hw hD2)
  obtain ⟨n, o, g1, g2, g3, g4, L, g5, g6⟩ := h D sz p e ha hc hk s m args below hf hap ⟨e1, e2, gw_P_iff.mpr fun q hq => hP3 q (List.mem_append_left _ hq), hK2, hE2, gw_D_iff.mpr ⟨by
    have := hD3.1
    rw [List.map_append] at this
    exact (List.nodup_append.mp this).1, fun _ _ => trivial⟩⟩ hK
  have hA : ∀ q, va_A w sz q → va_A w2 sz q := fun q hq => gw_A_perm hw.symm (by
    rcases hq with ⟨k, e, hk⟩ | hq
    · exact Or.inl ⟨k, e, by rw [List.getElem?_append_left (List.getElem?_eq_some_iff.mp hk).1]; exact hk⟩
    · exact Or.inr hq)
  have hfr : ∀ q ∈ f, q.1 < s.heap.size ∧ ¬ va_A w sz q.1 := by
    intro q hq
    have hat := hP3 q (List.mem_append_right _ hq)
    have hlt := va_at.lt hat
    refine ⟨hlt, fun hn => ?_⟩
    rcases hn with ⟨k, e, hk⟩ | hn
    · have hnd := hD3.1
      rw [List.map_append] at hnd
      exact (List.nodup_append.mp hnd).2.2 q.1 (List.mem_map.mpr ⟨(q.1, e), List.mem_of_getElem? hk, rfl⟩) q.1 (List.mem_map.mpr ⟨q, hq, rfl⟩) rfl
    · omega
  refine ⟨n, o, g1, g2, g3, ?_, L, g5, fun q hq => hA _ (g6 q hq)⟩
  obtain ⟨⟨r, w1, h1, h2, h3, h4⟩, h5, h6⟩ := g4
  refine ⟨⟨r, w1 ++ f, h1, ⟨w1, h2, rfl⟩, gw_P_iff.mpr fun q hq => ?_, gw_D_iff.mpr ⟨?_, fun q hq => ?_⟩⟩, h5, fun q hq hn => h6 q hq (fun z => hn (hA q z))⟩
  · rcases List.mem_append.mp hq with hq | hq
    · exact gw_P_iff.mp h3 q hq
    · exact gw_at_kept (hP3 q (List.mem_append_right _ hq)) (h6 q.1 (hfr q hq).1 (hfr q hq).2)
  · rw [List.map_append, List.nodup_append]
    have hnd := hD3.1
    rw [List.map_append] at hnd
    refine ⟨(gw_D_iff.mp h4).1, (List.nodup_append.mp hnd).2.1, fun a ha b hb e => ?_⟩
    obtain ⟨x, hx, rfl⟩ := List.mem_map.mp ha
    obtain ⟨y, hy, rfl⟩ := List.mem_map.mp hb
    exact (hfr y hy).2 (e ▸ (gw_D_iff.mp h4).2 x hx)
  · rcases List.mem_append.mp hq with hq | hq
    · exact hA _ ((gw_D_iff.mp h4).2 q hq)
    · exact gw_A_perm hw.symm (Or.inl (by
        obtain ⟨k, hk⟩ := List.getElem?_of_mem (List.mem_append_right w hq)
        exact ⟨k, q.2, hk⟩))
/-- a contract says less -/
theorem gw_M.less {av : List Value} {post post' : gw_Q} (h : gw_M l κ cy av w post) (hp : ∀ r w', post r w' → post' r w') : gw_M l κ cy av w post' := by
  intro D sz p e ha hc hk s m args below hf hap hP hK
  obtain ⟨n, o, g1, g2, g3, ⟨⟨r, w1, h1, h2, h3⟩, h5⟩, g6⟩ := h D sz p e ha hc hk s m args below hf hap hP hK
  exact ⟨n, o, g1, g2, g3, ⟨⟨r, w1, h1, hp _ _ h2, h3⟩, h5⟩, g6⟩
theorem gw_go {p : Program} {e : Env} {R : Room} {s : State} {m : MethodId} {args : Array Value} {below : List Frame} {meth : Method} {c : Code} {D : va_G} {A : Nat → Prop} {Q : State → Prop} {H : Heap} {locs : List Loc} {ls : Array Slot} {post : gw_Q} {mc ms : Nat} {a : Array Value} {stk : List Value}
    (hr : va_Run p l e R s m args below meth c H locs n1 n2 mc ms (F0 m pc ls stk) st (gw_Qc D (va_A w H.size) post a) (va_A w H.size)) (hS : va_S A s.heap H locs) (hD : va_D A w) (hA : ∀ q, s.heap.size ≤ q → A q)
    (kk : ∀ (r : Option Value) (w' : va_W) (H1 : Heap) (locs1 : List Loc), post r w' → va_P D vwCl w' H1 → va_D A w' → va_S A s.heap H1 locs1 → W p l e R s m args below meth c H1 locs1 (n1 + mc) (n2 + ms) Q (F0 m (pc + 3) ls (r.toList ++ st))) : W p l e R s m args below meth c H locs n1 n2 Q (F0 m pc ls stk) := by
  intro T hT X
  obtain ⟨v, st₀, t, T', L, h0, X', hL, e1, e2, ⟨⟨r, w', hv, hp, hP', hD'⟩, hz, hk⟩, stp⟩ := hr T hT X
  cases hv
  rw [h0] at hz hk
  have hAA : ∀ q, va_A w H.size q → A q := fun q h => by
    rcases h with ⟨k, e, h⟩ | h
    · exact hD.2 k (q, e) h
    · exact hA q (Nat.le_trans hS.1 h)
  obtain ⟨t2, a1, b1⟩ := kk _ w' T'.heap (locs ++ L) hp (by rw [e1]; exact hP') (hD'.weaken (fun _ q _ h => hAA _ h))
    ⟨Nat.le_trans hS.1 (by rw [e1]; exact hz), fun q h1 h2 => by rw [e1, hk q (Nat.lt_of_lt_of_le h1 hS.1) (fun z => h2 (hAA q z))]; exact hS.2.1 q h1 h2, fun q hq => by
      rcases List.mem_append.mp hq with h | h
      · exact hS.2.2 q h
      · exact hAA _ (hL q h)⟩ T' rfl X'
  exact ⟨t2, stp t2 a1, b1⟩
/-- what a caller knows of a callee: its words, its arguments' number -/
abbrev gw_desc (κ' : gw_K) (n : Nat) : Prop := κ'.1.cls ≠ "java/lang/invoke/MethodHandle" ∧ κ'.1.cls ≠ "java/lang/invoke/VarHandle" ∧ (parseMethodDescriptor κ'.1.desc).map (fun d => d.parameters.length) = some n
def gw_calB (κ' : gw_K) (n : Nat) : Prop := Cond.code κ'.1 κ'.2.1 κ'.2.2.1 κ'.2.2.2.2 ∈ gw_All ∧ Cond.initialized κ'.1.cls ∈ gw_All ∧ gw_desc κ' n
def gw_calV (κ' : gw_K) (n : Nat) : Prop := gw_calB κ' n ∧ Cond.instanceMethod κ'.1 ∈ gw_All ∧ Cond.selects κ'.1.cls κ'.1 κ'.1 ∈ gw_All
def gw_calS (κ' : gw_K) (n : Nat) : Prop := gw_calB κ' n ∧ Cond.static κ'.1 ∈ gw_All
def gw_calI (κ' : gw_K) (n : Nat) : Prop := gw_calB κ' n ∧ Cond.instanceMethod κ'.1 ∈ gw_All ∧ κ'.1.name = "<init>" ∧ κ'.2.2.2.2 = none
theorem gw_goodws {κ' : gw_K} (h : Cond.code κ'.1 κ'.2.1 κ'.2.2.1 κ'.2.2.2.2 ∈ gw_All) : GoodIn gw_All (gw_ws κ') := fun w hw => by
  rcases List.mem_cons.mp hw with e | hw
  · rw [e]; exact ⟨h, good_of_word (List.mem_filter.mp h).2⟩
  · exact ⟨hw, good_of_word (List.mem_filter.mp hw).2⟩
theorem gw_blind {av : List Value} {D : va_G} {sz : Nat} : FrameBlind (va_Pc av (fun U => U.heap.size = sz ∧ va_P D vwCl w U.heap ∧ va_K D vwCl (gw_T cy) U ∧ gw_E U ∧ va_D (fun _ => True) w)) := fun a U g mk q => by
  obtain ⟨q0, q1, qP, qK, qE, qD⟩ := q
  exact ⟨q0, q1, qP, va_K.moved (u := U) (U := U.calling g mk a) (Vm.Alike.refl U.vm) qK, gw_E.same (s := U) rfl qE, qD⟩
theorem gw_preS {s : State} {H : Heap} {av : List Value} {D : va_G} {A : Nat → Prop} (hP : va_P D vwCl w H) (hK : va_K D vwCl (gw_T cy) s) (hE : gw_E s) (hD : va_D A w) : PreS s H (va_Pc av (fun U => U.heap.size = H.size ∧ va_P D vwCl w U.heap ∧ va_K D vwCl (gw_T cy) U ∧ gw_E U ∧ va_D (fun _ => True) w)) av :=
  ⟨gw_blind, fun U hU hW => ⟨rfl, by rw [hU], by rw [hU]; exact hP, va_K.moved hW.alike hK, gw_E.warm hW hE, hD.weaken (fun _ _ _ _ => trivial)⟩⟩
theorem gw_callV {κ' : gw_K} {index n : Nat} {As stk : List Value} {post : gw_Q} {b ci : Nat} {q : vw_C} {fs : List Value} (q0 : Nat) (hM : gw_M l κ' cy (.ref b :: As) w post) (hc : gw_calV κ' n) (he : w[q0]? = some (b, .inr (ci, fs))) (hq : vwCl[ci]? = some q) (hC : q.1 = κ'.1.cls) (hk : Cond.methodLink κ.1.cls index κ'.1 ∈ gw_All) (hn : As.length = n) (hs : stk = As.reverse ++ .ref b :: st) (hd : decode κ.2.1 pc = .ok (.invokevirtual index, 3)) (hR : κ'.2.2.2.1.frames + 1 ≤ κ.2.2.2.1.frames ∧ 8 + (κ'.2.2.1 + 11) + κ'.2.2.2.1.locals ≤ κ.2.2.2.1.locals) (hf : n1 + κ'.2.2.2.1.cells ≤ κ.2.2.2.1.cells ∧ n2 + κ'.2.2.2.1.slots ≤ κ.2.2.2.1.slots) (hr : (st.map fun v => v.category).sum ≤ 8) (k : ∀ (r : Option Value) (w' : va_W), post r w' → gw_W l κ cy Z w' (n1 + κ'.2.2.2.1.cells) (n2 + κ'.2.2.2.1.slots) (pc + 3) lv (r.toList ++ st)) : gw_W l κ cy Z w n1 n2 pc lv stk := by
  intro p e s m args below meth c D A Q H locs ls C z hP hD hS hl
  have hrc := va_recv C.2.2.2.2.2.2.2.2.1 hP hq he
  rw [hC] at hrc
  have hpre := gw_preS (av := .ref b :: As) hP C.2.2.2.2.2.2.2.2.1 C.2.2.2.2.2.2.2.2.2.1 hD
  exact gw_go (va_runV (As := As) (rest := st) ⟨C.1, C.2.1, C.2.2.2.1, C.2.2.2.2.1, C.2.2.2.2.2.1⟩ (hM D H.size) ⟨(callB_of n C.2.2.2.2.2.1 (gw_goodws hc.1.1) rfl rfl rfl (C.2.2.2.2.2.1 _ hc.1.2.1) (C.2.2.2.2.2.1 _ hk) hc.1.2.2 hR), C.2.2.2.2.2.1 _ hc.2.1, C.2.2.2.2.2.1 _ hc.2.2⟩ ⟨hpre.1, hrc, hpre.2⟩ rfl hn hl.1 hs (lv_room hr) hd hf) hS hD C.2.2.2.2.2.2.2.2.2.2 (fun r w' H1 locs1 hp hP1 hD1 hS1 => k r w' hp p e s m args below meth c D A Q H1 locs1 ls C z hP1 hD1 hS1 hl)
theorem gw_callVN {κ' : gw_K} {index n : Nat} {As stk : List Value} {post : gw_Q} {b ci : Nat} {q : vw_C} {fs : List Value} (q0 : Nat) (hM : gw_M l κ' cy (.ref b :: As) w post) (hc : gw_calV κ' n) (he : w[q0]? = some (b, .inr (ci, fs))) (hq : vwCl[ci]? = some q) (hC : q.1 = κ'.1.cls) {host : String} (hk : Cond.methodLinkNest κ.1.cls index κ'.1 host ∈ gw_N) (hn : As.length = n) (hs : stk = As.reverse ++ .ref b :: st) (hd : decode κ.2.1 pc = .ok (.invokevirtual index, 3)) (hR : κ'.2.2.2.1.frames + 1 ≤ κ.2.2.2.1.frames ∧ 8 + (κ'.2.2.1 + 11) + κ'.2.2.2.1.locals ≤ κ.2.2.2.1.locals) (hf : n1 + κ'.2.2.2.1.cells ≤ κ.2.2.2.1.cells ∧ n2 + κ'.2.2.2.1.slots ≤ κ.2.2.2.1.slots) (hr : (st.map fun v => v.category).sum ≤ 8) (k : ∀ (r : Option Value) (w' : va_W), post r w' → gw_W l κ cy Z w' (n1 + κ'.2.2.2.1.cells) (n2 + κ'.2.2.2.1.slots) (pc + 3) lv (r.toList ++ st)) : gw_W l κ cy Z w n1 n2 pc lv stk := by
  intro p e s m args below meth c D A Q H locs ls C z hP hD hS hl
  have hrc := va_recv C.2.2.2.2.2.2.2.2.1 hP hq he
  rw [hC] at hrc
  have hpre := gw_preS (av := .ref b :: As) hP C.2.2.2.2.2.2.2.2.1 C.2.2.2.2.2.2.2.2.2.1 hD
  exact gw_go (va_runVN (As := As) (rest := st) ⟨C.1, C.2.1, C.2.2.2.1, C.2.2.2.2.1, C.2.2.2.2.2.1⟩ (hM D H.size) ⟨(va_cnB n C.2.2.2.2.2.1 (gw_goodws hc.1.1) rfl rfl rfl (C.2.2.2.2.2.2.2.2.2.1.1 _ hk) (C.2.2.2.2.2.1 _ hc.1.2.1) hc.1.2.2 hR), C.2.2.2.2.2.1 _ hc.2.1, C.2.2.2.2.2.1 _ hc.2.2⟩ ⟨hpre.1, hrc, hpre.2⟩ rfl hn hl.1 hs (lv_room hr) hd hf) hS hD C.2.2.2.2.2.2.2.2.2.2 (fun r w' H1 locs1 hp hP1 hD1 hS1 => k r w' hp p e s m args below meth c D A Q H1 locs1 ls C z hP1 hD1 hS1 hl)
theorem gw_callS {κ' : gw_K} {index n : Nat} {As stk : List Value} {post : gw_Q} (hM : gw_M l κ' cy As w post) (hc : gw_calS κ' n) (hk : Cond.methodLink κ.1.cls index κ'.1 ∈ gw_All) (hn : As.length = n) (hs : stk = As.reverse ++ st) (hd : decode κ.2.1 pc = .ok (.invokestatic index, 3)) (hR : κ'.2.2.2.1.frames + 1 ≤ κ.2.2.2.1.frames ∧ 8 + (κ'.2.2.1 + 11) + κ'.2.2.2.1.locals ≤ κ.2.2.2.1.locals) (hf : n1 + κ'.2.2.2.1.cells ≤ κ.2.2.2.1.cells ∧ n2 + κ'.2.2.2.1.slots ≤ κ.2.2.2.1.slots) (hr : (st.map fun v => v.category).sum ≤ 8) (k : ∀ (r : Option Value) (w' : va_W), post r w' → gw_W l κ cy Z w' (n1 + κ'.2.2.2.1.cells) (n2 + κ'.2.2.2.1.slots) (pc + 3) lv (r.toList ++ st)) : gw_W l κ cy Z w n1 n2 pc lv stk := by
  intro p e s m args below meth c D A Q H locs ls C z hP hD hS hl
  have hpre := gw_preS (av := As) hP C.2.2.2.2.2.2.2.2.1 C.2.2.2.2.2.2.2.2.2.1 hD
  exact gw_go (va_runS (As := As) (rest := st) ⟨C.1, C.2.1, C.2.2.2.1, C.2.2.2.2.1, C.2.2.2.2.2.1⟩ (hM D H.size) ⟨(callB_of n C.2.2.2.2.2.1 (gw_goodws hc.1.1) rfl rfl rfl (C.2.2.2.2.2.1 _ hc.1.2.1) (C.2.2.2.2.2.1 _ hk) hc.1.2.2 hR), C.2.2.2.2.2.1 _ hc.2⟩ hpre rfl hn hl.1 hs (lv_room hr) hd hf) hS hD C.2.2.2.2.2.2.2.2.2.2 (fun r w' H1 locs1 hp hP1 hD1 hS1 => k r w' hp p e s m args below meth c D A Q H1 locs1 ls C z hP1 hD1 hS1 hl)
theorem gw_callSN {κ' : gw_K} {index n : Nat} {As stk : List Value} {post : gw_Q} (hM : gw_M l κ' cy As w post) (hc : gw_calS κ' n) {host : String} (hk : Cond.methodLinkNest κ.1.cls index κ'.1 host ∈ gw_N) (hn : As.length = n) (hs : stk = As.reverse ++ st) (hd : decode κ.2.1 pc = .ok (.invokestatic index, 3)) (hR : κ'.2.2.2.1.frames + 1 ≤ κ.2.2.2.1.frames ∧ 8 + (κ'.2.2.1 + 11) + κ'.2.2.2.1.locals ≤ κ.2.2.2.1.locals) (hf : n1 + κ'.2.2.2.1.cells ≤ κ.2.2.2.1.cells ∧ n2 + κ'.2.2.2.1.slots ≤ κ.2.2.2.1.slots) (hr : (st.map fun v => v.category).sum ≤ 8) (k : ∀ (r : Option Value) (w' : va_W), post r w' → gw_W l κ cy Z w' (n1 + κ'.2.2.2.1.cells) (n2 + κ'.2.2.2.1.slots) (pc + 3) lv (r.toList ++ st)) : gw_W l κ cy Z w n1 n2 pc lv stk := by
  intro p e s m args below meth c D A Q H locs ls C z hP hD hS hl
  have hpre := gw_preS (av := As) hP C.2.2.2.2.2.2.2.2.1 C.2.2.2.2.2.2.2.2.2.1 hD
  exact gw_go (va_runSN (As := As) (rest := st) ⟨C.1, C.2.1, C.2.2.2.1, C.2.2.2.2.1, C.2.2.2.2.2.1⟩ (hM D H.size) ⟨(va_cnB n C.2.2.2.2.2.1 (gw_goodws hc.1.1) rfl rfl rfl (C.2.2.2.2.2.2.2.2.2.1.1 _ hk) (C.2.2.2.2.2.1 _ hc.1.2.1) hc.1.2.2 hR), C.2.2.2.2.2.1 _ hc.2, trivial⟩ hpre rfl hn hl.1 hs (lv_room hr) hd hf) hS hD C.2.2.2.2.2.2.2.2.2.2 (fun r w' H1 locs1 hp hP1 hD1 hS1 => k r w' hp p e s m args below meth c D A Q H1 locs1 ls C z hP1 hD1 hS1 hl)
theorem gw_callI {κ' : gw_K} {index n : Nat} {As stk : List Value} {post : gw_Q} {b : Nat} (hM : gw_M l κ' cy (.ref b :: As) w post) (hc : gw_calI κ' n) (hk : Cond.methodLink κ.1.cls index κ'.1 ∈ gw_All) (hn : As.length = n) (hs : stk = As.reverse ++ .ref b :: st) (hd : decode κ.2.1 pc = .ok (.invokespecial index, 3)) (hR : κ'.2.2.2.1.frames + 1 ≤ κ.2.2.2.1.frames ∧ 8 + (κ'.2.2.1 + 11) + κ'.2.2.2.1.locals ≤ κ.2.2.2.1.locals) (hf : n1 + κ'.2.2.2.1.cells ≤ κ.2.2.2.1.cells ∧ n2 + κ'.2.2.2.1.slots ≤ κ.2.2.2.1.slots) (hr : (st.map fun v => v.category).sum ≤ 8) (k : ∀ (r : Option Value) (w' : va_W), post r w' → gw_W l κ cy Z w' (n1 + κ'.2.2.2.1.cells) (n2 + κ'.2.2.2.1.slots) (pc + 3) lv (r.toList ++ st)) : gw_W l κ cy Z w n1 n2 pc lv stk := by
  intro p e s m args below meth c D A Q H locs ls C z hP hD hS hl
  have hpre := gw_preS (av := (.ref b :: As)) hP C.2.2.2.2.2.2.2.2.1 C.2.2.2.2.2.2.2.2.2.1 hD
  exact gw_go (va_runI (As := As) (rest := st) ⟨C.1, C.2.1, C.2.2.2.1, C.2.2.2.2.1, C.2.2.2.2.2.1⟩ (hM D H.size) ⟨(callB_of n C.2.2.2.2.2.1 (gw_goodws hc.1.1) (show gw_ws κ' = Cond.code κ'.1 κ'.2.1 κ'.2.2.1 none :: gw_All by rw [gw_ws, hc.2.2.2]) rfl rfl (C.2.2.2.2.2.1 _ hc.1.2.1) (C.2.2.2.2.2.1 _ hk) hc.1.2.2 hR), hc.2.2.1, C.2.2.2.2.2.1 _ hc.2.1⟩ hpre rfl hn hl.1 hs (lv_room hr) hd hf) hS hD C.2.2.2.2.2.2.2.2.2.2 (fun r w' H1 locs1 hp hP1 hD1 hS1 => k r w' hp p e s m args below meth c D A Q H1 locs1 ls C z hP1 hD1 hS1 hl)
theorem gw_callIN {κ' : gw_K} {index n : Nat} {As stk : List Value} {post : gw_Q} {b : Nat} (hM : gw_M l κ' cy (.ref b :: As) w post) (hc : gw_calI κ' n) {host : String} (hk : Cond.methodLinkNest κ.1.cls index κ'.1 host ∈ gw_N) (hn : As.length = n) (hs : stk = As.reverse ++ .ref b :: st) (hd : decode κ.2.1 pc = .ok (.invokespecial index, 3)) (hR : κ'.2.2.2.1.frames + 1 ≤ κ.2.2.2.1.frames ∧ 8 + (κ'.2.2.1 + 11) + κ'.2.2.2.1.locals ≤ κ.2.2.2.1.locals) (hf : n1 + κ'.2.2.2.1.cells ≤ κ.2.2.2.1.cells ∧ n2 + κ'.2.2.2.1.slots ≤ κ.2.2.2.1.slots) (hr : (st.map fun v => v.category).sum ≤ 8) (k : ∀ (r : Option Value) (w' : va_W), post r w' → gw_W l κ cy Z w' (n1 + κ'.2.2.2.1.cells) (n2 + κ'.2.2.2.1.slots) (pc + 3) lv (r.toList ++ st)) : gw_W l κ cy Z w n1 n2 pc lv stk := by
  intro p e s m args below meth c D A Q H locs ls C z hP hD hS hl
  have hpre := gw_preS (av := (.ref b :: As)) hP C.2.2.2.2.2.2.2.2.1 C.2.2.2.2.2.2.2.2.2.1 hD
  exact gw_go (va_runIN (As := As) (rest := st) ⟨C.1, C.2.1, C.2.2.2.1, C.2.2.2.2.1, C.2.2.2.2.2.1⟩ (hM D H.size) ⟨(va_cnB n C.2.2.2.2.2.1 (gw_goodws hc.1.1) (show gw_ws κ' = Cond.code κ'.1 κ'.2.1 κ'.2.2.1 none :: gw_All by rw [gw_ws, hc.2.2.2]) rfl rfl (C.2.2.2.2.2.2.2.2.2.1.1 _ hk) (C.2.2.2.2.2.1 _ hc.1.2.1) hc.1.2.2 hR), hc.2.2.1, C.2.2.2.2.2.1 _ hc.2.1⟩ hpre rfl hn hl.1 hs (lv_room hr) hd hf) hS hD C.2.2.2.2.2.2.2.2.2.2 (fun r w' H1 locs1 hp hP1 hD1 hS1 => k r w' hp p e s m args below meth c D A Q H1 locs1 ls C z hP1 hD1 hS1 hl)
end GWC
