/-! Throws: a contract that ends in 'threw', the throw itself, a callee that throws. -/
def xt_Q (g : xw_G) (X : String) (hp : List va_E) : Array Value → State → Outcome → State → Prop := fun _ st oc t => ∃ (x : Nat) (Lo : List Loc), oc = .threw x ∧ st.WarmedH t.vm ∧ st.sameButNew ({ t with vm := st.vm } : State) Lo 1 6 ∧ (∀ q ∈ Lo, xg_A g q.base) ∧
  (∃ ce : Cell, t.heap[x]? = some ce ∧ ce.vm = .none ∧ st.vm.findClass X = some ce.cls) ∧ xw_Wd g hp t ∧ va_F (xg_A g) st t
def xt_E (g : xw_G) (X : String) (hp : List va_E) (below : List Frame) (args : Array Value) (s : State) : State → Prop := fun t => ∃ o, t.status = .running ∧ Ended t below o ∧ xt_Q g X hp args s o t
/-- it throws a new X, and leaves the heap hp as it was -/
def xt_R (g : xw_G) (l : Launch) (M : xw_M) (av : List Value) (hp : List va_E) (X : String) : Prop :=
  MetFree l M.1 (headSpec (xm_ws M) (xm_rm M 1)) (va_Pc (av.map (xw_v (xg_a g))) (xw_Wd g hp)) (fun _ _ _ _ _ => True) (xt_Q g X hp)
theorem xt_of {g : xw_G} {l : Launch} {M : xw_M} {av : List Value} {hp : List va_E} {X : String} (lv : List (Option Value)) (hy : plainName M.1.cls = true)
    (hlen : (lg_sl (av.map (xw_v (xg_a g)))).length ≤ M.2.2.1) (hlv : lv = xl_in av ++ List.replicate (M.2.2.1 - (xl_in av).length) none)
    (body : ∀ (p : Program) (e : Env) (s : State) (m : MethodId) (args : Array Value) (below : List Frame) (meth : Method) (c : Code), xw_C g M.2.1 M.2.2.1 M.1.cls p s m args c → c.exceptionTable.isEmpty = true → meth.locks = false →
      xw_At g true M.2.2.1 p l e (xm_rm M 1) s m args below meth c 0 0 (xt_E g X hp below args s) 0 lv [] hp) : xt_R g l M av hp X := by
  refine MetFree.of_bodyS (code := M.2.1) (maxLocals := M.2.2.1) (ret := M.2.2.2.1) hy ?_ ?_
  · intro args s m h hn
    obtain ⟨meth, c, h1, h2, h3, h4, h5, h6, -, -⟩ := Cond.code_spec hn (atoms_spec (ws := xm_ws M) h _ List.mem_cons_self)
    exact ⟨meth, c, h1, h2, h3, h4, h5, h6⟩
  · intro p e s m args below meth c s₁ B hml hP _
    have hh0 : s₁.heap = s.heap := by rw [B.state]; rfl
    obtain ⟨rfl, hw⟩ := hP
    have X0 := Stand.of_body B
    have hts := atoms_spec (ws := xm_ws M) B.pre
    have hE : c.exceptionTable.isEmpty = true := by
      obtain ⟨meth', c', h1, h2, h3, h4, h5, h6, h7, -⟩ := Cond.code_spec B.named (hts _ List.mem_cons_self)
      cases B.method.symm.trans h1
      cases X0.code.symm.trans h2
      exact h7
    obtain ⟨t, a1, o, b1, b2, b3⟩ := body p e s m _ below meth c ⟨B.exec, B.bytes, hml, findClass_of_methodNamed B.named, fun w h => hts w (List.mem_cons_of_mem _ h), hp, hw.c⟩ hE B.notSynchronized _ s.heap [] (xl_pad hlen hlv) hw.2.1 hw.1 ⟨va_S.rf, fun _ => ⟨rfl, rfl⟩⟩ s₁ hh0 X0
    exact ⟨t, o, by rw [lg_entry_eq]; exact a1, b1, b2, b3⟩
theorem xt_heap {s U : State} {k n : Nat} (h : s.sameButNew ({ U with vm := s.vm } : State) [] k n) : s.heap.size ≤ U.heap.size ∧ ∀ a : Nat, a < s.heap.size → U.heap[a]? = s.heap[a]? := by
  obtain ⟨-, h2, -, -, -, h6⟩ := h
  refine ⟨h2, fun a ha => ?_⟩
  have hc : s.heap[a]? = some s.heap[a] := Array.getElem?_eq_getElem ha
  obtain ⟨c', h7, h8, h9, h10⟩ := h6 a _ hc
  have e : c'.slots = s.heap[a].slots := Array.ext_getElem? (fun i => h10 i (by simp))
  have e2 : c' = s.heap[a] := by rw [h8, e]
  rw [hc, ← e2]
  exact h7
/-- the words of a throw: the class's link, the text, what the making of the exception reads -/
def xt_w (w : Cond) : Bool := decide (w ∈ xw_tb) || (xw_fw w && decide (w ∈ lw_tbl)) || decide (w = .laysStatic "java/lang/Throwable" "UNASSIGNED_STACK" "[Ljava/lang/StackTraceElement;") || decide (w = .laysStatic "java/lang/Throwable" "SUPPRESSED_SENTINEL" "Ljava/util/List;") ||
  decide (w = .isRef (.static "java/lang/Throwable" "UNASSIGNED_STACK" "[Ljava/lang/StackTraceElement;")) || decide (w = .isRef (.static "java/lang/Throwable" "SUPPRESSED_SENTINEL" "Ljava/util/List;"))
def xt_ok (own : String) (idx ix ic : Nat) (X tx : String) (names : List String) : Prop := Cond.classLink own idx X ∈ xw_tb ∧ Cond.instantiable X 6 ∈ xw_tb ∧ Cond.initialized X ∈ xw_tb ∧ Cond.stringRef own ix tx ∈ lw_tbl ∧ (∀ w ∈ Bundle.ownAtoms own ic X names, xt_w w = true) ∧ Bundle.fit X = true ∧ ∀ n ∈ names, Bundle.fit n = true
section XT
variable {g : xw_G} {ro : Bool} {cc : ByteArray} {nL : Nat} {own : String} {p : Program} {l : Launch} {e : Env} {R : Room} {s : State} {m : MethodId} {args : Array Value} {below : List Frame} {meth : Method} {c : Code} {cells slots : Nat} {Q : State → Prop}
variable {pc : Nat} {lv : List (Option Value)} {st : List Value} {hp : List va_E}
theorem xt_word (C : xw_C g cc nL own p s m args c) {w : Cond} (h : xt_w w = true) : w.before args s = true := by
  obtain ⟨-, -, -, -, hts, hp0, hW⟩ := C
  obtain ⟨⟨hT1, -⟩, hZ1, hZ2, -⟩ := hW.2.2.2.2.2.2.2
  simp only [xt_w, Bool.or_eq_true, Bool.and_eq_true, decide_eq_true_eq] at h
  rcases h with ((((h | h) | h) | h) | h) | h
  · exact hts w h
  · exact xw_fw_go h.1 (State.WarmedH.refl s) (hT1 w h.2 h.1)
  · rw [h]; exact hZ1.lays
  · rw [h]; exact hZ2.lays
  · rw [h]; exact hZ1.ref
  · rw [h]; exact hZ2.ref
/-- new X, dup, ldc text, invokespecial, athrow -/
theorem xa_throw (C : xw_C g cc nL own p s m args c) (htr : ∀ e : Env, l.admits e → e.platform.stackTraces = false) (hE : c.exceptionTable.isEmpty = true) (hk : meth.locks = false) {idx ix ic : Nat} {X tx : String} {names : List String} (hw : xt_ok own idx ix ic X tx names)
    (d0 : decode cc pc = .ok (.new idx, 3)) (d1 : decode cc (pc + 3) = .ok (.dup, 1)) (d2 : decode cc (pc + 3 + 1) = .ok (.ldc ix, 2)) (d3 : decode cc (pc + 3 + 1 + 2) = .ok (.invokespecial ic, 3)) (d4 : decode cc (pc + 3 + 1 + 2 + 3) = .ok (.athrow, 1))
    (hcl : 1 ≤ R.cells ∧ 6 ≤ R.slots) (hR : names.length + 3 < R.frames ∧ 1 + (13 * (names.length + 1) + 42) ≤ R.locals) :
    xw_At g true nL p l e R s m args below meth c 0 0 (xt_E g X hp below args s) pc lv [] hp := by
  intro ls H locs hl hP hn hS
  obtain ⟨rfl, rfl⟩ := hS.2 rfl
  have hC := C
  obtain ⟨hx, hb, hml, hown, hts, hp0, hW⟩ := C
  obtain ⟨w1, w2, w3, w4, w5, w6, w7⟩ := hw
  have hst := hW.2.2.2.2.2.2.2.1.2 _ _ _ w4
  obtain ⟨q, hq⟩ := xw_str hst
  refine W.newc hx hb hown (hts _ w1) (hts _ w2) (hts _ w3) rfl d0 hcl.1 hcl.2 (fun cC kC h1 h2 h3 h4 => ?_)
  show W p l e R s m args below meth c _ [] 1 6 _ (F0 m (pc + 3) ls [.ref s.heap.size])
  refine lv_dup hx hb d1 rfl ?_
  refine va_ldcS hx hb hown (vk_R.of hst hq) d2 ?_
  intro T hT X0
  have hcell : T.heap[s.heap.size]? = some (freshCell cC kC) := by rw [hT]; simp
  obtain ⟨U, hsteps, hrun, hend, hwarm, hsame, ce, hce, hown2⟩ := X0.ctorThrowS hx (htr e X0.admits) (own := own) (cls := X) (names := names) (ic := ic) hown w6 w7 (fun a ha => xt_word hC (w5 a ha)) (fun x hx => by cases hx) h1 h2 hcell (Nat.le_refl _) (msg := .ref q) rfl
    (g := F0 m (pc + 3 + 1 + 2) ls [.ref q, .ref s.heap.size, .ref s.heap.size]) rfl (hl.1.trans hml.symm) rfl rfl (rest := []) rfl (by rw [hb]; exact d3) (by rw [hb]; exact d4) (fun x hx => by
      have : c.exceptionTable.toList = [] := by simpa using hE
      rw [this] at hx; cases hx) hR.1 (by simpa [JFrame.monitorRoom, Value.category] using hR.2) hk
  obtain ⟨hz, hq2⟩ := xt_heap hsame
  have hS2 : va_S (xg_A g) s.heap U.heap [] := ⟨hz, fun a ha _ => hq2 a ha, fun _ h => by cases h⟩
  refine ⟨U, hsteps, .threw s.heap.size, hrun, hend, s.heap.size, [], rfl, hwarm, hsame, (fun _ h => by cases h), ⟨ce, hce, hown2.vm, hown2.cls⟩, hW.goes hS2 ?_ hn rfl hwarm, hS2.F rfl⟩
  exact hP.kept (fun k q2 hk2 => hq2 _ (hP k q2 hk2).lt)
/-- a call whose callee throws: up to the note over the caller's frame -/
theorem xt_call (C : xw_C g cc nL own p s m args c) {M : xw_M} {idx i ci : Nat} {q : vw_C} {fs : List Value} {av rest : List Value} {X : String} (hM : xt_R g l M (.ref i :: av) hp X) (hw : xm_B own idx M av.length) (hin : Cond.instanceMethod M.1 ∈ xw_tb) (hse : Cond.selects M.1.cls M.1 M.1 ∈ xw_tb)
    (hdg : decode cc pc = .ok (.invokevirtual idx, 3)) (hs : st = av.reverse ++ .ref i :: rest) (ho : hp[i]? = some (.inr (ci, fs))) (hci : xw_cl[ci]? = some q) (hq : q.1 = M.1.cls) (hwt : (rest.map fun v => v.category).sum ≤ 8) (hR : M.2.2.2.2.1 + 1 ≤ R.frames ∧ 8 + (M.2.2.1 + 11) + M.2.2.2.2.2 ≤ R.locals) (hcl : cells + 1 ≤ R.cells ∧ slots + 6 ≤ R.slots)
    {ls : Array Slot} {H : Heap} {locs : List Loc} (hl : xl_ok (xg_a g) ls nL lv) (hP : va_P (xg_D g) xw_cl (xw_ws (xg_a g) hp) H) (hn : hp.length = xg_n g) (hS : va_S (xg_A g) s.heap H locs) {T : State} (hT : T.heap = H) (X0 : Stand p l e R s m args below meth c T locs cells slots) :
    ∃ (x : Nat) (T' : State) (L : List Loc), Stand p l e R s m args below meth c T' (locs ++ L) (cells + 1) (slots + 6) ∧ (∀ q ∈ L, xg_A g q.base) ∧ (∃ ce : Cell, T'.heap[x]? = some ce ∧ ce.vm = .none ∧ s.vm.findClass X = some ce.cls) ∧ xw_Wd g hp T' ∧ va_S (xg_A g) s.heap T'.heap (locs ++ L) ∧
      Steps p.tables e below (T.setTop (F0 m pc ls (st.map (xw_v (xg_a g))))) ((T'.setTop (F0 m pc ls (rest.map (xw_v (xg_a g))))).pushFrame (.throwing x)) := by
  subst hs
  obtain ⟨hx, hb, hml, hown, hts, hp0, hW⟩ := C
  obtain ⟨w1, w2, w3, hy1, hy2, hlen⟩ := hw
  have hrec := va_recv hW.2.2.1 hP hci (xw_get ho)
  rw [hq] at hrec
  obtain ⟨cellB, hcB, hoB, hclB⟩ := hrec
  obtain ⟨mk, methM, hnamed, hmethM, hstM, habM⟩ := Cond.instanceMethod_spec (hts _ hin)
  obtain ⟨methM', cM, hmethM', -, -, -, -, -, -, hsigM⟩ := Cond.code_spec hnamed (hts _ w1)
  cases hmethM.symm.trans hmethM'
  obtain ⟨c2, r2, m2, q1, q2, q3, q4, kP, hkP, hkPi⟩ := Cond.selects_spec (hts _ hse)
  cases hclB.symm.trans q1
  cases (State.methodFound?_of_named hnamed ⟨hy1, hy2⟩).symm.trans q2
  cases hnamed.symm.trans q3
  have hselP : selectMethod e.platform s.vm cellB.cls mk = .method mk := by rw [Launch.admits_selectMethod X0.admits]; exact q4
  have hpar : (av.map (xw_v (xg_a g))).length = methM.sig.parameters.length := by
    rw [hsigM] at hlen
    rw [List.length_map]
    exact (Option.some.inj hlen).symm
  obtain ⟨vm₁, X₁, hstep₁⟩ := X0.invokevirtual hx hown (hts _ w3) hnamed hmethM hstM hkP hkPi ⟨hy1, hy2⟩ (a := xg_a g i) (cell := cellB) (by rw [hT]; exact hcB)
    (fun z h => by rw [h] at hoB; cases hoB) hselP hmethM habM hkP hkPi (g := F0 m pc ls ((av.reverse ++ .ref i :: rest).map (xw_v (xg_a g)))) rfl (argsL := av.map (xw_v (xg_a g))) (rest := rest.map (xw_v (xg_a g))) hpar (by simp [xw_v]) (by rw [hb]; exact hdg)
  generalize hU : T.setVm vm₁ = U at X₁ hstep₁
  have hUh : U.heap = H := by rw [← hU]; exact hT
  have hn₁ := X₁.named hnamed
  have hcode₁ : (Cond.code M.1 M.2.1 M.2.2.1 M.2.2.2.1).before #[] U = true := word_at X₁.warmed (good_of_word (xw_tb_good _ w1)) (hts _ w1)
  have hini₁ : (Cond.initialized M.1.cls).before #[] U = true := word_at X₁.warmed (good_of_word (xw_tb_good _ w2)) (hts _ w2)
  obtain ⟨methY, cY, hmY, hcY, -, hlY, -, -, -, -⟩ := Cond.code_spec hn₁ hcode₁
  obtain ⟨kY, hkY, -⟩ := className_of_methodNamed hn₁
  have hinitY : kY.init = .initialized := Cond.initialized_spec (findClass_of_methodNamed hn₁) hkY hini₁
  have hWU : xw_Wd g hp U := hW.goes hS hP hn hUh X₁.warmed
  have hdg' : decode c.code (F0 m pc ls (rest.map (xw_v (xg_a g)))).pc = .ok (.invokevirtual idx, 3) := by rw [hb]; exact hdg
  have happ : (headSpec (xm_ws M) (xm_rm M 1)).appliesLoose M.1 e.platform (U.calling (F0 m pc ls (rest.map (xw_v (xg_a g)))) mk (.ref (xg_a g i) :: av.map (xw_v (xg_a g))).toArray) = true := by
    refine Spec.appliesLoose_calling (g := F0 m pc ls (rest.map (xw_v (xg_a g)))) X₁.here hdg' hn₁ hkY hinitY
      (X₁.room_calling (g := F0 m pc ls (rest.map (xw_v (xg_a g)))) (R' := xm_rm M 1) (hl.1.trans hml.symm) hmY hcY hR.1 ?_ hcl.1 hcl.2) ?_
    · rw [hlY]
      have h8 := lv_room (m := m) (pc := pc) (ls := ls) (rest := rest.map (xw_v (xg_a g))) (st := rest.map (xw_v (xg_a g))) (by rw [xm_cats]; exact hwt)
      have h9 := hR.2
      show 2 * (F0 m pc ls (rest.map (xw_v (xg_a g)))).monitorRoom + ((rest.map (xw_v (xg_a g))).map fun v => v.category).sum + (M.2.2.1 + 11) + M.2.2.2.2.2 ≤ R.locals
      omega
    · exact atoms_intro fun w hw => by
        rcases List.mem_cons.mp hw with rfl | hw
        · exact word_at X₁.warmed (good_of_word (xw_tb_good _ w1)) (hts _ w1)
        · exact word_at X₁.warmed (good_of_word (xw_tb_good _ hw)) (hts _ hw)
  obtain ⟨mid, hmid⟩ := X₁.here.above
  have hfr : (U.setTop (F0 m pc ls (rest.map (xw_v (xg_a g))))).frames = (.java (F0 m pc ls (rest.map (xw_v (xg_a g)))) :: mid) ++ below := by rw [State.frames_setTop' _ X₁.here.top, hmid]; rfl
  obtain ⟨o, s₂, hsteps, -, hend, hq⟩ := Steps.callFree hM p X₁.admits X₁.cas X₁.clock (acts := []) hfr happ ⟨rfl, hWU.same rfl (State.WarmedH.refl U)⟩ trivial
  obtain ⟨x, Lo, rfl, hW2, hsame, hLo, hce, hWd, hF⟩ := hq
  rw [State.frames_setTop' _ X₁.here.top, X₁.tail] at hend
  obtain ⟨T', X', hTW, hTs, ht⟩ := X₁.outOfThrown (g := F0 m pc ls (rest.map (xw_v (xg_a g)))) rfl (mk := mk) (a := (Value.ref (xg_a g i) :: av.map (xw_v (xg_a g))).toArray) (t := s₂) (x := x) (L := Lo) (k := 1) (n := 6) hend hW2 hsame
  have e1 : s₂.heap = T'.heap := by rw [ht]; exact Stand.throwing_heap _ _ _
  have e2 : s₂.vm = T'.vm := by rw [ht]; exact Stand.throwing_vm _ _ _
  refine ⟨x, T', Lo, X', hLo, ?_, hWd.same e1.symm (by rw [← e2]; exact State.WarmedH.refl s₂), ?_, ?_⟩
  · obtain ⟨ce, r1, r2, r3⟩ := hce
    refine ⟨ce, by rw [← e1]; exact r1, r2, ?_⟩
    have r4 : U.vm.findClass X = some ce.cls := r3
    rwa [X₁.warmed.alike.findClass] at r4
  · rw [← e1]
    have hF1 : H.size ≤ s₂.heap.size := by have := hF.1; rw [← hUh]; exact this
    refine ⟨Nat.le_trans hS.1 hF1, fun a h1 h2 => ?_, fun a ha => ?_⟩
    · have := hF.2 a (by show a < U.heap.size; rw [hUh]; exact Nat.lt_of_lt_of_le h1 hS.1) h2
      rw [this]
      show U.heap[a]? = _
      rw [hUh]
      exact hS.2.1 a h1 h2
    · rcases List.mem_append.mp ha with h | h
      · exact hS.2.2 a h
      · exact hLo a h
  · rw [← ht]
    exact hstep₁ _ fun acts => by rw [doInvoke_state]; exact hsteps
/-- it goes out of this method -/
theorem xa_throwV (C : xw_C g cc nL own p s m args c) (hE : c.exceptionTable.isEmpty = true) (hk : meth.locks = false) {M : xw_M} {idx i ci : Nat} {q : vw_C} {fs : List Value} {av rest : List Value} {X : String} (hM : xt_R g l M (.ref i :: av) hp X) (hw : xm_B own idx M av.length) (hin : Cond.instanceMethod M.1 ∈ xw_tb) (hse : Cond.selects M.1.cls M.1 M.1 ∈ xw_tb)
    (hdg : decode cc pc = .ok (.invokevirtual idx, 3)) (hs : st = av.reverse ++ .ref i :: rest) (ho : hp[i]? = some (.inr (ci, fs))) (hci : xw_cl[ci]? = some q) (hq : q.1 = M.1.cls) (hwt : (rest.map fun v => v.category).sum ≤ 8) (hR : M.2.2.2.2.1 + 1 ≤ R.frames ∧ 8 + (M.2.2.1 + 11) + M.2.2.2.2.2 ≤ R.locals) (hcl : 1 ≤ R.cells ∧ 6 ≤ R.slots) :
    xw_At g ro nL p l e R s m args below meth c 0 0 (xt_E g X hp below args s) pc lv st hp := by
  intro ls H locs hl hP hn hS T hT X0
  obtain ⟨x, T', L, X', hL, ⟨ce, r1, r2, r3⟩, hWd, hS', hst⟩ := xt_call C hM hw hin hse hdg hs ho hci hq hwt hR ⟨by simpa using hcl.1, by simpa using hcl.2⟩ hl hP hn hS.1 hT X0
  obtain ⟨b1, b2, b3, b4, b5⟩ := X'.leaveThrown x (g := F0 m pc ls (rest.map (xw_v (xg_a g)))) rfl rfl rfl (fun y hy => by
      have : c.exceptionTable.toList = [] := by simpa using hE
      rw [this] at hy; cases hy) hk
  refine ⟨_, hst.trans b1, .threw x, b2, b3, x, locs ++ L, rfl, b4, ?_, hS'.2.2, ⟨ce, r1, r2, r3⟩, hWd.same rfl (State.WarmedH.refl T'), hS'.F rfl⟩
  simpa using b5
end XT
