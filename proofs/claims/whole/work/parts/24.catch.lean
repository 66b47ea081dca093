/-! Catch: the search resolves the catch type (cold or warm), the handler stores the exception and answers a number. -/
section XK
variable {e : Env} {s : State} {f : JFrame} {a : Addr} {vm' : Vm}
theorem xc_cold {Q : Handler → Pre} {E : CtlPost} {d : Bool} {acts : List Action} {x : ExceptionTableEntry} {t : List ExceptionTableEntry} {cE : ClassId} (hx : covers x f.pc = true) (h0 : x.catchType ≠ 0)
    (hg : (Jvm.resolveClass f.method.cls x.catchType).Gives e.toSetting s.vm (.ok cE) vm') (hr : vm'.classReady f.method.cls x.catchType cE) (hsz : vm'.classes.size ≤ s.vm.classes.size) :
    wp (findHandler.go f a (x :: t)) Q E e d acts s ↔ wp (findHandler.go f a (x :: t)) Q E e d acts (s.setVm vm') := by
  obtain ⟨ha, ht⟩ := hg.op (op := VmOp.resolveClass f.method.cls x.catchType) rfl
  simp only [covers] at hx
  obtain ⟨k, hkd, hres⟩ := hr
  simp [findHandler.go, hx, h0, ha, ht, hsz, resolveClass_memo e hkd hres]
  exact Iff.rfl
theorem xc_step {r : List Frame} {pc : Nat} (hfind : ∀ (Q : Handler → Pre) (E : CtlPost) (d : Bool) (acts : List Action), wp (findHandler f a) Q E e d acts s ↔ Q (.found pc) d acts (s.setVm vm')) :
    (stepThrowing e s a (.java f :: r)).Is ((s.setVm vm').setFrames (.java { f with pc := pc, stack := [.ref a] } :: r)) [] := by
  simp only [stepThrowing, searchFrame, vmDo]
  generalize hr : Sem.go _ e false [] s = res
  obtain ⟨as, rfl, ha⟩ := Sem.eq_ok_of hr (a := Handler.found pc) (s' := s.setVm vm') (acts' := []) (by simp [hfind _ _ _ _])
  exact ⟨rfl, ha⟩
theorem xc_caught {tb : Tables} {g : JFrame} {c : Code} {below : List Frame} {target : State} (h : At s g.method c below) {pc : Nat}
    (hfind : ∀ (Q : Handler → Pre) (E : CtlPost) (d : Bool) (acts : List Action), wp (findHandler g a) Q E e d acts ((s.setTop g).pushFrame (.throwing a)) ↔ Q (.found pc) d acts (((s.setTop g).pushFrame (.throwing a)).setVm vm'))
    (hrest : Steps tb e below ((s.setVm vm').setTop { g with pc := pc, stack := [.ref a] }) target) :
    Steps tb e below ((s.setTop g).pushFrame (.throwing a)) target := by
  obtain ⟨hgo, hw⟩ := h.throwing a
  refine Steps.head hgo hw ?_
  rw [stepThread_throwing (frames_entered h.top _), (xc_step (s := (s.setTop g).pushFrame (.throwing a)) hfind).1]
  obtain ⟨g₀, hg⟩ := Option.isSome_iff_exists.mp h.top
  obtain ⟨r, hr⟩ := State.topJava?_eq_some.mp hg
  have hr' : (s.setVm vm').frames = .java g₀ :: r := hr
  rw [State.setTop_of_frames _ hr'] at hrest
  have e9 : ∀ F, (s.setFrames F).setVm vm' = (s.setVm vm').setFrames F := fun _ => rfl
  rw [State.pushFrame, State.setTop_of_frames _ hr, State.setFrames_setFrames, hr, e9, State.setFrames_setFrames]
  exact hrest
end XK
section XH
variable {g : xw_G} {ro : Bool} {cc : ByteArray} {nL : Nat} {own : String} {p : Program} {l : Launch} {e : Env} {R : Room} {s : State} {m : MethodId} {args : Array Value} {below : List Frame} {meth : Method} {c : Code}
variable {pc : Nat} {lv : List (Option Value)} {st : List Value} {hp : List va_E}
theorem xa_catchA (C : xw_C g cc nL own p s m args c) (hr : meth.sig.returnType = some .int) (hk : meth.locks = false) {M : xw_M} {idx i ci : Nat} {q : vw_C} {fs : List Value} {av rest : List Value} {X : String} (hM : xt_R g l M (.ref i :: av) hp X) (hw : xm_B own idx M av.length) (hin : Cond.instanceMethod M.1 ∈ xw_tb) (hse : Cond.selects M.1.cls M.1 M.1 ∈ xw_tb)
    (hdg : decode cc pc = .ok (.invokevirtual idx, 3)) (hs : st = av.reverse ++ .ref i :: rest) (ho : hp[i]? = some (.inr (ci, fs))) (hci : xw_cl[ci]? = some q) (hq : q.1 = M.1.cls) (hwt : (rest.map fun v => v.category).sum ≤ 8) (hR : M.2.2.2.2.1 + 1 ≤ R.frames ∧ 8 + (M.2.2.1 + 11) + M.2.2.2.2.2 ≤ R.locals) (hcl : 1 ≤ R.cells ∧ 6 ≤ R.slots)
    {s1 e1 h1 i1 : Nat} {tl : List (Nat × Nat × Nat × Nat)} (htab : c.exceptionTable.toList.map (fun h => (h.startPc, h.endPc, h.handlerPc, h.catchType)) = (s1, e1, h1, i1) :: tl) (hcov : s1 ≤ pc ∧ pc < e1) (hi0 : i1 ≠ 0) (hlk : Cond.classLink own i1 X ∈ xw_tb) {j v : Nat} (hj : j < nL) (dh0 : decode cc h1 = .ok (.astore j, 2)) (dh1 : decode cc (h1 + 2) = .ok (.iconst (v : Int), 1)) (dh2 : decode cc (h1 + 2 + 1) = .ok (.ireturn, 1)) :
    xw_At g ro nL p l e R s m args below meth c 0 0 (MQ below (xm_Q g false (some (.int (nI v))) hp) args s 1 6 (xm_fr g false)) pc lv st hp := by
  intro ls H locs hl hP hn hS T hT X0
  obtain ⟨x, T', L, X', hL, ⟨ce, r1, r2, r3⟩, hWd, hS', hst⟩ := xt_call C hM hw hin hse hdg hs ho hci hq hwt hR ⟨by simpa using hcl.1, by simpa using hcl.2⟩ hl hP hn hS.1 hT X0
  have hpl : e.platform.magicAccessors = ({} : Platform).magicAccessors := by rw [X'.admits.platform]
  have hhp : ((T'.setTop (F0 m pc ls (rest.map (xw_v (xg_a g))))).pushFrame (.throwing x)).heap[x]? = some ce := by rw [Stand.throwing_heap]; exact r1
  have W1 : W p l e R s m args below meth c T'.heap (locs ++ L) 1 6 (MQ below (xm_Q g false (some (.int (nI v))) hp) args s 1 6 (xm_fr g false)) (F0 m h1 ls [.ref x]) := by
    refine lv_astore C.1 C.2.1 dh0 (xl_has hl) hj rfl (fun ls2 h2 => ?_)
    refine lv_iconst C.1 C.2.1 dh1 (by first | exact Int32.ofInt_eq_ofNat | (apply Int32.toBitVec_inj.mp; simp [nI])) ?_
    exact W.iret C.1 C.2.1 hr (xm_end (ro := false) (v := some (.int (nI v))) C hWd.2.1 hWd.1 ⟨hS', fun h => by cases h⟩).1 (xm_end (ro := false) (v := some (.int (nI v))) C hWd.2.1 hWd.1 ⟨hS', fun h => by cases h⟩).2 dh2 hk
  obtain ⟨c1, hf1, hcl1⟩ := Cond.classLink_spec C.2.2.2.1 (C.2.2.2.2.1 _ hlk) e.platform hpl
  obtain ⟨dk, -, -, ck, hd, -, -, -, -, hck, -, hres⟩ := hcl1.here
  have hclT := X'.warmed.classLinks hcl1
  have hWA : s.WarmedH (T'.vm.noted m.cls i1 (.cls c1)) := X'.warmed.noted hd hres (State.rightAt_cls hcl1)
  have hgA := resolveClass_links e.toSetting hclT
  have hrA := hclT.ready
  have hszA : (T'.vm.noted m.cls i1 (.cls c1)).classes.size ≤ T'.vm.classes.size := by simp
  generalize T'.vm.noted m.cls i1 (.cls c1) = vmA at hWA hgA hrA hszA
  have hcA : ∃ k, vmA.classes[c1]? = some k := by
    obtain ⟨k', a, -⟩ := hWA.alike.2.2 _ _ hck
    exact ⟨k', a⟩
  have hce : ce.cls = c1 := Option.some.inj (r3.symm.trans hf1)
  cases htb : c.exceptionTable.toList with
  | nil => rw [htb] at htab; cases htab
  | cons x1 tl1 =>
    rw [htb] at htab
    simp only [List.map_cons, List.cons.injEq, Prod.mk.injEq] at htab
    obtain ⟨⟨rfl, rfl, rfl, rfl⟩, -⟩ := htab
    have hcov' : covers x1 (F0 m pc ls (rest.map (xw_v (xg_a g)))).pc = true := by simp [covers, hcov.1, hcov.2]
    have hfind : ∀ (Q : Handler → Pre) (E : CtlPost) (d : Bool) (acts : List Action), wp (findHandler (F0 m pc ls (rest.map (xw_v (xg_a g)))) x) Q E e d acts ((T'.setTop (F0 m pc ls (rest.map (xw_v (xg_a g))))).pushFrame (.throwing x)) ↔ Q (.found x1.handlerPc) d acts (((T'.setTop (F0 m pc ls (rest.map (xw_v (xg_a g))))).pushFrame (.throwing x)).setVm vmA) := by
      intro Q E d acts
      rw [Jvm.W.findHandler_eq (meth := meth) (code := c) (by rw [Stand.throwing_vm]; exact X'.method') X'.code, htb,
        xc_cold (f := F0 m pc ls (rest.map (xw_v (xg_a g)))) hcov' hi0 (by rw [Stand.throwing_vm]; exact hgA) hrA (by rw [Stand.throwing_vm]; exact hszA),
        Jvm.W.findHandler_go_class (s := ((T'.setTop (F0 m pc ls (rest.map (xw_v (xg_a g))))).pushFrame (.throwing x)).setVm vmA) (f := F0 m pc ls (rest.map (xw_v (xg_a g)))) (c := c1) (cell := ce) hcov' hi0 hrA hhp (fun k z => by rw [r2] at z; cases z) (by rw [hce]; exact hcA) hcA, if_pos (by rw [hce]; exact va_asg _ _)]
    obtain ⟨t2, a1, b1⟩ := W1 (T'.setVm vmA) rfl (X'.noted hWA)
    exact ⟨t2, hst.trans (xc_caught X'.here hfind a1), b1⟩
theorem xa_catchAn (C : xw_C g cc nL own p s m args c) (hr : meth.sig.returnType = some .int) (hk : meth.locks = false) {M : xw_M} {idx i ci : Nat} {q : vw_C} {fs : List Value} {av rest : List Value} {X : String} (hM : xt_R g l M (.ref i :: av) hp X) (hw : xm_B own idx M av.length) (hin : Cond.instanceMethod M.1 ∈ xw_tb) (hse : Cond.selects M.1.cls M.1 M.1 ∈ xw_tb)
    (hdg : decode cc pc = .ok (.invokevirtual idx, 3)) (hs : st = av.reverse ++ .ref i :: rest) (ho : hp[i]? = some (.inr (ci, fs))) (hci : xw_cl[ci]? = some q) (hq : q.1 = M.1.cls) (hwt : (rest.map fun v => v.category).sum ≤ 8) (hR : M.2.2.2.2.1 + 1 ≤ R.frames ∧ 8 + (M.2.2.1 + 11) + M.2.2.2.2.2 ≤ R.locals) (hcl : 1 ≤ R.cells ∧ 6 ≤ R.slots)
    {s1 e1 h1 i1 : Nat} {tl : List (Nat × Nat × Nat × Nat)} (htab : c.exceptionTable.toList.map (fun h => (h.startPc, h.endPc, h.handlerPc, h.catchType)) = (s1, e1, h1, i1) :: tl) (hcov : s1 ≤ pc ∧ pc < e1) (hi0 : i1 ≠ 0) (hlk : Cond.classLink own i1 X ∈ xw_tb) {j : Fin 4} {v : Nat} (hj : (j : Nat) < nL) (dh0 : decode cc h1 = .ok (.astore_n j, 1)) (dh1 : decode cc (h1 + 1) = .ok (.iconst (v : Int), 1)) (dh2 : decode cc (h1 + 1 + 1) = .ok (.ireturn, 1)) :
    xw_At g ro nL p l e R s m args below meth c 0 0 (MQ below (xm_Q g false (some (.int (nI v))) hp) args s 1 6 (xm_fr g false)) pc lv st hp := by
  intro ls H locs hl hP hn hS T hT X0
  obtain ⟨x, T', L, X', hL, ⟨ce, r1, r2, r3⟩, hWd, hS', hst⟩ := xt_call C hM hw hin hse hdg hs ho hci hq hwt hR ⟨by simpa using hcl.1, by simpa using hcl.2⟩ hl hP hn hS.1 hT X0
  have hpl : e.platform.magicAccessors = ({} : Platform).magicAccessors := by rw [X'.admits.platform]
  have hhp : ((T'.setTop (F0 m pc ls (rest.map (xw_v (xg_a g))))).pushFrame (.throwing x)).heap[x]? = some ce := by rw [Stand.throwing_heap]; exact r1
  have W1 : W p l e R s m args below meth c T'.heap (locs ++ L) 1 6 (MQ below (xm_Q g false (some (.int (nI v))) hp) args s 1 6 (xm_fr g false)) (F0 m h1 ls [.ref x]) := by
    refine lv_astore_n C.1 C.2.1 dh0 rfl (xl_has hl) hj rfl (fun ls2 h2 => ?_)
    refine lv_iconst C.1 C.2.1 dh1 (by first | exact Int32.ofInt_eq_ofNat | (apply Int32.toBitVec_inj.mp; simp [nI])) ?_
    exact W.iret C.1 C.2.1 hr (xm_end (ro := false) (v := some (.int (nI v))) C hWd.2.1 hWd.1 ⟨hS', fun h => by cases h⟩).1 (xm_end (ro := false) (v := some (.int (nI v))) C hWd.2.1 hWd.1 ⟨hS', fun h => by cases h⟩).2 dh2 hk
  obtain ⟨c1, hf1, hcl1⟩ := Cond.classLink_spec C.2.2.2.1 (C.2.2.2.2.1 _ hlk) e.platform hpl
  obtain ⟨dk, -, -, ck, hd, -, -, -, -, hck, -, hres⟩ := hcl1.here
  have hclT := X'.warmed.classLinks hcl1
  have hWA : s.WarmedH (T'.vm.noted m.cls i1 (.cls c1)) := X'.warmed.noted hd hres (State.rightAt_cls hcl1)
  have hgA := resolveClass_links e.toSetting hclT
  have hrA := hclT.ready
  have hszA : (T'.vm.noted m.cls i1 (.cls c1)).classes.size ≤ T'.vm.classes.size := by simp
  generalize T'.vm.noted m.cls i1 (.cls c1) = vmA at hWA hgA hrA hszA
  have hcA : ∃ k, vmA.classes[c1]? = some k := by
    obtain ⟨k', a, -⟩ := hWA.alike.2.2 _ _ hck
    exact ⟨k', a⟩
  have hce : ce.cls = c1 := Option.some.inj (r3.symm.trans hf1)
  cases htb : c.exceptionTable.toList with
  | nil => rw [htb] at htab; cases htab
  | cons x1 tl1 =>
    rw [htb] at htab
    simp only [List.map_cons, List.cons.injEq, Prod.mk.injEq] at htab
    obtain ⟨⟨rfl, rfl, rfl, rfl⟩, -⟩ := htab
    have hcov' : covers x1 (F0 m pc ls (rest.map (xw_v (xg_a g)))).pc = true := by simp [covers, hcov.1, hcov.2]
    have hfind : ∀ (Q : Handler → Pre) (E : CtlPost) (d : Bool) (acts : List Action), wp (findHandler (F0 m pc ls (rest.map (xw_v (xg_a g)))) x) Q E e d acts ((T'.setTop (F0 m pc ls (rest.map (xw_v (xg_a g))))).pushFrame (.throwing x)) ↔ Q (.found x1.handlerPc) d acts (((T'.setTop (F0 m pc ls (rest.map (xw_v (xg_a g))))).pushFrame (.throwing x)).setVm vmA) := by
      intro Q E d acts
      rw [Jvm.W.findHandler_eq (meth := meth) (code := c) (by rw [Stand.throwing_vm]; exact X'.method') X'.code, htb,
        xc_cold (f := F0 m pc ls (rest.map (xw_v (xg_a g)))) hcov' hi0 (by rw [Stand.throwing_vm]; exact hgA) hrA (by rw [Stand.throwing_vm]; exact hszA),
        Jvm.W.findHandler_go_class (s := ((T'.setTop (F0 m pc ls (rest.map (xw_v (xg_a g))))).pushFrame (.throwing x)).setVm vmA) (f := F0 m pc ls (rest.map (xw_v (xg_a g)))) (c := c1) (cell := ce) hcov' hi0 hrA hhp (fun k z => by rw [r2] at z; cases z) (by rw [hce]; exact hcA) hcA, if_pos (by rw [hce]; exact va_asg _ _)]
    obtain ⟨t2, a1, b1⟩ := W1 (T'.setVm vmA) rfl (X'.noted hWA)
    exact ⟨t2, hst.trans (xc_caught X'.here hfind a1), b1⟩
theorem xa_catchB (C : xw_C g cc nL own p s m args c) (hr : meth.sig.returnType = some .int) (hk : meth.locks = false) {M : xw_M} {idx i ci : Nat} {q : vw_C} {fs : List Value} {av rest : List Value} {X : String} (hM : xt_R g l M (.ref i :: av) hp X) (hw : xm_B own idx M av.length) (hin : Cond.instanceMethod M.1 ∈ xw_tb) (hse : Cond.selects M.1.cls M.1 M.1 ∈ xw_tb)
    (hdg : decode cc pc = .ok (.invokevirtual idx, 3)) (hs : st = av.reverse ++ .ref i :: rest) (ho : hp[i]? = some (.inr (ci, fs))) (hci : xw_cl[ci]? = some q) (hq : q.1 = M.1.cls) (hwt : (rest.map fun v => v.category).sum ≤ 8) (hR : M.2.2.2.2.1 + 1 ≤ R.frames ∧ 8 + (M.2.2.1 + 11) + M.2.2.2.2.2 ≤ R.locals) (hcl : 1 ≤ R.cells ∧ 6 ≤ R.slots)
    {X1 : String} {s1 e1 h1 i1 s2 e2 h2 i2 : Nat} {tl : List (Nat × Nat × Nat × Nat)} (htab : c.exceptionTable.toList.map (fun h => (h.startPc, h.endPc, h.handlerPc, h.catchType)) = (s1, e1, h1, i1) :: (s2, e2, h2, i2) :: tl) (hcov : s1 ≤ pc ∧ pc < e1) (hcov2 : s2 ≤ pc ∧ pc < e2) (hi0 : i1 ≠ 0) (hi02 : i2 ≠ 0) (hlk : Cond.classLink own i1 X1 ∈ xw_tb) (hlk2 : Cond.classLink own i2 X ∈ xw_tb) (hnc : va_Nc X X1 s) {j v : Nat} (hj : j < nL) (dh0 : decode cc h2 = .ok (.astore j, 2)) (dh1 : decode cc (h2 + 2) = .ok (.iconst (v : Int), 1)) (dh2 : decode cc (h2 + 2 + 1) = .ok (.ireturn, 1)) :
    xw_At g ro nL p l e R s m args below meth c 0 0 (MQ below (xm_Q g false (some (.int (nI v))) hp) args s 1 6 (xm_fr g false)) pc lv st hp := by
  intro ls H locs hl hP hn hS T hT X0
  obtain ⟨x, T', L, X', hL, ⟨ce, r1, r2, r3⟩, hWd, hS', hst⟩ := xt_call C hM hw hin hse hdg hs ho hci hq hwt hR ⟨by simpa using hcl.1, by simpa using hcl.2⟩ hl hP hn hS.1 hT X0
  have hpl : e.platform.magicAccessors = ({} : Platform).magicAccessors := by rw [X'.admits.platform]
  have hhp : ((T'.setTop (F0 m pc ls (rest.map (xw_v (xg_a g))))).pushFrame (.throwing x)).heap[x]? = some ce := by rw [Stand.throwing_heap]; exact r1
  have W1 : W p l e R s m args below meth c T'.heap (locs ++ L) 1 6 (MQ below (xm_Q g false (some (.int (nI v))) hp) args s 1 6 (xm_fr g false)) (F0 m h2 ls [.ref x]) := by
    refine lv_astore C.1 C.2.1 dh0 (xl_has hl) hj rfl (fun ls2 h2 => ?_)
    refine lv_iconst C.1 C.2.1 dh1 (by first | exact Int32.ofInt_eq_ofNat | (apply Int32.toBitVec_inj.mp; simp [nI])) ?_
    exact W.iret C.1 C.2.1 hr (xm_end (ro := false) (v := some (.int (nI v))) C hWd.2.1 hWd.1 ⟨hS', fun h => by cases h⟩).1 (xm_end (ro := false) (v := some (.int (nI v))) C hWd.2.1 hWd.1 ⟨hS', fun h => by cases h⟩).2 dh2 hk
  obtain ⟨c1, hf1, hcl1⟩ := Cond.classLink_spec C.2.2.2.1 (C.2.2.2.2.1 _ hlk) e.platform hpl
  obtain ⟨dk, -, -, ck, hd, -, -, -, -, hck, -, hres⟩ := hcl1.here
  have hclT := X'.warmed.classLinks hcl1
  have hWA : s.WarmedH (T'.vm.noted m.cls i1 (.cls c1)) := X'.warmed.noted hd hres (State.rightAt_cls hcl1)
  have hgA := resolveClass_links e.toSetting hclT
  have hrA := hclT.ready
  have hszA : (T'.vm.noted m.cls i1 (.cls c1)).classes.size ≤ T'.vm.classes.size := by simp
  generalize T'.vm.noted m.cls i1 (.cls c1) = vmA at hWA hgA hrA hszA
  have hcA : ∃ k, vmA.classes[c1]? = some k := by
    obtain ⟨k', a, -⟩ := hWA.alike.2.2 _ _ hck
    exact ⟨k', a⟩
  obtain ⟨c2, hf2, hcl2⟩ := Cond.classLink_spec C.2.2.2.1 (C.2.2.2.2.1 _ hlk2) e.platform hpl
  obtain ⟨dk2, -, -, ck2, hd2, -, -, -, -, hck2, -, hres2⟩ := hcl2.here
  have hclT2 := hWA.classLinks hcl2
  have hWB : s.WarmedH (vmA.noted m.cls i2 (.cls c2)) := hWA.noted hd2 hres2 (State.rightAt_cls hcl2)
  have hgB := resolveClass_links e.toSetting hclT2
  have hrB := hclT2.ready
  have hszB : (vmA.noted m.cls i2 (.cls c2)).classes.size ≤ vmA.classes.size := by simp
  generalize vmA.noted m.cls i2 (.cls c2) = vmB at hWB hgB hrB hszB
  have hcB : ∃ k, vmB.classes[c2]? = some k := by
    obtain ⟨k', a, -⟩ := hWB.alike.2.2 _ _ hck2
    exact ⟨k', a⟩
  have hcA2 : ∃ k, vmA.classes[c2]? = some k := by
    obtain ⟨k', a, -⟩ := hWA.alike.2.2 _ _ hck2
    exact ⟨k', a⟩
  have hce : ce.cls = c2 := Option.some.inj (r3.symm.trans hf2)
  have hno : vmA.assignable c2 c1 = false := by
    obtain ⟨u1, u2, g1, g2, g3⟩ := va_Nc.moved (U := T'.setVm vmA) hWA.alike hnc
    have g1' : vmA.findClass X = some u1 := g1
    have g2' : vmA.findClass X1 = some u2 := g2
    rw [hWA.alike.findClass, hf2] at g1'
    rw [hWA.alike.findClass, hf1] at g2'
    cases g1'; cases g2'
    exact g3
  cases htb : c.exceptionTable.toList with
  | nil => rw [htb] at htab; cases htab
  | cons x1 tl1 =>
    rw [htb] at htab
    cases tl1 with
    | nil => simp at htab
    | cons x2 tl2 =>
      simp only [List.map_cons, List.cons.injEq, Prod.mk.injEq] at htab
      obtain ⟨⟨rfl, rfl, rfl, rfl⟩, ⟨rfl, rfl, rfl, rfl⟩, -⟩ := htab
      have hcov' : covers x1 (F0 m pc ls (rest.map (xw_v (xg_a g)))).pc = true := by simp [covers, hcov.1, hcov.2]
      have hcov2' : covers x2 (F0 m pc ls (rest.map (xw_v (xg_a g)))).pc = true := by simp [covers, hcov2.1, hcov2.2]
      have hfind : ∀ (Q : Handler → Pre) (E : CtlPost) (d : Bool) (acts : List Action), wp (findHandler (F0 m pc ls (rest.map (xw_v (xg_a g)))) x) Q E e d acts ((T'.setTop (F0 m pc ls (rest.map (xw_v (xg_a g))))).pushFrame (.throwing x)) ↔ Q (.found x2.handlerPc) d acts (((T'.setTop (F0 m pc ls (rest.map (xw_v (xg_a g))))).pushFrame (.throwing x)).setVm vmB) := by
        intro Q E d acts
        rw [Jvm.W.findHandler_eq (meth := meth) (code := c) (by rw [Stand.throwing_vm]; exact X'.method') X'.code, htb,
          xc_cold (f := F0 m pc ls (rest.map (xw_v (xg_a g)))) hcov' hi0 (by rw [Stand.throwing_vm]; exact hgA) hrA (by rw [Stand.throwing_vm]; exact hszA),
          Jvm.W.findHandler_go_class (s := ((T'.setTop (F0 m pc ls (rest.map (xw_v (xg_a g))))).pushFrame (.throwing x)).setVm vmA) (f := F0 m pc ls (rest.map (xw_v (xg_a g)))) (c := c1) (cell := ce) hcov' hi0 hrA hhp (fun k z => by rw [r2] at z; cases z) (by rw [hce]; exact hcA2) hcA, if_neg (by show ¬ vmA.assignable ce.cls c1 = true; rw [hce, hno]; decide),
          xc_cold (f := F0 m pc ls (rest.map (xw_v (xg_a g)))) (vm' := vmB) hcov2' hi02 hgB hrB hszB,
          Jvm.W.findHandler_go_class (s := (((T'.setTop (F0 m pc ls (rest.map (xw_v (xg_a g))))).pushFrame (.throwing x)).setVm vmA).setVm vmB) (f := F0 m pc ls (rest.map (xw_v (xg_a g)))) (c := c2) (cell := ce) hcov2' hi02 hrB hhp (fun k z => by rw [r2] at z; cases z) (by rw [hce]; exact hcB) hcB, if_pos (by rw [hce]; exact va_asg _ _)]
        exact Iff.rfl
      obtain ⟨t2, a1, b1⟩ := W1 (T'.setVm vmB) rfl (X'.noted hWB)
      exact ⟨t2, hst.trans (xc_caught X'.here hfind a1), b1⟩
theorem xa_catchBn (C : xw_C g cc nL own p s m args c) (hr : meth.sig.returnType = some .int) (hk : meth.locks = false) {M : xw_M} {idx i ci : Nat} {q : vw_C} {fs : List Value} {av rest : List Value} {X : String} (hM : xt_R g l M (.ref i :: av) hp X) (hw : xm_B own idx M av.length) (hin : Cond.instanceMethod M.1 ∈ xw_tb) (hse : Cond.selects M.1.cls M.1 M.1 ∈ xw_tb)
    (hdg : decode cc pc = .ok (.invokevirtual idx, 3)) (hs : st = av.reverse ++ .ref i :: rest) (ho : hp[i]? = some (.inr (ci, fs))) (hci : xw_cl[ci]? = some q) (hq : q.1 = M.1.cls) (hwt : (rest.map fun v => v.category).sum ≤ 8) (hR : M.2.2.2.2.1 + 1 ≤ R.frames ∧ 8 + (M.2.2.1 + 11) + M.2.2.2.2.2 ≤ R.locals) (hcl : 1 ≤ R.cells ∧ 6 ≤ R.slots)
    {X1 : String} {s1 e1 h1 i1 s2 e2 h2 i2 : Nat} {tl : List (Nat × Nat × Nat × Nat)} (htab : c.exceptionTable.toList.map (fun h => (h.startPc, h.endPc, h.handlerPc, h.catchType)) = (s1, e1, h1, i1) :: (s2, e2, h2, i2) :: tl) (hcov : s1 ≤ pc ∧ pc < e1) (hcov2 : s2 ≤ pc ∧ pc < e2) (hi0 : i1 ≠ 0) (hi02 : i2 ≠ 0) (hlk : Cond.classLink own i1 X1 ∈ xw_tb) (hlk2 : Cond.classLink own i2 X ∈ xw_tb) (hnc : va_Nc X X1 s) {j : Fin 4} {v : Nat} (hj : (j : Nat) < nL) (dh0 : decode cc h2 = .ok (.astore_n j, 1)) (dh1 : decode cc (h2 + 1) = .ok (.iconst (v : Int), 1)) (dh2 : decode cc (h2 + 1 + 1) = .ok (.ireturn, 1)) :
    xw_At g ro nL p l e R s m args below meth c 0 0 (MQ below (xm_Q g false (some (.int (nI v))) hp) args s 1 6 (xm_fr g false)) pc lv st hp := by
  intro ls H locs hl hP hn hS T hT X0
  obtain ⟨x, T', L, X', hL, ⟨ce, r1, r2, r3⟩, hWd, hS', hst⟩ := xt_call C hM hw hin hse hdg hs ho hci hq hwt hR ⟨by simpa using hcl.1, by simpa using hcl.2⟩ hl hP hn hS.1 hT X0
  have hpl : e.platform.magicAccessors = ({} : Platform).magicAccessors := by rw [X'.admits.platform]
  have hhp : ((T'.setTop (F0 m pc ls (rest.map (xw_v (xg_a g))))).pushFrame (.throwing x)).heap[x]? = some ce := by rw [Stand.throwing_heap]; exact r1
  have W1 : W p l e R s m args below meth c T'.heap (locs ++ L) 1 6 (MQ below (xm_Q g false (some (.int (nI v))) hp) args s 1 6 (xm_fr g false)) (F0 m h2 ls [.ref x]) := by
    refine lv_astore_n C.1 C.2.1 dh0 rfl (xl_has hl) hj rfl (fun ls2 h2 => ?_)
    refine lv_iconst C.1 C.2.1 dh1 (by first | exact Int32.ofInt_eq_ofNat | (apply Int32.toBitVec_inj.mp; simp [nI])) ?_
    exact W.iret C.1 C.2.1 hr (xm_end (ro := false) (v := some (.int (nI v))) C hWd.2.1 hWd.1 ⟨hS', fun h => by cases h⟩).1 (xm_end (ro := false) (v := some (.int (nI v))) C hWd.2.1 hWd.1 ⟨hS', fun h => by cases h⟩).2 dh2 hk
  obtain ⟨c1, hf1, hcl1⟩ := Cond.classLink_spec C.2.2.2.1 (C.2.2.2.2.1 _ hlk) e.platform hpl
  obtain ⟨dk, -, -, ck, hd, -, -, -, -, hck, -, hres⟩ := hcl1.here
  have hclT := X'.warmed.classLinks hcl1
  have hWA : s.WarmedH (T'.vm.noted m.cls i1 (.cls c1)) := X'.warmed.noted hd hres (State.rightAt_cls hcl1)
  have hgA := resolveClass_links e.toSetting hclT
  have hrA := hclT.ready
  have hszA : (T'.vm.noted m.cls i1 (.cls c1)).classes.size ≤ T'.vm.classes.size := by simp
  generalize T'.vm.noted m.cls i1 (.cls c1) = vmA at hWA hgA hrA hszA
  have hcA : ∃ k, vmA.classes[c1]? = some k := by
    obtain ⟨k', a, -⟩ := hWA.alike.2.2 _ _ hck
    exact ⟨k', a⟩
  obtain ⟨c2, hf2, hcl2⟩ := Cond.classLink_spec C.2.2.2.1 (C.2.2.2.2.1 _ hlk2) e.platform hpl
  obtain ⟨dk2, -, -, ck2, hd2, -, -, -, -, hck2, -, hres2⟩ := hcl2.here
  have hclT2 := hWA.classLinks hcl2
  have hWB : s.WarmedH (vmA.noted m.cls i2 (.cls c2)) := hWA.noted hd2 hres2 (State.rightAt_cls hcl2)
  have hgB := resolveClass_links e.toSetting hclT2
  have hrB := hclT2.ready
  have hszB : (vmA.noted m.cls i2 (.cls c2)).classes.size ≤ vmA.classes.size := by simp
  generalize vmA.noted m.cls i2 (.cls c2) = vmB at hWB hgB hrB hszB
  have hcB : ∃ k, vmB.classes[c2]? = some k := by
    obtain ⟨k', a, -⟩ := hWB.alike.2.2 _ _ hck2
    exact ⟨k', a⟩
  have hcA2 : ∃ k, vmA.classes[c2]? = some k := by
    obtain ⟨k', a, -⟩ := hWA.alike.2.2 _ _ hck2
    exact ⟨k', a⟩
  have hce : ce.cls = c2 := Option.some.inj (r3.symm.trans hf2)
  have hno : vmA.assignable c2 c1 = false := by
    obtain ⟨u1, u2, g1, g2, g3⟩ := va_Nc.moved (U := T'.setVm vmA) hWA.alike hnc
    have g1' : vmA.findClass X = some u1 := g1
    have g2' : vmA.findClass X1 = some u2 := g2
    rw [hWA.alike.findClass, hf2] at g1'
    rw [hWA.alike.findClass, hf1] at g2'
    cases g1'; cases g2'
    exact g3
  cases htb : c.exceptionTable.toList with
  | nil => rw [htb] at htab; cases htab
  | cons x1 tl1 =>
    rw [htb] at htab
    cases tl1 with
    | nil => simp at htab
    | cons x2 tl2 =>
      simp only [List.map_cons, List.cons.injEq, Prod.mk.injEq] at htab
      obtain ⟨⟨rfl, rfl, rfl, rfl⟩, ⟨rfl, rfl, rfl, rfl⟩, -⟩ := htab
      have hcov' : covers x1 (F0 m pc ls (rest.map (xw_v (xg_a g)))).pc = true := by simp [covers, hcov.1, hcov.2]
      have hcov2' : covers x2 (F0 m pc ls (rest.map (xw_v (xg_a g)))).pc = true := by simp [covers, hcov2.1, hcov2.2]
      have hfind : ∀ (Q : Handler → Pre) (E : CtlPost) (d : Bool) (acts : List Action), wp (findHandler (F0 m pc ls (rest.map (xw_v (xg_a g)))) x) Q E e d acts ((T'.setTop (F0 m pc ls (rest.map (xw_v (xg_a g))))).pushFrame (.throwing x)) ↔ Q (.found x2.handlerPc) d acts (((T'.setTop (F0 m pc ls (rest.map (xw_v (xg_a g))))).pushFrame (.throwing x)).setVm vmB) := by
        intro Q E d acts
        rw [Jvm.W.findHandler_eq (meth := meth) (code := c) (by rw [Stand.throwing_vm]; exact X'.method') X'.code, htb,
          xc_cold (f := F0 m pc ls (rest.map (xw_v (xg_a g)))) hcov' hi0 (by rw [Stand.throwing_vm]; exact hgA) hrA (by rw [Stand.throwing_vm]; exact hszA),
          Jvm.W.findHandler_go_class (s := ((T'.setTop (F0 m pc ls (rest.map (xw_v (xg_a g))))).pushFrame (.throwing x)).setVm vmA) (f := F0 m pc ls (rest.map (xw_v (xg_a g)))) (c := c1) (cell := ce) hcov' hi0 hrA hhp (fun k z => by rw [r2] at z; cases z) (by rw [hce]; exact hcA2) hcA, if_neg (by show ¬ vmA.assignable ce.cls c1 = true; rw [hce, hno]; decide),
          xc_cold (f := F0 m pc ls (rest.map (xw_v (xg_a g)))) (vm' := vmB) hcov2' hi02 hgB hrB hszB,
          Jvm.W.findHandler_go_class (s := (((T'.setTop (F0 m pc ls (rest.map (xw_v (xg_a g))))).pushFrame (.throwing x)).setVm vmA).setVm vmB) (f := F0 m pc ls (rest.map (xw_v (xg_a g)))) (c := c2) (cell := ce) hcov2' hi02 hrB hhp (fun k z => by rw [r2] at z; cases z) (by rw [hce]; exact hcB) hcB, if_pos (by rw [hce]; exact va_asg _ _)]
        exact Iff.rfl
      obtain ⟨t2, a1, b1⟩ := W1 (T'.setVm vmB) rfl (X'.noted hWB)
      exact ⟨t2, hst.trans (xc_caught X'.here hfind a1), b1⟩
theorem xa_widen {cells slots k n : Nat} {Q : State → Prop} (h1 : cells ≤ k) (h2 : slots ≤ n) (kk : xw_At g ro nL p l e R s m args below meth c k n Q pc lv st hp) : xw_At g ro nL p l e R s m args below meth c cells slots Q pc lv st hp := fun ls H locs hl hP hn hS => W.widen h1 h2 (kk ls H locs hl hP hn hS)
end XH
/-- a method with handlers: it returns, and has made at most one exception -/
def xh_R (g : xw_G) (l : Launch) (M : xw_M) (hh : List (Nat × Nat × Nat × Nat)) (av : List Value) (hp : List va_E) (v : Option Value) (hp' : List va_E) : Prop :=
  Met l M.1 (Cond.codeWith M.1 M.2.1 M.2.2.1 M.2.2.2.1 hh :: xw_tb) (xm_rm M 1) (va_Pc (av.map (xw_v (xg_a g))) (xw_Wd g hp)) (xm_Q g false v hp') 1 6 (xm_fr g false)
theorem xh_of {g : xw_G} {l : Launch} {M : xw_M} {hh : List (Nat × Nat × Nat × Nat)} {av : List Value} {hp : List va_E} {v : Option Value} {hp' : List va_E} (lv : List (Option Value)) (hy : plainName M.1.cls = true)
    (hlen : (lg_sl (av.map (xw_v (xg_a g)))).length ≤ M.2.2.1) (hlv : lv = xl_in av ++ List.replicate (M.2.2.1 - (xl_in av).length) none)
    (body : ∀ (p : Program) (e : Env) (s : State) (m : MethodId) (args : Array Value) (below : List Frame) (meth : Method) (c : Code), xw_C g M.2.1 M.2.2.1 M.1.cls p s m args c → meth.sig.returnType = M.2.2.2.1 → meth.locks = false →
      c.exceptionTable.toList.map (fun h => (h.startPc, h.endPc, h.handlerPc, h.catchType)) = hh → va_Nc "java/lang/IllegalStateException" "java/lang/IllegalArgumentException" s →
      xw_At g false M.2.2.1 p l e (xm_rm M 1) s m args below meth c 0 0 (MQ below (xm_Q g false v hp') args s 1 6 (xm_fr g false)) 0 lv [] hp) : xh_R g l M hh av hp v hp' := by
  refine va_MetW (cc := M.2.1) (maxL := M.2.2.1) (ret := M.2.2.2.1) (hh := hh) hy rfl ?_
  intro p e s m args below meth c s₁ B hml hv
  obtain ⟨rfl, hw⟩ := hv
  rw [lg_entry_eq]
  have hts := atoms_spec (ws := Cond.codeWith M.1 M.2.1 M.2.2.1 M.2.2.2.1 hh :: xw_tb) B.pre
  have hT : c.exceptionTable.toList.map (fun h => (h.startPc, h.endPc, h.handlerPc, h.catchType)) = hh := by
    obtain ⟨m9, meth', c', hn9, h1, h2, -, -, h7, -, -, -⟩ := Cond.codeWith_spec (hts _ List.mem_cons_self)
    cases B.named.symm.trans hn9
    cases B.method.symm.trans h1
    cases (Stand.of_body B).code.symm.trans h2
    exact h7
  exact body p e s m _ below meth c ⟨B.exec, B.bytes, hml, findClass_of_methodNamed B.named, fun w h => hts w (List.mem_cons_of_mem _ h), hp, hw.c⟩ B.returns B.notSynchronized hT hw.2.2.2.2.2.2.2.2.2.2 _ s.heap [] (xl_pad hlen hlv) hw.2.1 hw.1 ⟨va_S.rf, fun h => by cases h⟩
section XHC
variable {g : xw_G} {ro : Bool} {cc : ByteArray} {nL : Nat} {own : String} {p : Program} {l : Launch} {e : Env} {R : Room} {s : State} {m : MethodId} {args : Array Value} {below : List Frame} {meth : Method} {c : Code} {cells slots : Nat} {Q : State → Prop}
variable {pc : Nat} {lv : List (Option Value)} {st : List Value} {hp : List va_E}
/-- a static call of a method with handlers -/
theorem xa_callH (C : xw_C g cc nL own p s m args c) {M : xw_M} {hh : List (Nat × Nat × Nat × Nat)} {idx : Nat} {av rest : List Value} {x : Value} {hp' : List va_E} (hM : xh_R g l M hh av hp (some x) hp')
    (w1 : Cond.codeWith M.1 M.2.1 M.2.2.1 M.2.2.2.1 hh ∈ xw_tb) (w2 : Cond.initialized M.1.cls ∈ xw_tb) (w3 : Cond.methodLink own idx M.1 ∈ xw_tb) (w4 : Cond.static M.1 ∈ xw_tb)
    (w5 : M.1.cls ≠ "java/lang/invoke/MethodHandle" ∧ M.1.cls ≠ "java/lang/invoke/VarHandle" ∧ (parseMethodDescriptor M.1.desc).map (fun d => d.parameters.length) = some av.length)
    (hdg : decode cc pc = .ok (.invokestatic idx, 3)) (hs : st = av.reverse ++ rest) (hwt : (rest.map fun v => v.category).sum ≤ 8) (hR : M.2.2.2.2.1 + 1 ≤ R.frames ∧ 8 + (M.2.2.1 + 11) + M.2.2.2.2.2 ≤ R.locals) (hcl : cells + 1 ≤ R.cells ∧ slots + 6 ≤ R.slots)
    (k : xw_At g false nL p l e R s m args below meth c (cells + 1) (slots + 6) Q (pc + 3) lv (x :: rest) hp') : xw_At g ro nL p l e R s m args below meth c cells slots Q pc lv st hp := by
  intro ls H locs hl hP hn hS T hT X
  subst hs
  obtain ⟨hx, hb, hml, hown, hts, hp0, hW⟩ := C
  have hK : Back l R p e below s args M.1 3 8 (PreOf R 1 6 (va_Pc (av.map (xw_v (xg_a g))) (xw_Wd g hp))) (PostOf (xm_Q g false (some x) hp') 1 6 (xm_fr g false)) :=
    va_backW (hh := hh) (bytes := M.2.1) (maxL := M.2.2.1) (ret := M.2.2.2.1) hM (xm_blind _ _ _) rfl rfl hR.1 hR.2
      (fun w hw a' U hWU => by
        rcases List.mem_cons.mp hw with rfl | hw
        · exact word_at hWU (good_of_word (xw_tb_good _ w1)) (hts _ w1)
        · exact word_at hWU (good_of_word (xw_tb_good _ hw)) (hts _ hw)) List.mem_cons_self (fun a' U hWU => word_at hWU (good_of_word (xw_tb_good _ w2)) (hts _ w2))
  obtain ⟨mk, methM, cM, hnamed, hmethM, -, -, -, -, -, -, hsigM⟩ := Cond.codeWith_spec (hts _ w1)
  have hstatic : methM.isStatic = true := Cond.static_spec hnamed hmethM (hts _ w4)
  obtain ⟨kP, hkP, -⟩ := className_of_methodNamed hnamed
  have hinitP : kP.init = .initialized := Cond.initialized_spec (findClass_of_methodNamed hnamed) hkP (hts _ w2)
  have hpar : (av.map (xw_v (xg_a g))).length = methM.sig.parameters.length := by
    have h5 := w5.2.2
    rw [hsigM] at h5
    rw [List.length_map]
    exact (Option.some.inj h5).symm
  obtain ⟨vm₁, X₁, hstep₁⟩ := X.invokestatic hx hown (hts _ w3) hnamed hmethM hstatic hkP hinitP ⟨w5.1, w5.2.1⟩ (g := F0 m pc ls ((av.reverse ++ rest).map (xw_v (xg_a g)))) rfl (argsL := av.map (xw_v (xg_a g))) (rest := rest.map (xw_v (xg_a g))) hpar (by simp) (by rw [hb]; exact hdg)
  obtain ⟨v, ⟨U', l2, c2, s2⟩, X', ⟨g', mk', t, L, e1, e2, hq, h1, hL, h2, h3⟩, hsteps⟩ := hK m meth c ⟨T.setVm vm₁, locs, cells, slots⟩ (F0 m pc ls (rest.map (xw_v (xg_a g)))) (.invokestatic idx) mk (av.map (xw_v (xg_a g))).toArray X₁ rfl (hl.1.trans hml.symm) (by rw [hb]; exact hdg) (lv_room (by rw [xm_cats]; exact hwt)) (X₁.named hnamed)
    ⟨hcl.1, hcl.2, rfl, hW.goes hS.1 hP hn hT X₁.warmed⟩
  dsimp only [Pt.U, Pt.locs, Pt.cells, Pt.slots] at X' e1 e2 h1 h2 h3 hsteps
  subst h1; subst h2; subst h3
  obtain ⟨hv, hWd, hF, -⟩ := hq
  cases hv
  have hF1 : H.size ≤ t.heap.size := by have := hF.1; rw [← hT]; exact this
  have hS' : va_S (xg_A g) s.heap U'.heap (locs ++ L) := by
    rw [e1]
    refine ⟨Nat.le_trans hS.1.1 hF1, fun q z1 z2 => ?_, fun q hq => ?_⟩
    · have := hF.2 q (by show q < T.heap.size; rw [hT]; exact Nat.lt_of_lt_of_le z1 hS.1.1) z2
      rw [this]
      show T.heap[q]? = _
      rw [hT]
      exact hS.1.2.1 q z1 z2
    · rcases List.mem_append.mp hq with h | h
      · exact hS.1.2.2 q h
      · exact (hL q h).2
  obtain ⟨t2, a1, b1⟩ := k ls U'.heap (locs ++ L) hl (by rw [e1]; exact hWd.2.1) hWd.1 ⟨hS', fun h => by cases h⟩ U' rfl X'
  refine ⟨t2, hstep₁ _ fun acts => ?_, b1⟩
  rw [doInvoke_state]
  exact hsteps.trans a1
end XHC
