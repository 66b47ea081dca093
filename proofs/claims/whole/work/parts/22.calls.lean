/-! Contracts over the pure machine, returns and calls. A method: name, bytes, locals, answer's type, frames and words of locals below it. -/
abbrev xw_M : Type := MethodName × ByteArray × Nat × Option FieldType × Nat × Nat
abbrev xm_ws (M : xw_M) : List Cond := Cond.code M.1 M.2.1 M.2.2.1 M.2.2.2.1 :: xw_tb
abbrev xm_rm (M : xw_M) (k : Nat) : Room := { frames := M.2.2.2.2.1, cells := k, slots := 6 * k, locals := M.2.2.2.2.2 }
def xm_fr (g : xw_G) (ro : Bool) : Nat → Prop := fun q => ro = false ∧ xg_A g q
def xm_Q (g : xw_G) (ro : Bool) (v : Option Value) (hp : List va_E) : Array Value → State → Outcome → State → Prop := fun _ st oc t => oc = .returned (v.map (xw_v (xg_a g))) ∧ xw_Wd g hp t ∧ va_F (xg_A g) st t ∧ (ro = true → t.heap = st.heap)
/-- it returns v, and leaves the heap hp' -/
def xm_R (g : xw_G) (l : Launch) (ro : Bool) (M : xw_M) (av : List Value) (hp : List va_E) (v : Option Value) (hp' : List va_E) : Prop :=
  Met l M.1 (xm_ws M) (xm_rm M 0) (va_Pc (av.map (xw_v (xg_a g))) (xw_Wd g hp)) (xm_Q g ro v hp') 0 0 (xm_fr g ro)
theorem xm_blind (g : xw_G) (av : List Value) (hp : List va_E) : FrameBlind (va_Pc av (xw_Wd g hp)) := fun a U f mk q => ⟨q.1, q.2.same (t := U.calling f mk a) rfl (State.WarmedH.refl U)⟩
theorem xl_pad {ad : Nat → Nat} {av : List Value} {nL : Nat} {lv : List (Option Value)} (hlen : (lg_sl (av.map (xw_v ad))).length ≤ nL) (hlv : lv = xl_in av ++ List.replicate (nL - (xl_in av).length) none) :
    xl_ok ad ((lg_sl (av.map (xw_v ad)) ++ List.replicate (nL - (lg_sl (av.map (xw_v ad))).length) Slot.unset).toArray) nL lv := by
  refine xl_of (lv_entry (av.map (xw_v ad)) hlen) fun i v h => ?_
  rw [hlv] at h
  by_cases hi : i < (xl_in av).length
  · rw [List.getElem?_append_left hi] at h
    have := xl_in_mem ad av 0 i v h
    rwa [Nat.zero_add] at this
  · rw [List.getElem?_append_right (by omega)] at h
    have := List.eq_of_mem_replicate (List.mem_of_getElem? h)
    cases this
theorem xm_of {g : xw_G} {l : Launch} {ro : Bool} {M : xw_M} {av : List Value} {hp : List va_E} {v : Option Value} {hp' : List va_E} (lv : List (Option Value)) (hy : plainName M.1.cls = true)
    (hlen : (lg_sl (av.map (xw_v (xg_a g)))).length ≤ M.2.2.1) (hlv : lv = xl_in av ++ List.replicate (M.2.2.1 - (xl_in av).length) none)
    (body : ∀ (p : Program) (e : Env) (s : State) (m : MethodId) (args : Array Value) (below : List Frame) (meth : Method) (c : Code), xw_C g M.2.1 M.2.2.1 M.1.cls p s m args c → meth.sig.returnType = M.2.2.2.1 → meth.locks = false →
      xw_At g ro M.2.2.1 p l e (xm_rm M 0) s m args below meth c 0 0 (MQ below (xm_Q g ro v hp') args s 0 0 (xm_fr g ro)) 0 lv [] hp) : xm_R g l ro M av hp v hp' := by
  refine Met.ofW (cc := M.2.1) (maxL := M.2.2.1) (ret := M.2.2.2.1) hy rfl ?_
  intro p e s m args below meth c s₁ B hml hv
  obtain ⟨rfl, hw⟩ := hv
  rw [lg_entry_eq]
  have hts := atoms_spec (ws := xm_ws M) B.pre
  exact body p e s m _ below meth c ⟨B.exec, B.bytes, hml, findClass_of_methodNamed B.named, fun w h => hts w (List.mem_cons_of_mem _ h), hp, hw.c⟩ B.returns B.notSynchronized _ s.heap [] (xl_pad hlen hlv) hw.2.1 hw.1 ⟨va_S.rf, fun _ => ⟨rfl, rfl⟩⟩
section XC
variable {g : xw_G} {ro : Bool} {cc : ByteArray} {nL : Nat} {own : String} {p : Program} {l : Launch} {e : Env} {R : Room} {s : State} {m : MethodId} {args : Array Value} {below : List Frame} {meth : Method} {c : Code} {cells slots : Nat} {Q : State → Prop}
variable {pc : Nat} {lv : List (Option Value)} {st : List Value} {hp : List va_E}
theorem xm_end (C : xw_C g cc nL own p s m args c) {H : Heap} {locs : List Loc} {v : Option Value} (hP : va_P (xg_D g) xw_cl (xw_ws (xg_a g) hp) H) (hn : hp.length = xg_n g) (hS : va_S (xg_A g) s.heap H locs ∧ (ro = true → H = s.heap ∧ locs = [])) :
    (∀ t : State, t.heap = H → s.WarmedH t.vm → xm_Q g ro v hp args s (.returned (v.map (xw_v (xg_a g)))) t) ∧ ∀ q ∈ locs, xm_fr g ro q.base := by
  obtain ⟨-, -, -, -, -, hp0, hW⟩ := C
  refine ⟨fun t ht hw => ⟨rfl, hW.goes hS.1 hP hn ht hw, hS.1.F ht, fun h => by rw [ht]; exact (hS.2 h).1⟩, fun q hq => ?_⟩
  cases ro with
  | true => rw [(hS.2 rfl).2] at hq; cases hq
  | false => exact ⟨rfl, hS.1.2.2 q hq⟩
theorem xa_lret (C : xw_C g cc nL own p s m args c) (hr : meth.sig.returnType = some .long) (hk : meth.locks = false) {x : Int64} (hdg : decode cc pc = .ok (.lreturn, 1)) :
    xw_At g ro nL p l e R s m args below meth c cells slots (MQ below (xm_Q g ro (some (.long x)) hp) args s cells slots (xm_fr g ro)) pc lv [.long x] hp := fun ls H locs hl hP hn hS =>
  W.lret C.1 C.2.1 hr (xm_end (v := some (.long x)) C hP hn hS).1 (xm_end (v := some (.long x)) C hP hn hS).2 hdg hk
theorem xa_iret (C : xw_C g cc nL own p s m args c) (hr : meth.sig.returnType = some .int) (hk : meth.locks = false) {x : Int32} (hdg : decode cc pc = .ok (.ireturn, 1)) :
    xw_At g ro nL p l e R s m args below meth c cells slots (MQ below (xm_Q g ro (some (.int x)) hp) args s cells slots (xm_fr g ro)) pc lv [.int x] hp := fun ls H locs hl hP hn hS =>
  W.iret C.1 C.2.1 hr (xm_end (v := some (.int x)) C hP hn hS).1 (xm_end (v := some (.int x)) C hP hn hS).2 hdg hk
theorem xa_zret (C : xw_C g cc nL own p s m args c) (hr : meth.sig.returnType = some .boolean) (hk : meth.locks = false) {x : Int32} (hx : narrow .boolean (.int x) = .int x) (hdg : decode cc pc = .ok (.ireturn, 1)) :
    xw_At g ro nL p l e R s m args below meth c cells slots (MQ below (xm_Q g ro (some (.int x)) hp) args s cells slots (xm_fr g ro)) pc lv [.int x] hp := fun ls H locs hl hP hn hS =>
  W.zret C.1 C.2.1 hr hx (xm_end (v := some (.int x)) C hP hn hS).1 (xm_end (v := some (.int x)) C hP hn hS).2 hdg hk
theorem xa_vret (C : xw_C g cc nL own p s m args c) (hr : meth.sig.returnType = none) (hk : meth.locks = false) (hdg : decode cc pc = .ok (.return_, 1)) :
    xw_At g ro nL p l e R s m args below meth c cells slots (MQ below (xm_Q g ro none hp) args s cells slots (xm_fr g ro)) pc lv [] hp := fun ls H locs hl hP hn hS =>
  W.vret C.1 C.2.1 hr (xm_end (v := none) C hP hn hS).1 (xm_end (v := none) C hP hn hS).2 hdg hk
/-- behind a call -/
theorem xa_after {ro1 : Bool} {a : Array Value} {v : Option Value} {hp' : List va_E} {rest st0 : List Value} {ls : Array Slot} {H : Heap} {locs : List Loc}
    (run : va_Run p l e R s m args below meth c H locs cells slots 0 0 (F0 m pc ls st0) (rest.map (xw_v (xg_a g))) (xm_Q g ro1 v hp' a) (xm_fr g ro1)) (hl : xl_ok (xg_a g) ls nL lv)
    (hS : va_S (xg_A g) s.heap H locs ∧ (ro = true → H = s.heap ∧ locs = []))
    (k : xw_At g (ro && ro1) nL p l e R s m args below meth c cells slots Q (pc + 3) lv (v.toList ++ rest) hp') : W p l e R s m args below meth c H locs cells slots Q (F0 m pc ls st0) := by
  intro T hT X
  obtain ⟨v', st₀, t, T', L, h0, X', hL, e1, e2, ⟨hv, hWd, hF, hro⟩, go⟩ := run T hT X
  cases hv
  have hS' : va_S (xg_A g) s.heap T'.heap (locs ++ L) := by
    rw [e1]
    refine ⟨Nat.le_trans hS.1.1 (by rw [← h0]; exact hF.1), fun q h1 h2 => ?_, fun q hq => ?_⟩
    · rw [hF.2 q (by rw [h0]; exact Nat.lt_of_lt_of_le h1 hS.1.1) h2, h0]
      exact hS.1.2.1 q h1 h2
    · rcases List.mem_append.mp hq with h | h
      · exact hS.1.2.2 q h
      · exact (hL q h).2
  obtain ⟨t2, a1, b1⟩ := k ls T'.heap (locs ++ L) hl (by rw [e1]; exact hWd.2.1) hWd.1 ⟨hS', fun h => by
    simp only [Bool.and_eq_true] at h
    obtain ⟨r1, r2⟩ := hS.2 h.1
    refine ⟨by rw [e1, hro h.2, h0]; exact r1, ?_⟩
    rw [r2, List.nil_append]
    cases L with
    | nil => rfl
    | cons q L => have := (hL q List.mem_cons_self).1; rw [h.2] at this; cases this⟩ T' rfl X'
  refine ⟨t2, go t2 ?_, b1⟩
  have e3 : (v.toList ++ rest).map (xw_v (xg_a g)) = (v.map (xw_v (xg_a g))).toList ++ rest.map (xw_v (xg_a g)) := by cases v <;> simp
  rw [e3] at a1
  exact a1
def xm_B (own : String) (idx : Nat) (M : xw_M) (n : Nat) : Prop := Cond.code M.1 M.2.1 M.2.2.1 M.2.2.2.1 ∈ xw_tb ∧ Cond.initialized M.1.cls ∈ xw_tb ∧ Cond.methodLink own idx M.1 ∈ xw_tb ∧
  (M.1.cls ≠ "java/lang/invoke/MethodHandle" ∧ M.1.cls ≠ "java/lang/invoke/VarHandle" ∧ (parseMethodDescriptor M.1.desc).map (fun d => d.parameters.length) = some n)
theorem xm_good {M : xw_M} (w1 : Cond.code M.1 M.2.1 M.2.2.1 M.2.2.2.1 ∈ xw_tb) : GoodIn xw_tb (xm_ws M) := fun w h => by
  rcases List.mem_cons.mp h with rfl | h
  · exact ⟨w1, good_of_word (xw_tb_good _ w1)⟩
  · exact ⟨h, good_of_word (xw_tb_good _ h)⟩
theorem xm_cats (ad : Nat → Nat) (rest : List Value) : ((rest.map (xw_v ad)).map fun v => v.category).sum = (rest.map fun v => v.category).sum := by
  rw [List.map_map]
  congr 1
  apply List.map_congr_left
  intro v _
  exact xw_cat ad v
theorem xa_callS (C : xw_C g cc nL own p s m args c) {ro1 : Bool} {M : xw_M} {idx : Nat} {av rest : List Value} {v : Option Value} {hp' : List va_E} (hM : xm_R g l ro1 M av hp v hp') (hw : xm_B own idx M av.length) (hst : Cond.static M.1 ∈ xw_tb)
    (hdg : decode cc pc = .ok (.invokestatic idx, 3)) (hs : st = av.reverse ++ rest) (hwt : (rest.map fun v => v.category).sum ≤ 8) (hR : M.2.2.2.2.1 + 1 ≤ R.frames ∧ 8 + (M.2.2.1 + 11) + M.2.2.2.2.2 ≤ R.locals) (hcl : cells ≤ R.cells ∧ slots ≤ R.slots)
    (k : xw_At g (ro && ro1) nL p l e R s m args below meth c cells slots Q (pc + 3) lv (v.toList ++ rest) hp') : xw_At g ro nL p l e R s m args below meth c cells slots Q pc lv st hp := by
  intro ls H locs hl hP hn hS
  subst hs
  have hC := C
  obtain ⟨hx, hb, hml, hown, hts, hp0, hW⟩ := C
  obtain ⟨w1, w2, w3, w5⟩ := hw
  have cb := callB_of (Ts := xw_tb) (R := R) (args := args) (s := s) (own := own) (index := idx) (y := M.1) (bytes := M.2.1) (maxL := M.2.2.1) (ret := M.2.2.2.1) (ws := xm_ws M) (ws' := xw_tb) (rm := xm_rm M 0) (mc := 0) (ms := 0) av.length hts (xm_good w1) rfl rfl rfl (hts _ w2) (hts _ w3) w5 hR
  refine xa_after (rest := rest) (va_runS (Ts := xw_tb) (As := av.map (xw_v (xg_a g))) ⟨hx, hb, hml, hown, hts⟩ hM ⟨cb, hts _ hst⟩ ⟨xm_blind _ _ _, fun U hU hWU => ⟨rfl, hW.goes hS.1 hP hn hU hWU⟩⟩ rfl (by simp) hl.1 ?_ ?_ hdg hcl) hl hS k
  · simp [List.map_append, List.map_reverse]
  · exact lv_room (by rw [xm_cats]; exact hwt)
theorem xa_callV (C : xw_C g cc nL own p s m args c) {ro1 : Bool} {M : xw_M} {idx i ci : Nat} {q : vw_C} {fs : List Value} {av rest : List Value} {v : Option Value} {hp' : List va_E} (hM : xm_R g l ro1 M (.ref i :: av) hp v hp') (hw : xm_B own idx M av.length) (hin : Cond.instanceMethod M.1 ∈ xw_tb) (hse : Cond.selects M.1.cls M.1 M.1 ∈ xw_tb)
    (hdg : decode cc pc = .ok (.invokevirtual idx, 3)) (hs : st = av.reverse ++ .ref i :: rest) (ho : hp[i]? = some (.inr (ci, fs))) (hci : xw_cl[ci]? = some q) (hq : q.1 = M.1.cls) (hwt : (rest.map fun v => v.category).sum ≤ 8) (hR : M.2.2.2.2.1 + 1 ≤ R.frames ∧ 8 + (M.2.2.1 + 11) + M.2.2.2.2.2 ≤ R.locals) (hcl : cells ≤ R.cells ∧ slots ≤ R.slots)
    (k : xw_At g (ro && ro1) nL p l e R s m args below meth c cells slots Q (pc + 3) lv (v.toList ++ rest) hp') : xw_At g ro nL p l e R s m args below meth c cells slots Q pc lv st hp := by
  intro ls H locs hl hP hn hS
  subst hs
  have hC := C
  obtain ⟨hx, hb, hml, hown, hts, hp0, hW⟩ := C
  obtain ⟨w1, w2, w3, w5⟩ := hw
  have cb := callB_of (Ts := xw_tb) (R := R) (args := args) (s := s) (own := own) (index := idx) (y := M.1) (bytes := M.2.1) (maxL := M.2.2.1) (ret := M.2.2.2.1) (ws := xm_ws M) (ws' := xw_tb) (rm := xm_rm M 0) (mc := 0) (ms := 0) av.length hts (xm_good w1) rfl rfl rfl (hts _ w2) (hts _ w3) w5 hR
  have hrec := va_recv hW.2.2.1 hP hci (xw_get ho)
  rw [hq] at hrec
  refine xa_after (rest := rest) (va_runV (Ts := xw_tb) (C := M.1.cls) (b := xg_a g i) (As := av.map (xw_v (xg_a g))) ⟨hx, hb, hml, hown, hts⟩ hM ⟨cb, hts _ hin, hts _ hse⟩ ⟨xm_blind _ _ _, hrec, fun U hU hWU => ⟨rfl, hW.goes hS.1 hP hn hU hWU⟩⟩ rfl (by simp) hl.1 ?_ ?_ hdg hcl) hl hS k
  · simp [List.map_append, List.map_reverse, xw_v]
  · exact lv_room (by rw [xm_cats]; exact hwt)
/-- the call's answer on the stack -/
theorem xa_callS1 (C : xw_C g cc nL own p s m args c) {ro1 : Bool} {M : xw_M} {idx : Nat} {av rest : List Value} {x : Value} {hp' : List va_E} (hM : xm_R g l ro1 M av hp (some x) hp') (hw : xm_B own idx M av.length) (hst : Cond.static M.1 ∈ xw_tb)
    (hdg : decode cc pc = .ok (.invokestatic idx, 3)) (hs : st = av.reverse ++ rest) (hwt : (rest.map fun v => v.category).sum ≤ 8) (hR : M.2.2.2.2.1 + 1 ≤ R.frames ∧ 8 + (M.2.2.1 + 11) + M.2.2.2.2.2 ≤ R.locals) (hcl : cells ≤ R.cells ∧ slots ≤ R.slots)
    (k : xw_At g (ro && ro1) nL p l e R s m args below meth c cells slots Q (pc + 3) lv (x :: rest) hp') : xw_At g ro nL p l e R s m args below meth c cells slots Q pc lv st hp := xa_callS C hM hw hst hdg hs hwt hR hcl k
theorem xa_callV1 (C : xw_C g cc nL own p s m args c) {ro1 : Bool} {M : xw_M} {idx i ci : Nat} {q : vw_C} {fs : List Value} {av rest : List Value} {x : Value} {hp' : List va_E} (hM : xm_R g l ro1 M (.ref i :: av) hp (some x) hp') (hw : xm_B own idx M av.length) (hin : Cond.instanceMethod M.1 ∈ xw_tb) (hse : Cond.selects M.1.cls M.1 M.1 ∈ xw_tb)
    (hdg : decode cc pc = .ok (.invokevirtual idx, 3)) (hs : st = av.reverse ++ .ref i :: rest) (ho : hp[i]? = some (.inr (ci, fs))) (hci : xw_cl[ci]? = some q) (hq : q.1 = M.1.cls) (hwt : (rest.map fun v => v.category).sum ≤ 8) (hR : M.2.2.2.2.1 + 1 ≤ R.frames ∧ 8 + (M.2.2.1 + 11) + M.2.2.2.2.2 ≤ R.locals) (hcl : cells ≤ R.cells ∧ slots ≤ R.slots)
    (k : xw_At g (ro && ro1) nL p l e R s m args below meth c cells slots Q (pc + 3) lv (x :: rest) hp') : xw_At g ro nL p l e R s m args below meth c cells slots Q pc lv st hp := xa_callV C hM hw hin hse hdg hs ho hci hq hwt hR hcl k
theorem xa_callVv (C : xw_C g cc nL own p s m args c) {ro1 : Bool} {M : xw_M} {idx i ci : Nat} {q : vw_C} {fs : List Value} {av rest : List Value} {hp' : List va_E} (hM : xm_R g l ro1 M (.ref i :: av) hp none hp') (hw : xm_B own idx M av.length) (hin : Cond.instanceMethod M.1 ∈ xw_tb) (hse : Cond.selects M.1.cls M.1 M.1 ∈ xw_tb)
    (hdg : decode cc pc = .ok (.invokevirtual idx, 3)) (hs : st = av.reverse ++ .ref i :: rest) (ho : hp[i]? = some (.inr (ci, fs))) (hci : xw_cl[ci]? = some q) (hq : q.1 = M.1.cls) (hwt : (rest.map fun v => v.category).sum ≤ 8) (hR : M.2.2.2.2.1 + 1 ≤ R.frames ∧ 8 + (M.2.2.1 + 11) + M.2.2.2.2.2 ≤ R.locals) (hcl : cells ≤ R.cells ∧ slots ≤ R.slots)
    (k : xw_At g (ro && ro1) nL p l e R s m args below meth c cells slots Q (pc + 3) lv rest hp') : xw_At g ro nL p l e R s m args below meth c cells slots Q pc lv st hp := xa_callV C hM hw hin hse hdg hs ho hci hq hwt hR hcl k
end XC
