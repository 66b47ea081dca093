/-! calls while the objects are made -/
abbrev xn_rm (M : xw_M) (mc ms : Nat) : Room := { frames := M.2.2.2.2.1, cells := mc, slots := ms, locals := M.2.2.2.2.2 }
def xn_Q (κ : xn_K) (hp : List va_E) : Array Value → State → Outcome → State → Prop := fun _ st oc t => oc = .returned none ∧ xn_Wd κ hp t ∧ va_F (xn_B κ) st t
def xn_R (κ : xn_K) (l : Launch) (M : xw_M) (mc ms : Nat) (av : List Value) (hp hp' : List va_E) : Prop :=
  Met l M.1 (xm_ws M) (xn_rm M mc ms) (va_Pc (av.map (xw_v (xn_f κ))) (xn_Wd κ hp)) (xn_Q κ hp') mc ms (xn_B κ)
theorem xn_Wd.same {κ : xn_K} {hp : List va_E} {s t : State} (h : xn_Wd κ hp s) (ht : t.heap = s.heap) (hw : s.WarmedH t.vm) : xn_Wd κ hp t :=
  ⟨by rw [ht]; exact h.1, by rw [ht]; exact h.2.1, h.2.2.goes (locs := []) va_S.rf ht hw⟩
theorem xn_blind (κ : xn_K) (av : List Value) (hp : List va_E) : FrameBlind (va_Pc av (xn_Wd κ hp)) := fun a U f mk q => ⟨q.1, q.2.same (t := U.calling f mk a) rfl (State.WarmedH.refl U)⟩
theorem xn_of {κ : xn_K} {l : Launch} {M : xw_M} {mc ms : Nat} {av : List Value} {hp hp' : List va_E} (lv : List (Option Value)) (hy : plainName M.1.cls = true)
    (hlen : (lg_sl (av.map (xw_v (xn_f κ)))).length ≤ M.2.2.1) (hlv : lv = xl_in av ++ List.replicate (M.2.2.1 - (xl_in av).length) none)
    (body : ∀ (p : Program) (e : Env) (s : State) (m : MethodId) (args : Array Value) (below : List Frame) (meth : Method) (c : Code), xn_C κ M.2.1 M.2.2.1 M.1.cls p s m args c → meth.name = M.1.name → meth.sig.returnType = M.2.2.2.1 → meth.locks = false →
      xn_At κ M.2.2.1 p l e (xn_rm M mc ms) s m args below meth c 0 0 (MQ below (xn_Q κ hp') args s mc ms (xn_B κ)) 0 lv [] hp) : xn_R κ l M mc ms av hp hp' := by
  refine Met.ofW (cc := M.2.1) (maxL := M.2.2.1) (ret := M.2.2.2.1) hy rfl ?_
  intro p e s m args below meth c s₁ B hml hv
  obtain ⟨rfl, hw⟩ := hv
  rw [lg_entry_eq]
  have hts := atoms_spec (ws := xm_ws M) B.pre
  exact body p e s m _ below meth c ⟨B.exec, B.bytes, hml, findClass_of_methodNamed B.named, fun w h => hts w (List.mem_cons_of_mem _ h), hw.2.2⟩ (name_of_methodNamed B.named B.method).1 B.returns B.notSynchronized _ s.heap [] (xl_pad hlen hlv) hw.2.1 hw.1 va_S.rf
section XNC
variable {κ : xn_K} {cc : ByteArray} {nL : Nat} {own : String} {p : Program} {l : Launch} {e : Env} {R : Room} {s : State} {m : MethodId} {args : Array Value} {below : List Frame} {meth : Method} {c : Code} {cells slots : Nat} {Q : State → Prop}
variable {pc : Nat} {lv : List (Option Value)} {st : List Value} {hp : List va_E}
theorem xn_vret (C : xn_C κ cc nL own p s m args c) (hr : meth.sig.returnType = none) (hk : meth.locks = false) {mc ms : Nat} (h1 : cells ≤ mc) (h2 : slots ≤ ms) (hdg : decode cc pc = .ok (.return_, 1)) :
    xn_At κ nL p l e R s m args below meth c cells slots (MQ below (xn_Q κ hp) args s mc ms (xn_B κ)) pc lv [] hp := fun ls H locs hl hP hn hS =>
  W.widen h1 h2 (W.vret C.1 C.2.1 hr (fun t ht hw => ⟨rfl, ⟨by rw [ht]; exact hn, by rw [ht]; exact hP, C.2.2.2.2.2.goes hS ht hw⟩, hS.F ht⟩) (fun q hq => hS.2.2 q hq) hdg hk)
theorem xn_callI (C : xn_C κ cc nL own p s m args c) {M : xw_M} {mc ms idx i : Nat} {av rest : List Value} {hp' : List va_E} (hM : xn_R κ l M mc ms (.ref i :: av) hp hp') (hw : xm_B own idx M av.length) (hin : Cond.instanceMethod M.1 ∈ xw_tb) (hnm : M.1.name = "<init>") (hrt : M.2.2.2.1 = none)
    (hdg : decode cc pc = .ok (.invokespecial idx, 3)) (hs : st = av.reverse ++ .ref i :: rest) (hwt : (rest.map fun v => v.category).sum ≤ 8) (hR : M.2.2.2.2.1 + 1 ≤ R.frames ∧ 8 + (M.2.2.1 + 11) + M.2.2.2.2.2 ≤ R.locals) (hcl : cells + mc ≤ R.cells ∧ slots + ms ≤ R.slots)
    (k : xn_At κ nL p l e R s m args below meth c (cells + mc) (slots + ms) Q (pc + 3) lv rest hp') : xn_At κ nL p l e R s m args below meth c cells slots Q pc lv st hp := by
  intro ls H locs hl hP hn hS
  subst hs
  obtain ⟨hx, hb, hml, hown, hts, hW⟩ := C
  obtain ⟨w1, w2, w3, w5⟩ := hw
  have cb := callB_of (Ts := xw_tb) (R := R) (args := args) (s := s) (own := own) (index := idx) (y := M.1) (bytes := M.2.1) (maxL := M.2.2.1) (ret := M.2.2.2.1) (ws := xm_ws M) (ws' := xw_tb) (rm := xn_rm M mc ms) (mc := mc) (ms := ms) av.length hts (xm_good w1) rfl rfl rfl (hts _ w2) (hts _ w3) w5 hR
  rw [hrt] at cb
  have run := va_runI (Ts := xw_tb) (locs := locs) (b := xn_f κ i) (As := av.map (xw_v (xn_f κ))) (rest := rest.map (xw_v (xn_f κ))) (cells := cells) (slots := slots) (p := p) (e := e) (below := below) (meth := meth) (c := c) (H := H) (g := F0 m pc ls ((av.reverse ++ .ref i :: rest).map (xw_v (xn_f κ)))) ⟨hx, hb, hml, hown, hts⟩ hM ⟨cb, hnm, hts _ hin⟩ ⟨xn_blind _ _ _, fun U hU hWU => ⟨rfl, by rw [hU]; exact hn, by rw [hU]; exact hP, hW.goes hS hU hWU⟩⟩ rfl (by simp) hl.1 (by simp [List.map_append, List.map_reverse, xw_v]) (lv_room (by rw [xm_cats]; exact hwt)) hdg hcl
  intro T hT X
  obtain ⟨v', st₀, t, T', L, h0, X', hL, e1, e2, ⟨hv, hWd, hF⟩, go⟩ := run T hT X
  cases hv
  have hS' : va_S (xn_B κ) s.heap T'.heap (locs ++ L) := by
    rw [e1]
    refine ⟨Nat.le_trans hS.1 (by rw [← h0]; exact hF.1), fun q h1 h2 => ?_, fun q hq => ?_⟩
    · rw [hF.2 q (by rw [h0]; exact Nat.lt_of_lt_of_le h1 hS.1) h2, h0]
      exact hS.2.1 q h1 h2
    · rcases List.mem_append.mp hq with h | h
      · exact hS.2.2 q h
      · exact hL q h
  obtain ⟨t2, a1, b1⟩ := k ls T'.heap (locs ++ L) hl (by rw [e1]; exact hWd.2.1) (by rw [e1]; exact hWd.1) hS' T' rfl X'
  exact ⟨t2, go t2 a1, b1⟩
theorem xn_callS (C : xn_C κ cc nL own p s m args c) {M : xw_M} {idx n : Nat} {av rest : List Value} {x : Value} (hM : xm_R (xn_g κ n) l true M av hp (some x) hp) (hn0 : hp.length = n) (hn1 : n ≤ 1000) (hw : xm_B own idx M av.length) (hst : Cond.static M.1 ∈ xw_tb)
    (hdg : decode cc pc = .ok (.invokestatic idx, 3)) (hs : st = av.reverse ++ rest) (hwt : (rest.map fun v => v.category).sum ≤ 8) (hR : M.2.2.2.2.1 + 1 ≤ R.frames ∧ 8 + (M.2.2.1 + 11) + M.2.2.2.2.2 ≤ R.locals) (hcl : cells ≤ R.cells ∧ slots ≤ R.slots)
    (k : xn_At κ nL p l e R s m args below meth c cells slots Q (pc + 3) lv (x :: rest) hp) : xn_At κ nL p l e R s m args below meth c cells slots Q pc lv st hp := by
  intro ls H locs hl hP hn hS
  subst hs
  subst hn0
  obtain ⟨hx, hb, hml, hown, hts, hW⟩ := C
  obtain ⟨w1, w2, w3, w5⟩ := hw
  have cb := callB_of (Ts := xw_tb) (R := R) (args := args) (s := s) (own := own) (index := idx) (y := M.1) (bytes := M.2.1) (maxL := M.2.2.1) (ret := M.2.2.2.1) (ws := xm_ws M) (ws' := xw_tb) (rm := xm_rm M 0) (mc := 0) (ms := 0) av.length hts (xm_good w1) rfl rfl rfl (hts _ w2) (hts _ w3) w5 hR
  have run := va_runS (Ts := xw_tb) (locs := locs) (As := av.map (xw_v (xn_f κ))) (rest := rest.map (xw_v (xn_f κ))) (cells := cells) (slots := slots) (p := p) (e := e) (below := below) (meth := meth) (c := c) (H := H) (g := F0 m pc ls ((av.reverse ++ rest).map (xw_v (xn_f κ)))) ⟨hx, hb, hml, hown, hts⟩ hM ⟨cb, hts _ hst⟩ ⟨xm_blind _ _ _, fun U hU hWU => ⟨rfl, rfl, by rw [hU]; exact hP, ((hW.goes hS hU hWU).g hn1).2.2⟩⟩ rfl (by simp) hl.1 (by simp [List.map_append, List.map_reverse]) (lv_room (by rw [xm_cats]; exact hwt)) hdg hcl
  intro T hT X
  obtain ⟨v', st₀, t, T', L, h0, X', hL, e1, e2, ⟨hv, hWd, hF, hro⟩, go⟩ := run T hT X
  cases hv
  have hH : T'.heap = H := by rw [e1, hro rfl, h0]
  have hL0 : L = [] := by
    cases L with
    | nil => rfl
    | cons q L => have := (hL q List.mem_cons_self).1; cases this
  subst hL0
  rw [List.append_nil] at X'
  obtain ⟨t2, a1, b1⟩ := k ls H locs hl hP hn hS T' hH X'
  exact ⟨t2, go t2 a1, b1⟩
end XNC
