/-! making the objects: each cell is made at the next place, so that place i is at the address h + i -/
abbrev xn_K : Type := Nat × Nat × va_G × ClassId × ClassId × Nat × (Nat → Int32)
def xn_a (h b : Nat) : Nat → Nat := fun i => if i = 1000 then b else h + i
abbrev xn_g (κ : xn_K) (n : Nat) : xw_G := (xn_a κ.1 κ.2.1, n, κ.2.2)
abbrev xn_f (κ : xn_K) : Nat → Nat := xn_a κ.1 κ.2.1
def xn_B (κ : xn_K) : Nat → Prop := fun q => κ.1 ≤ q
theorem xn_at {κ : xn_K} {i : Nat} (h : i < 1000) : xn_f κ i = κ.1 + i := if_neg (by omega)
theorem xn_A {κ : xn_K} {n q : Nat} (hn : n ≤ 1000) (h : xg_A (xn_g κ n) q) : xn_B κ q := by
  obtain ⟨i, hi, rfl⟩ := h
  have hi : i < n := hi
  show κ.1 ≤ xn_f κ i
  rw [xn_at (by omega)]
  omega
theorem xn_inj {κ : xn_K} {n : Nat} (hn : n ≤ 1000) : ∀ i j : Nat, i < n → j < n → xn_f κ i = xn_f κ j → i = j := by
  intro i j hi hj h
  rw [xn_at (by omega), xn_at (by omega)] at h
  omega
theorem xn_D {κ : xn_K} {hp : List va_E} (hn : hp.length ≤ 1000) : va_D (xn_B κ) (xw_ws (xn_f κ) hp) := (xw_D (xn_inj (κ := κ) hn) rfl).weaken (fun _ _ _ h => xn_A hn h)
def xn_Wo (κ : xn_K) (U : State) : Prop := κ.1 ≤ U.heap.size ∧ va_K κ.2.2.1 xw_cl (xg_t (xn_g κ 0)) U ∧ va_X κ.2.1 (xg_L (xn_g κ 0)) (xg_x (xn_g κ 0)) U U.heap ∧ κ.2.1 < κ.1 ∧ xw_Th (xn_B κ) U
theorem xn_Wo.goes {κ : xn_K} {s t : State} {H : Heap} {locs : List Loc} (h : xn_Wo κ s) (hS : va_S (xn_B κ) s.heap H locs) (ht : t.heap = H) (hw : s.WarmedH t.vm) : xn_Wo κ t := by
  obtain ⟨h1, h2, h3, h4, h5, h6, h7, h8⟩ := h
  subst ht
  have hvm := hw.alike
  exact ⟨Nat.le_trans h1 hS.1, va_K.moved hvm h2, xw_X_moved hvm h3 (hS.2.1 _ (Nat.lt_of_lt_of_le h4 h1) (fun q => absurd q (Nat.not_le.mpr h4))), h4, h5.go hw, xw_Z.moved hvm (h6.kept hS.2.1), xw_Z.moved hvm (h7.kept hS.2.1), va_Nc.moved hvm h8⟩
theorem xn_Wo.g {κ : xn_K} {n : Nat} {s : State} (h : xn_Wo κ s) (hn : n ≤ 1000) : xw_Wc (xn_g κ n) [] s := by
  obtain ⟨h1, h2, h3, h4, h5, h6, h7, h8⟩ := h
  have e : xg_a (xn_g κ n) xw_sp = κ.2.1 := by
    show (if xw_sp = 1000 then κ.2.1 else κ.1 + xw_sp) = κ.2.1
    exact if_pos rfl
  refine ⟨trivial, trivial, h2, xn_inj hn, ?_, ?_, ?_, h5, h6.narrow (fun q => xn_A hn), h7.narrow (fun q => xn_A hn), h8⟩
  · rw [e]; exact h3
  · rw [e]; exact Nat.lt_of_lt_of_le h4 h1
  · rw [e]; exact fun q => absurd (xn_A hn q) (Nat.not_le.mpr h4)
def xn_Wd (κ : xn_K) (hp : List va_E) (U : State) : Prop := U.heap.size = κ.1 + hp.length ∧ va_P κ.2.2.1 xw_cl (xw_ws (xn_f κ) hp) U.heap ∧ xn_Wo κ U
def xn_C (κ : xn_K) (cc : ByteArray) (nL : Nat) (own : String) (p : Program) (s : State) (m : MethodId) (args : Array Value) (c : Code) : Prop :=
  p.tables.exec = Jvm.exec ∧ c.code = cc ∧ c.maxLocals = nL ∧ s.vm.findClass own = some m.cls ∧ (∀ w ∈ xw_tb, w.before args s = true) ∧ xn_Wo κ s
def xn_At (κ : xn_K) (nL : Nat) (p : Program) (l : Launch) (e : Env) (R : Room) (s : State) (m : MethodId) (args : Array Value) (below : List Frame) (meth : Method) (c : Code) (cells slots : Nat) (Q : State → Prop) (pc : Nat) (lv : List (Option Value)) (st : List Value) (hp : List va_E) : Prop :=
  ∀ (ls : Array Slot) (H : Heap) (locs : List Loc), xl_ok (xn_f κ) ls nL lv → va_P κ.2.2.1 xw_cl (xw_ws (xn_f κ) hp) H → H.size = κ.1 + hp.length → va_S (xn_B κ) s.heap H locs →
    W p l e R s m args below meth c H locs cells slots Q (F0 m pc ls (st.map (xw_v (xn_f κ))))
section XN
variable {κ : xn_K} {cc : ByteArray} {nL : Nat} {own : String} {p : Program} {l : Launch} {e : Env} {R : Room} {s : State} {m : MethodId} {args : Array Value} {below : List Frame} {meth : Method} {c : Code} {cells slots : Nat} {Q : State → Prop}
variable {pc : Nat} {lv : List (Option Value)} {st : List Value} {hp : List va_E}
theorem xn_eq {lv' : List (Option Value)} {st' : List Value} {hp' : List va_E} (h1 : lv = lv') (h2 : st = st') (h3 : hp = hp') (k : xn_At κ nL p l e R s m args below meth c cells slots Q pc lv' st' hp') : xn_At κ nL p l e R s m args below meth c cells slots Q pc lv st hp := by
  subst h1; subst h2; subst h3; exact k
theorem xn_iload_n (C : xn_C κ cc nL own p s m args c) {i : Fin 4} {x : Int32} (hdg : decode cc pc = .ok (.iload_n i, 1)) (hv : lv[(i : Nat)]? = some (some (.int x))) (k : xn_At κ nL p l e R s m args below meth c cells slots Q (pc + 1) lv (.int x :: st) hp) : xn_At κ nL p l e R s m args below meth c cells slots Q (pc) lv (st) hp := fun ls H locs hl hP hn hS => lv_iload_n C.1 C.2.1 hdg rfl (hl.2.2 _ _ hv) (k ls H locs hl hP hn hS)
theorem xn_aload_n (C : xn_C κ cc nL own p s m args c) {i : Fin 4} {x : Nat} (hdg : decode cc pc = .ok (.aload_n i, 1)) (hv : lv[(i : Nat)]? = some (some (.ref x))) (k : xn_At κ nL p l e R s m args below meth c cells slots Q (pc + 1) lv (.ref x :: st) hp) : xn_At κ nL p l e R s m args below meth c cells slots Q (pc) lv (st) hp := fun ls H locs hl hP hn hS => lv_aload_n C.1 C.2.1 hdg rfl (hl.2.2 _ _ hv) (k ls H locs hl hP hn hS)
theorem xn_istore (C : xn_C κ cc nL own p s m args c) {i : Nat} {x : Int32} (hdg : decode cc pc = .ok (.istore i, 2)) (hi : (i : Nat) < nL) (k : xn_At κ nL p l e R s m args below meth c cells slots Q (pc + 2) (xl_1 lv (i : Nat) (.int x)) (st) hp) : xn_At κ nL p l e R s m args below meth c cells slots Q (pc) lv (.int x :: st) hp := fun ls H locs hl hP hn hS => lv_istore C.1 C.2.1 hdg (xl_has hl) hi rfl (fun ls2 h2 => k ls2 H locs (xl_st1 h2) hP hn hS)
theorem xn_astore_n (C : xn_C κ cc nL own p s m args c) {i : Fin 4} {x : Nat} (hdg : decode cc pc = .ok (.astore_n i, 1)) (hi : (i : Nat) < nL) (k : xn_At κ nL p l e R s m args below meth c cells slots Q (pc + 1) (xl_1 lv (i : Nat) (.ref x)) (st) hp) : xn_At κ nL p l e R s m args below meth c cells slots Q (pc) lv (.ref x :: st) hp := fun ls H locs hl hP hn hS => lv_astore_n C.1 C.2.1 hdg rfl (xl_has hl) hi rfl (fun ls2 h2 => k ls2 H locs (xl_st1 h2) hP hn hS)
theorem xn_iadd (C : xn_C κ cc nL own p s m args c) {x y : Int32} (hdg : decode cc pc = .ok (.iadd, 1))  (k : xn_At κ nL p l e R s m args below meth c cells slots Q (pc + 1) lv (.int (x + y) :: st) hp) : xn_At κ nL p l e R s m args below meth c cells slots Q (pc) lv (.int y :: .int x :: st) hp := fun ls H locs hl hP hn hS => lv_iadd C.1 C.2.1 hdg (k ls H locs hl hP hn hS)
theorem xn_dup (C : xn_C κ cc nL own p s m args c) {v : Value} (hdg : decode cc pc = .ok (.dup, 1)) (hv : v.category = 1) (k : xn_At κ nL p l e R s m args below meth c cells slots Q (pc + 1) lv (v :: v :: st) hp) : xn_At κ nL p l e R s m args below meth c cells slots Q (pc) lv (v :: st) hp := fun ls H locs hl hP hn hS => lv_dup C.1 C.2.1 hdg ((xw_cat _ _).trans hv) (k ls H locs hl hP hn hS)
theorem xn_goto (C : xn_C κ cc nL own p s m args c) {off : Int} {tgt : Nat} (hdg : decode cc pc = .ok (.goto off, 3)) (ht : (pc : Int) + off = (tgt : Int)) (k : xn_At κ nL p l e R s m args below meth c cells slots Q (tgt) lv (st) hp) : xn_At κ nL p l e R s m args below meth c cells slots Q (pc) lv (st) hp := fun ls H locs hl hP hn hS => lv_goto C.1 C.2.1 hdg ht (k ls H locs hl hP hn hS)
theorem xn_icmp_ge (C : xn_C κ cc nL own p s m args c) {x y : Int32} {off : Int} {tgt : Nat} (hdg : decode cc pc = .ok (.if_icmp .ge off, 3)) (ht : (pc : Int) + off = (tgt : Int)) (kt : y ≤ x → xn_At κ nL p l e R s m args below meth c cells slots Q (tgt) lv (st) hp) (kf : ¬ y ≤ x → xn_At κ nL p l e R s m args below meth c cells slots Q (pc + 3) lv (st) hp) : xn_At κ nL p l e R s m args below meth c cells slots Q (pc) lv (.int y :: .int x :: st) hp := fun ls H locs hl hP hn hS => lv_icmp_ge C.1 C.2.1 hdg ht (fun q => kt q ls H locs hl hP hn hS) (fun q => kf q ls H locs hl hP hn hS)
theorem xn_icmp_le (C : xn_C κ cc nL own p s m args c) {x y : Int32} {off : Int} {tgt : Nat} (hdg : decode cc pc = .ok (.if_icmp .le off, 3)) (ht : (pc : Int) + off = (tgt : Int)) (kt : x ≤ y → xn_At κ nL p l e R s m args below meth c cells slots Q (tgt) lv (st) hp) (kf : ¬ x ≤ y → xn_At κ nL p l e R s m args below meth c cells slots Q (pc + 3) lv (st) hp) : xn_At κ nL p l e R s m args below meth c cells slots Q (pc) lv (.int y :: .int x :: st) hp := fun ls H locs hl hP hn hS => lv_icmp_le C.1 C.2.1 hdg ht (fun q => kt q ls H locs hl hP hn hS) (fun q => kf q ls H locs hl hP hn hS)
theorem xn_icN (C : xn_C κ cc nL own p s m args c) (q : Nat) (hdg : decode cc pc = .ok (.iconst (q : Int), 1))  (k : xn_At κ nL p l e R s m args below meth c cells slots Q (pc + 1) lv (.int (nI q) :: st) hp) : xn_At κ nL p l e R s m args below meth c cells slots Q (pc) lv (st) hp := fun ls H locs hl hP hn hS => lv_iconst C.1 C.2.1 hdg (by first | exact Int32.ofInt_eq_ofNat | (apply Int32.toBitVec_inj.mp; simp [nI])) (k ls H locs hl hP hn hS)
theorem xn_bpN (C : xn_C κ cc nL own p s m args c) (q : Nat) (hdg : decode cc pc = .ok (.bipush (q : Int), 2)) (hq : (Int8.ofInt (q : Int)).toInt32 = nI q) (k : xn_At κ nL p l e R s m args below meth c cells slots Q (pc + 2) lv (.int (nI q) :: st) hp) : xn_At κ nL p l e R s m args below meth c cells slots Q (pc) lv (st) hp := fun ls H locs hl hP hn hS => lv_bipush C.1 C.2.1 hdg hq (k ls H locs hl hP hn hS)
theorem xn_widen {k n : Nat} (h1 : cells ≤ k) (h2 : slots ≤ n) (kk : xn_At κ nL p l e R s m args below meth c k n Q pc lv st hp) : xn_At κ nL p l e R s m args below meth c cells slots Q pc lv st hp := fun ls H locs hl hP hn hS => W.widen h1 h2 (kk ls H locs hl hP hn hS)
theorem xn_addN (C : xn_C κ cc nL own p s m args c) {a b : Nat} (hdg : decode cc pc = .ok (.iadd, 1)) (k : xn_At κ nL p l e R s m args below meth c cells slots Q (pc + 1) lv (.int (nI (a + b)) :: st) hp) : xn_At κ nL p l e R s m args below meth c cells slots Q pc lv (.int (nI b) :: .int (nI a) :: st) hp := xn_iadd C hdg (by rw [nI_add]; exact k)
theorem xn_get (C : xn_C κ cc nL own p s m args c) {idx ci k i : Nat} {fs : List Value} {v : Value} (hf : xf_ok own idx ci k) (hdg : decode cc pc = .ok (.getfield idx, 3)) (ho : hp[i]? = some (.inr (ci, fs))) (hv : fs[k]? = some v) (kk : xn_At κ nL p l e R s m args below meth c cells slots Q (pc + 3) lv (v :: st) hp) : xn_At κ nL p l e R s m args below meth c cells slots Q pc lv (.ref i :: st) hp := fun ls H locs hl hP hn hS => by
  obtain ⟨⟨Cn, T, N⟩, h1, h2, h3, h4⟩ := hf
  obtain ⟨hx, hb, -, hown, hts, hW⟩ := C
  exact va_get (D := κ.2.2.1) (v := xw_v (xn_f κ) v) hx hb hts h2 hown hW.2.1 hP i (xw_get ho) h1 k h3 (hts _ h4) (fun _ h9 => h9) (by simp [hv]) hdg (kk ls H locs hl hP hn hS)
def xf_fin (own : String) (ci k : Nat) (ty : FieldType) : Prop := ∃ q : vw_C, xw_cl[ci]? = some q ∧ (∃ ty0 : Nat → FieldType, ∀ k, k < q.2.2 → parseFieldDescriptor (q.2.1 k).2.2.1 = some (ty0 k)) ∧ (∀ a, a < q.2.2 → ∀ b, b < q.2.2 → a ≠ b → (q.2.1 a).2.1 ≠ (q.2.1 b).2.1) ∧ (q.2.1 k).2.2.2 = true ∧ parseFieldDescriptor (q.2.1 k).2.2.1 = some ty ∧ (q.2.1 k).1 = own
theorem xn_put (C : xn_C κ cc nL own p s m args c) (hin2 : meth.name = "<init>") {idx ci k i : Nat} {fs : List Value} {v : Value} {ty : FieldType} (hf : xf_ok own idx ci k) (hu : xf_fin own ci k ty) (hlen : hp.length ≤ 1000) (hdg : decode cc pc = .ok (.putfield idx, 3)) (ho : hp[i]? = some (.inr (ci, fs))) (hk : k < fs.length) (hna : narrow ty (xw_v (xn_f κ) v) = xw_v (xn_f κ) v) (hft : fits ty (xw_v (xn_f κ) v) = true)
    {hp' : List va_E} (hh : hp.set i (.inr (ci, fs.set k v)) = hp') (kk : xn_At κ nL p l e R s m args below meth c cells slots Q (pc + 3) lv st hp') : xn_At κ nL p l e R s m args below meth c cells slots Q pc lv (v :: .ref i :: st) hp := fun ls H locs hl hP hn hS => by
  subst hh
  obtain ⟨⟨Cn, T, N⟩, h1, h2, h3, h4⟩ := hf
  obtain ⟨r0, k1, ⟨ty0, k2⟩, k3, k4, k5, k6⟩ := hu
  cases h1.symm.trans k1
  obtain ⟨hx, hb, -, hown, hts, hW⟩ := C
  have hD := xn_D (κ := κ) hlen
  have he := xw_get (ad := xn_f κ) ho
  have hap := va_apart (own := own) hts h2 ty0 k2 k3 hW.2.1 h1
  obtain ⟨r, g1, cell, q1, q2, q3, q4⟩ := hP i _ he
  cases g1.symm.trans h1
  obtain ⟨hSl, hfc, kC, hkC, hkind⟩ := hW.2.1.1 ci _ h1
  obtain ⟨cf, kf, fi, f, hi, hsl⟩ := hSl k h3
  have hlay := hts _ (h2 _ (u_in_lay h3))
  unfold u_lay at hlay
  rw [if_pos k4] at hlay
  have hst := (u_facts hfc hkC (u_lays hts h2 h3) hi).1
  have hcf : m.cls = cf := by
    obtain ⟨_, _, c', _, _, _, -, -, hf', -, -, -, hown2, -⟩ := Cond.laysFinal_spec hlay
    have e1 : c' = cf := by have := hi.symm.trans hf'; simp at this; exact this.1.symm
    rw [k6] at hown2
    rw [← e1]; exact Option.some.inj (hown.symm.trans hown2)
  have h6 := u_fits hfc hkC hkind (Or.inr hlay) hi k5 hna hft
  refine W.putFinK hx hb hown (hts _ h4) hi hst hcf hin2 (by rw [q2]; exact h6) q1 q3 (by rw [hsl]; exact k2_hasslot (q4 k h3)) rfl rfl hdg fun H' e1 e2 e3 => ?_
  rw [hsl] at e1 ⊢
  refine kk ls H' _ hl ?_ (by rw [e2, hn, List.length_set]) (hS.put e2 e3 (hD.2 i _ he))
  rw [← xw_set]
  show va_P _ _ ((xw_ws (xn_f κ) hp).set i (xn_f κ i, .inr (ci, (fs.set k v).map (xw_v (xn_f κ))))) H'
  rw [List.map_set]
  exact hP.set hD he ⟨_, h1, t_OB.to (V := updV (vp_V (fs.map (xw_v (xn_f κ)))) k (xw_v (xn_f κ) v)) ⟨_, e1, q2, q3, t_set q4 hap h3 _⟩ (fun j _ => vp_updV_set (by simpa using hk) _ j)⟩ e3
theorem xw_app {ad : Nat → Nat} {hp : List va_E} {x : va_E} : xw_ws ad (hp ++ [x]) = xw_ws ad hp ++ [(ad hp.length, xw_e ad x)] := by simp [xw_ws, List.mapIdx_append]
theorem xn_push {H H' : Heap} {x : va_E} (hl : hp.length < 1000) (hP : va_P κ.2.2.1 xw_cl (xw_ws (xn_f κ) hp) H) (hn : H.size = κ.1 + hp.length) (ho : ∀ q, q < H.size → H'[q]? = H[q]?) (hx : va_at κ.2.2.1 xw_cl (xn_f κ hp.length, xw_e (xn_f κ) x) H') : va_P κ.2.2.1 xw_cl (xw_ws (xn_f κ) (hp ++ [x])) H' := by
  rw [xw_app]
  refine (hP.kept (fun k q hq => ho q.1 (hP k q hq).lt)).app (fun k q hq => ?_)
  have hz : k < 1 := (List.getElem?_eq_some_iff.mp hq).1
  rw [show k = 0 by omega] at hq
  cases hq
  exact hx
theorem xn_grow {H H' : Heap} {locs : List Loc} (hS : va_S (xn_B κ) s.heap H locs) (hz : H'.size = H.size + 1) (ho : ∀ q, q < H.size → H'[q]? = H[q]?) : va_S (xn_B κ) s.heap H' locs := ⟨Nat.le_trans hS.1 (by omega), fun q h1 h2 => (ho q (Nat.lt_of_lt_of_le h1 hS.1)).trans (hS.2.1 q h1 h2), hS.2.2⟩
theorem xn_newJ (C : xn_C κ cc nL own p s m args c) {N i : Nat} (hN : N ≤ 7) (hi : hp.length = i) (hl : i < 1000) (hcl : cells + 1 ≤ R.cells ∧ slots + 7 ≤ R.slots) (hdg : decode cc pc = .ok (.newarray .long, 2))
    (k : xn_At κ nL p l e R s m args below meth c (cells + 1) (slots + 7) Q (pc + 2) lv (.ref i :: st) (hp ++ [xj (xn_g κ 0) N (fun _ => 0)])) : xn_At κ nL p l e R s m args below meth c cells slots Q pc lv (.int (nI N) :: st) hp := fun ls H locs hL hP hn hS => by
  subst hi
  obtain ⟨hx, hb, -, hown, hts, hW⟩ := C
  have hh : H.size = xn_f κ hp.length := by rw [xn_at hl]; exact hn
  refine va_newaK (atype := .long) (h := xn_f κ hp.length) hx hb (hts _ (xw_in wa_long rfl)) rfl hdg rfl (nI_nlt (a := N) (b := 0) (by omega) (by omega)) (nI_clamp (by omega)) (by show N * 8 ≤ 536870912; omega) hcl.1 (by omega) hh (fun H' cA h1 h2 h3 h4 h5 => ?_)
  have hJ : s.vm.findClass ("[" ++ FieldType.long.toString) = some (xg_J (xn_g κ 0)) := (hW.2.1.2 0 _ rfl).2
  have eJ : xg_J (xn_g κ 0) = cA := Option.some.inj (hJ.symm.trans h5)
  refine W.widen (Nat.le_refl _) (by omega) (k ls H' locs hL (xn_push hl hP hn (fun q hq => h3 q (by rw [← hh]; exact hq)) ?_) (by rw [h2, ← hh, hn, List.length_append]; rfl) (xn_grow hS (by rw [h2, ← hh]) (fun q hq => h3 q (by rw [← hh]; exact hq))))
  subst eJ
  exact h1
theorem xn_newZ (C : xn_C κ cc nL own p s m args c) {N i : Nat} (hN : N ≤ 7) (hi : hp.length = i) (hl : i < 1000) (hcl : cells + 1 ≤ R.cells ∧ slots + 7 ≤ R.slots) (hdg : decode cc pc = .ok (.newarray .boolean, 2))
    (k : xn_At κ nL p l e R s m args below meth c (cells + 1) (slots + 7) Q (pc + 2) lv (.ref i :: st) (hp ++ [xz (xn_g κ 0) N (fun _ => 0)])) : xn_At κ nL p l e R s m args below meth c cells slots Q pc lv (.int (nI N) :: st) hp := fun ls H locs hL hP hn hS => by
  subst hi
  obtain ⟨hx, hb, -, hown, hts, hW⟩ := C
  have hh : H.size = xn_f κ hp.length := by rw [xn_at hl]; exact hn
  refine va_newaK (atype := .boolean) (h := xn_f κ hp.length) hx hb (hts _ (xw_in wa_boolean rfl)) rfl hdg rfl (nI_nlt (a := N) (b := 0) (by omega) (by omega)) (nI_clamp (by omega)) (by show N * 1 ≤ 536870912; omega) hcl.1 (by omega) hh (fun H' cA h1 h2 h3 h4 h5 => ?_)
  have hJ : s.vm.findClass ("[" ++ FieldType.boolean.toString) = some (xg_Z (xn_g κ 0)) := (hW.2.1.2 1 _ rfl).2
  have eJ : xg_Z (xn_g κ 0) = cA := Option.some.inj (hJ.symm.trans h5)
  refine W.widen (Nat.le_refl _) (by omega) (k ls H' locs hL (xn_push hl hP hn (fun q hq => h3 q (by rw [← hh]; exact hq)) ?_) (by rw [h2, ← hh, hn, List.length_append]; rfl) (xn_grow hS (by rw [h2, ← hh]) (fun q hq => h3 q (by rw [← hh]; exact hq))))
  subst eJ
  exact h1
theorem xn_new (C : xn_C κ cc nL own p s m args c) {idx ci N i : Nat} {Cn : String} {T : u_T} (h1 : xw_cl[ci]? = some (Cn, T, N)) (hin : ∀ w ∈ u_ws Cn T N, w ∈ xw_tb) (ty : Nat → FieldType) (hty : ∀ k, k < N → parseFieldDescriptor (T k).2.2.1 = some (ty k)) (hcl : Cond.classLink own idx Cn ∈ xw_tb) (hz : Cond.instantiable Cn N ∈ xw_tb) (hini : Cond.initialized Cn ∈ xw_tb)
    {fs : List Value} (hfs : ∀ j, j < N → defaultValue (ty j) = vp_V (fs.map (xw_v (xn_f κ))) j) (hi : hp.length = i) (hl : i < 1000) (hc : cells + 1 ≤ R.cells ∧ slots + N ≤ R.slots) (hdg : decode cc pc = .ok (.new idx, 3))
    (k : xn_At κ nL p l e R s m args below meth c (cells + 1) (slots + N) Q (pc + 3) lv (.ref i :: st) (hp ++ [.inr (ci, fs)])) : xn_At κ nL p l e R s m args below meth c cells slots Q pc lv st hp := fun ls H locs hL hP hn hS => by
  subst hi
  obtain ⟨hx, hb, -, hown, hts, hW⟩ := C
  have hh : H.size = xn_f κ hp.length := by rw [xn_at hl]; exact hn
  have hKn := hW.2.1.1 ci _ h1
  refine W.newcK (h := xn_f κ hp.length) hx hb hown (hts _ hcl) (hts _ hz) (hts _ hini) rfl hdg hc.1 hc.2 hKn.2.1 hh (fun H' kC hkC h2 h3 h4 => ?_)
  refine k ls H' locs hL (xn_push hl hP hn (fun q hq => h4 q (by rw [← hh]; exact hq)) ?_) (by rw [h3, ← hh, hn, List.length_append]; rfl) (xn_grow hS (by rw [h3, ← hh]) (fun q hq => h4 q (by rw [← hh]; exact hq)))
  exact ⟨_, h1, (u_born ty hts hin hKn hkC h2 hty).to hfs⟩
theorem xn_obj (C : xn_C κ cc nL own p s m args c) {idx i : Nat} (hl : Cond.methodLink own idx yJO_init ∈ xw_tb) (hdg : decode cc pc = .ok (.invokespecial idx, 3)) (hR : 1 ≤ R.frames ∧ 20 ≤ R.locals) (hwt : (st.map fun v => v.category).sum ≤ 8) (k : xn_At κ nL p l e R s m args below meth c cells slots Q (pc + 3) lv st hp) : xn_At κ nL p l e R s m args below meth c cells slots Q pc lv (.ref i :: st) hp := fun ls H locs hL hP hn hS => by
  obtain ⟨hx, hb, hml, hown, hts, hW⟩ := C
  refine W.objInit hx hb hown (hts _ hl) (hts _ (xw_in wi_JO_init rfl)) (hts _ (xw_in wc_JO_init rfl)) rfl (by rw [hml]; exact hL.1) rfl hdg hR.1 ?_ (k ls H locs hL hP hn hS)
  have := lv_room (m := m) (pc := pc) (ls := ls) (rest := (Value.ref i :: st).map (xw_v (xn_f κ))) (st := st.map (xw_v (xn_f κ))) (by rw [xm_cats]; exact hwt)
  have h2 := hR.2
  omega
theorem xn_fin {n : Nat} (hs : s.heap.size = κ.1) (hn : hp.length = n) (k : xw_At (xn_g κ n) false nL p l e R s m args below meth c cells slots Q pc lv st hp) : xn_At κ nL p l e R s m args below meth c cells slots Q pc lv st hp := fun ls H locs hL hP hz hS =>
  va_forget (fun q hq => by rw [hs]; exact hS.2.2 q hq) (k ls H [] hL hP hn ⟨⟨hS.1, fun q h1 _ => hS.2.1 q h1 (fun h3 => absurd (show κ.1 ≤ q from h3) (by omega)), fun _ h => by cases h⟩, fun h => by cases h⟩)
end XN
