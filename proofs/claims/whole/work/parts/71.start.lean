/-! the law from its entry -/
def z0 : Sg := ((fun _ => 0), (fun _ => 0), (fun _ => 0), (fun _ => 0), (fun _ => 0), (fun _ => 0), (fun _ => 0), (fun _ => 0), (fun _ => 0), (fun _ => 0), (fun _ => 0), (fun _ => 0), (fun _ => 0), (fun _ => 0), (fun _ => 0), (fun _ => 0), (fun _ => 0), (fun _ => 0), (fun _ => 0), 0, 0, 0, 0, 0, 0, 0, 0, 0, 0, 0, 0, 0)
theorem Iv_0 (n t : Nat) : Iv n t z0 := by
  have f1 : ∀ j : Nat, (fun _ : Nat => (0 : Nat)) j < 2 ^ 31 := fun _ => (by decide : 0 < 2 ^ 31)
  have f2 : ∀ j : Nat, (fun _ : Nat => (0 : Nat)) j < 2 ^ 30 := fun _ => (by decide : 0 < 2 ^ 30)
  refine ⟨f1, f1, f1, f1, f1, f1, f1, f1, f1, f1, f1, f1, f1, f1, f2, by decide, by decide, by decide, by decide, ?_, ?_, ?_, ?_, ?_⟩
  · intro i _ _
    rw [hs_0]
    exact ⟨fun h => (by cases h), fun h => absurd rfl h⟩
  · intro i _ _ h
    rw [hs_0] at h
    cases h
  · intro i _ _ h
    rw [hs_0] at h
    cases h
  · exact fun h => absurd rfl h
  · exact (ts_0 _ n).symm
theorem st_K {s : State} {args : Array Value} (hts : ∀ w ∈ xw_tb, w.before args s = true) : ∃ (D : va_G) (cJ cZ : ClassId), va_K D xw_cl [(cJ, .long), (cZ, .boolean)] s := by
  obtain ⟨c0, i0, k0⟩ := u_known hts u_S (hts _ (xw_in wz_S rfl))
  obtain ⟨c1, i1, k1⟩ := u_known hts u_D (hts _ (xw_in wz_D rfl))
  obtain ⟨c2, i2, k2⟩ := u_known hts u_P (hts _ (xw_in wz_P rfl))
  obtain ⟨c3, i3, k3⟩ := u_known hts u_X (hts _ (xw_in wz_X rfl))
  obtain ⟨c4, i4, k4⟩ := u_known hts u_M (hts _ (xw_in wz_M rfl))
  obtain ⟨cJ, kJ, pJ, j1, j2, j3⟩ := Cond.arrayClass_spec (hts _ (xw_in wa_long rfl))
  obtain ⟨cZ, kZ, pZ, y1, y2, y3⟩ := Cond.arrayClass_spec (hts _ (xw_in wa_boolean rfl))
  refine ⟨(fun c => match c with | 0 => c0 | 1 => c1 | 2 => c2 | 3 => c3 | _ => c4, fun c => match c with | 0 => i0 | 1 => i1 | 2 => i2 | 3 => i3 | _ => i4), cJ, cZ, ?_, ?_⟩
  · intro c q hq
    have hc : c < 5 := (List.getElem?_eq_some_iff.mp hq).1
    rcases (by omega : c = 0 ∨ c = 1 ∨ c = 2 ∨ c = 3 ∨ c = 4) with rfl | rfl | rfl | rfl | rfl <;> cases hq
    · exact k0
    · exact k1
    · exact k2
    · exact k3
    · exact k4
  · intro k q hq
    have hc : k < 2 := (List.getElem?_eq_some_iff.mp hq).1
    rcases (by omega : k = 0 ∨ k = 1) with rfl | rfl <;> cases hq
    · exact ⟨fun n z => ⟨fun k h => (by cases h), kJ, j2, pJ, j3⟩, j1⟩
    · exact ⟨fun n z => ⟨fun k h => (by cases h), kZ, y2, pZ, y3⟩, y1⟩
theorem st_Z {n d : String} {s : State} {args : Array Value} (hl : (Cond.laysStatic "java/lang/Throwable" n d).before args s = true) (hr : (Cond.isRef (.static "java/lang/Throwable" n d)).before args s = true) : xw_Z n d (fun q => s.heap.size ≤ q) s s.heap := by
  obtain ⟨v, hv, hvr⟩ := Cond.isRef_spec hr
  obtain ⟨c, k, i, f, a, cell, hc, hi, hst, ha, hcell, hs, hcls, hlt, hty⟩ := Cond.laysStatic_spec hl
  obtain ⟨hst', a', cell', ha', hcell', -, hslot⟩ := Term.static_spec hi hv
  cases ha.symm.trans ha'
  cases hcell.symm.trans hcell'
  exact ⟨c, k, i, f, a, cell, v, hc, hi, hst, ha, hty, hcell, hs, hcls, hlt, hslot, hvr, Nat.not_le.mpr (Array.getElem?_eq_some_iff.mp hcell).1⟩
theorem st_W {s : State} {args : Array Value} (hts : ∀ w ∈ lw_tbl, w.before args s = true) : xw_Tw s := by
  refine ⟨fun w hw hf => va_any (by cases w <;> first | rfl | (simp [xw_fw] at hf; done)) (hts w hw), fun o k tx hm => ?_⟩
  have h := hts _ hm
  exact h
theorem st_T {s : State} {b : Nat} (hts : ∀ w ∈ lw_tbl, w.before #[Value.ref b] s = true) (hg : (Jvm.Cond.and given_1 narrow_1).before #[Value.ref b] s = true) : xw_Th (fun q => s.heap.size ≤ q) s :=
  ⟨st_W hts, st_Z (hts _ wy_JT_UNASSIGNED_STACK) (flat_of_before _ hg _ (by decide +kernel)), st_Z (hts _ wy_JT_SUPPRESSED_SENTINEL) (flat_of_before _ hg _ (by decide +kernel)), va_Nc.of (flat_of_before _ hg _ (by decide +kernel))⟩
set_option maxHeartbeats 1000000 in
set_option maxRecDepth 100000 in
theorem w_from {κ : xn_K} {p : Program} {l : Launch} {e : Env} {s : State} {m : MethodId} {b : Nat} {below : List Frame} {meth : Method} {c : Code} (C : xn_C κ cL_law 8 "ThresholdSealLaw" p s m #[Value.ref b] c) (htr : xw_tr l) (hr : meth.sig.returnType = ret) (hlk : meth.locks = false) (hs : s.heap.size = κ.1) (hL : xg_L (xn_g κ 0) ≤ 3586) :
    xn_At κ 8 p l e room_1 s m #[Value.ref b] below meth c 0 0 (lw_Z below #[Value.ref b] s) 0 [some (.ref xw_sp), none, none, none, none, none, none, none] [] [] := by
  obtain ⟨n, hn1, hn, hx⟩ := mm_ex (k := 6) (by decide) (by decide) (ce_ (xn_g κ 0) 0)
  obtain ⟨t, ht1, htn, hy⟩ := mm_ex (k := n) hn1 hn (ce_ (xn_g κ 0) 1)
  have ht : t ≤ 6 := Nat.le_trans htn hn
  refine xn_new C (i := 0) (ci := 0) (fs := [.int 0, .int 0, .null, .null, .null]) rfl u_S tS_ tS_ok (xw_in wl_L_8 rfl) (xw_in wz_S rfl) (xw_in wn_S rfl) (bl_S _) rfl (Nat.le_of_ble_eq_true rfl) ⟨(Nat.le_of_ble_eq_true rfl), (Nat.le_of_ble_eq_true rfl)⟩ dL_law_0 ?_
  refine xn_dup C dL_law_3 rfl ?_
  refine xn_aload_n C dL_law_4 rfl ?_
  refine xn_icN C 0 dL_law_5 ?_
  refine xn_callS C (p_L_cell (xn_g κ 1) l hL (j := 0) (by omega) _) (n := 1) rfl (Nat.le_of_ble_eq_true rfl) b_L_42 (xw_in wt_L_cell rfl) dL_law_6 rfl (Nat.le_of_ble_eq_true rfl) ⟨(Nat.le_of_ble_eq_true rfl), (Nat.le_of_ble_eq_true rfl)⟩ ⟨(Nat.le_of_ble_eq_true rfl), (Nat.le_of_ble_eq_true rfl)⟩ ?_
  refine xn_aload_n C dL_law_9 rfl ?_
  refine xn_icN C 1 dL_law_10 ?_
  refine xn_callS C (p_L_cell (xn_g κ 1) l hL (j := 1) (by omega) _) (n := 1) rfl (Nat.le_of_ble_eq_true rfl) b_L_42 (xw_in wt_L_cell rfl) dL_law_11 rfl (Nat.le_of_ble_eq_true rfl) ⟨(Nat.le_of_ble_eq_true rfl), (Nat.le_of_ble_eq_true rfl)⟩ ⟨(Nat.le_of_ble_eq_true rfl), (Nat.le_of_ble_eq_true rfl)⟩ ?_
  refine xn_callI C (p_S_init κ l hn ht hx hy) b_L_48 (xw_in wi_S_init rfl) rfl rfl dL_law_14 rfl (Nat.le_of_ble_eq_true rfl) ⟨(Nat.le_of_ble_eq_true rfl), (Nat.le_of_ble_eq_true rfl)⟩ ⟨(Nat.le_of_ble_eq_true rfl), (Nat.le_of_ble_eq_true rfl)⟩ ?_
  refine xn_astore_n C dL_law_17 (by decide) ?_
  refine xn_new C (i := 16) (ci := 4) (fs := [.int 0, .int 0, .int 0, .int 0, .null, .null, .null, .null, .null, .null, .null, .int 0, .long 0, .long 0, .null, .null, .null, .null, .null, .null, .null, .null, .int 0, .int 0, .long 0]) rfl u_M tM_ tM_ok (xw_in wl_L_51 rfl) (xw_in wz_M rfl) (xw_in wn_M rfl) (bl_M _) rfl (Nat.le_of_ble_eq_true rfl) ⟨(Nat.le_of_ble_eq_true rfl), (Nat.le_of_ble_eq_true rfl)⟩ dL_law_18 ?_
  refine xn_dup C dL_law_21 rfl ?_
  refine xn_aload_n C dL_law_22 rfl ?_
  refine xn_icN C 0 dL_law_23 ?_
  refine xn_callS C (p_L_cell (xn_g κ 17) l hL (j := 0) (by omega) _) (n := 17) rfl (Nat.le_of_ble_eq_true rfl) b_L_42 (xw_in wt_L_cell rfl) dL_law_24 rfl (Nat.le_of_ble_eq_true rfl) ⟨(Nat.le_of_ble_eq_true rfl), (Nat.le_of_ble_eq_true rfl)⟩ ⟨(Nat.le_of_ble_eq_true rfl), (Nat.le_of_ble_eq_true rfl)⟩ ?_
  refine xn_aload_n C dL_law_27 rfl ?_
  refine xn_icN C 1 dL_law_28 ?_
  refine xn_callS C (p_L_cell (xn_g κ 17) l hL (j := 1) (by omega) _) (n := 17) rfl (Nat.le_of_ble_eq_true rfl) b_L_42 (xw_in wt_L_cell rfl) dL_law_29 rfl (Nat.le_of_ble_eq_true rfl) ⟨(Nat.le_of_ble_eq_true rfl), (Nat.le_of_ble_eq_true rfl)⟩ ⟨(Nat.le_of_ble_eq_true rfl), (Nat.le_of_ble_eq_true rfl)⟩ ?_
  refine xn_callI C (p_M_init κ l hn1 hn hx hy) b_L_53 (xw_in wi_M_init rfl) rfl rfl dL_law_32 rfl (Nat.le_of_ble_eq_true rfl) ⟨(Nat.le_of_ble_eq_true rfl), (Nat.le_of_ble_eq_true rfl)⟩ ⟨(Nat.le_of_ble_eq_true rfl), (Nat.le_of_ble_eq_true rfl)⟩ ?_
  refine xn_astore_n C dL_law_35 (by decide) ?_
  refine xn_icN C 1 dL_law_36 ?_
  refine xn_newJ C (N := 1) (i := 32) (by omega) rfl (Nat.le_of_ble_eq_true rfl) ⟨(Nat.le_of_ble_eq_true rfl), (Nat.le_of_ble_eq_true rfl)⟩ dL_law_37 ?_
  refine xn_astore_n C dL_law_39 (by decide) ?_
  refine xn_icN C 2 dL_law_40 ?_
  refine xn_istore C dL_law_41 (by decide) ?_
  refine xn_fin (n := 33) hs rfl ?_
  have CW : xw_C (xn_g κ 33) cL_law 8 "ThresholdSealLaw" p s m #[Value.ref b] c := ⟨C.1, C.2.1, C.2.2.1, C.2.2.2.1, C.2.2.2.2.1, [], C.2.2.2.2.2.g (by decide)⟩
  have hA : ∀ q, xg_A (xn_g κ 33) q → s.heap.size ≤ q := fun q h => by rw [hs]; exact xn_A (by decide) h
  exact w_loop (g := xn_g κ 33) CW htr hr hlk hA hn ht hL (xg_L (xn_g κ 33) + 7) 2 _ _ z0 none none none (by omega) (by omega) (by omega) (by omega) (Iv_0 n t)
theorem whole_start {p : Program} {e : Env} {s : State} {m : MethodId} {below : List Frame} {meth : Method} {c : Code} (l : Launch) (htr : xw_tr l) {b L : Nat} {xs : Nat → Int32} (hL : L ≤ 3586) (C0 : lw_At p s m meth c b L xs) : W p l e room_1 s m #[Value.ref b] below meth c s.heap [] 0 0 (lw_Z below #[Value.ref b] s) (entryFrame m ([Value.ref b] : List Value).toArray 8) := by
  obtain ⟨hx, hb, hr, hml, hown, hts, hX, hbl, hlk, hg⟩ := C0
  have htb : ∀ w ∈ xw_tb, w.before #[Value.ref b] s = true := fun w h => hts w (List.mem_filter.mp h).1
  obtain ⟨D, cJ, cZ, hK⟩ := st_K htb
  have hW : xn_Wo (s.heap.size, b, D, cJ, cZ, L, xs) s := ⟨Nat.le_refl _, hK, hX, hbl, st_T hts hg⟩
  have k := w_from (κ := (s.heap.size, b, D, cJ, cZ, L, xs)) (l := l) (e := e) (below := below) (meth := meth) ⟨hx, hb, hml, hown, htb, hW⟩ htr hr hlk rfl hL
  have e1 : ([Value.ref b] : List Value) = [Value.ref xw_sp].map (xw_v (xn_f (s.heap.size, b, D, cJ, cZ, L, xs))) := by
    show [Value.ref b] = [Value.ref (if xw_sp = 1000 then b else s.heap.size + xw_sp)]
    rw [if_pos rfl]
  rw [lg_entry_eq, e1]
  exact k _ s.heap [] (xl_pad (av := [.ref xw_sp]) (Nat.le_of_ble_eq_true rfl) rfl) (fun k q h => by cases k <;> cases h) rfl va_S.rf
