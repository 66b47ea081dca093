/-! the reference's cells; rules for numbers kept as natural numbers -/
abbrev xz (g : xw_G) (N : Nat) (f : Nat → Int32) : va_E := .inl (xg_Z g, N, .inl f)
def hQ (c0 c1 c2 c3 c4 c5 c6 c7 c8 c9 c10 c11 c12 c13 c14 c15 : va_E) (r : List va_E) : List va_E := c0 :: c1 :: c2 :: c3 :: c4 :: c5 :: c6 :: c7 :: c8 :: c9 :: c10 :: c11 :: c12 :: c13 :: c14 :: c15 :: r
def hM (g : xw_G) (th : Int32) (n t : Nat) (dl : Int32) (se ke : Nat → Nat) (oz : Nat → Int32) (f1 f2 e1 e2 : Nat → Nat) (ms : Int32) (al ch : Nat) (y1 y2 fa we : Nat → Nat) (sz mz : Nat → Int32) (sh to : Nat → Nat) (tk bl : Int32) (mi : Int64) : List va_E :=
  [.inr (4, [.int th, .int (nI n), .int (nI t), .int dl, .ref 17, .ref 18, .ref 19, .ref 20, .ref 21, .ref 22, .ref 23, .int ms, .long (lN al), .long (lN ch), .ref 24, .ref 25, .ref 26, .ref 27, .ref 28, .ref 29, .ref 30, .ref 31, .int tk, .int bl, .long mi]),
   xj g 7 se, xj g 7 ke, xz g 7 oz, xj g 7 f1, xj g 7 f2, xj g 7 e1, xj g 7 e2, xj g 7 y1, xj g 7 y2, xj g 7 fa, xj g 7 we, xz g 7 sz, xz g 7 mz, xj g 7 sh, xj g 7 to]
section XM
variable {g : xw_G} {ro : Bool} {cc : ByteArray} {nL : Nat} {own : String} {p : Program} {l : Launch} {e : Env} {R : Room} {s : State} {m : MethodId} {args : Array Value} {below : List Frame} {meth : Method} {c : Code} {cells slots : Nat} {Q : State → Prop}
variable {pc : Nat} {lv : List (Option Value)} {st : List Value} {hp : List va_E}
theorem xa_mulN (C : xw_C g cc nL own p s m args c) {a b : Nat} (hdg : decode cc pc = .ok (.lmul, 1)) (k : xw_At g ro nL p l e R s m args below meth c cells slots Q (pc + 1) lv (.long (lN (a * b)) :: st) hp) : xw_At g ro nL p l e R s m args below meth c cells slots Q (pc) lv (.long (lN b) :: .long (lN a) :: st) hp := xa_lmul C hdg (by rw [lN_mul]; exact k)
theorem xa_addN (C : xw_C g cc nL own p s m args c) {a b : Nat} (hdg : decode cc pc = .ok (.ladd, 1)) (k : xw_At g ro nL p l e R s m args below meth c cells slots Q (pc + 1) lv (.long (lN (a + b)) :: st) hp) : xw_At g ro nL p l e R s m args below meth c cells slots Q (pc) lv (.long (lN b) :: .long (lN a) :: st) hp := xa_ladd C hdg (by rw [lN_add]; exact k)
theorem xa_remN (C : xw_C g cc nL own p s m args c) {a m9 : Nat} (hdg : decode cc pc = .ok (.lrem, 1)) (ha : a < 2 ^ 63) (h0 : 0 < m9) (hm : m9 < 2 ^ 63) (k : xw_At g ro nL p l e R s m args below meth c cells slots Q (pc + 1) lv (.long (lN (a % m9)) :: st) hp) : xw_At g ro nL p l e R s m args below meth c cells slots Q (pc) lv (.long (lN m9) :: .long (lN a) :: st) hp := xa_lrem C hdg (fun q => absurd ((pk_lEQ (a := m9) (b := 0) hm (by decide)).mp q) (by omega)) (by rw [pk_lRem ha h0 hm]; exact k)
theorem xa_ldcN (C : xw_C g cc nL own p s m args c) (q : Nat) {idx : Nat} (hw : Cond.constantLong own idx (lN q) ∈ xw_tb) (hdg : decode cc pc = .ok (.ldc2_w idx, 3)) (k : xw_At g ro nL p l e R s m args below meth c cells slots Q (pc + 3) lv (.long (lN q) :: st) hp) : xw_At g ro nL p l e R s m args below meth c cells slots Q (pc) lv (st) hp := xa_ldc2 C hw hdg k
theorem xa_baloadN (C : xw_C g cc nL own p s m args c) {i N j : Nat} {f : Nat → Int32} (hdg : decode cc pc = .ok (.baload, 1)) (ho : hp[i]? = some (xz g N f)) (hj : j < N) (hN : N < 2 ^ 31) (k : xw_At g ro nL p l e R s m args below meth c cells slots Q (pc + 1) lv (.int (f j) :: st) hp) : xw_At g ro nL p l e R s m args below meth c cells slots Q (pc) lv (.int (nI j) :: .ref i :: st) hp := by
  refine xa_baload C hdg ho (vp_in_nI hj hN) ?_
  rw [nI_clamp (Nat.lt_trans hj hN)]
  exact k
theorem xa_bastoreN (C : xw_C g cc nL own p s m args c) {i N j : Nat} {f : Nat → Int32} {v : Int32} (hdg : decode cc pc = .ok (.bastore, 1)) (ho : hp[i]? = some (xz g N f)) (hj : j < N) (hN : N < 2 ^ 31) (hv : vp_nar .boolean v = v) (k : xw_At g false nL p l e R s m args below meth c cells slots Q (pc + 1) lv (st) (hp.set i (xz g N (upd f j v)))) : xw_At g ro nL p l e R s m args below meth c cells slots Q (pc) lv (.int v :: .int (nI j) :: .ref i :: st) hp := by
  refine xa_bastore C hdg ho (vp_in_nI hj hN) ?_
  rw [nI_clamp (Nat.lt_trans hj hN), hv]
  exact k
end XM
set_option maxHeartbeats 4000000 in
set_option maxRecDepth 100000 in
theorem p_M_mix (g : xw_G) (l : Launch) {c0 c1 c2 c3 c4 c5 c6 c7 c8 c9 c10 c11 c12 c13 c14 c15 : va_E} {n t : Nat} {se ke f1 f2 e1 e2 y1 y2 fa we sh to : Nat → Nat} {oz sz mz : Nat → Int32} {th dl ms tk bl : Int32} {al ch : Nat} {mi : Int64} {rest : List va_E} (x : Int64) : xm_R g l false m_M_mix [.ref 16, .long x] (hQ c0 c1 c2 c3 c4 c5 c6 c7 c8 c9 c10 c11 c12 c13 c14 c15 (hM g th n t dl se ke oz f1 f2 e1 e2 ms al ch y1 y2 fa we sz mz sh to tk bl mi ++ rest)) none (hQ c0 c1 c2 c3 c4 c5 c6 c7 c8 c9 c10 c11 c12 c13 c14 c15 (hM g th n t dl se ke oz f1 f2 e1 e2 ms al ch y1 y2 fa we sz mz sh to tk bl (dg_m mi x) ++ rest)) := by
  refine xm_of [some (.ref 16), some (.long x), none, none, none] rfl (Nat.le_of_ble_eq_true rfl) rfl ?_
  intro p e s m args below meth c C hr hk
  refine xa_aload_n C dM_mix_0 rfl ?_
  refine xa_get C f_M_70 dM_mix_1 rfl rfl ?_
  refine xa_lload_n C dM_mix_4 rfl ?_
  refine xa_lxor C dM_mix_5 ?_
  refine xa_ldc2 C (xw_in wk_M_78 rfl) dM_mix_6 ?_
  refine xa_lmul C dM_mix_9 ?_
  refine xa_lstore_n C dM_mix_10 (Nat.le_of_ble_eq_true rfl) ?_
  refine xa_aload_n C dM_mix_11 rfl ?_
  refine xa_lload_n C dM_mix_12 rfl ?_
  refine xa_lload_n C dM_mix_13 rfl ?_
  refine xa_bpN C 31 dM_mix_14 (by decide) ?_
  refine xa_lushr C dM_mix_16 ?_
  refine xa_lxor C dM_mix_17 ?_
  refine xa_put C f_M_70 u_M_24 dM_mix_18 rfl (Nat.le_of_ble_eq_true rfl) rfl rfl (fun _ h => by cases h) ?_
  exact xa_eq rfl rfl rfl (xa_vret C hr hk dM_mix_21)
set_option maxHeartbeats 4000000 in
set_option maxRecDepth 100000 in
theorem p_M_begins (g : xw_G) (l : Launch) {c0 c1 c2 c3 c4 c5 c6 c7 c8 c9 c10 c11 c12 c13 c14 c15 : va_E} {n t : Nat} {se ke f1 f2 e1 e2 y1 y2 fa we sh to : Nat → Nat} {oz sz mz : Nat → Int32} {th dl ms tk bl : Int32} {al ch : Nat} {mi : Int64} {rest : List va_E} (x : Int64) : xm_R g l false m_M_begins [.ref 16, .long x] (hQ c0 c1 c2 c3 c4 c5 c6 c7 c8 c9 c10 c11 c12 c13 c14 c15 (hM g th n t dl se ke oz f1 f2 e1 e2 ms al ch y1 y2 fa we sz mz sh to tk bl mi ++ rest)) none (hQ c0 c1 c2 c3 c4 c5 c6 c7 c8 c9 c10 c11 c12 c13 c14 c15 (hM g th n t dl se ke oz f1 f2 e1 e2 ms al ch y1 y2 fa we sz mz sh to tk bl (dg_m 0 x) ++ rest)) := by
  refine xm_of [some (.ref 16), some (.long x), none] rfl (Nat.le_of_ble_eq_true rfl) rfl ?_
  intro p e s m args below meth c C hr hk
  refine xa_aload_n C dM_begins_0 rfl ?_
  refine xa_lcN C 0 dM_begins_1 ?_
  refine xa_put C f_M_70 u_M_24 dM_begins_2 rfl (Nat.le_of_ble_eq_true rfl) rfl rfl (fun _ h => by cases h) ?_
  refine xa_aload_n C dM_begins_5 rfl ?_
  refine xa_lload_n C dM_begins_6 rfl ?_
  refine xa_callVv C (p_M_mix g l _) b_M_74 (xw_in wi_M_mix rfl) e_M_mix dM_begins_7 rfl rfl rfl rfl (Nat.le_of_ble_eq_true rfl) ⟨Nat.le_of_ble_eq_true rfl, Nat.le_of_ble_eq_true rfl⟩ ⟨Nat.zero_le _, Nat.zero_le _⟩ ?_
  exact xa_eq rfl rfl rfl (xa_vret C hr hk dM_begins_10)
set_option maxHeartbeats 4000000 in
set_option maxRecDepth 100000 in
theorem p_M_digest (g : xw_G) (l : Launch) {c0 c1 c2 c3 c4 c5 c6 c7 c8 c9 c10 c11 c12 c13 c14 c15 : va_E} {n t : Nat} {se ke f1 f2 e1 e2 y1 y2 fa we sh to : Nat → Nat} {oz sz mz : Nat → Int32} {th dl ms tk bl : Int32} {al ch : Nat} {mi : Int64} {rest : List va_E}  : xm_R g l true m_M_digest [.ref 16] (hQ c0 c1 c2 c3 c4 c5 c6 c7 c8 c9 c10 c11 c12 c13 c14 c15 (hM g th n t dl se ke oz f1 f2 e1 e2 ms al ch y1 y2 fa we sz mz sh to tk bl mi ++ rest)) (some (.long (lN (dg_f mi)))) (hQ c0 c1 c2 c3 c4 c5 c6 c7 c8 c9 c10 c11 c12 c13 c14 c15 (hM g th n t dl se ke oz f1 f2 e1 e2 ms al ch y1 y2 fa we sz mz sh to tk bl mi ++ rest)) := by
  refine xm_of [some (.ref 16)] rfl (Nat.le_of_ble_eq_true rfl) rfl ?_
  intro p e s m args below meth c C hr hk
  refine xa_aload_n C dM_digest_0 rfl ?_
  refine xa_get C f_M_70 dM_digest_1 rfl rfl ?_
  refine xa_icN C 1 dM_digest_4 ?_
  refine xa_lushr C dM_digest_5 ?_
  refine xa_ldc2 C (xw_in wk_M_68 rfl) dM_digest_6 ?_
  refine xa_lrem C dM_digest_9 (by decide) ?_
  rw [dg_fin]
  exact xa_eq rfl rfl rfl (xa_lret C hr hk dM_digest_10)
set_option maxHeartbeats 4000000 in
set_option maxRecDepth 100000 in
theorem p_M_pairNumber (g : xw_G) (l : Launch) {c0 c1 c2 c3 c4 c5 c6 c7 c8 c9 c10 c11 c12 c13 c14 c15 : va_E} {n t : Nat} {se ke f1 f2 e1 e2 y1 y2 fa we sh to : Nat → Nat} {oz sz mz : Nat → Int32} {th dl ms tk bl : Int32} {al ch : Nat} {mi : Int64} {rest : List va_E} (k9 w : Int64) {i : Nat} (hi : i ≤ 6) : xm_R g l false m_M_pairNumber [.ref 16, .long k9, .long w, .int (nI i)] (hQ c0 c1 c2 c3 c4 c5 c6 c7 c8 c9 c10 c11 c12 c13 c14 c15 (hM g th n t dl se ke oz f1 f2 e1 e2 ms al ch y1 y2 fa we sz mz sh to tk bl mi ++ rest)) (some (.long (lN (pd_ k9 w i)))) (hQ c0 c1 c2 c3 c4 c5 c6 c7 c8 c9 c10 c11 c12 c13 c14 c15 (hM g th n t dl se ke oz f1 f2 e1 e2 ms al ch y1 y2 fa we sz mz sh to tk bl (dg_m (dg_m (dg_m 0 k9) w) (lN i)) ++ rest)) := by
  refine xm_of [some (.ref 16), some (.long k9), none, some (.long w), none, some (.int (nI i))] rfl (Nat.le_of_ble_eq_true rfl) rfl ?_
  intro p e s m args below meth c C hr hk
  refine xa_aload_n C dM_pairNumber_0 rfl ?_
  refine xa_lload_n C dM_pairNumber_1 rfl ?_
  refine xa_callVv C (p_M_begins g l _) b_M_80 (xw_in wi_M_begins rfl) e_M_begins dM_pairNumber_2 rfl rfl rfl rfl (Nat.le_of_ble_eq_true rfl) ⟨Nat.le_of_ble_eq_true rfl, Nat.le_of_ble_eq_true rfl⟩ ⟨Nat.zero_le _, Nat.zero_le _⟩ ?_
  refine xa_aload_n C dM_pairNumber_5 rfl ?_
  refine xa_lload_n C dM_pairNumber_6 rfl ?_
  refine xa_callVv C (p_M_mix g l _) b_M_74 (xw_in wi_M_mix rfl) e_M_mix dM_pairNumber_7 rfl rfl rfl rfl (Nat.le_of_ble_eq_true rfl) ⟨Nat.le_of_ble_eq_true rfl, Nat.le_of_ble_eq_true rfl⟩ ⟨Nat.zero_le _, Nat.zero_le _⟩ ?_
  refine xa_aload_n C dM_pairNumber_10 rfl ?_
  refine xa_iload C dM_pairNumber_11 rfl ?_
  refine xa_i2lN C dM_pairNumber_13 (by omega) ?_
  refine xa_callVv C (p_M_mix g l _) b_M_74 (xw_in wi_M_mix rfl) e_M_mix dM_pairNumber_14 rfl rfl rfl rfl (Nat.le_of_ble_eq_true rfl) ⟨Nat.le_of_ble_eq_true rfl, Nat.le_of_ble_eq_true rfl⟩ ⟨Nat.zero_le _, Nat.zero_le _⟩ ?_
  refine xa_aload_n C dM_pairNumber_17 rfl ?_
  refine xa_callV1 C (p_M_digest g l) b_M_83 (xw_in wi_M_digest rfl) e_M_digest dM_pairNumber_18 rfl rfl rfl rfl (Nat.le_of_ble_eq_true rfl) ⟨Nat.le_of_ble_eq_true rfl, Nat.le_of_ble_eq_true rfl⟩ ⟨Nat.zero_le _, Nat.zero_le _⟩ ?_
  exact xa_eq rfl rfl rfl (xa_lret C hr hk dM_pairNumber_21)
set_option maxHeartbeats 4000000 in
set_option maxRecDepth 100000 in
theorem p_M_challengeOf (g : xw_G) (l : Launch) {c0 c1 c2 c3 c4 c5 c6 c7 c8 c9 c10 c11 c12 c13 c14 c15 : va_E} {n t : Nat} {se ke f1 f2 e1 e2 y1 y2 fa we sh to : Nat → Nat} {oz sz mz : Nat → Int32} {th dl ms tk bl : Int32} {al ch : Nat} {mi : Int64} {rest : List va_E} (r w : Int64) : xm_R g l false m_M_challengeOf [.ref 16, .long r, .long w] (hQ c0 c1 c2 c3 c4 c5 c6 c7 c8 c9 c10 c11 c12 c13 c14 c15 (hM g th n t dl se ke oz f1 f2 e1 e2 ms al ch y1 y2 fa we sz mz sh to tk bl mi ++ rest)) (some (.long (lN (dg_f (dg_m (dg_m (dg_m (dg_m 0 5) r) (lN (ke 0))) w))))) (hQ c0 c1 c2 c3 c4 c5 c6 c7 c8 c9 c10 c11 c12 c13 c14 c15 (hM g th n t dl se ke oz f1 f2 e1 e2 ms al ch y1 y2 fa we sz mz sh to tk bl (dg_m (dg_m (dg_m (dg_m 0 5) r) (lN (ke 0))) w) ++ rest)) := by
  refine xm_of [some (.ref 16), some (.long r), none, some (.long w), none] rfl (Nat.le_of_ble_eq_true rfl) rfl ?_
  intro p e s m args below meth c C hr hk
  refine xa_aload_n C dM_challengeOf_0 rfl ?_
  refine xa_ldc2 C (xw_in wk_M_87 rfl) dM_challengeOf_1 ?_
  refine xa_callVv C (p_M_begins g l _) b_M_80 (xw_in wi_M_begins rfl) e_M_begins dM_challengeOf_4 rfl rfl rfl rfl (Nat.le_of_ble_eq_true rfl) ⟨Nat.le_of_ble_eq_true rfl, Nat.le_of_ble_eq_true rfl⟩ ⟨Nat.zero_le _, Nat.zero_le _⟩ ?_
  refine xa_aload_n C dM_challengeOf_7 rfl ?_
  refine xa_lload_n C dM_challengeOf_8 rfl ?_
  refine xa_callVv C (p_M_mix g l _) b_M_74 (xw_in wi_M_mix rfl) e_M_mix dM_challengeOf_9 rfl rfl rfl rfl (Nat.le_of_ble_eq_true rfl) ⟨Nat.le_of_ble_eq_true rfl, Nat.le_of_ble_eq_true rfl⟩ ⟨Nat.zero_le _, Nat.zero_le _⟩ ?_
  refine xa_aload_n C dM_challengeOf_12 rfl ?_
  refine xa_aload_n C dM_challengeOf_13 rfl ?_
  refine xa_get C f_M_13 dM_challengeOf_14 rfl rfl ?_
  refine xa_icN C 0 dM_challengeOf_17 ?_
  refine xa_laloadN C dM_challengeOf_18 rfl ?_ (by omega) ?_
  · omega
  refine xa_callVv C (p_M_mix g l _) b_M_74 (xw_in wi_M_mix rfl) e_M_mix dM_challengeOf_19 rfl rfl rfl rfl (Nat.le_of_ble_eq_true rfl) ⟨Nat.le_of_ble_eq_true rfl, Nat.le_of_ble_eq_true rfl⟩ ⟨Nat.zero_le _, Nat.zero_le _⟩ ?_
  refine xa_aload_n C dM_challengeOf_22 rfl ?_
  refine xa_lload_n C dM_challengeOf_23 rfl ?_
  refine xa_callVv C (p_M_mix g l _) b_M_74 (xw_in wi_M_mix rfl) e_M_mix dM_challengeOf_24 rfl rfl rfl rfl (Nat.le_of_ble_eq_true rfl) ⟨Nat.le_of_ble_eq_true rfl, Nat.le_of_ble_eq_true rfl⟩ ⟨Nat.zero_le _, Nat.zero_le _⟩ ?_
  refine xa_aload_n C dM_challengeOf_27 rfl ?_
  refine xa_callV1 C (p_M_digest g l) b_M_83 (xw_in wi_M_digest rfl) e_M_digest dM_challengeOf_28 rfl rfl rfl rfl (Nat.le_of_ble_eq_true rfl) ⟨Nat.le_of_ble_eq_true rfl, Nat.le_of_ble_eq_true rfl⟩ ⟨Nat.zero_le _, Nat.zero_le _⟩ ?_
  exact xa_eq rfl rfl rfl (xa_lret C hr hk dM_challengeOf_31)
set_option maxHeartbeats 4000000 in
set_option maxRecDepth 100000 in
theorem p_M_thrown (g : xw_G) (l : Launch) {c0 c1 c2 c3 c4 c5 c6 c7 c8 c9 c10 c11 c12 c13 c14 c15 : va_E} {n t : Nat} {se ke f1 f2 e1 e2 y1 y2 fa we sh to : Nat → Nat} {oz sz mz : Nat → Int32} {th dl ms tk bl : Int32} {al ch : Nat} {mi : Int64} {rest : List va_E}  : xm_R g l true m_M_thrown [.ref 16] (hQ c0 c1 c2 c3 c4 c5 c6 c7 c8 c9 c10 c11 c12 c13 c14 c15 (hM g th n t dl se ke oz f1 f2 e1 e2 ms al ch y1 y2 fa we sz mz sh to tk bl mi ++ rest)) (some (.int th)) (hQ c0 c1 c2 c3 c4 c5 c6 c7 c8 c9 c10 c11 c12 c13 c14 c15 (hM g th n t dl se ke oz f1 f2 e1 e2 ms al ch y1 y2 fa we sz mz sh to tk bl mi ++ rest)) := by
  refine xm_of [some (.ref 16)] rfl (Nat.le_of_ble_eq_true rfl) rfl ?_
  intro p e s m args below meth c C hr hk
  refine xa_aload_n C dM_thrown_0 rfl ?_
  refine xa_get C f_M_63 dM_thrown_1 rfl rfl ?_
  exact xa_iret C hr hk dM_thrown_4
theorem tb_dig {e k : Nat} (he : e < 2 ^ 62) (hk : k < 64) : (lN e >>> ((nI k).toInt64 &&& 63)) &&& lN 3 = lN (e / 2 ^ k % 4) := by
  rw [wb_c k hk, pf_shr (d := k) (by rw [wb_tb, wb_sm k hk, BitVec.toNat_ofNat]; exact Nat.mod_eq_of_lt (by omega)) he, show (3 : Nat) = 2 ^ 2 - 1 from rfl, wb_mask (k := 2) (Nat.lt_of_le_of_lt (Nat.div_le_self _ _) (by omega)) (by decide)]
theorem tm_4 (k : Nat) : 2 ^ (2 * k) = 4 ^ k := by rw [Nat.pow_mul]
theorem xi_m2 (x : Int32) : x + Int32.ofInt (-2) = x - 2 := by rw [Int32.sub_eq_add_neg]; rfl
theorem nI_m2 (k : Nat) : nI (2 * (k + 1)) - 2 = nI (2 * k) := by
  rw [show (2 : Int32) = nI 2 from rfl, pk_sub (by omega)]
  congr 1
set_option maxHeartbeats 4000000 in
set_option maxRecDepth 100000 in
theorem p_M_power (g : xw_G) (l : Launch) {x n m9 : Nat} (hx : x < 2 ^ 31) (hn : n < 2 ^ 32) (h2 : 2 ≤ m9) (hm31 : m9 < 2 ^ 31) (hp : List va_E) : xm_R g l true m_M_power [.long (lN x), .long (lN n), .long (lN m9)] hp (some (.long (lN (x ^ n % m9)))) hp := by
  refine xm_of [some (.long (lN x)), none, some (.long (lN n)), none, some (.long (lN m9)), none, none, none, none, none, none] rfl (Nat.le_of_ble_eq_true rfl) rfl ?_
  intro p e s m args below meth c C hr hk
  have hm0 : 0 < m9 := by omega
  have hm9 : ∀ q, q % m9 < 2 ^ 31 := fun q => Nat.lt_trans (Nat.mod_lt q hm0) hm31
  have loop : ∀ k : Nat, k ≤ 16 → ∀ o9 : Option Value, xw_At g true 11 p l e (xm_rm m_M_power 0) s m args below meth c 0 0 (MQ below (xm_Q g true (some (.long (lN (x ^ n % m9)))) hp) args s 0 0 (xm_fr g true)) 7 [some (.long (lN x)), none, some (.long (lN n)), none, some (.long (lN m9)), none, some (.long (lN (x ^ (n / 4 ^ k) % m9))), none, some (.int (nI (2 * k) - 2)), o9, none] [] hp := by
    intro k
    induction k with
    | zero =>
      intro _ o9
      refine xa_iload C dM_power_7 rfl ?_
      refine xa_if_lt C dM_power_9 (tgt := 73) rfl (fun h9 => ?_) (fun h9 => ?_)
      · refine xa_lload C dM_power_73 rfl ?_
        rw [Nat.pow_zero, Nat.div_one]
        exact xa_lret C hr hk dM_power_75
      · exact absurd (by decide) h9
    | succ k ih =>
      intro hk16 o9
      rw [nI_m2 k]
      refine xa_iload C dM_power_7 rfl ?_
      refine xa_if_lt C dM_power_9 (tgt := 73) rfl (fun h9 => ?_) (fun h9 => ?_)
      · exact absurd h9 (nI_pos (by omega))
      · refine xa_lload C dM_power_12 rfl ?_
        refine xa_lload C dM_power_14 rfl ?_
        refine xa_mulN C dM_power_16 ?_
        refine xa_lload C dM_power_17 rfl ?_
        refine xa_remN C dM_power_19 (tm_62 (by first | exact hm9 _ | exact hx) (by first | exact hm9 _ | exact hx)) hm0 (by omega) ?_
        refine xa_lstore C dM_power_20 (Nat.le_of_ble_eq_true rfl) ?_
        refine xa_lload C dM_power_22 rfl ?_
        refine xa_lload C dM_power_24 rfl ?_
        refine xa_mulN C dM_power_26 ?_
        refine xa_lload C dM_power_27 rfl ?_
        refine xa_remN C dM_power_29 (tm_62 (by first | exact hm9 _ | exact hx) (by first | exact hm9 _ | exact hx)) hm0 (by omega) ?_
        refine xa_lstore C dM_power_30 (Nat.le_of_ble_eq_true rfl) ?_
        refine xa_lload_n C dM_power_32 rfl ?_
        refine xa_iload C dM_power_33 rfl ?_
        refine xa_lshr C dM_power_35 ?_
        refine xa_ldcN C 3 (xw_in wk_M_66 rfl) dM_power_36 ?_
        refine xa_land C dM_power_39 ?_
        rw [tb_dig (e := n) (k := 2 * k) (by omega) (by omega), tm_4, tm_sq, tm_sq]
        refine xa_lstore C dM_power_40 (Nat.le_of_ble_eq_true rfl) ?_
        have inner : ∀ q : Nat, q ≤ n / 4 ^ k % 4 → xw_At g true 11 p l e (xm_rm m_M_power 0) s m args below meth c 0 0 (MQ below (xm_Q g true (some (.long (lN (x ^ n % m9)))) hp) args s 0 0 (xm_fr g true)) 42 [some (.long (lN x)), none, some (.long (lN n)), none, some (.long (lN m9)), none, some (.long (lN (x ^ (2 * (2 * (n / 4 ^ (k + 1))) + (n / 4 ^ k % 4 - q)) % m9))), none, some (.int (nI (2 * k))), some (.long (lN q)), none] [] hp := by
          intro q
          induction q with
          | zero =>
            intro _
            refine xa_lload C dM_power_42 rfl ?_
            refine xa_lcN C 0 dM_power_44 ?_
            refine xa_lcmp C dM_power_45 ?_
            refine xa_if_le C dM_power_46 (tgt := 67) rfl (fun h46 => ?_) (fun h46 => ?_)
            · rw [Nat.sub_zero, show 2 * (2 * (n / 4 ^ (k + 1))) + n / 4 ^ k % 4 = n / 4 ^ k by have := tm_dig n k; omega]
              refine xa_iinc C dM_power_67 rfl (Nat.le_of_ble_eq_true rfl) ?_
              refine xa_goto C dM_power_70 (tgt := 7) rfl ?_
              rw [xi_m2]
              exact ih (by omega) _
            · exact absurd ((lg_cmp_le _ _).mpr (Int64.le_refl _)) h46
          | succ q ihq =>
            intro hq
            refine xa_lload C dM_power_42 rfl ?_
            refine xa_lcN C 0 dM_power_44 ?_
            refine xa_lcmp C dM_power_45 ?_
            refine xa_if_le C dM_power_46 (tgt := 67) rfl (fun h46 => ?_) (fun h46 => ?_)
            · exact absurd ((pk_lLE (a := q + 1) (b := 0) (by omega) (by decide)).mp ((lg_cmp_le _ _).mp h46)) (by omega)
            · refine xa_lload C dM_power_49 rfl ?_
              refine xa_lload_n C dM_power_51 rfl ?_
              refine xa_mulN C dM_power_52 ?_
              refine xa_lload C dM_power_53 rfl ?_
              refine xa_remN C dM_power_55 (tm_62 (by first | exact hm9 _ | exact hx) (by first | exact hm9 _ | exact hx)) hm0 (by omega) ?_
              rw [tm_mu, show 2 * (2 * (n / 4 ^ (k + 1))) + (n / 4 ^ k % 4 - (q + 1)) + 1 = 2 * (2 * (n / 4 ^ (k + 1))) + (n / 4 ^ k % 4 - q) by omega]
              refine xa_lstore C dM_power_56 (Nat.le_of_ble_eq_true rfl) ?_
              refine xa_lload C dM_power_58 rfl ?_
              refine xa_lcN C 1 dM_power_60 ?_
              refine xa_lsub C dM_power_61 ?_
              rw [show lN (q + 1) - lN ((1 : Fin 2) : Nat) = lN q from lN_sub (a := q + 1) (b := 1) (by omega)]
              refine xa_lstore C dM_power_62 (Nat.le_of_ble_eq_true rfl) ?_
              refine xa_goto C dM_power_64 (tgt := 42) rfl ?_
              exact ihq (by omega)
        have h := inner (n / 4 ^ k % 4) (Nat.le_refl _)
        rw [Nat.sub_self, Nat.add_zero] at h
        exact h
  refine xa_lcN C 1 dM_power_0 ?_
  refine xa_lstore C dM_power_1 (Nat.le_of_ble_eq_true rfl) ?_
  refine xa_bpN C 30 dM_power_3 (by decide) ?_
  refine xa_istore C dM_power_5 (Nat.le_of_ble_eq_true rfl) ?_
  have h := loop 16 (Nat.le_refl _) none
  rw [show n / 4 ^ 16 = 0 from Nat.div_eq_of_lt (by omega), Nat.pow_zero, Nat.mod_eq_of_lt (by omega : 1 < m9), show nI (2 * 16) - 2 = nI 30 from nI_m2 15] at h
  exact h
