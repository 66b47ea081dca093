/-! the reference: seal, checks, recover, what is told -/
def ts_ (x : Int32) (to : Nat → Nat) : Nat → Nat
  | 0 => 0
  | k + 1 => if hs x (k + 1) = true then (ts_ x to k + to (k + 1)) % 1073741789 else ts_ x to k
theorem ts_lt (x : Int32) (to : Nat → Nat) : ∀ k, ts_ x to k < 1073741789
  | 0 => (by decide : 0 < 1073741789)
  | k + 1 => by
    rw [ts_]
    by_cases q : hs x (k + 1) = true
    · rw [if_pos q]; exact Nat.mod_lt _ (by decide)
    · rw [if_neg q]; exact ts_lt x to k
set_option maxHeartbeats 4000000 in
set_option maxRecDepth 100000 in
theorem p_M_sum (g : xw_G) (l : Launch) {c0 c1 c2 c3 c4 c5 c6 c7 c8 c9 c10 c11 c12 c13 c14 c15 : va_E} {n t : Nat} {se ke f1 f2 e1 e2 y1 y2 fa we sh to : Nat → Nat} {oz sz mz : Nat → Int32} {th dl ms tk bl : Int32} {al ch : Nat} {mi : Int64} {rest : List va_E} (hn : n ≤ 6) (hto : ∀ j, to j < 2 ^ 31) : xm_R g l true m_M_sum [.ref 16] (hQ c0 c1 c2 c3 c4 c5 c6 c7 c8 c9 c10 c11 c12 c13 c14 c15 (hM g th n t dl se ke oz f1 f2 e1 e2 ms al ch y1 y2 fa we sz mz sh to tk bl mi ++ rest)) (some (.long (lN (ts_ ms to n)))) (hQ c0 c1 c2 c3 c4 c5 c6 c7 c8 c9 c10 c11 c12 c13 c14 c15 (hM g th n t dl se ke oz f1 f2 e1 e2 ms al ch y1 y2 fa we sz mz sh to tk bl mi ++ rest)) := by
  refine xm_of [some (.ref 16), none, none, none] rfl (Nat.le_of_ble_eq_true rfl) rfl ?_
  intro p e s m args below meth c C hr hk
  have loop : ∀ d k : Nat, k + d = n → xw_At g true 4 p l e (xm_rm m_M_sum 0) s m args below meth c 0 0 (MQ below (xm_Q g true (some (.long (lN (ts_ ms to n)))) (hQ c0 c1 c2 c3 c4 c5 c6 c7 c8 c9 c10 c11 c12 c13 c14 c15 (hM g th n t dl se ke oz f1 f2 e1 e2 ms al ch y1 y2 fa we sz mz sh to tk bl mi ++ rest))) args s 0 0 (xm_fr g true)) 4 [some (.ref 16), some (.long (lN (ts_ ms to k))), none, some (.int (nI (k + 1)))] [] (hQ c0 c1 c2 c3 c4 c5 c6 c7 c8 c9 c10 c11 c12 c13 c14 c15 (hM g th n t dl se ke oz f1 f2 e1 e2 ms al ch y1 y2 fa we sz mz sh to tk bl mi ++ rest)) := by
    intro d
    induction d with
    | zero =>
      intro k hk9
      obtain rfl : k = n := by omega
      refine xa_iload_n C dM_sum_4 rfl ?_
      refine xa_aload_n C dM_sum_5 rfl ?_
      refine xa_get C f_M_56 dM_sum_6 rfl rfl ?_
      refine xa_icmp_gt C dM_sum_9 (tgt := 46) rfl (fun h9 => ?_) (fun h9 => ?_)
      · refine xa_lload_n C dM_sum_46 rfl ?_
        exact xa_lret C hr hk dM_sum_47
      · exact absurd (nI_lt (by omega) (by omega)) h9
    | succ d ih =>
      intro k hk9
      refine xa_iload_n C dM_sum_4 rfl ?_
      refine xa_aload_n C dM_sum_5 rfl ?_
      refine xa_get C f_M_56 dM_sum_6 rfl rfl ?_
      refine xa_icmp_gt C dM_sum_9 (tgt := 46) rfl (fun h9 => ?_) (fun h9 => ?_)
      · exact absurd h9 (nI_nlt (by omega) (by omega))
      · refine xa_aload_n C dM_sum_12 rfl ?_
        refine xa_get C f_M_107 dM_sum_13 rfl rfl ?_
        refine xa_iload_n C dM_sum_16 rfl ?_
        refine xa_callS1 C (p_M_inN g l _ (by omega) (by omega) _) b_M_89 (xw_in wt_M_in rfl) dM_sum_17 rfl (Nat.le_of_ble_eq_true rfl) ⟨Nat.le_of_ble_eq_true rfl, Nat.le_of_ble_eq_true rfl⟩ ⟨Nat.zero_le _, Nat.zero_le _⟩ ?_
        refine xa_if_eq C dM_sum_20 (tgt := 38) rfl (fun h20 => ?_) (fun h20 => ?_)
        · have hb := xb_hs0 h20
          refine xa_lload_n C dM_sum_38 rfl ?_
          refine xa_lstore_n C dM_sum_39 (Nat.le_of_ble_eq_true rfl) ?_
          refine xa_incN C dM_sum_40 rfl (Nat.le_of_ble_eq_true rfl) ?_
          refine xa_goto C dM_sum_43 (tgt := 4) rfl ?_
          have h := ih (k + 1) (by omega)
          rw [ts_, if_neg (by rw [hb]; decide)] at h
          exact h
        · have hb := xb_hs1 h20
          refine xa_lload_n C dM_sum_23 rfl ?_
          refine xa_aload_n C dM_sum_24 rfl ?_
          refine xa_get C f_M_53 dM_sum_25 rfl rfl ?_
          refine xa_iload_n C dM_sum_28 rfl ?_
          refine xa_laloadN C dM_sum_29 rfl ?_ (by omega) ?_
          · omega
          refine xa_addN C dM_sum_30 ?_
          refine xa_ldcN C 1073741789 (xw_in wk_M_68 rfl) dM_sum_31 ?_
          refine xa_remN C dM_sum_34 (by have q1 := ts_lt ms to k; have q2 := hto (k + 1); omega) (by decide) (by decide) ?_
          refine xa_goto C dM_sum_35 (tgt := 39) rfl ?_
          refine xa_lstore_n C dM_sum_39 (Nat.le_of_ble_eq_true rfl) ?_
          refine xa_incN C dM_sum_40 rfl (Nat.le_of_ble_eq_true rfl) ?_
          refine xa_goto C dM_sum_43 (tgt := 4) rfl ?_
          have h := ih (k + 1) (by omega)
          rw [ts_, if_pos hb] at h
          exact h
  refine xa_lcN C 0 dM_sum_0 ?_
  refine xa_lstore_n C dM_sum_1 (Nat.le_of_ble_eq_true rfl) ?_
  refine xa_icN C 1 dM_sum_2 ?_
  refine xa_istore_n C dM_sum_3 (Nat.le_of_ble_eq_true rfl) ?_
  exact loop n 0 (by omega)
set_option maxHeartbeats 4000000 in
set_option maxRecDepth 100000 in
theorem p_M_seal_a (g : xw_G) (l : Launch) {c0 c1 c2 c3 c4 c5 c6 c7 c8 c9 c10 c11 c12 c13 c14 c15 : va_E} {n t : Nat} {se ke f1 f2 e1 e2 y1 y2 fa we sh to : Nat → Nat} {oz sz mz : Nat → Int32} {th dl ms tk bl : Int32} {al ch : Nat} {mi : Int64} {rest : List va_E} (hw : ¬ (¬ ms = 0 ∧ tk = ms)) : xm_R g l false m_M_seal [.ref 16] (hQ c0 c1 c2 c3 c4 c5 c6 c7 c8 c9 c10 c11 c12 c13 c14 c15 (hM g th n t dl se ke oz f1 f2 e1 e2 ms al ch y1 y2 fa we sz mz sh to tk bl mi ++ rest)) (some (.long (lN 0))) (hQ c0 c1 c2 c3 c4 c5 c6 c7 c8 c9 c10 c11 c12 c13 c14 c15 (hM g (nI 1) n t dl se ke oz f1 f2 e1 e2 ms al ch y1 y2 fa we sz mz sh to tk bl mi ++ rest)) := by
  refine xm_of [some (.ref 16)] rfl (Nat.le_of_ble_eq_true rfl) rfl ?_
  intro p e s m args below meth c C hr hk
  refine xa_aload_n C dM_seal_0 rfl ?_
  refine xa_aload_n C dM_seal_1 rfl ?_
  refine xa_callV1 C (p_M_isWhole g l) b_M_161 (xw_in wi_M_isWhole rfl) e_M_isWhole dM_seal_2 rfl rfl rfl rfl (Nat.le_of_ble_eq_true rfl) ⟨Nat.le_of_ble_eq_true rfl, Nat.le_of_ble_eq_true rfl⟩ ⟨Nat.zero_le _, Nat.zero_le _⟩ ?_
  refine xa_if_eq C dM_seal_5 (tgt := 12) rfl (fun h5 => ?_) (fun h5 => ?_)
  · refine xa_icN C 1 dM_seal_12 ?_
    refine xa_put C f_M_63 u_M_0 dM_seal_13 rfl (Nat.le_of_ble_eq_true rfl) rfl rfl (fun _ h => by cases h) ?_
    refine xa_aload_n C dM_seal_16 rfl ?_
    refine xa_get C f_M_63 dM_seal_17 rfl rfl ?_
    refine xa_if_ne C dM_seal_20 (tgt := 30) rfl (fun h20 => ?_) (fun h20 => ?_)
    · refine xa_lcN C 0 dM_seal_30 ?_
      exact xa_eq rfl rfl rfl (xa_lret C hr hk dM_seal_31)
    · exact absurd h20 (by decide)
  · exact absurd (xb_f hw) h5
set_option maxHeartbeats 4000000 in
set_option maxRecDepth 100000 in
theorem p_M_seal_b (g : xw_G) (l : Launch) {c0 c1 c2 c3 c4 c5 c6 c7 c8 c9 c10 c11 c12 c13 c14 c15 : va_E} {n t : Nat} {se ke f1 f2 e1 e2 y1 y2 fa we sh to : Nat → Nat} {oz sz mz : Nat → Int32} {th dl ms tk bl : Int32} {al ch : Nat} {mi : Int64} {rest : List va_E} (hn : n ≤ 6) (hto : ∀ j, to j < 2 ^ 31) (hw : ¬ ms = 0 ∧ tk = ms) : xm_R g l false m_M_seal [.ref 16] (hQ c0 c1 c2 c3 c4 c5 c6 c7 c8 c9 c10 c11 c12 c13 c14 c15 (hM g th n t dl se ke oz f1 f2 e1 e2 ms al ch y1 y2 fa we sz mz sh to tk bl mi ++ rest)) (some (.long (lN (ts_ ms to n)))) (hQ c0 c1 c2 c3 c4 c5 c6 c7 c8 c9 c10 c11 c12 c13 c14 c15 (hM g (nI 0) n t dl se ke oz f1 f2 e1 e2 ms al ch y1 y2 fa we sz mz sh to tk bl mi ++ rest)) := by
  refine xm_of [some (.ref 16)] rfl (Nat.le_of_ble_eq_true rfl) rfl ?_
  intro p e s m args below meth c C hr hk
  refine xa_aload_n C dM_seal_0 rfl ?_
  refine xa_aload_n C dM_seal_1 rfl ?_
  refine xa_callV1 C (p_M_isWhole g l) b_M_161 (xw_in wi_M_isWhole rfl) e_M_isWhole dM_seal_2 rfl rfl rfl rfl (Nat.le_of_ble_eq_true rfl) ⟨Nat.le_of_ble_eq_true rfl, Nat.le_of_ble_eq_true rfl⟩ ⟨Nat.zero_le _, Nat.zero_le _⟩ ?_
  refine xa_if_eq C dM_seal_5 (tgt := 12) rfl (fun h5 => ?_) (fun h5 => ?_)
  · exact absurd hw (xb_eq0.mp h5)
  · refine xa_icN C 0 dM_seal_8 ?_
    refine xa_goto C dM_seal_9 (tgt := 13) rfl ?_
    refine xa_put C f_M_63 u_M_0 dM_seal_13 rfl (Nat.le_of_ble_eq_true rfl) rfl rfl (fun _ h => by cases h) ?_
    refine xa_aload_n C dM_seal_16 rfl ?_
    refine xa_get C f_M_63 dM_seal_17 rfl rfl ?_
    refine xa_if_ne C dM_seal_20 (tgt := 30) rfl (fun h20 => ?_) (fun h20 => ?_)
    · exact absurd rfl h20
    · refine xa_aload_n C dM_seal_23 rfl ?_
      refine xa_callV1 C (p_M_sum g l hn hto) b_M_165 (xw_in wi_M_sum rfl) e_M_sum dM_seal_24 rfl rfl rfl rfl (Nat.le_of_ble_eq_true rfl) ⟨Nat.le_of_ble_eq_true rfl, Nat.le_of_ble_eq_true rfl⟩ ⟨Nat.zero_le _, Nat.zero_le _⟩ ?_
      refine xa_goto C dM_seal_27 (tgt := 31) rfl ?_
      exact xa_eq rfl rfl rfl (xa_lret C hr hk dM_seal_31)
set_option maxHeartbeats 4000000 in
set_option maxRecDepth 100000 in
theorem p_M_isSealOf_n (g : xw_G) (l : Launch) {c0 c1 c2 c3 c4 c5 c6 c7 c8 c9 c10 c11 c12 c13 c14 c15 : va_E} {n t : Nat} {se ke f1 f2 e1 e2 y1 y2 fa we sh to : Nat → Nat} {oz sz mz : Nat → Int32} {th dl ms tk bl : Int32} {al ch : Nat} {mi : Int64} {rest : List va_E} (w r z : Int64) (hn9 : dl = 0 ∨ ¬ (1 ≤ r ∧ r < 2147483579) ∨ ¬ (0 ≤ z ∧ z < 1073741789)) : xm_R g l true m_M_isSealOf [.ref 16, .long w, .long r, .long z] (hQ c0 c1 c2 c3 c4 c5 c6 c7 c8 c9 c10 c11 c12 c13 c14 c15 (hM g th n t dl se ke oz f1 f2 e1 e2 ms al ch y1 y2 fa we sz mz sh to tk bl mi ++ rest)) (some (.int 0)) (hQ c0 c1 c2 c3 c4 c5 c6 c7 c8 c9 c10 c11 c12 c13 c14 c15 (hM g th n t dl se ke oz f1 f2 e1 e2 ms al ch y1 y2 fa we sz mz sh to tk bl mi ++ rest)) := by
  refine xm_of [some (.ref 16), some (.long w), none, some (.long r), none, some (.long z), none, none, none] rfl (Nat.le_of_ble_eq_true rfl) rfl ?_
  intro p e s m args below meth c C hr hk
  refine xa_aload_n C dM_isSealOf_0 rfl ?_
  refine xa_get C f_M_103 dM_isSealOf_1 rfl rfl ?_
  refine xa_if_eq C dM_isSealOf_4 (tgt := 29) rfl (fun h4 => ?_) (fun h4 => ?_)
  · refine xa_icN C 0 dM_isSealOf_29 ?_
    exact xa_zret C hr hk rfl dM_isSealOf_30
  · refine xa_lload_n C dM_isSealOf_7 rfl ?_
    refine xa_lcN C 1 dM_isSealOf_8 ?_
    refine xa_lcmp C dM_isSealOf_9 ?_
    refine xa_if_lt C dM_isSealOf_10 (tgt := 29) rfl (fun h10 => ?_) (fun h10 => ?_)
    · refine xa_icN C 0 dM_isSealOf_29 ?_
      exact xa_zret C hr hk rfl dM_isSealOf_30
    · refine xa_lload_n C dM_isSealOf_13 rfl ?_
      refine xa_ldcN C 2147483579 (xw_in wk_M_101 rfl) dM_isSealOf_14 ?_
      refine xa_lcmp C dM_isSealOf_17 ?_
      refine xa_if_ge C dM_isSealOf_18 (tgt := 29) rfl (fun h18 => ?_) (fun h18 => ?_)
      · refine xa_icN C 0 dM_isSealOf_29 ?_
        exact xa_zret C hr hk rfl dM_isSealOf_30
      · refine xa_lload C dM_isSealOf_21 rfl ?_
        refine xa_callS1 C (p_M_isNumber g l _ _) b_M_153 (xw_in wt_M_isNumber rfl) dM_isSealOf_23 rfl (Nat.le_of_ble_eq_true rfl) ⟨Nat.le_of_ble_eq_true rfl, Nat.le_of_ble_eq_true rfl⟩ ⟨Nat.zero_le _, Nat.zero_le _⟩ ?_
        refine xa_if_ne C dM_isSealOf_26 (tgt := 31) rfl (fun h26 => ?_) (fun h26 => ?_)
        · exfalso
          rcases hn9 with q | q | q
          · exact h4 q
          · exact q ⟨Int64.not_lt.mp (fun z9 => h10 ((lg_cmp_lt _ _).mpr z9)), Int64.not_le.mp (fun z9 => h18 ((lg_cmp_ge _ _).mpr z9))⟩
          · exact h26 (xb_f q)
        · refine xa_icN C 0 dM_isSealOf_29 ?_
          exact xa_zret C hr hk rfl dM_isSealOf_30
set_option maxHeartbeats 4000000 in
set_option maxRecDepth 100000 in
theorem p_M_isSealOf_y (g : xw_G) (l : Launch) {c0 c1 c2 c3 c4 c5 c6 c7 c8 c9 c10 c11 c12 c13 c14 c15 : va_E} {n t : Nat} {se ke f1 f2 e1 e2 y1 y2 fa we sh to : Nat → Nat} {oz sz mz : Nat → Int32} {th dl ms tk bl : Int32} {al ch : Nat} {mi : Int64} {rest : List va_E} (hke : ∀ j, ke j < 2 ^ 31) (hd : ¬ dl = 0) (w : Int64) {a b : Nat} (ha1 : 1 ≤ a) (ha : a < 2147483579) (hb : b < 1073741789) : xm_R g l false m_M_isSealOf [.ref 16, .long w, .long (lN a), .long (lN b)] (hQ c0 c1 c2 c3 c4 c5 c6 c7 c8 c9 c10 c11 c12 c13 c14 c15 (hM g th n t dl se ke oz f1 f2 e1 e2 ms al ch y1 y2 fa we sz mz sh to tk bl mi ++ rest)) (some (.int (xb (SHp (ke 0) w (lN a) (lN b))))) (hQ c0 c1 c2 c3 c4 c5 c6 c7 c8 c9 c10 c11 c12 c13 c14 c15 (hM g th n t dl se ke oz f1 f2 e1 e2 ms al ch y1 y2 fa we sz mz sh to tk bl (dg_m (dg_m (dg_m (dg_m 0 5) (lN a)) (lN (ke 0))) w) ++ rest)) := by
  refine xm_of [some (.ref 16), some (.long w), none, some (.long (lN a)), none, some (.long (lN b)), none, none, none] rfl (Nat.le_of_ble_eq_true rfl) rfl ?_
  intro p e s m args below meth c C hr hk
  have hr1 : (1 : Int64) ≤ lN a ∧ lN a < 2147483579 := ⟨(pk_lLE (a := 1) (b := a) (by decide) (by omega)).mpr ha1, (pk_lLT (a := a) (b := 2147483579) (by omega) (by decide)).mpr ha⟩
  refine xa_aload_n C dM_isSealOf_0 rfl ?_
  refine xa_get C f_M_103 dM_isSealOf_1 rfl rfl ?_
  refine xa_if_eq C dM_isSealOf_4 (tgt := 29) rfl (fun h4 => ?_) (fun h4 => ?_)
  · exact absurd h4 hd
  · refine xa_lload_n C dM_isSealOf_7 rfl ?_
    refine xa_lcN C 1 dM_isSealOf_8 ?_
    refine xa_lcmp C dM_isSealOf_9 ?_
    refine xa_if_lt C dM_isSealOf_10 (tgt := 29) rfl (fun h10 => ?_) (fun h10 => ?_)
    · exact absurd ((lg_cmp_lt _ _).mp h10) (Int64.not_lt.mpr hr1.1)
    · refine xa_lload_n C dM_isSealOf_13 rfl ?_
      refine xa_ldcN C 2147483579 (xw_in wk_M_101 rfl) dM_isSealOf_14 ?_
      refine xa_lcmp C dM_isSealOf_17 ?_
      refine xa_if_ge C dM_isSealOf_18 (tgt := 29) rfl (fun h18 => ?_) (fun h18 => ?_)
      · exact absurd ((lg_cmp_ge _ _).mp h18) (Int64.not_le.mpr hr1.2)
      · refine xa_lload C dM_isSealOf_21 rfl ?_
        refine xa_callS1 C (p_M_isNumber g l _ _) b_M_153 (xw_in wt_M_isNumber rfl) dM_isSealOf_23 rfl (Nat.le_of_ble_eq_true rfl) ⟨Nat.le_of_ble_eq_true rfl, Nat.le_of_ble_eq_true rfl⟩ ⟨Nat.zero_le _, Nat.zero_le _⟩ ?_
        refine xa_if_ne C dM_isSealOf_26 (tgt := 31) rfl (fun h26 => ?_) (fun h26 => ?_)
        · refine xa_aload_n C dM_isSealOf_31 rfl ?_
          refine xa_lload_n C dM_isSealOf_32 rfl ?_
          refine xa_lload_n C dM_isSealOf_33 rfl ?_
          refine xa_callV1 C (p_M_challengeOf g l _ w) b_M_143 (xw_in wi_M_challengeOf rfl) e_M_challengeOf dM_isSealOf_34 rfl rfl rfl rfl (Nat.le_of_ble_eq_true rfl) ⟨Nat.le_of_ble_eq_true rfl, Nat.le_of_ble_eq_true rfl⟩ ⟨Nat.zero_le _, Nat.zero_le _⟩ ?_
          refine xa_lstore C dM_isSealOf_37 (Nat.le_of_ble_eq_true rfl) ?_
          refine xa_ldcN C 4 (xw_in wk_M_99 rfl) dM_isSealOf_39 ?_
          refine xa_lload C dM_isSealOf_42 rfl ?_
          refine xa_ldcN C 2147483579 (xw_in wk_M_101 rfl) dM_isSealOf_44 ?_
          refine xa_callS1 C (p_M_power g l (by first | exact hke _ | decide) (by first | exact Nat.lt_trans (dg_f_lt _) (by decide) | omega) (by decide) (by decide) _) b_M_95 (xw_in wt_M_power rfl) dM_isSealOf_47 rfl (Nat.le_of_ble_eq_true rfl) ⟨Nat.le_of_ble_eq_true rfl, Nat.le_of_ble_eq_true rfl⟩ ⟨Nat.zero_le _, Nat.zero_le _⟩ ?_
          refine xa_lload_n C dM_isSealOf_50 rfl ?_
          refine xa_aload_n C dM_isSealOf_51 rfl ?_
          refine xa_get C f_M_13 dM_isSealOf_52 rfl rfl ?_
          refine xa_icN C 0 dM_isSealOf_55 ?_
          refine xa_laloadN C dM_isSealOf_56 rfl ?_ (by omega) ?_
          · omega
          refine xa_lload C dM_isSealOf_57 rfl ?_
          refine xa_ldcN C 2147483579 (xw_in wk_M_101 rfl) dM_isSealOf_59 ?_
          refine xa_callS1 C (p_M_power g l (by first | exact hke _ | decide) (by first | exact Nat.lt_trans (dg_f_lt _) (by decide) | omega) (by decide) (by decide) _) b_M_95 (xw_in wt_M_power rfl) dM_isSealOf_62 rfl (Nat.le_of_ble_eq_true rfl) ⟨Nat.le_of_ble_eq_true rfl, Nat.le_of_ble_eq_true rfl⟩ ⟨Nat.zero_le _, Nat.zero_le _⟩ ?_
          refine xa_mulN C dM_isSealOf_65 ?_
          refine xa_ldcN C 2147483579 (xw_in wk_M_101 rfl) dM_isSealOf_66 ?_
          refine xa_remN C dM_isSealOf_69 (by first | exact tm_62 (by omega) (tb_p _) | omega) (by decide) (by decide) ?_
          refine xa_lcmp C dM_isSealOf_70 ?_
          refine xa_if_ne C dM_isSealOf_71 (tgt := 78) rfl (fun h71 => ?_) (fun h71 => ?_)
          · refine xa_icN C 0 dM_isSealOf_78 ?_
            refine xa_eq rfl (congrArg (fun z => [Value.int z]) (xb_f (P := SHp (ke 0) w (lN a) (lN b)) (fun q => h71 ?_)).symm) rfl (xa_zret C hr hk (xb_nar _) dM_isSealOf_79)
            have q3 := q.2.2
            rw [nt_lN (by omega), nt_lN (by omega)] at q3
            exact (tp_eq (tb_p _) (tb_p _)).mpr q3
          · refine xa_icN C 1 dM_isSealOf_74 ?_
            refine xa_goto C dM_isSealOf_75 (tgt := 79) rfl ?_
            refine xa_eq rfl (congrArg (fun z => [Value.int z]) (xb_t (P := SHp (ke 0) w (lN a) (lN b)) ⟨hr1, nm_lt hb, ?_⟩).symm) rfl (xa_zret C hr hk (xb_nar _) dM_isSealOf_79)
            rw [nt_lN (by omega), nt_lN (by omega)]
            exact (tp_eq (tb_p _) (tb_p _)).mp h71
        · exact absurd (nm_lt hb) (xb_eq0.mp h26)
set_option maxHeartbeats 4000000 in
set_option maxRecDepth 100000 in
theorem p_M_check_n (g : xw_G) (l : Launch) {c0 c1 c2 c3 c4 c5 c6 c7 c8 c9 c10 c11 c12 c13 c14 c15 : va_E} {n t : Nat} {se ke f1 f2 e1 e2 y1 y2 fa we sh to : Nat → Nat} {oz sz mz : Nat → Int32} {th dl ms tk bl : Int32} {al ch : Nat} {mi : Int64} {rest : List va_E} (w r z : Int64) (hn9 : dl = 0 ∨ ¬ (1 ≤ r ∧ r < 2147483579) ∨ ¬ (0 ≤ z ∧ z < 1073741789)) : xm_R g l false m_M_check [.ref 16, .long w, .long r, .long z] (hQ c0 c1 c2 c3 c4 c5 c6 c7 c8 c9 c10 c11 c12 c13 c14 c15 (hM g th n t dl se ke oz f1 f2 e1 e2 ms al ch y1 y2 fa we sz mz sh to tk bl mi ++ rest)) (some (.int 0)) (hQ c0 c1 c2 c3 c4 c5 c6 c7 c8 c9 c10 c11 c12 c13 c14 c15 (hM g (nI 0) n t dl se ke oz f1 f2 e1 e2 ms al ch y1 y2 fa we sz mz sh to tk bl mi ++ rest)) := by
  refine xm_of [some (.ref 16), some (.long w), none, some (.long r), none, some (.long z), none] rfl (Nat.le_of_ble_eq_true rfl) rfl ?_
  intro p e s m args below meth c C hr hk
  refine xa_aload_n C dM_check_0 rfl ?_
  refine xa_icN C 0 dM_check_1 ?_
  refine xa_put C f_M_63 u_M_0 dM_check_2 rfl (Nat.le_of_ble_eq_true rfl) rfl rfl (fun _ h => by cases h) ?_
  refine xa_aload_n C dM_check_5 rfl ?_
  refine xa_lload_n C dM_check_6 rfl ?_
  refine xa_lload_n C dM_check_7 rfl ?_
  refine xa_lload C dM_check_8 rfl ?_
  refine xa_callV1 C (p_M_isSealOf_n g l _ _ _ hn9) b_M_168 (xw_in wi_M_isSealOf rfl) e_M_isSealOf dM_check_10 rfl rfl rfl rfl (Nat.le_of_ble_eq_true rfl) ⟨Nat.le_of_ble_eq_true rfl, Nat.le_of_ble_eq_true rfl⟩ ⟨Nat.zero_le _, Nat.zero_le _⟩ ?_
  exact xa_eq rfl rfl rfl (xa_zret C hr hk (by first | exact xb_nar _ | rfl) dM_check_13)
set_option maxHeartbeats 4000000 in
set_option maxRecDepth 100000 in
theorem p_M_check_y (g : xw_G) (l : Launch) {c0 c1 c2 c3 c4 c5 c6 c7 c8 c9 c10 c11 c12 c13 c14 c15 : va_E} {n t : Nat} {se ke f1 f2 e1 e2 y1 y2 fa we sh to : Nat → Nat} {oz sz mz : Nat → Int32} {th dl ms tk bl : Int32} {al ch : Nat} {mi : Int64} {rest : List va_E} (hke : ∀ j, ke j < 2 ^ 31) (hd : ¬ dl = 0) (w : Int64) {a b : Nat} (ha1 : 1 ≤ a) (ha : a < 2147483579) (hb : b < 1073741789) : xm_R g l false m_M_check [.ref 16, .long w, .long (lN a), .long (lN b)] (hQ c0 c1 c2 c3 c4 c5 c6 c7 c8 c9 c10 c11 c12 c13 c14 c15 (hM g th n t dl se ke oz f1 f2 e1 e2 ms al ch y1 y2 fa we sz mz sh to tk bl mi ++ rest)) (some (.int (xb (SHp (ke 0) w (lN a) (lN b))))) (hQ c0 c1 c2 c3 c4 c5 c6 c7 c8 c9 c10 c11 c12 c13 c14 c15 (hM g (nI 0) n t dl se ke oz f1 f2 e1 e2 ms al ch y1 y2 fa we sz mz sh to tk bl (dg_m (dg_m (dg_m (dg_m 0 5) (lN a)) (lN (ke 0))) w) ++ rest)) := by
  refine xm_of [some (.ref 16), some (.long w), none, some (.long (lN a)), none, some (.long (lN b)), none] rfl (Nat.le_of_ble_eq_true rfl) rfl ?_
  intro p e s m args below meth c C hr hk
  refine xa_aload_n C dM_check_0 rfl ?_
  refine xa_icN C 0 dM_check_1 ?_
  refine xa_put C f_M_63 u_M_0 dM_check_2 rfl (Nat.le_of_ble_eq_true rfl) rfl rfl (fun _ h => by cases h) ?_
  refine xa_aload_n C dM_check_5 rfl ?_
  refine xa_lload_n C dM_check_6 rfl ?_
  refine xa_lload_n C dM_check_7 rfl ?_
  refine xa_lload C dM_check_8 rfl ?_
  refine xa_callV1 C (p_M_isSealOf_y g l hke hd w ha1 ha hb) b_M_168 (xw_in wi_M_isSealOf rfl) e_M_isSealOf dM_check_10 rfl rfl rfl rfl (Nat.le_of_ble_eq_true rfl) ⟨Nat.le_of_ble_eq_true rfl, Nat.le_of_ble_eq_true rfl⟩ ⟨Nat.zero_le _, Nat.zero_le _⟩ ?_
  exact xa_eq rfl rfl rfl (xa_zret C hr hk (by first | exact xb_nar _ | rfl) dM_check_13)
set_option maxHeartbeats 4000000 in
set_option maxRecDepth 100000 in
theorem p_M_holds_a (g : xw_G) (l : Launch) {c0 c1 c2 c3 c4 c5 c6 c7 c8 c9 c10 c11 c12 c13 c14 c15 : va_E} {n t : Nat} {se ke f1 f2 e1 e2 y1 y2 fa we sh to : Nat → Nat} {oz sz mz : Nat → Int32} {th dl ms tk bl : Int32} {al ch : Nat} {mi : Int64} {rest : List va_E} (w x : Int64) (hx : ¬ (0 ≤ x ∧ x < 1073741789)) : xm_R g l false m_M_holds [.ref 16, .long w, .long x] (hQ c0 c1 c2 c3 c4 c5 c6 c7 c8 c9 c10 c11 c12 c13 c14 c15 (hM g th n t dl se ke oz f1 f2 e1 e2 ms al ch y1 y2 fa we sz mz sh to tk bl mi ++ rest)) (some (.int 0)) (hQ c0 c1 c2 c3 c4 c5 c6 c7 c8 c9 c10 c11 c12 c13 c14 c15 (hM g (nI 1) n t dl se ke oz f1 f2 e1 e2 ms al ch y1 y2 fa we sz mz sh to tk bl mi ++ rest)) := by
  refine xm_of [some (.ref 16), some (.long w), none, some (.long x), none] rfl (Nat.le_of_ble_eq_true rfl) rfl ?_
  intro p e s m args below meth c C hr hk
  refine xa_aload_n C dM_holds_0 rfl ?_
  refine xa_lload_n C dM_holds_1 rfl ?_
  refine xa_callS1 C (p_M_isNumber g l _ _) b_M_153 (xw_in wt_M_isNumber rfl) dM_holds_2 rfl (Nat.le_of_ble_eq_true rfl) ⟨Nat.le_of_ble_eq_true rfl, Nat.le_of_ble_eq_true rfl⟩ ⟨Nat.zero_le _, Nat.zero_le _⟩ ?_
  refine xa_if_ne C dM_holds_5 (tgt := 12) rfl (fun h5 => ?_) (fun h5 => ?_)
  · exact absurd (xb_f hx) h5
  · refine xa_icN C 1 dM_holds_8 ?_
    refine xa_goto C dM_holds_9 (tgt := 24) rfl ?_
    refine xa_put C f_M_63 u_M_0 dM_holds_24 rfl (Nat.le_of_ble_eq_true rfl) rfl rfl (fun _ h => by cases h) ?_
    refine xa_aload_n C dM_holds_27 rfl ?_
    refine xa_get C f_M_63 dM_holds_28 rfl rfl ?_
    refine xa_if_ne C dM_holds_31 (tgt := 60) rfl (fun h31 => ?_) (fun h31 => ?_)
    · refine xa_icN C 0 dM_holds_60 ?_
      exact xa_eq rfl rfl rfl (xa_zret C hr hk (by first | exact xb_nar _ | rfl) dM_holds_61)
    · exact absurd h31 (by decide)
set_option maxHeartbeats 4000000 in
set_option maxRecDepth 100000 in
theorem p_M_holds_b (g : xw_G) (l : Launch) {c0 c1 c2 c3 c4 c5 c6 c7 c8 c9 c10 c11 c12 c13 c14 c15 : va_E} {n t : Nat} {se ke f1 f2 e1 e2 y1 y2 fa we sh to : Nat → Nat} {oz sz mz : Nat → Int32} {th dl ms tk bl : Int32} {al ch : Nat} {mi : Int64} {rest : List va_E} (w : Int64) {z : Nat} (hz : z < 1073741789) (hw : ¬ (¬ ms = 0 ∧ tk = ms)) : xm_R g l false m_M_holds [.ref 16, .long w, .long (lN z)] (hQ c0 c1 c2 c3 c4 c5 c6 c7 c8 c9 c10 c11 c12 c13 c14 c15 (hM g th n t dl se ke oz f1 f2 e1 e2 ms al ch y1 y2 fa we sz mz sh to tk bl mi ++ rest)) (some (.int 0)) (hQ c0 c1 c2 c3 c4 c5 c6 c7 c8 c9 c10 c11 c12 c13 c14 c15 (hM g (nI 2) n t dl se ke oz f1 f2 e1 e2 ms al ch y1 y2 fa we sz mz sh to tk bl mi ++ rest)) := by
  refine xm_of [some (.ref 16), some (.long w), none, some (.long (lN z)), none] rfl (Nat.le_of_ble_eq_true rfl) rfl ?_
  intro p e s m args below meth c C hr hk
  refine xa_aload_n C dM_holds_0 rfl ?_
  refine xa_lload_n C dM_holds_1 rfl ?_
  refine xa_callS1 C (p_M_isNumber g l _ _) b_M_153 (xw_in wt_M_isNumber rfl) dM_holds_2 rfl (Nat.le_of_ble_eq_true rfl) ⟨Nat.le_of_ble_eq_true rfl, Nat.le_of_ble_eq_true rfl⟩ ⟨Nat.zero_le _, Nat.zero_le _⟩ ?_
  refine xa_if_ne C dM_holds_5 (tgt := 12) rfl (fun h5 => ?_) (fun h5 => ?_)
  · refine xa_aload_n C dM_holds_12 rfl ?_
    refine xa_callV1 C (p_M_isWhole g l) b_M_161 (xw_in wi_M_isWhole rfl) e_M_isWhole dM_holds_13 rfl rfl rfl rfl (Nat.le_of_ble_eq_true rfl) ⟨Nat.le_of_ble_eq_true rfl, Nat.le_of_ble_eq_true rfl⟩ ⟨Nat.zero_le _, Nat.zero_le _⟩ ?_
    refine xa_if_ne C dM_holds_16 (tgt := 23) rfl (fun h16 => ?_) (fun h16 => ?_)
    · exact absurd (xb_f hw) h16
    · refine xa_icN C 2 dM_holds_19 ?_
      refine xa_goto C dM_holds_20 (tgt := 24) rfl ?_
      refine xa_put C f_M_63 u_M_0 dM_holds_24 rfl (Nat.le_of_ble_eq_true rfl) rfl rfl (fun _ h => by cases h) ?_
      refine xa_aload_n C dM_holds_27 rfl ?_
      refine xa_get C f_M_63 dM_holds_28 rfl rfl ?_
      refine xa_if_ne C dM_holds_31 (tgt := 60) rfl (fun h31 => ?_) (fun h31 => ?_)
      · refine xa_icN C 0 dM_holds_60 ?_
        exact xa_eq rfl rfl rfl (xa_zret C hr hk (by first | exact xb_nar _ | rfl) dM_holds_61)
      · exact absurd h31 (by decide)
  · exact absurd (nm_lt hz) (xb_eq0.mp h5)
set_option maxHeartbeats 4000000 in
set_option maxRecDepth 100000 in
theorem p_M_holds_c (g : xw_G) (l : Launch) {c0 c1 c2 c3 c4 c5 c6 c7 c8 c9 c10 c11 c12 c13 c14 c15 : va_E} {n t : Nat} {se ke f1 f2 e1 e2 y1 y2 fa we sh to : Nat → Nat} {oz sz mz : Nat → Int32} {th dl ms tk bl : Int32} {al ch : Nat} {mi : Int64} {rest : List va_E} (hn : n ≤ 6) (hto : ∀ j, to j < 2 ^ 31) (w : Int64) {z : Nat} (hz : z < 1073741789) (hw : ¬ ms = 0 ∧ tk = ms) (hn9 : dl = 0 ∨ ¬ (1 ≤ lN al ∧ lN al < 2147483579) ∨ ¬ (0 ≤ lN ((ts_ ms to n + z) % 1073741789) ∧ lN ((ts_ ms to n + z) % 1073741789) < 1073741789)) : xm_R g l false m_M_holds [.ref 16, .long w, .long (lN z)] (hQ c0 c1 c2 c3 c4 c5 c6 c7 c8 c9 c10 c11 c12 c13 c14 c15 (hM g th n t dl se ke oz f1 f2 e1 e2 ms al ch y1 y2 fa we sz mz sh to tk bl mi ++ rest)) (some (.int 0)) (hQ c0 c1 c2 c3 c4 c5 c6 c7 c8 c9 c10 c11 c12 c13 c14 c15 (hM g (nI 0) n t dl se ke oz f1 f2 e1 e2 ms al ch y1 y2 fa we sz mz sh to tk bl mi ++ rest)) := by
  refine xm_of [some (.ref 16), some (.long w), none, some (.long (lN z)), none] rfl (Nat.le_of_ble_eq_true rfl) rfl ?_
  intro p e s m args below meth c C hr hk
  refine xa_aload_n C dM_holds_0 rfl ?_
  refine xa_lload_n C dM_holds_1 rfl ?_
  refine xa_callS1 C (p_M_isNumber g l _ _) b_M_153 (xw_in wt_M_isNumber rfl) dM_holds_2 rfl (Nat.le_of_ble_eq_true rfl) ⟨Nat.le_of_ble_eq_true rfl, Nat.le_of_ble_eq_true rfl⟩ ⟨Nat.zero_le _, Nat.zero_le _⟩ ?_
  refine xa_if_ne C dM_holds_5 (tgt := 12) rfl (fun h5 => ?_) (fun h5 => ?_)
  · refine xa_aload_n C dM_holds_12 rfl ?_
    refine xa_callV1 C (p_M_isWhole g l) b_M_161 (xw_in wi_M_isWhole rfl) e_M_isWhole dM_holds_13 rfl rfl rfl rfl (Nat.le_of_ble_eq_true rfl) ⟨Nat.le_of_ble_eq_true rfl, Nat.le_of_ble_eq_true rfl⟩ ⟨Nat.zero_le _, Nat.zero_le _⟩ ?_
    refine xa_if_ne C dM_holds_16 (tgt := 23) rfl (fun h16 => ?_) (fun h16 => ?_)
    · refine xa_icN C 0 dM_holds_23 ?_
      refine xa_put C f_M_63 u_M_0 dM_holds_24 rfl (Nat.le_of_ble_eq_true rfl) rfl rfl (fun _ h => by cases h) ?_
      refine xa_aload_n C dM_holds_27 rfl ?_
      refine xa_get C f_M_63 dM_holds_28 rfl rfl ?_
      refine xa_if_ne C dM_holds_31 (tgt := 60) rfl (fun h31 => ?_) (fun h31 => ?_)
      · exact absurd rfl h31
      · refine xa_aload_n C dM_holds_34 rfl ?_
        refine xa_lload_n C dM_holds_35 rfl ?_
        refine xa_aload_n C dM_holds_36 rfl ?_
        refine xa_get C f_M_132 dM_holds_37 rfl rfl ?_
        refine xa_aload_n C dM_holds_40 rfl ?_
        refine xa_callV1 C (p_M_sum g l hn hto) b_M_165 (xw_in wi_M_sum rfl) e_M_sum dM_holds_41 rfl rfl rfl rfl (Nat.le_of_ble_eq_true rfl) ⟨Nat.le_of_ble_eq_true rfl, Nat.le_of_ble_eq_true rfl⟩ ⟨Nat.zero_le _, Nat.zero_le _⟩ ?_
        refine xa_lload_n C dM_holds_44 rfl ?_
        refine xa_addN C dM_holds_45 ?_
        refine xa_ldcN C 1073741789 (xw_in wk_M_68 rfl) dM_holds_46 ?_
        refine xa_remN C dM_holds_49 (by have q1 := ts_lt ms to n; omega) (by decide) (by decide) ?_
        refine xa_callV1 C (p_M_isSealOf_n g l _ _ _ hn9) b_M_168 (xw_in wi_M_isSealOf rfl) e_M_isSealOf dM_holds_50 rfl rfl rfl rfl (Nat.le_of_ble_eq_true rfl) ⟨Nat.le_of_ble_eq_true rfl, Nat.le_of_ble_eq_true rfl⟩ ⟨Nat.zero_le _, Nat.zero_le _⟩ ?_
        refine xa_if_eq C dM_holds_53 (tgt := 60) rfl (fun h53 => ?_) (fun h53 => ?_)
        · refine xa_icN C 0 dM_holds_60 ?_
          exact xa_eq rfl rfl rfl (xa_zret C hr hk (by first | exact xb_nar _ | rfl) dM_holds_61)
        · exact absurd rfl h53
    · exact absurd hw (xb_eq0.mp h16)
  · exact absurd (nm_lt hz) (xb_eq0.mp h5)
set_option maxHeartbeats 4000000 in
set_option maxRecDepth 100000 in
theorem p_M_holds_d (g : xw_G) (l : Launch) {c0 c1 c2 c3 c4 c5 c6 c7 c8 c9 c10 c11 c12 c13 c14 c15 : va_E} {n t : Nat} {se ke f1 f2 e1 e2 y1 y2 fa we sh to : Nat → Nat} {oz sz mz : Nat → Int32} {th dl ms tk bl : Int32} {al ch : Nat} {mi : Int64} {rest : List va_E} (hn : n ≤ 6) (hke : ∀ j, ke j < 2 ^ 31) (hto : ∀ j, to j < 2 ^ 31) (hd : ¬ dl = 0) (w : Int64) {z : Nat} (hz : z < 1073741789) (hw : ¬ ms = 0 ∧ tk = ms) (ha1 : 1 ≤ al) (ha : al < 2147483579) (hS9 : SHp (ke 0) w (lN al) (lN ((ts_ ms to n + z) % 1073741789))) : xm_R g l false m_M_holds [.ref 16, .long w, .long (lN z)] (hQ c0 c1 c2 c3 c4 c5 c6 c7 c8 c9 c10 c11 c12 c13 c14 c15 (hM g th n t dl se ke oz f1 f2 e1 e2 ms al ch y1 y2 fa we sz mz sh to tk bl mi ++ rest)) (some (.int 1)) (hQ c0 c1 c2 c3 c4 c5 c6 c7 c8 c9 c10 c11 c12 c13 c14 c15 (hM g (nI 0) n t dl se ke oz f1 f2 e1 e2 ms al ch y1 y2 fa we sz mz sh to tk bl (dg_m (dg_m (dg_m (dg_m 0 5) (lN al)) (lN (ke 0))) w) ++ rest)) := by
  refine xm_of [some (.ref 16), some (.long w), none, some (.long (lN z)), none] rfl (Nat.le_of_ble_eq_true rfl) rfl ?_
  intro p e s m args below meth c C hr hk
  refine xa_aload_n C dM_holds_0 rfl ?_
  refine xa_lload_n C dM_holds_1 rfl ?_
  refine xa_callS1 C (p_M_isNumber g l _ _) b_M_153 (xw_in wt_M_isNumber rfl) dM_holds_2 rfl (Nat.le_of_ble_eq_true rfl) ⟨Nat.le_of_ble_eq_true rfl, Nat.le_of_ble_eq_true rfl⟩ ⟨Nat.zero_le _, Nat.zero_le _⟩ ?_
  refine xa_if_ne C dM_holds_5 (tgt := 12) rfl (fun h5 => ?_) (fun h5 => ?_)
  · refine xa_aload_n C dM_holds_12 rfl ?_
    refine xa_callV1 C (p_M_isWhole g l) b_M_161 (xw_in wi_M_isWhole rfl) e_M_isWhole dM_holds_13 rfl rfl rfl rfl (Nat.le_of_ble_eq_true rfl) ⟨Nat.le_of_ble_eq_true rfl, Nat.le_of_ble_eq_true rfl⟩ ⟨Nat.zero_le _, Nat.zero_le _⟩ ?_
    refine xa_if_ne C dM_holds_16 (tgt := 23) rfl (fun h16 => ?_) (fun h16 => ?_)
    · refine xa_icN C 0 dM_holds_23 ?_
      refine xa_put C f_M_63 u_M_0 dM_holds_24 rfl (Nat.le_of_ble_eq_true rfl) rfl rfl (fun _ h => by cases h) ?_
      refine xa_aload_n C dM_holds_27 rfl ?_
      refine xa_get C f_M_63 dM_holds_28 rfl rfl ?_
      refine xa_if_ne C dM_holds_31 (tgt := 60) rfl (fun h31 => ?_) (fun h31 => ?_)
      · exact absurd rfl h31
      · refine xa_aload_n C dM_holds_34 rfl ?_
        refine xa_lload_n C dM_holds_35 rfl ?_
        refine xa_aload_n C dM_holds_36 rfl ?_
        refine xa_get C f_M_132 dM_holds_37 rfl rfl ?_
        refine xa_aload_n C dM_holds_40 rfl ?_
        refine xa_callV1 C (p_M_sum g l hn hto) b_M_165 (xw_in wi_M_sum rfl) e_M_sum dM_holds_41 rfl rfl rfl rfl (Nat.le_of_ble_eq_true rfl) ⟨Nat.le_of_ble_eq_true rfl, Nat.le_of_ble_eq_true rfl⟩ ⟨Nat.zero_le _, Nat.zero_le _⟩ ?_
        refine xa_lload_n C dM_holds_44 rfl ?_
        refine xa_addN C dM_holds_45 ?_
        refine xa_ldcN C 1073741789 (xw_in wk_M_68 rfl) dM_holds_46 ?_
        refine xa_remN C dM_holds_49 (by have q1 := ts_lt ms to n; omega) (by decide) (by decide) ?_
        refine xa_callV1 C (p_M_isSealOf_y g l hke hd w ha1 ha (Nat.mod_lt _ (by decide))) b_M_168 (xw_in wi_M_isSealOf rfl) e_M_isSealOf dM_holds_50 rfl rfl rfl rfl (Nat.le_of_ble_eq_true rfl) ⟨Nat.le_of_ble_eq_true rfl, Nat.le_of_ble_eq_true rfl⟩ ⟨Nat.zero_le _, Nat.zero_le _⟩ ?_
        refine xa_if_eq C dM_holds_53 (tgt := 60) rfl (fun h53 => ?_) (fun h53 => ?_)
        · exact absurd hS9 (xb_eq0.mp h53)
        · refine xa_icN C 1 dM_holds_56 ?_
          refine xa_goto C dM_holds_57 (tgt := 61) rfl ?_
          exact xa_eq rfl rfl rfl (xa_zret C hr hk (by first | exact xb_nar _ | rfl) dM_holds_61)
    · exact absurd hw (xb_eq0.mp h16)
  · exact absurd (nm_lt hz) (xb_eq0.mp h5)
set_option maxHeartbeats 4000000 in
set_option maxRecDepth 100000 in
theorem p_M_holds_e (g : xw_G) (l : Launch) {c0 c1 c2 c3 c4 c5 c6 c7 c8 c9 c10 c11 c12 c13 c14 c15 : va_E} {n t : Nat} {se ke f1 f2 e1 e2 y1 y2 fa we sh to : Nat → Nat} {oz sz mz : Nat → Int32} {th dl ms tk bl : Int32} {al ch : Nat} {mi : Int64} {rest : List va_E} (hn : n ≤ 6) (hke : ∀ j, ke j < 2 ^ 31) (hto : ∀ j, to j < 2 ^ 31) (hd : ¬ dl = 0) (w : Int64) {z : Nat} (hz : z < 1073741789) (hw : ¬ ms = 0 ∧ tk = ms) (ha1 : 1 ≤ al) (ha : al < 2147483579) (hS9 : ¬ SHp (ke 0) w (lN al) (lN ((ts_ ms to n + z) % 1073741789))) : xm_R g l false m_M_holds [.ref 16, .long w, .long (lN z)] (hQ c0 c1 c2 c3 c4 c5 c6 c7 c8 c9 c10 c11 c12 c13 c14 c15 (hM g th n t dl se ke oz f1 f2 e1 e2 ms al ch y1 y2 fa we sz mz sh to tk bl mi ++ rest)) (some (.int 0)) (hQ c0 c1 c2 c3 c4 c5 c6 c7 c8 c9 c10 c11 c12 c13 c14 c15 (hM g (nI 0) n t dl se ke oz f1 f2 e1 e2 ms al ch y1 y2 fa we sz mz sh to tk bl (dg_m (dg_m (dg_m (dg_m 0 5) (lN al)) (lN (ke 0))) w) ++ rest)) := by
  refine xm_of [some (.ref 16), some (.long w), none, some (.long (lN z)), none] rfl (Nat.le_of_ble_eq_true rfl) rfl ?_
  intro p e s m args below meth c C hr hk
  refine xa_aload_n C dM_holds_0 rfl ?_
  refine xa_lload_n C dM_holds_1 rfl ?_
  refine xa_callS1 C (p_M_isNumber g l _ _) b_M_153 (xw_in wt_M_isNumber rfl) dM_holds_2 rfl (Nat.le_of_ble_eq_true rfl) ⟨Nat.le_of_ble_eq_true rfl, Nat.le_of_ble_eq_true rfl⟩ ⟨Nat.zero_le _, Nat.zero_le _⟩ ?_
  refine xa_if_ne C dM_holds_5 (tgt := 12) rfl (fun h5 => ?_) (fun h5 => ?_)
  · refine xa_aload_n C dM_holds_12 rfl ?_
    refine xa_callV1 C (p_M_isWhole g l) b_M_161 (xw_in wi_M_isWhole rfl) e_M_isWhole dM_holds_13 rfl rfl rfl rfl (Nat.le_of_ble_eq_true rfl) ⟨Nat.le_of_ble_eq_true rfl, Nat.le_of_ble_eq_true rfl⟩ ⟨Nat.zero_le _, Nat.zero_le _⟩ ?_
    refine xa_if_ne C dM_holds_16 (tgt := 23) rfl (fun h16 => ?_) (fun h16 => ?_)
    · refine xa_icN C 0 dM_holds_23 ?_
      refine xa_put C f_M_63 u_M_0 dM_holds_24 rfl (Nat.le_of_ble_eq_true rfl) rfl rfl (fun _ h => by cases h) ?_
      refine xa_aload_n C dM_holds_27 rfl ?_
      refine xa_get C f_M_63 dM_holds_28 rfl rfl ?_
      refine xa_if_ne C dM_holds_31 (tgt := 60) rfl (fun h31 => ?_) (fun h31 => ?_)
      · exact absurd rfl h31
      · refine xa_aload_n C dM_holds_34 rfl ?_
        refine xa_lload_n C dM_holds_35 rfl ?_
        refine xa_aload_n C dM_holds_36 rfl ?_
        refine xa_get C f_M_132 dM_holds_37 rfl rfl ?_
        refine xa_aload_n C dM_holds_40 rfl ?_
        refine xa_callV1 C (p_M_sum g l hn hto) b_M_165 (xw_in wi_M_sum rfl) e_M_sum dM_holds_41 rfl rfl rfl rfl (Nat.le_of_ble_eq_true rfl) ⟨Nat.le_of_ble_eq_true rfl, Nat.le_of_ble_eq_true rfl⟩ ⟨Nat.zero_le _, Nat.zero_le _⟩ ?_
        refine xa_lload_n C dM_holds_44 rfl ?_
        refine xa_addN C dM_holds_45 ?_
        refine xa_ldcN C 1073741789 (xw_in wk_M_68 rfl) dM_holds_46 ?_
        refine xa_remN C dM_holds_49 (by have q1 := ts_lt ms to n; omega) (by decide) (by decide) ?_
        refine xa_callV1 C (p_M_isSealOf_y g l hke hd w ha1 ha (Nat.mod_lt _ (by decide))) b_M_168 (xw_in wi_M_isSealOf rfl) e_M_isSealOf dM_holds_50 rfl rfl rfl rfl (Nat.le_of_ble_eq_true rfl) ⟨Nat.le_of_ble_eq_true rfl, Nat.le_of_ble_eq_true rfl⟩ ⟨Nat.zero_le _, Nat.zero_le _⟩ ?_
        refine xa_if_eq C dM_holds_53 (tgt := 60) rfl (fun h53 => ?_) (fun h53 => ?_)
        · refine xa_icN C 0 dM_holds_60 ?_
          exact xa_eq rfl rfl rfl (xa_zret C hr hk (by first | exact xb_nar _ | rfl) dM_holds_61)
        · exact absurd (xb_f hS9) h53
    · exact absurd hw (xb_eq0.mp h16)
  · exact absurd (nm_lt hz) (xb_eq0.mp h5)
set_option maxHeartbeats 4000000 in
set_option maxRecDepth 100000 in
theorem p_M_recover_a (g : xw_G) (l : Launch) {c0 c1 c2 c3 c4 c5 c6 c7 c8 c9 c10 c11 c12 c13 c14 c15 : va_E} {n t : Nat} {se ke f1 f2 e1 e2 y1 y2 fa we sh to : Nat → Nat} {oz sz mz : Nat → Int32} {th dl ms tk bl : Int32} {al ch : Nat} {mi : Int64} {rest : List va_E} (hn : n ≤ 6) (x : Int32) (hx : ¬ em n t x) : xm_R g l false m_M_recover [.ref 16, .int x] (hQ c0 c1 c2 c3 c4 c5 c6 c7 c8 c9 c10 c11 c12 c13 c14 c15 (hM g th n t dl se ke oz f1 f2 e1 e2 ms al ch y1 y2 fa we sz mz sh to tk bl mi ++ rest)) (some (.long (lN 0))) (hQ c0 c1 c2 c3 c4 c5 c6 c7 c8 c9 c10 c11 c12 c13 c14 c15 (hM g (nI 1) n t dl se ke oz f1 f2 e1 e2 ms al ch y1 y2 fa we sz mz sh to tk bl mi ++ rest)) := by
  refine xm_of [some (.ref 16), some (.int x), none, none, none, none, none] rfl (Nat.le_of_ble_eq_true rfl) rfl ?_
  intro p e s m args below meth c C hr hk
  refine xa_aload_n C dM_recover_0 rfl ?_
  refine xa_aload_n C dM_recover_1 rfl ?_
  refine xa_iload_n C dM_recover_2 rfl ?_
  refine xa_callV1 C (p_M_isSet g l hn _) b_M_126 (xw_in wi_M_isSet rfl) e_M_isSet dM_recover_3 rfl rfl rfl rfl (Nat.le_of_ble_eq_true rfl) ⟨Nat.le_of_ble_eq_true rfl, Nat.le_of_ble_eq_true rfl⟩ ⟨Nat.zero_le _, Nat.zero_le _⟩ ?_
  refine xa_if_ne C dM_recover_6 (tgt := 13) rfl (fun h6 => ?_) (fun h6 => ?_)
  · exact absurd (xb_f hx) h6
  · refine xa_icN C 1 dM_recover_9 ?_
    refine xa_goto C dM_recover_10 (tgt := 25) rfl ?_
    refine xa_put C f_M_63 u_M_0 dM_recover_25 rfl (Nat.le_of_ble_eq_true rfl) rfl rfl (fun _ h => by cases h) ?_
    refine xa_aload_n C dM_recover_28 rfl ?_
    refine xa_get C f_M_63 dM_recover_29 rfl rfl ?_
    refine xa_if_eq C dM_recover_32 (tgt := 37) rfl (fun h32 => ?_) (fun h32 => ?_)
    · exact absurd h32 (by decide)
    · refine xa_lcN C 0 dM_recover_35 ?_
      exact xa_eq rfl rfl rfl (xa_lret C hr hk dM_recover_36)
set_option maxHeartbeats 4000000 in
set_option maxRecDepth 100000 in
theorem p_M_recover_b (g : xw_G) (l : Launch) {c0 c1 c2 c3 c4 c5 c6 c7 c8 c9 c10 c11 c12 c13 c14 c15 : va_E} {n t : Nat} {se ke f1 f2 e1 e2 y1 y2 fa we sh to : Nat → Nat} {oz sz mz : Nat → Int32} {th dl ms tk bl : Int32} {al ch : Nat} {mi : Int64} {rest : List va_E} (hn : n ≤ 6) (x : Int32) (hx : em n t x) (hd : dl = 0) : xm_R g l false m_M_recover [.ref 16, .int x] (hQ c0 c1 c2 c3 c4 c5 c6 c7 c8 c9 c10 c11 c12 c13 c14 c15 (hM g th n t dl se ke oz f1 f2 e1 e2 ms al ch y1 y2 fa we sz mz sh to tk bl mi ++ rest)) (some (.long (lN 0))) (hQ c0 c1 c2 c3 c4 c5 c6 c7 c8 c9 c10 c11 c12 c13 c14 c15 (hM g (nI 2) n t dl se ke oz f1 f2 e1 e2 ms al ch y1 y2 fa we sz mz sh to tk bl mi ++ rest)) := by
  refine xm_of [some (.ref 16), some (.int x), none, none, none, none, none] rfl (Nat.le_of_ble_eq_true rfl) rfl ?_
  intro p e s m args below meth c C hr hk
  refine xa_aload_n C dM_recover_0 rfl ?_
  refine xa_aload_n C dM_recover_1 rfl ?_
  refine xa_iload_n C dM_recover_2 rfl ?_
  refine xa_callV1 C (p_M_isSet g l hn _) b_M_126 (xw_in wi_M_isSet rfl) e_M_isSet dM_recover_3 rfl rfl rfl rfl (Nat.le_of_ble_eq_true rfl) ⟨Nat.le_of_ble_eq_true rfl, Nat.le_of_ble_eq_true rfl⟩ ⟨Nat.zero_le _, Nat.zero_le _⟩ ?_
  refine xa_if_ne C dM_recover_6 (tgt := 13) rfl (fun h6 => ?_) (fun h6 => ?_)
  · refine xa_aload_n C dM_recover_13 rfl ?_
    refine xa_get C f_M_103 dM_recover_14 rfl rfl ?_
    refine xa_if_ne C dM_recover_17 (tgt := 24) rfl (fun h17 => ?_) (fun h17 => ?_)
    · exact absurd hd h17
    · refine xa_icN C 2 dM_recover_20 ?_
      refine xa_goto C dM_recover_21 (tgt := 25) rfl ?_
      refine xa_put C f_M_63 u_M_0 dM_recover_25 rfl (Nat.le_of_ble_eq_true rfl) rfl rfl (fun _ h => by cases h) ?_
      refine xa_aload_n C dM_recover_28 rfl ?_
      refine xa_get C f_M_63 dM_recover_29 rfl rfl ?_
      refine xa_if_eq C dM_recover_32 (tgt := 37) rfl (fun h32 => ?_) (fun h32 => ?_)
      · exact absurd h32 (by decide)
      · refine xa_lcN C 0 dM_recover_35 ?_
        exact xa_eq rfl rfl rfl (xa_lret C hr hk dM_recover_36)
  · exact absurd hx (xb_eq0.mp h6)
set_option maxHeartbeats 4000000 in
set_option maxRecDepth 100000 in
theorem p_M_recover_c (g : xw_G) (l : Launch) {c0 c1 c2 c3 c4 c5 c6 c7 c8 c9 c10 c11 c12 c13 c14 c15 : va_E} {n t : Nat} {se ke f1 f2 e1 e2 y1 y2 fa we sh to : Nat → Nat} {oz sz mz : Nat → Int32} {th dl ms tk bl : Int32} {al ch : Nat} {mi : Int64} {rest : List va_E} (hn : n ≤ 6) (hse : ∀ j, se j < 2 ^ 31) (x : Int32) (hx : em n t x) (hd : ¬ dl = 0) : xm_R g l false m_M_recover [.ref 16, .int x] (hQ c0 c1 c2 c3 c4 c5 c6 c7 c8 c9 c10 c11 c12 c13 c14 c15 (hM g th n t dl se ke oz f1 f2 e1 e2 ms al ch y1 y2 fa we sz mz sh to tk bl mi ++ rest)) (some (.long (lN (rc_ x n se n)))) (hQ c0 c1 c2 c3 c4 c5 c6 c7 c8 c9 c10 c11 c12 c13 c14 c15 (hM g (nI 0) n t dl se ke oz f1 f2 e1 e2 ms al ch y1 y2 fa we sz mz sh to tk bl mi ++ rest)) := by
  refine xm_of [some (.ref 16), some (.int x), none, none, none, none, none] rfl (Nat.le_of_ble_eq_true rfl) rfl ?_
  intro p e s m args below meth c C hr hk
  have loop : ∀ d k : Nat, k + d = n → ∀ o5 : Option Value, xw_At g false 7 p l e (xm_rm m_M_recover 0) s m args below meth c 0 0 (MQ below (xm_Q g false (some (.long (lN (rc_ x n se n)))) (hQ c0 c1 c2 c3 c4 c5 c6 c7 c8 c9 c10 c11 c12 c13 c14 c15 (hM g (nI 0) n t dl se ke oz f1 f2 e1 e2 ms al ch y1 y2 fa we sz mz sh to tk bl mi ++ rest))) args s 0 0 (xm_fr g false)) 42 [some (.ref 16), some (.int x), some (.long (lN (rc_ x n se k))), none, some (.int (nI (k + 1))), o5, none] [] (hQ c0 c1 c2 c3 c4 c5 c6 c7 c8 c9 c10 c11 c12 c13 c14 c15 (hM g (nI 0) n t dl se ke oz f1 f2 e1 e2 ms al ch y1 y2 fa we sz mz sh to tk bl mi ++ rest)) := by
    intro d
    induction d with
    | zero =>
      intro k hk9 o5
      obtain rfl : k = n := by omega
      refine xa_iload C dM_recover_42 rfl ?_
      refine xa_aload_n C dM_recover_44 rfl ?_
      refine xa_get C f_M_56 dM_recover_45 rfl rfl ?_
      refine xa_icmp_gt C dM_recover_48 (tgt := 92) rfl (fun h48 => ?_) (fun h48 => ?_)
      · refine xa_lload_n C dM_recover_92 rfl ?_
        exact xa_lret C hr hk dM_recover_93
      · exact absurd (nI_lt (by omega) (by omega)) h48
    | succ d ih =>
      intro k hk9 o5
      refine xa_iload C dM_recover_42 rfl ?_
      refine xa_aload_n C dM_recover_44 rfl ?_
      refine xa_get C f_M_56 dM_recover_45 rfl rfl ?_
      refine xa_icmp_gt C dM_recover_48 (tgt := 92) rfl (fun h48 => ?_) (fun h48 => ?_)
      · exact absurd h48 (nI_nlt (by omega) (by omega))
      · refine xa_iload_n C dM_recover_51 rfl ?_
        refine xa_iload C dM_recover_52 rfl ?_
        refine xa_callS1 C (p_M_inN g l _ (by omega) (by omega) _) b_M_89 (xw_in wt_M_in rfl) dM_recover_54 rfl (Nat.le_of_ble_eq_true rfl) ⟨Nat.le_of_ble_eq_true rfl, Nat.le_of_ble_eq_true rfl⟩ ⟨Nat.zero_le _, Nat.zero_le _⟩ ?_
        refine xa_if_eq C dM_recover_57 (tgt := 86) rfl (fun h57 => ?_) (fun h57 => ?_)
        · have hb := xb_hs0 h57
          refine xa_incN C dM_recover_86 rfl (Nat.le_of_ble_eq_true rfl) ?_
          refine xa_goto C dM_recover_89 (tgt := 42) rfl ?_
          have h := ih (k + 1) (by omega) o5
          rw [rc_, if_neg (by rw [hb]; decide)] at h
          exact h
        · have hb := xb_hs1 h57
          refine xa_aload_n C dM_recover_60 rfl ?_
          refine xa_iload_n C dM_recover_61 rfl ?_
          refine xa_iload C dM_recover_62 rfl ?_
          refine xa_callV1 C (p_M_weightIn g l hn _ (by omega)) b_M_139 (xw_in wi_M_weightIn rfl) e_M_weightIn dM_recover_64 rfl rfl rfl rfl (Nat.le_of_ble_eq_true rfl) ⟨Nat.le_of_ble_eq_true rfl, Nat.le_of_ble_eq_true rfl⟩ ⟨Nat.zero_le _, Nat.zero_le _⟩ ?_
          refine xa_lstore C dM_recover_67 (Nat.le_of_ble_eq_true rfl) ?_
          refine xa_lload_n C dM_recover_69 rfl ?_
          refine xa_lload C dM_recover_70 rfl ?_
          refine xa_aload_n C dM_recover_72 rfl ?_
          refine xa_get C f_M_7 dM_recover_73 rfl rfl ?_
          refine xa_iload C dM_recover_76 rfl ?_
          refine xa_laloadN C dM_recover_78 rfl ?_ (by omega) ?_
          · omega
          refine xa_mulN C dM_recover_79 ?_
          refine xa_addN C dM_recover_80 ?_
          refine xa_ldcN C 1073741789 (xw_in wk_M_68 rfl) dM_recover_81 ?_
          refine xa_remN C dM_recover_84 (by exact tm_63 (rc_lt _ _ _ _) (Nat.lt_trans (wt_lt _ _ _) (by decide)) (hse _)) (by decide) (by decide) ?_
          rw [show (rc_ x n se k + wt_ x n (k + 1) * se (k + 1)) % 1073741789 = (rc_ x n se k + wt_ x n (k + 1) * se (k + 1) % 1073741789) % 1073741789 from (Nat.add_mod_mod _ _ _).symm]
          refine xa_lstore_n C dM_recover_85 (Nat.le_of_ble_eq_true rfl) ?_
          refine xa_incN C dM_recover_86 rfl (Nat.le_of_ble_eq_true rfl) ?_
          refine xa_goto C dM_recover_89 (tgt := 42) rfl ?_
          have h := ih (k + 1) (by omega) (some (.long (lN (wt_ x n (k + 1)))))
          rw [rc_, if_pos hb] at h
          exact h
  refine xa_aload_n C dM_recover_0 rfl ?_
  refine xa_aload_n C dM_recover_1 rfl ?_
  refine xa_iload_n C dM_recover_2 rfl ?_
  refine xa_callV1 C (p_M_isSet g l hn _) b_M_126 (xw_in wi_M_isSet rfl) e_M_isSet dM_recover_3 rfl rfl rfl rfl (Nat.le_of_ble_eq_true rfl) ⟨Nat.le_of_ble_eq_true rfl, Nat.le_of_ble_eq_true rfl⟩ ⟨Nat.zero_le _, Nat.zero_le _⟩ ?_
  refine xa_if_ne C dM_recover_6 (tgt := 13) rfl (fun h6 => ?_) (fun h6 => ?_)
  · refine xa_aload_n C dM_recover_13 rfl ?_
    refine xa_get C f_M_103 dM_recover_14 rfl rfl ?_
    refine xa_if_ne C dM_recover_17 (tgt := 24) rfl (fun h17 => ?_) (fun h17 => ?_)
    · refine xa_icN C 0 dM_recover_24 ?_
      refine xa_put C f_M_63 u_M_0 dM_recover_25 rfl (Nat.le_of_ble_eq_true rfl) rfl rfl (fun _ h => by cases h) ?_
      refine xa_aload_n C dM_recover_28 rfl ?_
      refine xa_get C f_M_63 dM_recover_29 rfl rfl ?_
      refine xa_if_eq C dM_recover_32 (tgt := 37) rfl (fun h32 => ?_) (fun h32 => ?_)
      · refine xa_lcN C 0 dM_recover_37 ?_
        refine xa_lstore_n C dM_recover_38 (Nat.le_of_ble_eq_true rfl) ?_
        refine xa_icN C 1 dM_recover_39 ?_
        refine xa_istore C dM_recover_40 (Nat.le_of_ble_eq_true rfl) ?_
        exact loop n 0 (by omega) none
      · exact absurd rfl h32
    · exact absurd h17 hd
  · exact absurd hx (xb_eq0.mp h6)
set_option maxHeartbeats 4000000 in
set_option maxRecDepth 100000 in
theorem p_M_key_a (g : xw_G) (l : Launch) {c0 c1 c2 c3 c4 c5 c6 c7 c8 c9 c10 c11 c12 c13 c14 c15 : va_E} {n t : Nat} {se ke f1 f2 e1 e2 y1 y2 fa we sh to : Nat → Nat} {oz sz mz : Nat → Int32} {th dl ms tk bl : Int32} {al ch : Nat} {mi : Int64} {rest : List va_E} (x : Int32) (hd : dl = 0) : xm_R g l false m_M_key [.ref 16, .int x] (hQ c0 c1 c2 c3 c4 c5 c6 c7 c8 c9 c10 c11 c12 c13 c14 c15 (hM g th n t dl se ke oz f1 f2 e1 e2 ms al ch y1 y2 fa we sz mz sh to tk bl mi ++ rest)) (some (.long (-1))) (hQ c0 c1 c2 c3 c4 c5 c6 c7 c8 c9 c10 c11 c12 c13 c14 c15 (hM g (nI 0) n t dl se ke oz f1 f2 e1 e2 ms al ch y1 y2 fa we sz mz sh to tk bl mi ++ rest)) := by
  refine xm_of [some (.ref 16), some (.int x)] rfl (Nat.le_of_ble_eq_true rfl) rfl ?_
  intro p e s m args below meth c C hr hk
  refine xa_aload_n C dM_key_0 rfl ?_
  refine xa_icN C 0 dM_key_1 ?_
  refine xa_put C f_M_63 u_M_0 dM_key_2 rfl (Nat.le_of_ble_eq_true rfl) rfl rfl (fun _ h => by cases h) ?_
  refine xa_aload_n C dM_key_5 rfl ?_
  refine xa_get C f_M_103 dM_key_6 rfl rfl ?_
  refine xa_if_eq C dM_key_9 (tgt := 33) rfl (fun h9 => ?_) (fun h9 => ?_)
  · refine xa_ldc2 C (xw_in wk_M_172 rfl) dM_key_33 ?_
    exact xa_eq rfl rfl rfl (xa_lret C hr hk dM_key_36)
  · exact absurd hd h9
set_option maxHeartbeats 4000000 in
set_option maxRecDepth 100000 in
theorem p_M_key_b (g : xw_G) (l : Launch) {c0 c1 c2 c3 c4 c5 c6 c7 c8 c9 c10 c11 c12 c13 c14 c15 : va_E} {n t : Nat} {se ke f1 f2 e1 e2 y1 y2 fa we sh to : Nat → Nat} {oz sz mz : Nat → Int32} {th dl ms tk bl : Int32} {al ch : Nat} {mi : Int64} {rest : List va_E} (hd : ¬ dl = 0) : xm_R g l false m_M_key [.ref 16, .int (nI 0)] (hQ c0 c1 c2 c3 c4 c5 c6 c7 c8 c9 c10 c11 c12 c13 c14 c15 (hM g th n t dl se ke oz f1 f2 e1 e2 ms al ch y1 y2 fa we sz mz sh to tk bl mi ++ rest)) (some (.long (lN (ke 0)))) (hQ c0 c1 c2 c3 c4 c5 c6 c7 c8 c9 c10 c11 c12 c13 c14 c15 (hM g (nI 0) n t dl se ke oz f1 f2 e1 e2 ms al ch y1 y2 fa we sz mz sh to tk bl mi ++ rest)) := by
  refine xm_of [some (.ref 16), some (.int (nI 0))] rfl (Nat.le_of_ble_eq_true rfl) rfl ?_
  intro p e s m args below meth c C hr hk
  refine xa_aload_n C dM_key_0 rfl ?_
  refine xa_icN C 0 dM_key_1 ?_
  refine xa_put C f_M_63 u_M_0 dM_key_2 rfl (Nat.le_of_ble_eq_true rfl) rfl rfl (fun _ h => by cases h) ?_
  refine xa_aload_n C dM_key_5 rfl ?_
  refine xa_get C f_M_103 dM_key_6 rfl rfl ?_
  refine xa_if_eq C dM_key_9 (tgt := 33) rfl (fun h9 => ?_) (fun h9 => ?_)
  · exact absurd h9 hd
  · refine xa_iload_n C dM_key_12 rfl ?_
    refine xa_if_eq C dM_key_13 (tgt := 24) rfl (fun h13 => ?_) (fun h13 => ?_)
    · refine xa_aload_n C dM_key_24 rfl ?_
      refine xa_get C f_M_13 dM_key_25 rfl rfl ?_
      refine xa_iload_n C dM_key_28 rfl ?_
      refine xa_laloadN C dM_key_29 rfl ?_ (by omega) ?_
      · omega
      refine xa_goto C dM_key_30 (tgt := 36) rfl ?_
      exact xa_eq rfl rfl rfl (xa_lret C hr hk dM_key_36)
    · exact absurd rfl h13
set_option maxHeartbeats 4000000 in
set_option maxRecDepth 100000 in
theorem p_M_key_c (g : xw_G) (l : Launch) {c0 c1 c2 c3 c4 c5 c6 c7 c8 c9 c10 c11 c12 c13 c14 c15 : va_E} {n t : Nat} {se ke f1 f2 e1 e2 y1 y2 fa we sh to : Nat → Nat} {oz sz mz : Nat → Int32} {th dl ms tk bl : Int32} {al ch : Nat} {mi : Int64} {rest : List va_E} (hn : n ≤ 6) {i : Nat} (h1 : 1 ≤ i) (hi : i ≤ n) (hd : ¬ dl = 0) : xm_R g l false m_M_key [.ref 16, .int (nI i)] (hQ c0 c1 c2 c3 c4 c5 c6 c7 c8 c9 c10 c11 c12 c13 c14 c15 (hM g th n t dl se ke oz f1 f2 e1 e2 ms al ch y1 y2 fa we sz mz sh to tk bl mi ++ rest)) (some (.long (lN (ke i)))) (hQ c0 c1 c2 c3 c4 c5 c6 c7 c8 c9 c10 c11 c12 c13 c14 c15 (hM g (nI 0) n t dl se ke oz f1 f2 e1 e2 ms al ch y1 y2 fa we sz mz sh to tk bl mi ++ rest)) := by
  refine xm_of [some (.ref 16), some (.int (nI i))] rfl (Nat.le_of_ble_eq_true rfl) rfl ?_
  intro p e s m args below meth c C hr hk
  refine xa_aload_n C dM_key_0 rfl ?_
  refine xa_icN C 0 dM_key_1 ?_
  refine xa_put C f_M_63 u_M_0 dM_key_2 rfl (Nat.le_of_ble_eq_true rfl) rfl rfl (fun _ h => by cases h) ?_
  refine xa_aload_n C dM_key_5 rfl ?_
  refine xa_get C f_M_103 dM_key_6 rfl rfl ?_
  refine xa_if_eq C dM_key_9 (tgt := 33) rfl (fun h9 => ?_) (fun h9 => ?_)
  · exact absurd h9 hd
  · refine xa_iload_n C dM_key_12 rfl ?_
    refine xa_if_eq C dM_key_13 (tgt := 24) rfl (fun h13 => ?_) (fun h13 => ?_)
    · exact absurd h13 (nI_ne0 (by omega) (by omega))
    · refine xa_aload_n C dM_key_16 rfl ?_
      refine xa_iload_n C dM_key_17 rfl ?_
      refine xa_callV1 C (p_M_isSigner g l _) b_M_116 (xw_in wi_M_isSigner rfl) e_M_isSigner dM_key_18 rfl rfl rfl rfl (Nat.le_of_ble_eq_true rfl) ⟨Nat.le_of_ble_eq_true rfl, Nat.le_of_ble_eq_true rfl⟩ ⟨Nat.zero_le _, Nat.zero_le _⟩ ?_
      refine xa_if_eq C dM_key_21 (tgt := 33) rfl (fun h21 => ?_) (fun h21 => ?_)
      · exact absurd (sg_nI hn h1 hi) (xb_eq0.mp h21)
      · refine xa_aload_n C dM_key_24 rfl ?_
        refine xa_get C f_M_13 dM_key_25 rfl rfl ?_
        refine xa_iload_n C dM_key_28 rfl ?_
        refine xa_laloadN C dM_key_29 rfl ?_ (by omega) ?_
        · omega
        refine xa_goto C dM_key_30 (tgt := 36) rfl ?_
        exact xa_eq rfl rfl rfl (xa_lret C hr hk dM_key_36)
set_option maxHeartbeats 4000000 in
set_option maxRecDepth 100000 in
theorem p_M_key_d (g : xw_G) (l : Launch) {c0 c1 c2 c3 c4 c5 c6 c7 c8 c9 c10 c11 c12 c13 c14 c15 : va_E} {n t : Nat} {se ke f1 f2 e1 e2 y1 y2 fa we sh to : Nat → Nat} {oz sz mz : Nat → Int32} {th dl ms tk bl : Int32} {al ch : Nat} {mi : Int64} {rest : List va_E} (x : Int32) (hx : ¬ sg n x) (hx0 : ¬ x = 0) (hd : ¬ dl = 0) : xm_R g l false m_M_key [.ref 16, .int x] (hQ c0 c1 c2 c3 c4 c5 c6 c7 c8 c9 c10 c11 c12 c13 c14 c15 (hM g th n t dl se ke oz f1 f2 e1 e2 ms al ch y1 y2 fa we sz mz sh to tk bl mi ++ rest)) (some (.long (-1))) (hQ c0 c1 c2 c3 c4 c5 c6 c7 c8 c9 c10 c11 c12 c13 c14 c15 (hM g (nI 0) n t dl se ke oz f1 f2 e1 e2 ms al ch y1 y2 fa we sz mz sh to tk bl mi ++ rest)) := by
  refine xm_of [some (.ref 16), some (.int x)] rfl (Nat.le_of_ble_eq_true rfl) rfl ?_
  intro p e s m args below meth c C hr hk
  refine xa_aload_n C dM_key_0 rfl ?_
  refine xa_icN C 0 dM_key_1 ?_
  refine xa_put C f_M_63 u_M_0 dM_key_2 rfl (Nat.le_of_ble_eq_true rfl) rfl rfl (fun _ h => by cases h) ?_
  refine xa_aload_n C dM_key_5 rfl ?_
  refine xa_get C f_M_103 dM_key_6 rfl rfl ?_
  refine xa_if_eq C dM_key_9 (tgt := 33) rfl (fun h9 => ?_) (fun h9 => ?_)
  · exact absurd h9 hd
  · refine xa_iload_n C dM_key_12 rfl ?_
    refine xa_if_eq C dM_key_13 (tgt := 24) rfl (fun h13 => ?_) (fun h13 => ?_)
    · exact absurd h13 hx0
    · refine xa_aload_n C dM_key_16 rfl ?_
      refine xa_iload_n C dM_key_17 rfl ?_
      refine xa_callV1 C (p_M_isSigner g l _) b_M_116 (xw_in wi_M_isSigner rfl) e_M_isSigner dM_key_18 rfl rfl rfl rfl (Nat.le_of_ble_eq_true rfl) ⟨Nat.le_of_ble_eq_true rfl, Nat.le_of_ble_eq_true rfl⟩ ⟨Nat.zero_le _, Nat.zero_le _⟩ ?_
      refine xa_if_eq C dM_key_21 (tgt := 33) rfl (fun h21 => ?_) (fun h21 => ?_)
      · refine xa_ldc2 C (xw_in wk_M_172 rfl) dM_key_33 ?_
        exact xa_eq rfl rfl rfl (xa_lret C hr hk dM_key_36)
      · exact absurd (xb_f hx) h21
set_option maxHeartbeats 4000000 in
set_option maxRecDepth 100000 in
theorem p_M_secret_a (g : xw_G) (l : Launch) {c0 c1 c2 c3 c4 c5 c6 c7 c8 c9 c10 c11 c12 c13 c14 c15 : va_E} {n t : Nat} {se ke f1 f2 e1 e2 y1 y2 fa we sh to : Nat → Nat} {oz sz mz : Nat → Int32} {th dl ms tk bl : Int32} {al ch : Nat} {mi : Int64} {rest : List va_E} (x : Int32) (hd : dl = 0) : xm_R g l false m_M_secret [.ref 16, .int x] (hQ c0 c1 c2 c3 c4 c5 c6 c7 c8 c9 c10 c11 c12 c13 c14 c15 (hM g th n t dl se ke oz f1 f2 e1 e2 ms al ch y1 y2 fa we sz mz sh to tk bl mi ++ rest)) (some (.long (-1))) (hQ c0 c1 c2 c3 c4 c5 c6 c7 c8 c9 c10 c11 c12 c13 c14 c15 (hM g (nI 0) n t dl se ke oz f1 f2 e1 e2 ms al ch y1 y2 fa we sz mz sh to tk bl mi ++ rest)) := by
  refine xm_of [some (.ref 16), some (.int x)] rfl (Nat.le_of_ble_eq_true rfl) rfl ?_
  intro p e s m args below meth c C hr hk
  refine xa_aload_n C dM_secret_0 rfl ?_
  refine xa_icN C 0 dM_secret_1 ?_
  refine xa_put C f_M_63 u_M_0 dM_secret_2 rfl (Nat.le_of_ble_eq_true rfl) rfl rfl (fun _ h => by cases h) ?_
  refine xa_aload_n C dM_secret_5 rfl ?_
  refine xa_get C f_M_103 dM_secret_6 rfl rfl ?_
  refine xa_if_eq C dM_secret_9 (tgt := 29) rfl (fun h9 => ?_) (fun h9 => ?_)
  · refine xa_ldc2 C (xw_in wk_M_172 rfl) dM_secret_29 ?_
    exact xa_eq rfl rfl rfl (xa_lret C hr hk dM_secret_32)
  · exact absurd hd h9
set_option maxHeartbeats 4000000 in
set_option maxRecDepth 100000 in
theorem p_M_secret_b (g : xw_G) (l : Launch) {c0 c1 c2 c3 c4 c5 c6 c7 c8 c9 c10 c11 c12 c13 c14 c15 : va_E} {n t : Nat} {se ke f1 f2 e1 e2 y1 y2 fa we sh to : Nat → Nat} {oz sz mz : Nat → Int32} {th dl ms tk bl : Int32} {al ch : Nat} {mi : Int64} {rest : List va_E} (hn : n ≤ 6) {i : Nat} (h1 : 1 ≤ i) (hi : i ≤ n) (hd : ¬ dl = 0) : xm_R g l false m_M_secret [.ref 16, .int (nI i)] (hQ c0 c1 c2 c3 c4 c5 c6 c7 c8 c9 c10 c11 c12 c13 c14 c15 (hM g th n t dl se ke oz f1 f2 e1 e2 ms al ch y1 y2 fa we sz mz sh to tk bl mi ++ rest)) (some (.long (lN (se i)))) (hQ c0 c1 c2 c3 c4 c5 c6 c7 c8 c9 c10 c11 c12 c13 c14 c15 (hM g (nI 0) n t dl se ke oz f1 f2 e1 e2 ms al ch y1 y2 fa we sz mz sh to tk bl mi ++ rest)) := by
  refine xm_of [some (.ref 16), some (.int (nI i))] rfl (Nat.le_of_ble_eq_true rfl) rfl ?_
  intro p e s m args below meth c C hr hk
  refine xa_aload_n C dM_secret_0 rfl ?_
  refine xa_icN C 0 dM_secret_1 ?_
  refine xa_put C f_M_63 u_M_0 dM_secret_2 rfl (Nat.le_of_ble_eq_true rfl) rfl rfl (fun _ h => by cases h) ?_
  refine xa_aload_n C dM_secret_5 rfl ?_
  refine xa_get C f_M_103 dM_secret_6 rfl rfl ?_
  refine xa_if_eq C dM_secret_9 (tgt := 29) rfl (fun h9 => ?_) (fun h9 => ?_)
  · exact absurd h9 hd
  · refine xa_aload_n C dM_secret_12 rfl ?_
    refine xa_iload_n C dM_secret_13 rfl ?_
    refine xa_callV1 C (p_M_isSigner g l _) b_M_116 (xw_in wi_M_isSigner rfl) e_M_isSigner dM_secret_14 rfl rfl rfl rfl (Nat.le_of_ble_eq_true rfl) ⟨Nat.le_of_ble_eq_true rfl, Nat.le_of_ble_eq_true rfl⟩ ⟨Nat.zero_le _, Nat.zero_le _⟩ ?_
    refine xa_if_eq C dM_secret_17 (tgt := 29) rfl (fun h17 => ?_) (fun h17 => ?_)
    · exact absurd (sg_nI hn h1 hi) (xb_eq0.mp h17)
    · refine xa_aload_n C dM_secret_20 rfl ?_
      refine xa_get C f_M_7 dM_secret_21 rfl rfl ?_
      refine xa_iload_n C dM_secret_24 rfl ?_
      refine xa_laloadN C dM_secret_25 rfl ?_ (by omega) ?_
      · omega
      refine xa_goto C dM_secret_26 (tgt := 32) rfl ?_
      exact xa_eq rfl rfl rfl (xa_lret C hr hk dM_secret_32)
set_option maxHeartbeats 4000000 in
set_option maxRecDepth 100000 in
theorem p_M_secret_c (g : xw_G) (l : Launch) {c0 c1 c2 c3 c4 c5 c6 c7 c8 c9 c10 c11 c12 c13 c14 c15 : va_E} {n t : Nat} {se ke f1 f2 e1 e2 y1 y2 fa we sh to : Nat → Nat} {oz sz mz : Nat → Int32} {th dl ms tk bl : Int32} {al ch : Nat} {mi : Int64} {rest : List va_E} (x : Int32) (hx : ¬ sg n x) (hd : ¬ dl = 0) : xm_R g l false m_M_secret [.ref 16, .int x] (hQ c0 c1 c2 c3 c4 c5 c6 c7 c8 c9 c10 c11 c12 c13 c14 c15 (hM g th n t dl se ke oz f1 f2 e1 e2 ms al ch y1 y2 fa we sz mz sh to tk bl mi ++ rest)) (some (.long (-1))) (hQ c0 c1 c2 c3 c4 c5 c6 c7 c8 c9 c10 c11 c12 c13 c14 c15 (hM g (nI 0) n t dl se ke oz f1 f2 e1 e2 ms al ch y1 y2 fa we sz mz sh to tk bl mi ++ rest)) := by
  refine xm_of [some (.ref 16), some (.int x)] rfl (Nat.le_of_ble_eq_true rfl) rfl ?_
  intro p e s m args below meth c C hr hk
  refine xa_aload_n C dM_secret_0 rfl ?_
  refine xa_icN C 0 dM_secret_1 ?_
  refine xa_put C f_M_63 u_M_0 dM_secret_2 rfl (Nat.le_of_ble_eq_true rfl) rfl rfl (fun _ h => by cases h) ?_
  refine xa_aload_n C dM_secret_5 rfl ?_
  refine xa_get C f_M_103 dM_secret_6 rfl rfl ?_
  refine xa_if_eq C dM_secret_9 (tgt := 29) rfl (fun h9 => ?_) (fun h9 => ?_)
  · exact absurd h9 hd
  · refine xa_aload_n C dM_secret_12 rfl ?_
    refine xa_iload_n C dM_secret_13 rfl ?_
    refine xa_callV1 C (p_M_isSigner g l _) b_M_116 (xw_in wi_M_isSigner rfl) e_M_isSigner dM_secret_14 rfl rfl rfl rfl (Nat.le_of_ble_eq_true rfl) ⟨Nat.le_of_ble_eq_true rfl, Nat.le_of_ble_eq_true rfl⟩ ⟨Nat.zero_le _, Nat.zero_le _⟩ ?_
    refine xa_if_eq C dM_secret_17 (tgt := 29) rfl (fun h17 => ?_) (fun h17 => ?_)
    · refine xa_ldc2 C (xw_in wk_M_172 rfl) dM_secret_29 ?_
      exact xa_eq rfl rfl rfl (xa_lret C hr hk dM_secret_32)
    · exact absurd (xb_f hx) h17
set_option maxHeartbeats 4000000 in
set_option maxRecDepth 100000 in
theorem p_M_commitment_a (g : xw_G) (l : Launch) {c0 c1 c2 c3 c4 c5 c6 c7 c8 c9 c10 c11 c12 c13 c14 c15 : va_E} {n t : Nat} {se ke f1 f2 e1 e2 y1 y2 fa we sh to : Nat → Nat} {oz sz mz : Nat → Int32} {th dl ms tk bl : Int32} {al ch : Nat} {mi : Int64} {rest : List va_E} (x y : Int32) (hx : ¬ sg n x) : xm_R g l false m_M_commitment [.ref 16, .int x, .int y] (hQ c0 c1 c2 c3 c4 c5 c6 c7 c8 c9 c10 c11 c12 c13 c14 c15 (hM g th n t dl se ke oz f1 f2 e1 e2 ms al ch y1 y2 fa we sz mz sh to tk bl mi ++ rest)) (some (.long (-1))) (hQ c0 c1 c2 c3 c4 c5 c6 c7 c8 c9 c10 c11 c12 c13 c14 c15 (hM g (nI 0) n t dl se ke oz f1 f2 e1 e2 ms al ch y1 y2 fa we sz mz sh to tk bl mi ++ rest)) := by
  refine xm_of [some (.ref 16), some (.int x), some (.int y)] rfl (Nat.le_of_ble_eq_true rfl) rfl ?_
  intro p e s m args below meth c C hr hk
  refine xa_aload_n C dM_commitment_0 rfl ?_
  refine xa_icN C 0 dM_commitment_1 ?_
  refine xa_put C f_M_63 u_M_0 dM_commitment_2 rfl (Nat.le_of_ble_eq_true rfl) rfl rfl (fun _ h => by cases h) ?_
  refine xa_aload_n C dM_commitment_5 rfl ?_
  refine xa_iload_n C dM_commitment_6 rfl ?_
  refine xa_callV1 C (p_M_isSigner g l _) b_M_116 (xw_in wi_M_isSigner rfl) e_M_isSigner dM_commitment_7 rfl rfl rfl rfl (Nat.le_of_ble_eq_true rfl) ⟨Nat.le_of_ble_eq_true rfl, Nat.le_of_ble_eq_true rfl⟩ ⟨Nat.zero_le _, Nat.zero_le _⟩ ?_
  refine xa_if_eq C dM_commitment_10 (tgt := 22) rfl (fun h10 => ?_) (fun h10 => ?_)
  · refine xa_ldc2 C (xw_in wk_M_172 rfl) dM_commitment_22 ?_
    refine xa_goto C dM_commitment_25 (tgt := 47) rfl ?_
    exact xa_eq rfl rfl rfl (xa_lret C hr hk dM_commitment_47)
  · exact absurd (xb_f hx) h10
set_option maxHeartbeats 4000000 in
set_option maxRecDepth 100000 in
theorem p_M_commitment_b (g : xw_G) (l : Launch) {c0 c1 c2 c3 c4 c5 c6 c7 c8 c9 c10 c11 c12 c13 c14 c15 : va_E} {n t : Nat} {se ke f1 f2 e1 e2 y1 y2 fa we sh to : Nat → Nat} {oz sz mz : Nat → Int32} {th dl ms tk bl : Int32} {al ch : Nat} {mi : Int64} {rest : List va_E} (hn : n ≤ 6) {i : Nat} (h1 : 1 ≤ i) (hi : i ≤ n) (y : Int32) (ho : oz i = 0) : xm_R g l false m_M_commitment [.ref 16, .int (nI i), .int y] (hQ c0 c1 c2 c3 c4 c5 c6 c7 c8 c9 c10 c11 c12 c13 c14 c15 (hM g th n t dl se ke oz f1 f2 e1 e2 ms al ch y1 y2 fa we sz mz sh to tk bl mi ++ rest)) (some (.long (-1))) (hQ c0 c1 c2 c3 c4 c5 c6 c7 c8 c9 c10 c11 c12 c13 c14 c15 (hM g (nI 0) n t dl se ke oz f1 f2 e1 e2 ms al ch y1 y2 fa we sz mz sh to tk bl mi ++ rest)) := by
  refine xm_of [some (.ref 16), some (.int (nI i)), some (.int y)] rfl (Nat.le_of_ble_eq_true rfl) rfl ?_
  intro p e s m args below meth c C hr hk
  refine xa_aload_n C dM_commitment_0 rfl ?_
  refine xa_icN C 0 dM_commitment_1 ?_
  refine xa_put C f_M_63 u_M_0 dM_commitment_2 rfl (Nat.le_of_ble_eq_true rfl) rfl rfl (fun _ h => by cases h) ?_
  refine xa_aload_n C dM_commitment_5 rfl ?_
  refine xa_iload_n C dM_commitment_6 rfl ?_
  refine xa_callV1 C (p_M_isSigner g l _) b_M_116 (xw_in wi_M_isSigner rfl) e_M_isSigner dM_commitment_7 rfl rfl rfl rfl (Nat.le_of_ble_eq_true rfl) ⟨Nat.le_of_ble_eq_true rfl, Nat.le_of_ble_eq_true rfl⟩ ⟨Nat.zero_le _, Nat.zero_le _⟩ ?_
  refine xa_if_eq C dM_commitment_10 (tgt := 22) rfl (fun h10 => ?_) (fun h10 => ?_)
  · exact absurd (sg_nI hn h1 hi) (xb_eq0.mp h10)
  · refine xa_aload_n C dM_commitment_13 rfl ?_
    refine xa_get C f_M_16 dM_commitment_14 rfl rfl ?_
    refine xa_iload_n C dM_commitment_17 rfl ?_
    refine xa_baloadN C dM_commitment_18 rfl ?_ (by omega) ?_
    · omega
    refine xa_if_ne C dM_commitment_19 (tgt := 28) rfl (fun h19 => ?_) (fun h19 => ?_)
    · exact absurd ho h19
    · refine xa_ldc2 C (xw_in wk_M_172 rfl) dM_commitment_22 ?_
      refine xa_goto C dM_commitment_25 (tgt := 47) rfl ?_
      exact xa_eq rfl rfl rfl (xa_lret C hr hk dM_commitment_47)
set_option maxHeartbeats 4000000 in
set_option maxRecDepth 100000 in
theorem p_M_commitment_c (g : xw_G) (l : Launch) {c0 c1 c2 c3 c4 c5 c6 c7 c8 c9 c10 c11 c12 c13 c14 c15 : va_E} {n t : Nat} {se ke f1 f2 e1 e2 y1 y2 fa we sh to : Nat → Nat} {oz sz mz : Nat → Int32} {th dl ms tk bl : Int32} {al ch : Nat} {mi : Int64} {rest : List va_E} (hn : n ≤ 6) {i : Nat} (h1 : 1 ≤ i) (hi : i ≤ n) (y : Int32) (ho : ¬ oz i = 0) (hy : ¬ y = 0) : xm_R g l false m_M_commitment [.ref 16, .int (nI i), .int y] (hQ c0 c1 c2 c3 c4 c5 c6 c7 c8 c9 c10 c11 c12 c13 c14 c15 (hM g th n t dl se ke oz f1 f2 e1 e2 ms al ch y1 y2 fa we sz mz sh to tk bl mi ++ rest)) (some (.long (lN (e2 i)))) (hQ c0 c1 c2 c3 c4 c5 c6 c7 c8 c9 c10 c11 c12 c13 c14 c15 (hM g (nI 0) n t dl se ke oz f1 f2 e1 e2 ms al ch y1 y2 fa we sz mz sh to tk bl mi ++ rest)) := by
  refine xm_of [some (.ref 16), some (.int (nI i)), some (.int y)] rfl (Nat.le_of_ble_eq_true rfl) rfl ?_
  intro p e s m args below meth c C hr hk
  refine xa_aload_n C dM_commitment_0 rfl ?_
  refine xa_icN C 0 dM_commitment_1 ?_
  refine xa_put C f_M_63 u_M_0 dM_commitment_2 rfl (Nat.le_of_ble_eq_true rfl) rfl rfl (fun _ h => by cases h) ?_
  refine xa_aload_n C dM_commitment_5 rfl ?_
  refine xa_iload_n C dM_commitment_6 rfl ?_
  refine xa_callV1 C (p_M_isSigner g l _) b_M_116 (xw_in wi_M_isSigner rfl) e_M_isSigner dM_commitment_7 rfl rfl rfl rfl (Nat.le_of_ble_eq_true rfl) ⟨Nat.le_of_ble_eq_true rfl, Nat.le_of_ble_eq_true rfl⟩ ⟨Nat.zero_le _, Nat.zero_le _⟩ ?_
  refine xa_if_eq C dM_commitment_10 (tgt := 22) rfl (fun h10 => ?_) (fun h10 => ?_)
  · exact absurd (sg_nI hn h1 hi) (xb_eq0.mp h10)
  · refine xa_aload_n C dM_commitment_13 rfl ?_
    refine xa_get C f_M_16 dM_commitment_14 rfl rfl ?_
    refine xa_iload_n C dM_commitment_17 rfl ?_
    refine xa_baloadN C dM_commitment_18 rfl ?_ (by omega) ?_
    · omega
    refine xa_if_ne C dM_commitment_19 (tgt := 28) rfl (fun h19 => ?_) (fun h19 => ?_)
    · refine xa_iload_n C dM_commitment_28 rfl ?_
      refine xa_if_eq C dM_commitment_29 (tgt := 41) rfl (fun h29 => ?_) (fun h29 => ?_)
      · exact absurd h29 hy
      · refine xa_aload_n C dM_commitment_32 rfl ?_
        refine xa_get C f_M_29 dM_commitment_33 rfl rfl ?_
        refine xa_iload_n C dM_commitment_36 rfl ?_
        refine xa_laloadN C dM_commitment_37 rfl ?_ (by omega) ?_
        · omega
        refine xa_goto C dM_commitment_38 (tgt := 47) rfl ?_
        exact xa_eq rfl rfl rfl (xa_lret C hr hk dM_commitment_47)
    · exact absurd h19 ho
set_option maxHeartbeats 4000000 in
set_option maxRecDepth 100000 in
theorem p_M_commitment_d (g : xw_G) (l : Launch) {c0 c1 c2 c3 c4 c5 c6 c7 c8 c9 c10 c11 c12 c13 c14 c15 : va_E} {n t : Nat} {se ke f1 f2 e1 e2 y1 y2 fa we sh to : Nat → Nat} {oz sz mz : Nat → Int32} {th dl ms tk bl : Int32} {al ch : Nat} {mi : Int64} {rest : List va_E} (hn : n ≤ 6) {i : Nat} (h1 : 1 ≤ i) (hi : i ≤ n) (y : Int32) (ho : ¬ oz i = 0) (hy : y = 0) : xm_R g l false m_M_commitment [.ref 16, .int (nI i), .int y] (hQ c0 c1 c2 c3 c4 c5 c6 c7 c8 c9 c10 c11 c12 c13 c14 c15 (hM g th n t dl se ke oz f1 f2 e1 e2 ms al ch y1 y2 fa we sz mz sh to tk bl mi ++ rest)) (some (.long (lN (e1 i)))) (hQ c0 c1 c2 c3 c4 c5 c6 c7 c8 c9 c10 c11 c12 c13 c14 c15 (hM g (nI 0) n t dl se ke oz f1 f2 e1 e2 ms al ch y1 y2 fa we sz mz sh to tk bl mi ++ rest)) := by
  refine xm_of [some (.ref 16), some (.int (nI i)), some (.int y)] rfl (Nat.le_of_ble_eq_true rfl) rfl ?_
  intro p e s m args below meth c C hr hk
  refine xa_aload_n C dM_commitment_0 rfl ?_
  refine xa_icN C 0 dM_commitment_1 ?_
  refine xa_put C f_M_63 u_M_0 dM_commitment_2 rfl (Nat.le_of_ble_eq_true rfl) rfl rfl (fun _ h => by cases h) ?_
  refine xa_aload_n C dM_commitment_5 rfl ?_
  refine xa_iload_n C dM_commitment_6 rfl ?_
  refine xa_callV1 C (p_M_isSigner g l _) b_M_116 (xw_in wi_M_isSigner rfl) e_M_isSigner dM_commitment_7 rfl rfl rfl rfl (Nat.le_of_ble_eq_true rfl) ⟨Nat.le_of_ble_eq_true rfl, Nat.le_of_ble_eq_true rfl⟩ ⟨Nat.zero_le _, Nat.zero_le _⟩ ?_
  refine xa_if_eq C dM_commitment_10 (tgt := 22) rfl (fun h10 => ?_) (fun h10 => ?_)
  · exact absurd (sg_nI hn h1 hi) (xb_eq0.mp h10)
  · refine xa_aload_n C dM_commitment_13 rfl ?_
    refine xa_get C f_M_16 dM_commitment_14 rfl rfl ?_
    refine xa_iload_n C dM_commitment_17 rfl ?_
    refine xa_baloadN C dM_commitment_18 rfl ?_ (by omega) ?_
    · omega
    refine xa_if_ne C dM_commitment_19 (tgt := 28) rfl (fun h19 => ?_) (fun h19 => ?_)
    · refine xa_iload_n C dM_commitment_28 rfl ?_
      refine xa_if_eq C dM_commitment_29 (tgt := 41) rfl (fun h29 => ?_) (fun h29 => ?_)
      · refine xa_aload_n C dM_commitment_41 rfl ?_
        refine xa_get C f_M_26 dM_commitment_42 rfl rfl ?_
        refine xa_iload_n C dM_commitment_45 rfl ?_
        refine xa_laloadN C dM_commitment_46 rfl ?_ (by omega) ?_
        · omega
        exact xa_eq rfl rfl rfl (xa_lret C hr hk dM_commitment_47)
      · exact absurd hy h29
    · exact absurd h19 ho
set_option maxHeartbeats 4000000 in
set_option maxRecDepth 100000 in
theorem p_M_factor_a (g : xw_G) (l : Launch) {c0 c1 c2 c3 c4 c5 c6 c7 c8 c9 c10 c11 c12 c13 c14 c15 : va_E} {n t : Nat} {se ke f1 f2 e1 e2 y1 y2 fa we sh to : Nat → Nat} {oz sz mz : Nat → Int32} {th dl ms tk bl : Int32} {al ch : Nat} {mi : Int64} {rest : List va_E} (x : Int32) (hx : ¬ sg n x) : xm_R g l false m_M_factor [.ref 16, .int x] (hQ c0 c1 c2 c3 c4 c5 c6 c7 c8 c9 c10 c11 c12 c13 c14 c15 (hM g th n t dl se ke oz f1 f2 e1 e2 ms al ch y1 y2 fa we sz mz sh to tk bl mi ++ rest)) (some (.long (-1))) (hQ c0 c1 c2 c3 c4 c5 c6 c7 c8 c9 c10 c11 c12 c13 c14 c15 (hM g (nI 0) n t dl se ke oz f1 f2 e1 e2 ms al ch y1 y2 fa we sz mz sh to tk bl mi ++ rest)) := by
  refine xm_of [some (.ref 16), some (.int x)] rfl (Nat.le_of_ble_eq_true rfl) rfl ?_
  intro p e s m args below meth c C hr hk
  refine xa_aload_n C dM_factor_0 rfl ?_
  refine xa_icN C 0 dM_factor_1 ?_
  refine xa_put C f_M_63 u_M_0 dM_factor_2 rfl (Nat.le_of_ble_eq_true rfl) rfl rfl (fun _ h => by cases h) ?_
  refine xa_aload_n C dM_factor_5 rfl ?_
  refine xa_iload_n C dM_factor_6 rfl ?_
  refine xa_callV1 C (p_M_isMember_no g l _ hx) b_M_150 (xw_in wi_M_isMember rfl) e_M_isMember dM_factor_7 rfl rfl rfl rfl (Nat.le_of_ble_eq_true rfl) ⟨Nat.le_of_ble_eq_true rfl, Nat.le_of_ble_eq_true rfl⟩ ⟨Nat.zero_le _, Nat.zero_le _⟩ ?_
  refine xa_if_eq C dM_factor_10 (tgt := 22) rfl (fun h10 => ?_) (fun h10 => ?_)
  · refine xa_ldc2 C (xw_in wk_M_172 rfl) dM_factor_22 ?_
    exact xa_eq rfl rfl rfl (xa_lret C hr hk dM_factor_25)
  · exact absurd rfl h10
set_option maxHeartbeats 4000000 in
set_option maxRecDepth 100000 in
theorem p_M_factor_b (g : xw_G) (l : Launch) {c0 c1 c2 c3 c4 c5 c6 c7 c8 c9 c10 c11 c12 c13 c14 c15 : va_E} {n t : Nat} {se ke f1 f2 e1 e2 y1 y2 fa we sh to : Nat → Nat} {oz sz mz : Nat → Int32} {th dl ms tk bl : Int32} {al ch : Nat} {mi : Int64} {rest : List va_E} (hn : n ≤ 6) {i : Nat} (h1 : 1 ≤ i) (hi : i ≤ n) (hm : hs ms i = false) : xm_R g l false m_M_factor [.ref 16, .int (nI i)] (hQ c0 c1 c2 c3 c4 c5 c6 c7 c8 c9 c10 c11 c12 c13 c14 c15 (hM g th n t dl se ke oz f1 f2 e1 e2 ms al ch y1 y2 fa we sz mz sh to tk bl mi ++ rest)) (some (.long (-1))) (hQ c0 c1 c2 c3 c4 c5 c6 c7 c8 c9 c10 c11 c12 c13 c14 c15 (hM g (nI 0) n t dl se ke oz f1 f2 e1 e2 ms al ch y1 y2 fa we sz mz sh to tk bl mi ++ rest)) := by
  refine xm_of [some (.ref 16), some (.int (nI i))] rfl (Nat.le_of_ble_eq_true rfl) rfl ?_
  intro p e s m args below meth c C hr hk
  refine xa_aload_n C dM_factor_0 rfl ?_
  refine xa_icN C 0 dM_factor_1 ?_
  refine xa_put C f_M_63 u_M_0 dM_factor_2 rfl (Nat.le_of_ble_eq_true rfl) rfl rfl (fun _ h => by cases h) ?_
  refine xa_aload_n C dM_factor_5 rfl ?_
  refine xa_iload_n C dM_factor_6 rfl ?_
  refine xa_callV1 C (p_M_isMember g l hn h1 hi) b_M_150 (xw_in wi_M_isMember rfl) e_M_isMember dM_factor_7 rfl rfl rfl rfl (Nat.le_of_ble_eq_true rfl) ⟨Nat.le_of_ble_eq_true rfl, Nat.le_of_ble_eq_true rfl⟩ ⟨Nat.zero_le _, Nat.zero_le _⟩ ?_
  refine xa_if_eq C dM_factor_10 (tgt := 22) rfl (fun h10 => ?_) (fun h10 => ?_)
  · refine xa_ldc2 C (xw_in wk_M_172 rfl) dM_factor_22 ?_
    exact xa_eq rfl rfl rfl (xa_lret C hr hk dM_factor_25)
  · exact absurd (xb_f (by rw [hm]; decide)) h10
set_option maxHeartbeats 4000000 in
set_option maxRecDepth 100000 in
theorem p_M_factor_c (g : xw_G) (l : Launch) {c0 c1 c2 c3 c4 c5 c6 c7 c8 c9 c10 c11 c12 c13 c14 c15 : va_E} {n t : Nat} {se ke f1 f2 e1 e2 y1 y2 fa we sh to : Nat → Nat} {oz sz mz : Nat → Int32} {th dl ms tk bl : Int32} {al ch : Nat} {mi : Int64} {rest : List va_E} (hn : n ≤ 6) {i : Nat} (h1 : 1 ≤ i) (hi : i ≤ n) (hm : hs ms i = true) : xm_R g l false m_M_factor [.ref 16, .int (nI i)] (hQ c0 c1 c2 c3 c4 c5 c6 c7 c8 c9 c10 c11 c12 c13 c14 c15 (hM g th n t dl se ke oz f1 f2 e1 e2 ms al ch y1 y2 fa we sz mz sh to tk bl mi ++ rest)) (some (.long (lN (fa i)))) (hQ c0 c1 c2 c3 c4 c5 c6 c7 c8 c9 c10 c11 c12 c13 c14 c15 (hM g (nI 0) n t dl se ke oz f1 f2 e1 e2 ms al ch y1 y2 fa we sz mz sh to tk bl mi ++ rest)) := by
  refine xm_of [some (.ref 16), some (.int (nI i))] rfl (Nat.le_of_ble_eq_true rfl) rfl ?_
  intro p e s m args below meth c C hr hk
  refine xa_aload_n C dM_factor_0 rfl ?_
  refine xa_icN C 0 dM_factor_1 ?_
  refine xa_put C f_M_63 u_M_0 dM_factor_2 rfl (Nat.le_of_ble_eq_true rfl) rfl rfl (fun _ h => by cases h) ?_
  refine xa_aload_n C dM_factor_5 rfl ?_
  refine xa_iload_n C dM_factor_6 rfl ?_
  refine xa_callV1 C (p_M_isMember g l hn h1 hi) b_M_150 (xw_in wi_M_isMember rfl) e_M_isMember dM_factor_7 rfl rfl rfl rfl (Nat.le_of_ble_eq_true rfl) ⟨Nat.le_of_ble_eq_true rfl, Nat.le_of_ble_eq_true rfl⟩ ⟨Nat.zero_le _, Nat.zero_le _⟩ ?_
  refine xa_if_eq C dM_factor_10 (tgt := 22) rfl (fun h10 => ?_) (fun h10 => ?_)
  · exact absurd hm (xb_eq0.mp h10)
  · refine xa_aload_n C dM_factor_13 rfl ?_
    refine xa_get C f_M_38 dM_factor_14 rfl rfl ?_
    refine xa_iload_n C dM_factor_17 rfl ?_
    refine xa_laloadN C dM_factor_18 rfl ?_ (by omega) ?_
    · omega
    refine xa_goto C dM_factor_19 (tgt := 25) rfl ?_
    exact xa_eq rfl rfl rfl (xa_lret C hr hk dM_factor_25)
set_option maxHeartbeats 4000000 in
set_option maxRecDepth 100000 in
theorem p_M_weight_a (g : xw_G) (l : Launch) {c0 c1 c2 c3 c4 c5 c6 c7 c8 c9 c10 c11 c12 c13 c14 c15 : va_E} {n t : Nat} {se ke f1 f2 e1 e2 y1 y2 fa we sh to : Nat → Nat} {oz sz mz : Nat → Int32} {th dl ms tk bl : Int32} {al ch : Nat} {mi : Int64} {rest : List va_E} (x : Int32) (hx : ¬ sg n x) : xm_R g l false m_M_weight [.ref 16, .int x] (hQ c0 c1 c2 c3 c4 c5 c6 c7 c8 c9 c10 c11 c12 c13 c14 c15 (hM g th n t dl se ke oz f1 f2 e1 e2 ms al ch y1 y2 fa we sz mz sh to tk bl mi ++ rest)) (some (.long (-1))) (hQ c0 c1 c2 c3 c4 c5 c6 c7 c8 c9 c10 c11 c12 c13 c14 c15 (hM g (nI 0) n t dl se ke oz f1 f2 e1 e2 ms al ch y1 y2 fa we sz mz sh to tk bl mi ++ rest)) := by
  refine xm_of [some (.ref 16), some (.int x)] rfl (Nat.le_of_ble_eq_true rfl) rfl ?_
  intro p e s m args below meth c C hr hk
  refine xa_aload_n C dM_weight_0 rfl ?_
  refine xa_icN C 0 dM_weight_1 ?_
  refine xa_put C f_M_63 u_M_0 dM_weight_2 rfl (Nat.le_of_ble_eq_true rfl) rfl rfl (fun _ h => by cases h) ?_
  refine xa_aload_n C dM_weight_5 rfl ?_
  refine xa_iload_n C dM_weight_6 rfl ?_
  refine xa_callV1 C (p_M_isMember_no g l _ hx) b_M_150 (xw_in wi_M_isMember rfl) e_M_isMember dM_weight_7 rfl rfl rfl rfl (Nat.le_of_ble_eq_true rfl) ⟨Nat.le_of_ble_eq_true rfl, Nat.le_of_ble_eq_true rfl⟩ ⟨Nat.zero_le _, Nat.zero_le _⟩ ?_
  refine xa_if_eq C dM_weight_10 (tgt := 22) rfl (fun h10 => ?_) (fun h10 => ?_)
  · refine xa_ldc2 C (xw_in wk_M_172 rfl) dM_weight_22 ?_
    exact xa_eq rfl rfl rfl (xa_lret C hr hk dM_weight_25)
  · exact absurd rfl h10
set_option maxHeartbeats 4000000 in
set_option maxRecDepth 100000 in
theorem p_M_weight_b (g : xw_G) (l : Launch) {c0 c1 c2 c3 c4 c5 c6 c7 c8 c9 c10 c11 c12 c13 c14 c15 : va_E} {n t : Nat} {se ke f1 f2 e1 e2 y1 y2 fa we sh to : Nat → Nat} {oz sz mz : Nat → Int32} {th dl ms tk bl : Int32} {al ch : Nat} {mi : Int64} {rest : List va_E} (hn : n ≤ 6) {i : Nat} (h1 : 1 ≤ i) (hi : i ≤ n) (hm : hs ms i = false) : xm_R g l false m_M_weight [.ref 16, .int (nI i)] (hQ c0 c1 c2 c3 c4 c5 c6 c7 c8 c9 c10 c11 c12 c13 c14 c15 (hM g th n t dl se ke oz f1 f2 e1 e2 ms al ch y1 y2 fa we sz mz sh to tk bl mi ++ rest)) (some (.long (-1))) (hQ c0 c1 c2 c3 c4 c5 c6 c7 c8 c9 c10 c11 c12 c13 c14 c15 (hM g (nI 0) n t dl se ke oz f1 f2 e1 e2 ms al ch y1 y2 fa we sz mz sh to tk bl mi ++ rest)) := by
  refine xm_of [some (.ref 16), some (.int (nI i))] rfl (Nat.le_of_ble_eq_true rfl) rfl ?_
  intro p e s m args below meth c C hr hk
  refine xa_aload_n C dM_weight_0 rfl ?_
  refine xa_icN C 0 dM_weight_1 ?_
  refine xa_put C f_M_63 u_M_0 dM_weight_2 rfl (Nat.le_of_ble_eq_true rfl) rfl rfl (fun _ h => by cases h) ?_
  refine xa_aload_n C dM_weight_5 rfl ?_
  refine xa_iload_n C dM_weight_6 rfl ?_
  refine xa_callV1 C (p_M_isMember g l hn h1 hi) b_M_150 (xw_in wi_M_isMember rfl) e_M_isMember dM_weight_7 rfl rfl rfl rfl (Nat.le_of_ble_eq_true rfl) ⟨Nat.le_of_ble_eq_true rfl, Nat.le_of_ble_eq_true rfl⟩ ⟨Nat.zero_le _, Nat.zero_le _⟩ ?_
  refine xa_if_eq C dM_weight_10 (tgt := 22) rfl (fun h10 => ?_) (fun h10 => ?_)
  · refine xa_ldc2 C (xw_in wk_M_172 rfl) dM_weight_22 ?_
    exact xa_eq rfl rfl rfl (xa_lret C hr hk dM_weight_25)
  · exact absurd (xb_f (by rw [hm]; decide)) h10
set_option maxHeartbeats 4000000 in
set_option maxRecDepth 100000 in
theorem p_M_weight_c (g : xw_G) (l : Launch) {c0 c1 c2 c3 c4 c5 c6 c7 c8 c9 c10 c11 c12 c13 c14 c15 : va_E} {n t : Nat} {se ke f1 f2 e1 e2 y1 y2 fa we sh to : Nat → Nat} {oz sz mz : Nat → Int32} {th dl ms tk bl : Int32} {al ch : Nat} {mi : Int64} {rest : List va_E} (hn : n ≤ 6) {i : Nat} (h1 : 1 ≤ i) (hi : i ≤ n) (hm : hs ms i = true) : xm_R g l false m_M_weight [.ref 16, .int (nI i)] (hQ c0 c1 c2 c3 c4 c5 c6 c7 c8 c9 c10 c11 c12 c13 c14 c15 (hM g th n t dl se ke oz f1 f2 e1 e2 ms al ch y1 y2 fa we sz mz sh to tk bl mi ++ rest)) (some (.long (lN (we i)))) (hQ c0 c1 c2 c3 c4 c5 c6 c7 c8 c9 c10 c11 c12 c13 c14 c15 (hM g (nI 0) n t dl se ke oz f1 f2 e1 e2 ms al ch y1 y2 fa we sz mz sh to tk bl mi ++ rest)) := by
  refine xm_of [some (.ref 16), some (.int (nI i))] rfl (Nat.le_of_ble_eq_true rfl) rfl ?_
  intro p e s m args below meth c C hr hk
  refine xa_aload_n C dM_weight_0 rfl ?_
  refine xa_icN C 0 dM_weight_1 ?_
  refine xa_put C f_M_63 u_M_0 dM_weight_2 rfl (Nat.le_of_ble_eq_true rfl) rfl rfl (fun _ h => by cases h) ?_
  refine xa_aload_n C dM_weight_5 rfl ?_
  refine xa_iload_n C dM_weight_6 rfl ?_
  refine xa_callV1 C (p_M_isMember g l hn h1 hi) b_M_150 (xw_in wi_M_isMember rfl) e_M_isMember dM_weight_7 rfl rfl rfl rfl (Nat.le_of_ble_eq_true rfl) ⟨Nat.le_of_ble_eq_true rfl, Nat.le_of_ble_eq_true rfl⟩ ⟨Nat.zero_le _, Nat.zero_le _⟩ ?_
  refine xa_if_eq C dM_weight_10 (tgt := 22) rfl (fun h10 => ?_) (fun h10 => ?_)
  · exact absurd hm (xb_eq0.mp h10)
  · refine xa_aload_n C dM_weight_13 rfl ?_
    refine xa_get C f_M_41 dM_weight_14 rfl rfl ?_
    refine xa_iload_n C dM_weight_17 rfl ?_
    refine xa_laloadN C dM_weight_18 rfl ?_ (by omega) ?_
    · omega
    refine xa_goto C dM_weight_19 (tgt := 25) rfl ?_
    exact xa_eq rfl rfl rfl (xa_lret C hr hk dM_weight_25)
set_option maxHeartbeats 4000000 in
set_option maxRecDepth 100000 in
theorem p_M_challenge_a (g : xw_G) (l : Launch) {c0 c1 c2 c3 c4 c5 c6 c7 c8 c9 c10 c11 c12 c13 c14 c15 : va_E} {n t : Nat} {se ke f1 f2 e1 e2 y1 y2 fa we sh to : Nat → Nat} {oz sz mz : Nat → Int32} {th dl ms tk bl : Int32} {al ch : Nat} {mi : Int64} {rest : List va_E} (hm : ms = 0) : xm_R g l false m_M_challenge [.ref 16] (hQ c0 c1 c2 c3 c4 c5 c6 c7 c8 c9 c10 c11 c12 c13 c14 c15 (hM g th n t dl se ke oz f1 f2 e1 e2 ms al ch y1 y2 fa we sz mz sh to tk bl mi ++ rest)) (some (.long (-1))) (hQ c0 c1 c2 c3 c4 c5 c6 c7 c8 c9 c10 c11 c12 c13 c14 c15 (hM g (nI 0) n t dl se ke oz f1 f2 e1 e2 ms al ch y1 y2 fa we sz mz sh to tk bl mi ++ rest)) := by
  refine xm_of [some (.ref 16)] rfl (Nat.le_of_ble_eq_true rfl) rfl ?_
  intro p e s m args below meth c C hr hk
  refine xa_aload_n C dM_challenge_0 rfl ?_
  refine xa_icN C 0 dM_challenge_1 ?_
  refine xa_put C f_M_63 u_M_0 dM_challenge_2 rfl (Nat.le_of_ble_eq_true rfl) rfl rfl (fun _ h => by cases h) ?_
  refine xa_aload_n C dM_challenge_5 rfl ?_
  refine xa_get C f_M_107 dM_challenge_6 rfl rfl ?_
  refine xa_if_eq C dM_challenge_9 (tgt := 19) rfl (fun h9 => ?_) (fun h9 => ?_)
  · refine xa_ldc2 C (xw_in wk_M_172 rfl) dM_challenge_19 ?_
    exact xa_eq rfl rfl rfl (xa_lret C hr hk dM_challenge_22)
  · exact absurd hm h9
set_option maxHeartbeats 4000000 in
set_option maxRecDepth 100000 in
theorem p_M_challenge_b (g : xw_G) (l : Launch) {c0 c1 c2 c3 c4 c5 c6 c7 c8 c9 c10 c11 c12 c13 c14 c15 : va_E} {n t : Nat} {se ke f1 f2 e1 e2 y1 y2 fa we sh to : Nat → Nat} {oz sz mz : Nat → Int32} {th dl ms tk bl : Int32} {al ch : Nat} {mi : Int64} {rest : List va_E} (hm : ¬ ms = 0) : xm_R g l false m_M_challenge [.ref 16] (hQ c0 c1 c2 c3 c4 c5 c6 c7 c8 c9 c10 c11 c12 c13 c14 c15 (hM g th n t dl se ke oz f1 f2 e1 e2 ms al ch y1 y2 fa we sz mz sh to tk bl mi ++ rest)) (some (.long (lN ch))) (hQ c0 c1 c2 c3 c4 c5 c6 c7 c8 c9 c10 c11 c12 c13 c14 c15 (hM g (nI 0) n t dl se ke oz f1 f2 e1 e2 ms al ch y1 y2 fa we sz mz sh to tk bl mi ++ rest)) := by
  refine xm_of [some (.ref 16)] rfl (Nat.le_of_ble_eq_true rfl) rfl ?_
  intro p e s m args below meth c C hr hk
  refine xa_aload_n C dM_challenge_0 rfl ?_
  refine xa_icN C 0 dM_challenge_1 ?_
  refine xa_put C f_M_63 u_M_0 dM_challenge_2 rfl (Nat.le_of_ble_eq_true rfl) rfl rfl (fun _ h => by cases h) ?_
  refine xa_aload_n C dM_challenge_5 rfl ?_
  refine xa_get C f_M_107 dM_challenge_6 rfl rfl ?_
  refine xa_if_eq C dM_challenge_9 (tgt := 19) rfl (fun h9 => ?_) (fun h9 => ?_)
  · exact absurd h9 hm
  · refine xa_aload_n C dM_challenge_12 rfl ?_
    refine xa_get C f_M_147 dM_challenge_13 rfl rfl ?_
    refine xa_goto C dM_challenge_16 (tgt := 22) rfl ?_
    exact xa_eq rfl rfl rfl (xa_lret C hr hk dM_challenge_22)
set_option maxHeartbeats 4000000 in
set_option maxRecDepth 100000 in
theorem p_M_members (g : xw_G) (l : Launch) {c0 c1 c2 c3 c4 c5 c6 c7 c8 c9 c10 c11 c12 c13 c14 c15 : va_E} {n t : Nat} {se ke f1 f2 e1 e2 y1 y2 fa we sh to : Nat → Nat} {oz sz mz : Nat → Int32} {th dl ms tk bl : Int32} {al ch : Nat} {mi : Int64} {rest : List va_E}  : xm_R g l false m_M_members [.ref 16] (hQ c0 c1 c2 c3 c4 c5 c6 c7 c8 c9 c10 c11 c12 c13 c14 c15 (hM g th n t dl se ke oz f1 f2 e1 e2 ms al ch y1 y2 fa we sz mz sh to tk bl mi ++ rest)) (some (.int ms)) (hQ c0 c1 c2 c3 c4 c5 c6 c7 c8 c9 c10 c11 c12 c13 c14 c15 (hM g (nI 0) n t dl se ke oz f1 f2 e1 e2 ms al ch y1 y2 fa we sz mz sh to tk bl mi ++ rest)) := by
  refine xm_of [some (.ref 16)] rfl (Nat.le_of_ble_eq_true rfl) rfl ?_
  intro p e s m args below meth c C hr hk
  refine xa_aload_n C dM_members_0 rfl ?_
  refine xa_icN C 0 dM_members_1 ?_
  refine xa_put C f_M_63 u_M_0 dM_members_2 rfl (Nat.le_of_ble_eq_true rfl) rfl rfl (fun _ h => by cases h) ?_
  refine xa_aload_n C dM_members_5 rfl ?_
  refine xa_get C f_M_107 dM_members_6 rfl rfl ?_
  exact xa_eq rfl rfl rfl (xa_iret C hr hk dM_members_9)
set_option maxHeartbeats 4000000 in
set_option maxRecDepth 100000 in
theorem p_M_taken (g : xw_G) (l : Launch) {c0 c1 c2 c3 c4 c5 c6 c7 c8 c9 c10 c11 c12 c13 c14 c15 : va_E} {n t : Nat} {se ke f1 f2 e1 e2 y1 y2 fa we sh to : Nat → Nat} {oz sz mz : Nat → Int32} {th dl ms tk bl : Int32} {al ch : Nat} {mi : Int64} {rest : List va_E}  : xm_R g l false m_M_taken [.ref 16] (hQ c0 c1 c2 c3 c4 c5 c6 c7 c8 c9 c10 c11 c12 c13 c14 c15 (hM g th n t dl se ke oz f1 f2 e1 e2 ms al ch y1 y2 fa we sz mz sh to tk bl mi ++ rest)) (some (.int tk)) (hQ c0 c1 c2 c3 c4 c5 c6 c7 c8 c9 c10 c11 c12 c13 c14 c15 (hM g (nI 0) n t dl se ke oz f1 f2 e1 e2 ms al ch y1 y2 fa we sz mz sh to tk bl mi ++ rest)) := by
  refine xm_of [some (.ref 16)] rfl (Nat.le_of_ble_eq_true rfl) rfl ?_
  intro p e s m args below meth c C hr hk
  refine xa_aload_n C dM_taken_0 rfl ?_
  refine xa_icN C 0 dM_taken_1 ?_
  refine xa_put C f_M_63 u_M_0 dM_taken_2 rfl (Nat.le_of_ble_eq_true rfl) rfl rfl (fun _ h => by cases h) ?_
  refine xa_aload_n C dM_taken_5 rfl ?_
  refine xa_get C f_M_110 dM_taken_6 rfl rfl ?_
  exact xa_eq rfl rfl rfl (xa_iret C hr hk dM_taken_9)
set_option maxHeartbeats 4000000 in
set_option maxRecDepth 100000 in
theorem p_M_blamed (g : xw_G) (l : Launch) {c0 c1 c2 c3 c4 c5 c6 c7 c8 c9 c10 c11 c12 c13 c14 c15 : va_E} {n t : Nat} {se ke f1 f2 e1 e2 y1 y2 fa we sh to : Nat → Nat} {oz sz mz : Nat → Int32} {th dl ms tk bl : Int32} {al ch : Nat} {mi : Int64} {rest : List va_E}  : xm_R g l false m_M_blamed [.ref 16] (hQ c0 c1 c2 c3 c4 c5 c6 c7 c8 c9 c10 c11 c12 c13 c14 c15 (hM g th n t dl se ke oz f1 f2 e1 e2 ms al ch y1 y2 fa we sz mz sh to tk bl mi ++ rest)) (some (.int bl)) (hQ c0 c1 c2 c3 c4 c5 c6 c7 c8 c9 c10 c11 c12 c13 c14 c15 (hM g (nI 0) n t dl se ke oz f1 f2 e1 e2 ms al ch y1 y2 fa we sz mz sh to tk bl mi ++ rest)) := by
  refine xm_of [some (.ref 16)] rfl (Nat.le_of_ble_eq_true rfl) rfl ?_
  intro p e s m args below meth c C hr hk
  refine xa_aload_n C dM_blamed_0 rfl ?_
  refine xa_icN C 0 dM_blamed_1 ?_
  refine xa_put C f_M_63 u_M_0 dM_blamed_2 rfl (Nat.le_of_ble_eq_true rfl) rfl rfl (fun _ h => by cases h) ?_
  refine xa_aload_n C dM_blamed_5 rfl ?_
  refine xa_get C f_M_113 dM_blamed_6 rfl rfl ?_
  exact xa_eq rfl rfl rfl (xa_iret C hr hk dM_blamed_9)
