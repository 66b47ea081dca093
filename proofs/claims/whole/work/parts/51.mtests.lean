/-! the reference: tests, weights, sets -/
set_option maxHeartbeats 4000000 in
set_option maxRecDepth 100000 in
theorem p_M_isNumber (g : xw_G) (l : Launch) (x : Int64) (hp : List va_E) : xm_R g l true m_M_isNumber [.long x] hp (some (.int (xb (0 ≤ x ∧ x < 1073741789)))) hp := by
  refine xm_of [some (.long x), none] rfl (Nat.le_of_ble_eq_true rfl) rfl ?_
  intro p e s m args below meth c C hr hk
  refine xa_lload_n C dM_isNumber_0 rfl ?_
  refine xa_lcN C 0 dM_isNumber_1 ?_
  refine xa_lcmp C dM_isNumber_2 ?_
  refine xa_if_lt C dM_isNumber_3 (tgt := 18) rfl (fun h3 => ?_) (fun h3 => ?_)
  · refine xa_icN C 0 dM_isNumber_18 ?_
    exact xa_eq rfl (congrArg (fun z => [Value.int z]) (xb_f (P := 0 ≤ x ∧ x < 1073741789) (by simp only [lg_cmp_lt, lg_cmp_ge, Int64.not_lt, Int64.not_le] at *; intro q; first | exact absurd q.1 (Int64.not_le.mpr (by assumption)) | exact absurd q.2 (Int64.not_lt.mpr (by assumption)))).symm) rfl (xa_zret C hr hk (xb_nar _) dM_isNumber_19)
  · refine xa_lload_n C dM_isNumber_6 rfl ?_
    refine xa_ldc2 C (xw_in wk_M_68 rfl) dM_isNumber_7 ?_
    refine xa_lcmp C dM_isNumber_10 ?_
    refine xa_if_ge C dM_isNumber_11 (tgt := 18) rfl (fun h11 => ?_) (fun h11 => ?_)
    · refine xa_icN C 0 dM_isNumber_18 ?_
      exact xa_eq rfl (congrArg (fun z => [Value.int z]) (xb_f (P := 0 ≤ x ∧ x < 1073741789) (by simp only [lg_cmp_lt, lg_cmp_ge, Int64.not_lt, Int64.not_le] at *; intro q; first | exact absurd q.1 (Int64.not_le.mpr (by assumption)) | exact absurd q.2 (Int64.not_lt.mpr (by assumption)))).symm) rfl (xa_zret C hr hk (xb_nar _) dM_isNumber_19)
    · refine xa_icN C 1 dM_isNumber_14 ?_
      refine xa_goto C dM_isNumber_15 (tgt := 19) rfl ?_
      exact xa_eq rfl (congrArg (fun z => [Value.int z]) (xb_t (P := 0 ≤ x ∧ x < 1073741789) (by simp only [lg_cmp_lt, lg_cmp_ge, Int64.not_lt, Int64.not_le] at *; exact ⟨by assumption, by assumption⟩)).symm) rfl (xa_zret C hr hk (xb_nar _) dM_isNumber_19)
set_option maxHeartbeats 4000000 in
set_option maxRecDepth 100000 in
theorem p_M_isSigner (g : xw_G) (l : Launch) {c0 c1 c2 c3 c4 c5 c6 c7 c8 c9 c10 c11 c12 c13 c14 c15 : va_E} {n t : Nat} {se ke f1 f2 e1 e2 y1 y2 fa we sh to : Nat → Nat} {oz sz mz : Nat → Int32} {th dl ms tk bl : Int32} {al ch : Nat} {mi : Int64} {rest : List va_E} (x : Int32) : xm_R g l true m_M_isSigner [.ref 16, .int x] (hQ c0 c1 c2 c3 c4 c5 c6 c7 c8 c9 c10 c11 c12 c13 c14 c15 (hM g th n t dl se ke oz f1 f2 e1 e2 ms al ch y1 y2 fa we sz mz sh to tk bl mi ++ rest)) (some (.int (xb (sg n x)))) (hQ c0 c1 c2 c3 c4 c5 c6 c7 c8 c9 c10 c11 c12 c13 c14 c15 (hM g th n t dl se ke oz f1 f2 e1 e2 ms al ch y1 y2 fa we sz mz sh to tk bl mi ++ rest)) := by
  refine xm_of [some (.ref 16), some (.int x)] rfl (Nat.le_of_ble_eq_true rfl) rfl ?_
  intro p e s m args below meth c C hr hk
  refine xa_iload_n C dM_isSigner_0 rfl ?_
  refine xa_icN C 1 dM_isSigner_1 ?_
  refine xa_icmp_lt C dM_isSigner_2 (tgt := 17) rfl (fun h2 => ?_) (fun h2 => ?_)
  · refine xa_icN C 0 dM_isSigner_17 ?_
    exact xa_eq rfl (congrArg (fun z => [Value.int z]) (xb_f (P := sg n x) (fun q => by first | exact q.1 h2 | exact q.2 h10)).symm) rfl (xa_zret C hr hk (xb_nar _) dM_isSigner_18)
  · refine xa_iload_n C dM_isSigner_5 rfl ?_
    refine xa_aload_n C dM_isSigner_6 rfl ?_
    refine xa_get C f_M_56 dM_isSigner_7 rfl rfl ?_
    refine xa_icmp_gt C dM_isSigner_10 (tgt := 17) rfl (fun h10 => ?_) (fun h10 => ?_)
    · refine xa_icN C 0 dM_isSigner_17 ?_
      exact xa_eq rfl (congrArg (fun z => [Value.int z]) (xb_f (P := sg n x) (fun q => by first | exact q.1 h2 | exact q.2 h10)).symm) rfl (xa_zret C hr hk (xb_nar _) dM_isSigner_18)
    · refine xa_icN C 1 dM_isSigner_13 ?_
      refine xa_goto C dM_isSigner_14 (tgt := 18) rfl ?_
      exact xa_eq rfl (congrArg (fun z => [Value.int z]) (xb_t (P := sg n x) (⟨h2, h10⟩)).symm) rfl (xa_zret C hr hk (xb_nar _) dM_isSigner_18)
set_option maxHeartbeats 4000000 in
set_option maxRecDepth 100000 in
theorem p_M_in (g : xw_G) (l : Launch) (x i : Int32) (hp : List va_E) : xm_R g l true m_M_in [.int x, .int i] hp (some (.int (xb ((x >>> ((i - nI 1) &&& 31)) &&& nI 1 = nI 1)))) hp := by
  refine xm_of [some (.int x), some (.int i)] rfl (Nat.le_of_ble_eq_true rfl) rfl ?_
  intro p e s m args below meth c C hr hk
  refine xa_iload_n C dM_in_0 rfl ?_
  refine xa_iload_n C dM_in_1 rfl ?_
  refine xa_icN C 1 dM_in_2 ?_
  refine xa_isub C dM_in_3 ?_
  refine xa_ishr C dM_in_4 ?_
  refine xa_icN C 1 dM_in_5 ?_
  refine xa_iand C dM_in_6 ?_
  refine xa_icN C 1 dM_in_7 ?_
  refine xa_icmp_ne C dM_in_8 (tgt := 15) rfl (fun h8 => ?_) (fun h8 => ?_)
  · refine xa_icN C 0 dM_in_15 ?_
    exact xa_eq rfl (congrArg (fun z => [Value.int z]) (xb_f (P := (x >>> ((i - nI 1) &&& 31)) &&& nI 1 = nI 1) (h8)).symm) rfl (xa_zret C hr hk (xb_nar _) dM_in_16)
  · refine xa_icN C 1 dM_in_11 ?_
    refine xa_goto C dM_in_12 (tgt := 16) rfl ?_
    exact xa_eq rfl (congrArg (fun z => [Value.int z]) (xb_t (P := (x >>> ((i - nI 1) &&& 31)) &&& nI 1 = nI 1) (h8)).symm) rfl (xa_zret C hr hk (xb_nar _) dM_in_16)
theorem p_M_inN (g : xw_G) (l : Launch) (x : Int32) {j : Nat} (h1 : 1 ≤ j) (h6 : j ≤ 6) (hp : List va_E) : xm_R g l true m_M_in [.int x, .int (nI j)] hp (some (.int (xb (hs x j = true)))) hp := by
  have h := p_M_in g l x (nI j) hp
  rw [xb_iff (hs_in (s := x) h1 h6)] at h
  exact h
def ct_ (x : Int32) : Nat → Nat
  | 0 => 0
  | k + 1 => if hs x (k + 1) = true then ct_ x k + 1 else ct_ x k
theorem ct_le (x : Int32) : ∀ k, ct_ x k ≤ k
  | 0 => Nat.le_refl _
  | k + 1 => by
    rw [ct_]
    have := ct_le x k
    by_cases q : hs x (k + 1) = true
    · rw [if_pos q]; omega
    · rw [if_neg q]; omega
abbrev em (n t : Nat) (x : Int32) : Prop := ¬ x < 0 ∧ ¬ nI 1 <<< (nI n &&& 31) ≤ x ∧ ¬ nI (ct_ x n) < nI t
theorem tz_sub : ∀ a, a < 8 → ∀ b, b < 8 → (nI a - nI b).toInt64 + lN 1073741789 = lN (a + 1073741789 - b) := by decide +kernel
set_option maxHeartbeats 4000000 in
set_option maxRecDepth 100000 in
theorem p_M_isSet (g : xw_G) (l : Launch) {c0 c1 c2 c3 c4 c5 c6 c7 c8 c9 c10 c11 c12 c13 c14 c15 : va_E} {n t : Nat} {se ke f1 f2 e1 e2 y1 y2 fa we sh to : Nat → Nat} {oz sz mz : Nat → Int32} {th dl ms tk bl : Int32} {al ch : Nat} {mi : Int64} {rest : List va_E} (hn : n ≤ 6) (x : Int32) : xm_R g l true m_M_isSet [.ref 16, .int x] (hQ c0 c1 c2 c3 c4 c5 c6 c7 c8 c9 c10 c11 c12 c13 c14 c15 (hM g th n t dl se ke oz f1 f2 e1 e2 ms al ch y1 y2 fa we sz mz sh to tk bl mi ++ rest)) (some (.int (xb (em n t x)))) (hQ c0 c1 c2 c3 c4 c5 c6 c7 c8 c9 c10 c11 c12 c13 c14 c15 (hM g th n t dl se ke oz f1 f2 e1 e2 ms al ch y1 y2 fa we sz mz sh to tk bl mi ++ rest)) := by
  refine xm_of [some (.ref 16), some (.int x), none, none] rfl (Nat.le_of_ble_eq_true rfl) rfl ?_
  intro p e s m args below meth c C hr hk
  have loop : ∀ d k : Nat, k + d = n → xw_At g true 4 p l e (xm_rm m_M_isSet 0) s m args below meth c 0 0 (MQ below (xm_Q g true (some (.int (xb (em n t x)))) (hQ c0 c1 c2 c3 c4 c5 c6 c7 c8 c9 c10 c11 c12 c13 c14 c15 (hM g th n t dl se ke oz f1 f2 e1 e2 ms al ch y1 y2 fa we sz mz sh to tk bl mi ++ rest))) args s 0 0 (xm_fr g true)) 4 [some (.ref 16), some (.int x), some (.int (nI (ct_ x k))), some (.int (nI (k + 1)))] [] (hQ c0 c1 c2 c3 c4 c5 c6 c7 c8 c9 c10 c11 c12 c13 c14 c15 (hM g th n t dl se ke oz f1 f2 e1 e2 ms al ch y1 y2 fa we sz mz sh to tk bl mi ++ rest)) := by
    intro d
    induction d with
    | zero =>
      intro k hk9
      obtain rfl : k = n := by omega
      refine xa_iload_n C dM_isSet_4 rfl ?_
      refine xa_aload_n C dM_isSet_5 rfl ?_
      refine xa_get C f_M_56 dM_isSet_6 rfl rfl ?_
      refine xa_icmp_gt C dM_isSet_9 (tgt := 34) rfl (fun h9 => ?_) (fun h9 => ?_)
      · refine xa_iload_n C dM_isSet_34 rfl ?_
        refine xa_if_lt C dM_isSet_35 (tgt := 60) rfl (fun h35 => ?_) (fun h35 => ?_)
        · refine xa_icN C 0 dM_isSet_60 ?_
          exact xa_eq rfl (congrArg (fun z => [Value.int z]) (xb_f (P := em k t x) (fun q => q.1 h35)).symm) rfl (xa_zret C hr hk (xb_nar _) dM_isSet_61)
        · refine xa_iload_n C dM_isSet_38 rfl ?_
          refine xa_icN C 1 dM_isSet_39 ?_
          refine xa_aload_n C dM_isSet_40 rfl ?_
          refine xa_get C f_M_56 dM_isSet_41 rfl rfl ?_
          refine xa_ishl C dM_isSet_44 ?_
          refine xa_icmp_ge C dM_isSet_45 (tgt := 60) rfl (fun h45 => ?_) (fun h45 => ?_)
          · refine xa_icN C 0 dM_isSet_60 ?_
            exact xa_eq rfl (congrArg (fun z => [Value.int z]) (xb_f (P := em k t x) (fun q => q.2.1 h45)).symm) rfl (xa_zret C hr hk (xb_nar _) dM_isSet_61)
          · refine xa_iload_n C dM_isSet_48 rfl ?_
            refine xa_aload_n C dM_isSet_49 rfl ?_
            refine xa_get C f_M_60 dM_isSet_50 rfl rfl ?_
            refine xa_icmp_lt C dM_isSet_53 (tgt := 60) rfl (fun h53 => ?_) (fun h53 => ?_)
            · refine xa_icN C 0 dM_isSet_60 ?_
              exact xa_eq rfl (congrArg (fun z => [Value.int z]) (xb_f (P := em k t x) (fun q => q.2.2 h53)).symm) rfl (xa_zret C hr hk (xb_nar _) dM_isSet_61)
            · refine xa_icN C 1 dM_isSet_56 ?_
              refine xa_goto C dM_isSet_57 (tgt := 61) rfl ?_
              exact xa_eq rfl (congrArg (fun z => [Value.int z]) (xb_t (P := em k t x) (⟨h35, h45, h53⟩)).symm) rfl (xa_zret C hr hk (xb_nar _) dM_isSet_61)
      · exact absurd (nI_lt (by omega) (by omega)) h9
    | succ d ih =>
      intro k hk9
      refine xa_iload_n C dM_isSet_4 rfl ?_
      refine xa_aload_n C dM_isSet_5 rfl ?_
      refine xa_get C f_M_56 dM_isSet_6 rfl rfl ?_
      refine xa_icmp_gt C dM_isSet_9 (tgt := 34) rfl (fun h9 => ?_) (fun h9 => ?_)
      · exact absurd h9 (nI_nlt (by omega) (by omega))
      · refine xa_iload_n C dM_isSet_12 rfl ?_
        refine xa_iload_n C dM_isSet_13 rfl ?_
        refine xa_callS1 C (p_M_inN g l _ (by omega) (by omega) _) b_M_89 (xw_in wt_M_in rfl) dM_isSet_14 rfl (Nat.le_of_ble_eq_true rfl) ⟨Nat.le_of_ble_eq_true rfl, Nat.le_of_ble_eq_true rfl⟩ ⟨Nat.zero_le _, Nat.zero_le _⟩ ?_
        refine xa_if_eq C dM_isSet_17 (tgt := 26) rfl (fun h17 => ?_) (fun h17 => ?_)
        · have hb := xb_hs0 h17
          refine xa_iload_n C dM_isSet_26 rfl ?_
          refine xa_istore_n C dM_isSet_27 (Nat.le_of_ble_eq_true rfl) ?_
          refine xa_incN C dM_isSet_28 rfl (Nat.le_of_ble_eq_true rfl) ?_
          refine xa_goto C dM_isSet_31 (tgt := 4) rfl ?_
          have h := ih (k + 1) (by omega)
          rw [ct_, if_neg (by rw [hb]; decide)] at h
          exact h
        · have hb := xb_hs1 h17
          refine xa_iload_n C dM_isSet_20 rfl ?_
          refine xa_icN C 1 dM_isSet_21 ?_
          refine xa_iadd C dM_isSet_22 ?_
          rw [nI_add]
          refine xa_goto C dM_isSet_23 (tgt := 27) rfl ?_
          refine xa_istore_n C dM_isSet_27 (Nat.le_of_ble_eq_true rfl) ?_
          refine xa_incN C dM_isSet_28 rfl (Nat.le_of_ble_eq_true rfl) ?_
          refine xa_goto C dM_isSet_31 (tgt := 4) rfl ?_
          have h := ih (k + 1) (by omega)
          rw [ct_, if_pos hb] at h
          exact h
  refine xa_icN C 0 dM_isSet_0 ?_
  refine xa_istore_n C dM_isSet_1 (Nat.le_of_ble_eq_true rfl) ?_
  refine xa_icN C 1 dM_isSet_2 ?_
  refine xa_istore_n C dM_isSet_3 (Nat.le_of_ble_eq_true rfl) ?_
  exact loop n 0 (by omega)
set_option maxHeartbeats 4000000 in
set_option maxRecDepth 100000 in
theorem p_M_weightIn (g : xw_G) (l : Launch) {c0 c1 c2 c3 c4 c5 c6 c7 c8 c9 c10 c11 c12 c13 c14 c15 : va_E} {n t : Nat} {se ke f1 f2 e1 e2 y1 y2 fa we sh to : Nat → Nat} {oz sz mz : Nat → Int32} {th dl ms tk bl : Int32} {al ch : Nat} {mi : Int64} {rest : List va_E} (hn : n ≤ 6) (x : Int32) {i : Nat} (hi : i ≤ 6) : xm_R g l true m_M_weightIn [.ref 16, .int x, .int (nI i)] (hQ c0 c1 c2 c3 c4 c5 c6 c7 c8 c9 c10 c11 c12 c13 c14 c15 (hM g th n t dl se ke oz f1 f2 e1 e2 ms al ch y1 y2 fa we sz mz sh to tk bl mi ++ rest)) (some (.long (lN (wt_ x n i)))) (hQ c0 c1 c2 c3 c4 c5 c6 c7 c8 c9 c10 c11 c12 c13 c14 c15 (hM g th n t dl se ke oz f1 f2 e1 e2 ms al ch y1 y2 fa we sz mz sh to tk bl mi ++ rest)) := by
  refine xm_of [some (.ref 16), some (.int x), some (.int (nI i)), none, none, none, none, none] rfl (Nat.le_of_ble_eq_true rfl) rfl ?_
  intro p e s m args below meth c C hr hk
  have loop : ∀ d k : Nat, k + d = n → xw_At g true 8 p l e (xm_rm m_M_weightIn 0) s m args below meth c 0 0 (MQ below (xm_Q g true (some (.long (lN (wt_ x n i)))) (hQ c0 c1 c2 c3 c4 c5 c6 c7 c8 c9 c10 c11 c12 c13 c14 c15 (hM g th n t dl se ke oz f1 f2 e1 e2 ms al ch y1 y2 fa we sz mz sh to tk bl mi ++ rest))) args s 0 0 (xm_fr g true)) 8 [some (.ref 16), some (.int x), some (.int (nI i)), some (.long (lN (aw_ x i k))), none, some (.long (lN (bw_ x i k))), none, some (.int (nI (k + 1)))] [] (hQ c0 c1 c2 c3 c4 c5 c6 c7 c8 c9 c10 c11 c12 c13 c14 c15 (hM g th n t dl se ke oz f1 f2 e1 e2 ms al ch y1 y2 fa we sz mz sh to tk bl mi ++ rest)) := by
    intro d
    induction d with
    | zero =>
      intro k hk9
      obtain rfl : k = n := by omega
      refine xa_iload C dM_weightIn_8 rfl ?_
      refine xa_aload_n C dM_weightIn_10 rfl ?_
      refine xa_get C f_M_56 dM_weightIn_11 rfl rfl ?_
      refine xa_icmp_gt C dM_weightIn_14 (tgt := 70) rfl (fun h14 => ?_) (fun h14 => ?_)
      · refine xa_lload_n C dM_weightIn_70 rfl ?_
        refine xa_lload C dM_weightIn_71 rfl ?_
        refine xa_ldcN C 1073741787 (xw_in wk_M_93 rfl) dM_weightIn_73 ?_
        refine xa_ldcN C 1073741789 (xw_in wk_M_68 rfl) dM_weightIn_76 ?_
        refine xa_callS1 C (p_M_power g l (bw_lt _ _ _) (by decide) (by decide) (by decide) _) b_M_95 (xw_in wt_M_power rfl) dM_weightIn_79 rfl (Nat.le_of_ble_eq_true rfl) ⟨Nat.le_of_ble_eq_true rfl, Nat.le_of_ble_eq_true rfl⟩ ⟨Nat.zero_le _, Nat.zero_le _⟩ ?_
        refine xa_mulN C dM_weightIn_82 ?_
        refine xa_ldcN C 1073741789 (xw_in wk_M_68 rfl) dM_weightIn_83 ?_
        refine xa_remN C dM_weightIn_86 (by first | exact tm_62 (aw_lt _ _ _) (by omega) | exact tm_62 (bw_lt _ _ _) (tb_q _) | exact tm_62 (aw_lt _ _ _) (tb_q _) | omega) (by decide) (by decide) ?_
        exact xa_lret C hr hk dM_weightIn_87
      · exact absurd (nI_lt (by omega) (by omega)) h14
    | succ d ih =>
      intro k hk9
      refine xa_iload C dM_weightIn_8 rfl ?_
      refine xa_aload_n C dM_weightIn_10 rfl ?_
      refine xa_get C f_M_56 dM_weightIn_11 rfl rfl ?_
      refine xa_icmp_gt C dM_weightIn_14 (tgt := 70) rfl (fun h14 => ?_) (fun h14 => ?_)
      · exact absurd h14 (nI_nlt (by omega) (by omega))
      · refine xa_iload_n C dM_weightIn_17 rfl ?_
        refine xa_iload C dM_weightIn_18 rfl ?_
        refine xa_callS1 C (p_M_inN g l _ (by omega) (by omega) _) b_M_89 (xw_in wt_M_in rfl) dM_weightIn_20 rfl (Nat.le_of_ble_eq_true rfl) ⟨Nat.le_of_ble_eq_true rfl, Nat.le_of_ble_eq_true rfl⟩ ⟨Nat.zero_le _, Nat.zero_le _⟩ ?_
        refine xa_if_eq C dM_weightIn_23 (tgt := 64) rfl (fun h23 => ?_) (fun h23 => ?_)
        · have hb := xb_hs0 h23
          refine xa_incN C dM_weightIn_64 rfl (Nat.le_of_ble_eq_true rfl) ?_
          refine xa_goto C dM_weightIn_67 (tgt := 8) rfl ?_
          have h := ih (k + 1) (by omega)
          rw [aw_, bw_, if_neg (fun q => by rw [hb] at q; exact absurd q.2 (by decide)), if_neg (fun q => by rw [hb] at q; exact absurd q.2 (by decide))] at h
          exact h
        · have hb := xb_hs1 h23
          refine xa_iload C dM_weightIn_26 rfl ?_
          refine xa_iload_n C dM_weightIn_28 rfl ?_
          refine xa_icmp_eq C dM_weightIn_29 (tgt := 64) rfl (fun h29 => ?_) (fun h29 => ?_)
          · have e : k + 1 = i := (nI_eq (by omega) (by omega)).mp h29
            refine xa_incN C dM_weightIn_64 rfl (Nat.le_of_ble_eq_true rfl) ?_
            refine xa_goto C dM_weightIn_67 (tgt := 8) rfl ?_
            have h := ih (k + 1) (by omega)
            rw [aw_, bw_, if_neg (fun q => q.1 e), if_neg (fun q => q.1 e)] at h
            exact h
          · have e : k + 1 ≠ i := fun q => h29 (by rw [q])
            refine xa_lload_n C dM_weightIn_32 rfl ?_
            refine xa_iload C dM_weightIn_33 rfl ?_
            refine xa_i2lN C dM_weightIn_35 (by omega) ?_
            refine xa_mulN C dM_weightIn_36 ?_
            refine xa_ldcN C 1073741789 (xw_in wk_M_68 rfl) dM_weightIn_37 ?_
            refine xa_remN C dM_weightIn_40 (by first | exact tm_62 (aw_lt _ _ _) (by omega) | exact tm_62 (bw_lt _ _ _) (tb_q _) | exact tm_62 (aw_lt _ _ _) (tb_q _) | omega) (by decide) (by decide) ?_
            refine xa_lstore_n C dM_weightIn_41 (Nat.le_of_ble_eq_true rfl) ?_
            refine xa_lload C dM_weightIn_42 rfl ?_
            refine xa_iload C dM_weightIn_44 rfl ?_
            refine xa_iload_n C dM_weightIn_46 rfl ?_
            refine xa_isub C dM_weightIn_47 ?_
            refine xa_i2l C dM_weightIn_48 ?_
            refine xa_ldcN C 1073741789 (xw_in wk_M_68 rfl) dM_weightIn_49 ?_
            refine xa_ladd C dM_weightIn_52 ?_
            rw [tz_sub (k + 1) (by omega) i (by omega)]
            refine xa_ldcN C 1073741789 (xw_in wk_M_68 rfl) dM_weightIn_53 ?_
            refine xa_remN C dM_weightIn_56 (by first | exact tm_62 (aw_lt _ _ _) (by omega) | exact tm_62 (bw_lt _ _ _) (tb_q _) | exact tm_62 (aw_lt _ _ _) (tb_q _) | omega) (by decide) (by decide) ?_
            refine xa_mulN C dM_weightIn_57 ?_
            refine xa_ldcN C 1073741789 (xw_in wk_M_68 rfl) dM_weightIn_58 ?_
            refine xa_remN C dM_weightIn_61 (by first | exact tm_62 (aw_lt _ _ _) (by omega) | exact tm_62 (bw_lt _ _ _) (tb_q _) | exact tm_62 (aw_lt _ _ _) (tb_q _) | omega) (by decide) (by decide) ?_
            refine xa_lstore C dM_weightIn_62 (Nat.le_of_ble_eq_true rfl) ?_
            refine xa_incN C dM_weightIn_64 rfl (Nat.le_of_ble_eq_true rfl) ?_
            refine xa_goto C dM_weightIn_67 (tgt := 8) rfl ?_
            have h := ih (k + 1) (by omega)
            rw [aw_, bw_, if_pos ⟨e, hb⟩, if_pos ⟨e, hb⟩] at h
            exact h
  refine xa_lcN C 1 dM_weightIn_0 ?_
  refine xa_lstore_n C dM_weightIn_1 (Nat.le_of_ble_eq_true rfl) ?_
  refine xa_lcN C 1 dM_weightIn_2 ?_
  refine xa_lstore C dM_weightIn_3 (Nat.le_of_ble_eq_true rfl) ?_
  refine xa_icN C 1 dM_weightIn_5 ?_
  refine xa_istore C dM_weightIn_6 (Nat.le_of_ble_eq_true rfl) ?_
  exact loop n 0 (by omega)
set_option maxHeartbeats 4000000 in
set_option maxRecDepth 100000 in
theorem p_M_isMember_no (g : xw_G) (l : Launch) {c0 c1 c2 c3 c4 c5 c6 c7 c8 c9 c10 c11 c12 c13 c14 c15 : va_E} {n t : Nat} {se ke f1 f2 e1 e2 y1 y2 fa we sh to : Nat → Nat} {oz sz mz : Nat → Int32} {th dl ms tk bl : Int32} {al ch : Nat} {mi : Int64} {rest : List va_E} (x : Int32) (hx : ¬ sg n x) : xm_R g l true m_M_isMember [.ref 16, .int x] (hQ c0 c1 c2 c3 c4 c5 c6 c7 c8 c9 c10 c11 c12 c13 c14 c15 (hM g th n t dl se ke oz f1 f2 e1 e2 ms al ch y1 y2 fa we sz mz sh to tk bl mi ++ rest)) (some (.int 0)) (hQ c0 c1 c2 c3 c4 c5 c6 c7 c8 c9 c10 c11 c12 c13 c14 c15 (hM g th n t dl se ke oz f1 f2 e1 e2 ms al ch y1 y2 fa we sz mz sh to tk bl mi ++ rest)) := by
  refine xm_of [some (.ref 16), some (.int x)] rfl (Nat.le_of_ble_eq_true rfl) rfl ?_
  intro p e s m args below meth c C hr hk
  refine xa_aload_n C dM_isMember_0 rfl ?_
  refine xa_iload_n C dM_isMember_1 rfl ?_
  refine xa_callV1 C (p_M_isSigner g l _) b_M_116 (xw_in wi_M_isSigner rfl) e_M_isSigner dM_isMember_2 rfl rfl rfl rfl (Nat.le_of_ble_eq_true rfl) ⟨Nat.le_of_ble_eq_true rfl, Nat.le_of_ble_eq_true rfl⟩ ⟨Nat.zero_le _, Nat.zero_le _⟩ ?_
  refine xa_if_eq C dM_isMember_5 (tgt := 23) rfl (fun h5 => ?_) (fun h5 => ?_)
  · refine xa_icN C 0 dM_isMember_23 ?_
    exact xa_zret C hr hk rfl dM_isMember_24
  · exact absurd (xb_f hx) h5
set_option maxHeartbeats 4000000 in
set_option maxRecDepth 100000 in
theorem p_M_isMember (g : xw_G) (l : Launch) {c0 c1 c2 c3 c4 c5 c6 c7 c8 c9 c10 c11 c12 c13 c14 c15 : va_E} {n t : Nat} {se ke f1 f2 e1 e2 y1 y2 fa we sh to : Nat → Nat} {oz sz mz : Nat → Int32} {th dl ms tk bl : Int32} {al ch : Nat} {mi : Int64} {rest : List va_E} (hn : n ≤ 6) {i : Nat} (h1 : 1 ≤ i) (hi : i ≤ n) : xm_R g l true m_M_isMember [.ref 16, .int (nI i)] (hQ c0 c1 c2 c3 c4 c5 c6 c7 c8 c9 c10 c11 c12 c13 c14 c15 (hM g th n t dl se ke oz f1 f2 e1 e2 ms al ch y1 y2 fa we sz mz sh to tk bl mi ++ rest)) (some (.int (xb (hs ms i = true)))) (hQ c0 c1 c2 c3 c4 c5 c6 c7 c8 c9 c10 c11 c12 c13 c14 c15 (hM g th n t dl se ke oz f1 f2 e1 e2 ms al ch y1 y2 fa we sz mz sh to tk bl mi ++ rest)) := by
  refine xm_of [some (.ref 16), some (.int (nI i))] rfl (Nat.le_of_ble_eq_true rfl) rfl ?_
  intro p e s m args below meth c C hr hk
  refine xa_aload_n C dM_isMember_0 rfl ?_
  refine xa_iload_n C dM_isMember_1 rfl ?_
  refine xa_callV1 C (p_M_isSigner g l _) b_M_116 (xw_in wi_M_isSigner rfl) e_M_isSigner dM_isMember_2 rfl rfl rfl rfl (Nat.le_of_ble_eq_true rfl) ⟨Nat.le_of_ble_eq_true rfl, Nat.le_of_ble_eq_true rfl⟩ ⟨Nat.zero_le _, Nat.zero_le _⟩ ?_
  refine xa_if_eq C dM_isMember_5 (tgt := 23) rfl (fun h5 => ?_) (fun h5 => ?_)
  · exact absurd (sg_nI hn h1 hi) (xb_eq0.mp h5)
  · refine xa_aload_n C dM_isMember_8 rfl ?_
    refine xa_get C f_M_107 dM_isMember_9 rfl rfl ?_
    refine xa_iload_n C dM_isMember_12 rfl ?_
    refine xa_callS1 C (p_M_inN g l _ (by omega) (by omega) _) b_M_89 (xw_in wt_M_in rfl) dM_isMember_13 rfl (Nat.le_of_ble_eq_true rfl) ⟨Nat.le_of_ble_eq_true rfl, Nat.le_of_ble_eq_true rfl⟩ ⟨Nat.zero_le _, Nat.zero_le _⟩ ?_
    refine xa_if_eq C dM_isMember_16 (tgt := 23) rfl (fun h16 => ?_) (fun h16 => ?_)
    · refine xa_icN C 0 dM_isMember_23 ?_
      exact xa_eq rfl (congrArg (fun z => [Value.int z]) (xb_f (P := hs ms i = true) (by rw [xb_hs0 h16]; decide)).symm) rfl (xa_zret C hr hk (xb_nar _) dM_isMember_24)
    · refine xa_icN C 1 dM_isMember_19 ?_
      refine xa_goto C dM_isMember_20 (tgt := 24) rfl ?_
      exact xa_eq rfl (congrArg (fun z => [Value.int z]) (xb_t (P := hs ms i = true) (xb_hs1 h16)).symm) rfl (xa_zret C hr hk (xb_nar _) dM_isMember_24)
set_option maxHeartbeats 4000000 in
set_option maxRecDepth 100000 in
theorem p_M_isWhole (g : xw_G) (l : Launch) {c0 c1 c2 c3 c4 c5 c6 c7 c8 c9 c10 c11 c12 c13 c14 c15 : va_E} {n t : Nat} {se ke f1 f2 e1 e2 y1 y2 fa we sh to : Nat → Nat} {oz sz mz : Nat → Int32} {th dl ms tk bl : Int32} {al ch : Nat} {mi : Int64} {rest : List va_E}  : xm_R g l true m_M_isWhole [.ref 16] (hQ c0 c1 c2 c3 c4 c5 c6 c7 c8 c9 c10 c11 c12 c13 c14 c15 (hM g th n t dl se ke oz f1 f2 e1 e2 ms al ch y1 y2 fa we sz mz sh to tk bl mi ++ rest)) (some (.int (xb (¬ ms = 0 ∧ tk = ms)))) (hQ c0 c1 c2 c3 c4 c5 c6 c7 c8 c9 c10 c11 c12 c13 c14 c15 (hM g th n t dl se ke oz f1 f2 e1 e2 ms al ch y1 y2 fa we sz mz sh to tk bl mi ++ rest)) := by
  refine xm_of [some (.ref 16)] rfl (Nat.le_of_ble_eq_true rfl) rfl ?_
  intro p e s m args below meth c C hr hk
  refine xa_aload_n C dM_isWhole_0 rfl ?_
  refine xa_get C f_M_107 dM_isWhole_1 rfl rfl ?_
  refine xa_if_eq C dM_isWhole_4 (tgt := 22) rfl (fun h4 => ?_) (fun h4 => ?_)
  · refine xa_icN C 0 dM_isWhole_22 ?_
    exact xa_eq rfl (congrArg (fun z => [Value.int z]) (xb_f (P := ¬ ms = 0 ∧ tk = ms) (fun q => by first | exact q.1 h4 | exact h15 q.2)).symm) rfl (xa_zret C hr hk (xb_nar _) dM_isWhole_23)
  · refine xa_aload_n C dM_isWhole_7 rfl ?_
    refine xa_get C f_M_110 dM_isWhole_8 rfl rfl ?_
    refine xa_aload_n C dM_isWhole_11 rfl ?_
    refine xa_get C f_M_107 dM_isWhole_12 rfl rfl ?_
    refine xa_icmp_ne C dM_isWhole_15 (tgt := 22) rfl (fun h15 => ?_) (fun h15 => ?_)
    · refine xa_icN C 0 dM_isWhole_22 ?_
      exact xa_eq rfl (congrArg (fun z => [Value.int z]) (xb_f (P := ¬ ms = 0 ∧ tk = ms) (fun q => by first | exact q.1 h4 | exact h15 q.2)).symm) rfl (xa_zret C hr hk (xb_nar _) dM_isWhole_23)
    · refine xa_icN C 1 dM_isWhole_18 ?_
      refine xa_goto C dM_isWhole_19 (tgt := 23) rfl ?_
      exact xa_eq rfl (congrArg (fun z => [Value.int z]) (xb_t (P := ¬ ms = 0 ∧ tk = ms) (⟨h4, h15⟩)).symm) rfl (xa_zret C hr hk (xb_nar _) dM_isWhole_23)
