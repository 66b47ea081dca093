/-! the reference: sign, tell, submit, relay, seal, checks, what is told -/
theorem tm_ss {a b c : Nat} (ha : a < 2 ^ 31) : a + b % 1073741789 + c % 1073741789 < 2 ^ 63 := by
  have h1 := tb_q b
  have h2 := tb_q c
  omega
set_option maxHeartbeats 4000000 in
set_option maxRecDepth 100000 in
theorem p_M_sign_a (g : xw_G) (l : Launch) {c0 c1 c2 c3 c4 c5 c6 c7 c8 c9 c10 c11 c12 c13 c14 c15 : va_E} {n t : Nat} {se ke f1 f2 e1 e2 y1 y2 fa we sh to : Nat → Nat} {oz sz mz : Nat → Int32} {th dl ms tk bl : Int32} {al ch : Nat} {mi : Int64} {rest : List va_E} (x : Int32) (hx : ¬ sg n x) : xm_R g l false m_M_sign [.ref 16, .int x] (hQ c0 c1 c2 c3 c4 c5 c6 c7 c8 c9 c10 c11 c12 c13 c14 c15 (hM g th n t dl se ke oz f1 f2 e1 e2 ms al ch y1 y2 fa we sz mz sh to tk bl mi ++ rest)) (some (.long (lN 0))) (hQ c0 c1 c2 c3 c4 c5 c6 c7 c8 c9 c10 c11 c12 c13 c14 c15 (hM g (nI 1) n t dl se ke oz f1 f2 e1 e2 ms al ch y1 y2 fa we sz mz sh to tk bl mi ++ rest)) := by
  refine xm_of [some (.ref 16), some (.int x), none, none, none, none] rfl (Nat.le_of_ble_eq_true rfl) rfl ?_
  intro p e s m args below meth c C hr hk
  refine xa_aload_n C dM_sign_0 rfl ?_
  refine xa_aload_n C dM_sign_1 rfl ?_
  refine xa_iload_n C dM_sign_2 rfl ?_
  refine xa_callV1 C (p_M_isSigner g l _) b_M_116 (xw_in wi_M_isSigner rfl) e_M_isSigner dM_sign_3 rfl rfl rfl rfl (Nat.le_of_ble_eq_true rfl) ⟨Nat.le_of_ble_eq_true rfl, Nat.le_of_ble_eq_true rfl⟩ ⟨Nat.zero_le _, Nat.zero_le _⟩ ?_
  refine xa_if_ne C dM_sign_6 (tgt := 13) rfl (fun h6 => ?_) (fun h6 => ?_)
  · exact absurd (xb_f hx) h6
  · refine xa_icN C 1 dM_sign_9 ?_
    refine xa_goto C dM_sign_10 (tgt := 35) rfl ?_
    refine xa_put C f_M_63 u_M_0 dM_sign_35 rfl (Nat.le_of_ble_eq_true rfl) rfl rfl (fun _ h => by cases h) ?_
    refine xa_aload_n C dM_sign_38 rfl ?_
    refine xa_get C f_M_63 dM_sign_39 rfl rfl ?_
    refine xa_if_eq C dM_sign_42 (tgt := 47) rfl (fun h42 => ?_) (fun h42 => ?_)
    · exact absurd h42 (by decide)
    · refine xa_lcN C 0 dM_sign_45 ?_
      exact xa_eq rfl rfl rfl (xa_lret C hr hk dM_sign_46)
set_option maxHeartbeats 4000000 in
set_option maxRecDepth 100000 in
theorem p_M_sign_b (g : xw_G) (l : Launch) {c0 c1 c2 c3 c4 c5 c6 c7 c8 c9 c10 c11 c12 c13 c14 c15 : va_E} {n t : Nat} {se ke f1 f2 e1 e2 y1 y2 fa we sh to : Nat → Nat} {oz sz mz : Nat → Int32} {th dl ms tk bl : Int32} {al ch : Nat} {mi : Int64} {rest : List va_E} (hn : n ≤ 6) {i : Nat} (h1 : 1 ≤ i) (hi : i ≤ n) (hm : hs ms i = false) : xm_R g l false m_M_sign [.ref 16, .int (nI i)] (hQ c0 c1 c2 c3 c4 c5 c6 c7 c8 c9 c10 c11 c12 c13 c14 c15 (hM g th n t dl se ke oz f1 f2 e1 e2 ms al ch y1 y2 fa we sz mz sh to tk bl mi ++ rest)) (some (.long (lN 0))) (hQ c0 c1 c2 c3 c4 c5 c6 c7 c8 c9 c10 c11 c12 c13 c14 c15 (hM g (nI 2) n t dl se ke oz f1 f2 e1 e2 ms al ch y1 y2 fa we sz mz sh to tk bl mi ++ rest)) := by
  refine xm_of [some (.ref 16), some (.int (nI i)), none, none, none, none] rfl (Nat.le_of_ble_eq_true rfl) rfl ?_
  intro p e s m args below meth c C hr hk
  refine xa_aload_n C dM_sign_0 rfl ?_
  refine xa_aload_n C dM_sign_1 rfl ?_
  refine xa_iload_n C dM_sign_2 rfl ?_
  refine xa_callV1 C (p_M_isSigner g l _) b_M_116 (xw_in wi_M_isSigner rfl) e_M_isSigner dM_sign_3 rfl rfl rfl rfl (Nat.le_of_ble_eq_true rfl) ⟨Nat.le_of_ble_eq_true rfl, Nat.le_of_ble_eq_true rfl⟩ ⟨Nat.zero_le _, Nat.zero_le _⟩ ?_
  refine xa_if_ne C dM_sign_6 (tgt := 13) rfl (fun h6 => ?_) (fun h6 => ?_)
  · refine xa_aload_n C dM_sign_13 rfl ?_
    refine xa_iload_n C dM_sign_14 rfl ?_
    refine xa_callV1 C (p_M_isMember g l hn h1 hi) b_M_150 (xw_in wi_M_isMember rfl) e_M_isMember dM_sign_15 rfl rfl rfl rfl (Nat.le_of_ble_eq_true rfl) ⟨Nat.le_of_ble_eq_true rfl, Nat.le_of_ble_eq_true rfl⟩ ⟨Nat.zero_le _, Nat.zero_le _⟩ ?_
    refine xa_if_eq C dM_sign_18 (tgt := 30) rfl (fun h18 => ?_) (fun h18 => ?_)
    · refine xa_icN C 2 dM_sign_30 ?_
      refine xa_goto C dM_sign_31 (tgt := 35) rfl ?_
      refine xa_put C f_M_63 u_M_0 dM_sign_35 rfl (Nat.le_of_ble_eq_true rfl) rfl rfl (fun _ h => by cases h) ?_
      refine xa_aload_n C dM_sign_38 rfl ?_
      refine xa_get C f_M_63 dM_sign_39 rfl rfl ?_
      refine xa_if_eq C dM_sign_42 (tgt := 47) rfl (fun h42 => ?_) (fun h42 => ?_)
      · exact absurd h42 (by decide)
      · refine xa_lcN C 0 dM_sign_45 ?_
        exact xa_eq rfl rfl rfl (xa_lret C hr hk dM_sign_46)
    · exact absurd (xb_f (by rw [hm]; decide)) h18
  · exact absurd (sg_nI hn h1 hi) (xb_eq0.mp h6)
set_option maxHeartbeats 4000000 in
set_option maxRecDepth 100000 in
theorem p_M_sign_c (g : xw_G) (l : Launch) {c0 c1 c2 c3 c4 c5 c6 c7 c8 c9 c10 c11 c12 c13 c14 c15 : va_E} {n t : Nat} {se ke f1 f2 e1 e2 y1 y2 fa we sh to : Nat → Nat} {oz sz mz : Nat → Int32} {th dl ms tk bl : Int32} {al ch : Nat} {mi : Int64} {rest : List va_E} (hn : n ≤ 6) {i : Nat} (h1 : 1 ≤ i) (hi : i ≤ n) (hm : hs ms i = true) (hz : sz i = 0) : xm_R g l false m_M_sign [.ref 16, .int (nI i)] (hQ c0 c1 c2 c3 c4 c5 c6 c7 c8 c9 c10 c11 c12 c13 c14 c15 (hM g th n t dl se ke oz f1 f2 e1 e2 ms al ch y1 y2 fa we sz mz sh to tk bl mi ++ rest)) (some (.long (lN 0))) (hQ c0 c1 c2 c3 c4 c5 c6 c7 c8 c9 c10 c11 c12 c13 c14 c15 (hM g (nI 2) n t dl se ke oz f1 f2 e1 e2 ms al ch y1 y2 fa we sz mz sh to tk bl mi ++ rest)) := by
  refine xm_of [some (.ref 16), some (.int (nI i)), none, none, none, none] rfl (Nat.le_of_ble_eq_true rfl) rfl ?_
  intro p e s m args below meth c C hr hk
  refine xa_aload_n C dM_sign_0 rfl ?_
  refine xa_aload_n C dM_sign_1 rfl ?_
  refine xa_iload_n C dM_sign_2 rfl ?_
  refine xa_callV1 C (p_M_isSigner g l _) b_M_116 (xw_in wi_M_isSigner rfl) e_M_isSigner dM_sign_3 rfl rfl rfl rfl (Nat.le_of_ble_eq_true rfl) ⟨Nat.le_of_ble_eq_true rfl, Nat.le_of_ble_eq_true rfl⟩ ⟨Nat.zero_le _, Nat.zero_le _⟩ ?_
  refine xa_if_ne C dM_sign_6 (tgt := 13) rfl (fun h6 => ?_) (fun h6 => ?_)
  · refine xa_aload_n C dM_sign_13 rfl ?_
    refine xa_iload_n C dM_sign_14 rfl ?_
    refine xa_callV1 C (p_M_isMember g l hn h1 hi) b_M_150 (xw_in wi_M_isMember rfl) e_M_isMember dM_sign_15 rfl rfl rfl rfl (Nat.le_of_ble_eq_true rfl) ⟨Nat.le_of_ble_eq_true rfl, Nat.le_of_ble_eq_true rfl⟩ ⟨Nat.zero_le _, Nat.zero_le _⟩ ?_
    refine xa_if_eq C dM_sign_18 (tgt := 30) rfl (fun h18 => ?_) (fun h18 => ?_)
    · exact absurd hm (xb_eq0.mp h18)
    · refine xa_aload_n C dM_sign_21 rfl ?_
      refine xa_get C f_M_44 dM_sign_22 rfl rfl ?_
      refine xa_iload_n C dM_sign_25 rfl ?_
      refine xa_baloadN C dM_sign_26 rfl ?_ (by omega) ?_
      · omega
      refine xa_if_ne C dM_sign_27 (tgt := 34) rfl (fun h27 => ?_) (fun h27 => ?_)
      · exact absurd hz h27
      · refine xa_icN C 2 dM_sign_30 ?_
        refine xa_goto C dM_sign_31 (tgt := 35) rfl ?_
        refine xa_put C f_M_63 u_M_0 dM_sign_35 rfl (Nat.le_of_ble_eq_true rfl) rfl rfl (fun _ h => by cases h) ?_
        refine xa_aload_n C dM_sign_38 rfl ?_
        refine xa_get C f_M_63 dM_sign_39 rfl rfl ?_
        refine xa_if_eq C dM_sign_42 (tgt := 47) rfl (fun h42 => ?_) (fun h42 => ?_)
        · exact absurd h42 (by decide)
        · refine xa_lcN C 0 dM_sign_45 ?_
          exact xa_eq rfl rfl rfl (xa_lret C hr hk dM_sign_46)
  · exact absurd (sg_nI hn h1 hi) (xb_eq0.mp h6)
set_option maxHeartbeats 4000000 in
set_option maxRecDepth 100000 in
theorem p_M_sign_d (g : xw_G) (l : Launch) {c0 c1 c2 c3 c4 c5 c6 c7 c8 c9 c10 c11 c12 c13 c14 c15 : va_E} {n t : Nat} {se ke f1 f2 e1 e2 y1 y2 fa we sh to : Nat → Nat} {oz sz mz : Nat → Int32} {th dl ms tk bl : Int32} {al ch : Nat} {mi : Int64} {rest : List va_E} (hn : n ≤ 6) {i : Nat} (h1 : 1 ≤ i) (hi : i ≤ n) (hse : ∀ j, se j < 2 ^ 31) (hke : ∀ j, ke j < 2 ^ 31) (hf1 : ∀ j, f1 j < 2 ^ 31) (hf2 : ∀ j, f2 j < 2 ^ 31) (he1 : ∀ j, e1 j < 2 ^ 31) (he2 : ∀ j, e2 j < 2 ^ 31) (hy1 : ∀ j, y1 j < 2 ^ 31) (hy2 : ∀ j, y2 j < 2 ^ 31) (hfa : ∀ j, fa j < 2 ^ 30) (hwe : ∀ j, we j < 2 ^ 31) (hsh : ∀ j, sh j < 2 ^ 31) (hto : ∀ j, to j < 2 ^ 31) (hal : al < 2 ^ 31) (hch : ch < 2 ^ 31) (hm : hs ms i = true) (hz : ¬ sz i = 0) : xm_R g l false m_M_sign [.ref 16, .int (nI i)] (hQ c0 c1 c2 c3 c4 c5 c6 c7 c8 c9 c10 c11 c12 c13 c14 c15 (hM g th n t dl se ke oz f1 f2 e1 e2 ms al ch y1 y2 fa we sz mz sh to tk bl mi ++ rest)) (some (.long (lN (((f1 i + f2 i * fa i % 1073741789) % 1073741789 + ch * we i % 1073741789 * se i % 1073741789) % 1073741789)))) (hQ c0 c1 c2 c3 c4 c5 c6 c7 c8 c9 c10 c11 c12 c13 c14 c15 (hM g (nI 0) n t dl se ke (upd oz i (nI 0)) f1 f2 e1 e2 ms al ch y1 y2 fa we (upd sz i (nI 0)) (upd mz i (nI 1)) (va_up sh i (((f1 i + f2 i * fa i % 1073741789) % 1073741789 + ch * we i % 1073741789 * se i % 1073741789) % 1073741789)) to tk bl mi ++ rest)) := by
  refine xm_of [some (.ref 16), some (.int (nI i)), none, none, none, none] rfl (Nat.le_of_ble_eq_true rfl) rfl ?_
  intro p e s m args below meth c C hr hk
  refine xa_aload_n C dM_sign_0 rfl ?_
  refine xa_aload_n C dM_sign_1 rfl ?_
  refine xa_iload_n C dM_sign_2 rfl ?_
  refine xa_callV1 C (p_M_isSigner g l _) b_M_116 (xw_in wi_M_isSigner rfl) e_M_isSigner dM_sign_3 rfl rfl rfl rfl (Nat.le_of_ble_eq_true rfl) ⟨Nat.le_of_ble_eq_true rfl, Nat.le_of_ble_eq_true rfl⟩ ⟨Nat.zero_le _, Nat.zero_le _⟩ ?_
  refine xa_if_ne C dM_sign_6 (tgt := 13) rfl (fun h6 => ?_) (fun h6 => ?_)
  · refine xa_aload_n C dM_sign_13 rfl ?_
    refine xa_iload_n C dM_sign_14 rfl ?_
    refine xa_callV1 C (p_M_isMember g l hn h1 hi) b_M_150 (xw_in wi_M_isMember rfl) e_M_isMember dM_sign_15 rfl rfl rfl rfl (Nat.le_of_ble_eq_true rfl) ⟨Nat.le_of_ble_eq_true rfl, Nat.le_of_ble_eq_true rfl⟩ ⟨Nat.zero_le _, Nat.zero_le _⟩ ?_
    refine xa_if_eq C dM_sign_18 (tgt := 30) rfl (fun h18 => ?_) (fun h18 => ?_)
    · exact absurd hm (xb_eq0.mp h18)
    · refine xa_aload_n C dM_sign_21 rfl ?_
      refine xa_get C f_M_44 dM_sign_22 rfl rfl ?_
      refine xa_iload_n C dM_sign_25 rfl ?_
      refine xa_baloadN C dM_sign_26 rfl ?_ (by omega) ?_
      · omega
      refine xa_if_ne C dM_sign_27 (tgt := 34) rfl (fun h27 => ?_) (fun h27 => ?_)
      · refine xa_icN C 0 dM_sign_34 ?_
        refine xa_put C f_M_63 u_M_0 dM_sign_35 rfl (Nat.le_of_ble_eq_true rfl) rfl rfl (fun _ h => by cases h) ?_
        refine xa_aload_n C dM_sign_38 rfl ?_
        refine xa_get C f_M_63 dM_sign_39 rfl rfl ?_
        refine xa_if_eq C dM_sign_42 (tgt := 47) rfl (fun h42 => ?_) (fun h42 => ?_)
        · refine xa_aload_n C dM_sign_47 rfl ?_
          refine xa_get C f_M_23 dM_sign_48 rfl rfl ?_
          refine xa_iload_n C dM_sign_51 rfl ?_
          refine xa_laloadN C dM_sign_52 rfl ?_ (by omega) ?_
          · omega
          refine xa_aload_n C dM_sign_53 rfl ?_
          refine xa_get C f_M_38 dM_sign_54 rfl rfl ?_
          refine xa_iload_n C dM_sign_57 rfl ?_
          refine xa_laloadN C dM_sign_58 rfl ?_ (by omega) ?_
          · omega
          refine xa_mulN C dM_sign_59 ?_
          refine xa_ldcN C 1073741789 (xw_in wk_M_68 rfl) dM_sign_60 ?_
          refine xa_remN C dM_sign_63 (by first | exact tm_62 (hf2 _) (Nat.lt_trans (hfa _) (by decide)) | exact tm_62 hch (hwe _) | exact tm_62 (tb_q _) (hse _) | exact tm_ss (hf1 _) | omega) (by decide) (by decide) ?_
          refine xa_lstore_n C dM_sign_64 (Nat.le_of_ble_eq_true rfl) ?_
          refine xa_aload_n C dM_sign_65 rfl ?_
          refine xa_get C f_M_147 dM_sign_66 rfl rfl ?_
          refine xa_aload_n C dM_sign_69 rfl ?_
          refine xa_get C f_M_41 dM_sign_70 rfl rfl ?_
          refine xa_iload_n C dM_sign_73 rfl ?_
          refine xa_laloadN C dM_sign_74 rfl ?_ (by omega) ?_
          · omega
          refine xa_mulN C dM_sign_75 ?_
          refine xa_ldcN C 1073741789 (xw_in wk_M_68 rfl) dM_sign_76 ?_
          refine xa_remN C dM_sign_79 (by first | exact tm_62 (hf2 _) (Nat.lt_trans (hfa _) (by decide)) | exact tm_62 hch (hwe _) | exact tm_62 (tb_q _) (hse _) | exact tm_ss (hf1 _) | omega) (by decide) (by decide) ?_
          refine xa_aload_n C dM_sign_80 rfl ?_
          refine xa_get C f_M_7 dM_sign_81 rfl rfl ?_
          refine xa_iload_n C dM_sign_84 rfl ?_
          refine xa_laloadN C dM_sign_85 rfl ?_ (by omega) ?_
          · omega
          refine xa_mulN C dM_sign_86 ?_
          refine xa_ldcN C 1073741789 (xw_in wk_M_68 rfl) dM_sign_87 ?_
          refine xa_remN C dM_sign_90 (by first | exact tm_62 (hf2 _) (Nat.lt_trans (hfa _) (by decide)) | exact tm_62 hch (hwe _) | exact tm_62 (tb_q _) (hse _) | exact tm_ss (hf1 _) | omega) (by decide) (by decide) ?_
          refine xa_lstore C dM_sign_91 (Nat.le_of_ble_eq_true rfl) ?_
          refine xa_aload_n C dM_sign_93 rfl ?_
          refine xa_get C f_M_50 dM_sign_94 rfl rfl ?_
          refine xa_iload_n C dM_sign_97 rfl ?_
          refine xa_aload_n C dM_sign_98 rfl ?_
          refine xa_get C f_M_20 dM_sign_99 rfl rfl ?_
          refine xa_iload_n C dM_sign_102 rfl ?_
          refine xa_laloadN C dM_sign_103 rfl ?_ (by omega) ?_
          · omega
          refine xa_lload_n C dM_sign_104 rfl ?_
          refine xa_addN C dM_sign_105 ?_
          refine xa_lload C dM_sign_106 rfl ?_
          refine xa_addN C dM_sign_108 ?_
          refine xa_ldcN C 1073741789 (xw_in wk_M_68 rfl) dM_sign_109 ?_
          refine xa_remN C dM_sign_112 (by first | exact tm_62 (hf2 _) (Nat.lt_trans (hfa _) (by decide)) | exact tm_62 hch (hwe _) | exact tm_62 (tb_q _) (hse _) | exact tm_ss (hf1 _) | omega) (by decide) (by decide) ?_
          rw [← tm_share]
          refine xa_lastoreN C dM_sign_113 rfl ?_ (by omega) ?_
          · omega
          refine xa_eq rfl rfl (hp' := (hQ c0 c1 c2 c3 c4 c5 c6 c7 c8 c9 c10 c11 c12 c13 c14 c15 (hM g (nI 0) n t dl se ke oz f1 f2 e1 e2 ms al ch y1 y2 fa we sz mz (va_up sh i (((f1 i + f2 i * fa i % 1073741789) % 1073741789 + ch * we i % 1073741789 * se i % 1073741789) % 1073741789)) to tk bl mi ++ rest))) rfl ?_
          refine xa_aload_n C dM_sign_114 rfl ?_
          refine xa_get C f_M_47 dM_sign_115 rfl rfl ?_
          refine xa_iload_n C dM_sign_118 rfl ?_
          refine xa_icN C 1 dM_sign_119 ?_
          refine xa_bastoreN C dM_sign_120 rfl ?_ (by omega) (by decide) ?_
          · omega
          refine xa_aload_n C dM_sign_121 rfl ?_
          refine xa_get C f_M_44 dM_sign_122 rfl rfl ?_
          refine xa_iload_n C dM_sign_125 rfl ?_
          refine xa_icN C 0 dM_sign_126 ?_
          refine xa_bastoreN C dM_sign_127 rfl ?_ (by omega) (by decide) ?_
          · omega
          refine xa_aload_n C dM_sign_128 rfl ?_
          refine xa_get C f_M_16 dM_sign_129 rfl rfl ?_
          refine xa_iload_n C dM_sign_132 rfl ?_
          refine xa_icN C 0 dM_sign_133 ?_
          refine xa_bastoreN C dM_sign_134 rfl ?_ (by omega) (by decide) ?_
          · omega
          refine xa_aload_n C dM_sign_135 rfl ?_
          refine xa_get C f_M_50 dM_sign_136 rfl rfl ?_
          refine xa_iload_n C dM_sign_139 rfl ?_
          refine xa_laloadN C dM_sign_140 rfl ?_ (by omega) ?_
          · omega
          rw [va_up_s]
          exact xa_eq rfl rfl rfl (xa_lret C hr hk dM_sign_141)
        · exact absurd rfl h42
      · exact absurd h27 hz
  · exact absurd (sg_nI hn h1 hi) (xb_eq0.mp h6)
set_option maxHeartbeats 4000000 in
set_option maxRecDepth 100000 in
theorem p_M_tell_t (g : xw_G) (l : Launch) {c0 c1 c2 c3 c4 c5 c6 c7 c8 c9 c10 c11 c12 c13 c14 c15 : va_E} {n t : Nat} {se ke f1 f2 e1 e2 y1 y2 fa we sh to : Nat → Nat} {oz sz mz : Nat → Int32} {th dl ms tk bl : Int32} {al ch : Nat} {mi : Int64} {rest : List va_E} (hn : n ≤ 6) {i : Nat} (h1 : 1 ≤ i) (hi : i ≤ n) (hse : ∀ j, se j < 2 ^ 31) (hke : ∀ j, ke j < 2 ^ 31) (hf1 : ∀ j, f1 j < 2 ^ 31) (hf2 : ∀ j, f2 j < 2 ^ 31) (he1 : ∀ j, e1 j < 2 ^ 31) (he2 : ∀ j, e2 j < 2 ^ 31) (hy1 : ∀ j, y1 j < 2 ^ 31) (hy2 : ∀ j, y2 j < 2 ^ 31) (hfa : ∀ j, fa j < 2 ^ 30) (hwe : ∀ j, we j < 2 ^ 31) (hsh : ∀ j, sh j < 2 ^ 31) (hto : ∀ j, to j < 2 ^ 31) (hal : al < 2 ^ 31) (hch : ch < 2 ^ 31) {z : Nat} (hz : z < 2 ^ 30) (hR : 4 ^ z % 2147483579 = y1 i * (y2 i ^ fa i % 2147483579) % 2147483579 * (ke i ^ (ch * we i % 1073741789) % 2147483579) % 2147483579) : xm_R g l false m_M_tell [.ref 16, .int (nI i), .long (lN z)] (hQ c0 c1 c2 c3 c4 c5 c6 c7 c8 c9 c10 c11 c12 c13 c14 c15 (hM g th n t dl se ke oz f1 f2 e1 e2 ms al ch y1 y2 fa we sz mz sh to tk bl mi ++ rest)) (some (.int 1)) (hQ c0 c1 c2 c3 c4 c5 c6 c7 c8 c9 c10 c11 c12 c13 c14 c15 (hM g th n t dl se ke oz f1 f2 e1 e2 ms al ch y1 y2 fa we sz mz sh (va_up to i z) (tk ||| on_ i) bl mi ++ rest)) := by
  refine xm_of [some (.ref 16), some (.int (nI i)), some (.long (lN z)), none, none, none, none, none, none] rfl (Nat.le_of_ble_eq_true rfl) rfl ?_
  intro p e s m args below meth c C hr hk
  refine xa_aload_n C dM_tell_0 rfl ?_
  refine xa_get C f_M_32 dM_tell_1 rfl rfl ?_
  refine xa_iload_n C dM_tell_4 rfl ?_
  refine xa_laloadN C dM_tell_5 rfl ?_ (by omega) ?_
  · omega
  refine xa_aload_n C dM_tell_6 rfl ?_
  refine xa_get C f_M_35 dM_tell_7 rfl rfl ?_
  refine xa_iload_n C dM_tell_10 rfl ?_
  refine xa_laloadN C dM_tell_11 rfl ?_ (by omega) ?_
  · omega
  refine xa_aload_n C dM_tell_12 rfl ?_
  refine xa_get C f_M_38 dM_tell_13 rfl rfl ?_
  refine xa_iload_n C dM_tell_16 rfl ?_
  refine xa_laloadN C dM_tell_17 rfl ?_ (by omega) ?_
  · omega
  refine xa_ldcN C 2147483579 (xw_in wk_M_101 rfl) dM_tell_18 ?_
  refine xa_callS1 C (p_M_power g l (by first | exact hy2 _ | exact hke _ | decide) (by first | exact Nat.lt_trans (hfa _) (by decide) | exact Nat.lt_trans (tb_q _) (by decide) | omega) (by decide) (by decide) _) b_M_95 (xw_in wt_M_power rfl) dM_tell_21 rfl (Nat.le_of_ble_eq_true rfl) ⟨Nat.le_of_ble_eq_true rfl, Nat.le_of_ble_eq_true rfl⟩ ⟨Nat.zero_le _, Nat.zero_le _⟩ ?_
  refine xa_mulN C dM_tell_24 ?_
  refine xa_ldcN C 2147483579 (xw_in wk_M_101 rfl) dM_tell_25 ?_
  refine xa_remN C dM_tell_28 (by first | exact tm_62 (hy1 _) (tb_p _) | exact tm_62 hch (hwe _) | exact tm_62 (tb_p _) (tb_p _) | omega) (by decide) (by decide) ?_
  refine xa_lstore C dM_tell_29 (Nat.le_of_ble_eq_true rfl) ?_
  refine xa_aload_n C dM_tell_31 rfl ?_
  refine xa_get C f_M_147 dM_tell_32 rfl rfl ?_
  refine xa_aload_n C dM_tell_35 rfl ?_
  refine xa_get C f_M_41 dM_tell_36 rfl rfl ?_
  refine xa_iload_n C dM_tell_39 rfl ?_
  refine xa_laloadN C dM_tell_40 rfl ?_ (by omega) ?_
  · omega
  refine xa_mulN C dM_tell_41 ?_
  refine xa_ldcN C 1073741789 (xw_in wk_M_68 rfl) dM_tell_42 ?_
  refine xa_remN C dM_tell_45 (by first | exact tm_62 (hy1 _) (tb_p _) | exact tm_62 hch (hwe _) | exact tm_62 (tb_p _) (tb_p _) | omega) (by decide) (by decide) ?_
  refine xa_lstore C dM_tell_46 (Nat.le_of_ble_eq_true rfl) ?_
  refine xa_lload C dM_tell_48 rfl ?_
  refine xa_aload_n C dM_tell_50 rfl ?_
  refine xa_get C f_M_13 dM_tell_51 rfl rfl ?_
  refine xa_iload_n C dM_tell_54 rfl ?_
  refine xa_laloadN C dM_tell_55 rfl ?_ (by omega) ?_
  · omega
  refine xa_lload C dM_tell_56 rfl ?_
  refine xa_ldcN C 2147483579 (xw_in wk_M_101 rfl) dM_tell_58 ?_
  refine xa_callS1 C (p_M_power g l (by first | exact hy2 _ | exact hke _ | decide) (by first | exact Nat.lt_trans (hfa _) (by decide) | exact Nat.lt_trans (tb_q _) (by decide) | omega) (by decide) (by decide) _) b_M_95 (xw_in wt_M_power rfl) dM_tell_61 rfl (Nat.le_of_ble_eq_true rfl) ⟨Nat.le_of_ble_eq_true rfl, Nat.le_of_ble_eq_true rfl⟩ ⟨Nat.zero_le _, Nat.zero_le _⟩ ?_
  refine xa_mulN C dM_tell_64 ?_
  refine xa_ldcN C 2147483579 (xw_in wk_M_101 rfl) dM_tell_65 ?_
  refine xa_remN C dM_tell_68 (by first | exact tm_62 (hy1 _) (tb_p _) | exact tm_62 hch (hwe _) | exact tm_62 (tb_p _) (tb_p _) | omega) (by decide) (by decide) ?_
  refine xa_lstore C dM_tell_69 (Nat.le_of_ble_eq_true rfl) ?_
  refine xa_icN C 1 dM_tell_71 ?_
  refine xa_iload_n C dM_tell_72 rfl ?_
  refine xa_icN C 1 dM_tell_73 ?_
  refine xa_isub C dM_tell_74 ?_
  refine xa_ishl C dM_tell_75 ?_
  refine xa_istore C dM_tell_76 (Nat.le_of_ble_eq_true rfl) ?_
  refine xa_ldcN C 4 (xw_in wk_M_99 rfl) dM_tell_78 ?_
  refine xa_lload_n C dM_tell_81 rfl ?_
  refine xa_ldcN C 2147483579 (xw_in wk_M_101 rfl) dM_tell_82 ?_
  refine xa_callS1 C (p_M_power g l (by first | exact hy2 _ | exact hke _ | decide) (by first | exact Nat.lt_trans (hfa _) (by decide) | exact Nat.lt_trans (tb_q _) (by decide) | omega) (by decide) (by decide) _) b_M_95 (xw_in wt_M_power rfl) dM_tell_85 rfl (Nat.le_of_ble_eq_true rfl) ⟨Nat.le_of_ble_eq_true rfl, Nat.le_of_ble_eq_true rfl⟩ ⟨Nat.zero_le _, Nat.zero_le _⟩ ?_
  refine xa_lload C dM_tell_88 rfl ?_
  refine xa_lcmp C dM_tell_90 ?_
  refine xa_if_eq C dM_tell_91 (tgt := 107) rfl (fun h91 => ?_) (fun h91 => ?_)
  · refine xa_aload_n C dM_tell_107 rfl ?_
    refine xa_aload_n C dM_tell_108 rfl ?_
    refine xa_get C f_M_110 dM_tell_109 rfl rfl ?_
    refine xa_iload C dM_tell_112 rfl ?_
    refine xa_ior C dM_tell_114 ?_
    refine xa_put C f_M_110 u_M_22 dM_tell_115 rfl (Nat.le_of_ble_eq_true rfl) rfl rfl (fun _ h => by cases h) ?_
    refine xa_aload_n C dM_tell_118 rfl ?_
    refine xa_get C f_M_53 dM_tell_119 rfl rfl ?_
    refine xa_iload_n C dM_tell_122 rfl ?_
    refine xa_lload_n C dM_tell_123 rfl ?_
    refine xa_lastoreN C dM_tell_124 rfl ?_ (by omega) ?_
    · omega
    refine xa_icN C 1 dM_tell_125 ?_
    exact xa_eq rfl rfl rfl (xa_zret C hr hk rfl dM_tell_126)
  · exact absurd ((tp_eq (tb_p _) (tb_p _)).mpr hR) h91
set_option maxHeartbeats 4000000 in
set_option maxRecDepth 100000 in
theorem p_M_tell_f (g : xw_G) (l : Launch) {c0 c1 c2 c3 c4 c5 c6 c7 c8 c9 c10 c11 c12 c13 c14 c15 : va_E} {n t : Nat} {se ke f1 f2 e1 e2 y1 y2 fa we sh to : Nat → Nat} {oz sz mz : Nat → Int32} {th dl ms tk bl : Int32} {al ch : Nat} {mi : Int64} {rest : List va_E} (hn : n ≤ 6) {i : Nat} (h1 : 1 ≤ i) (hi : i ≤ n) (hse : ∀ j, se j < 2 ^ 31) (hke : ∀ j, ke j < 2 ^ 31) (hf1 : ∀ j, f1 j < 2 ^ 31) (hf2 : ∀ j, f2 j < 2 ^ 31) (he1 : ∀ j, e1 j < 2 ^ 31) (he2 : ∀ j, e2 j < 2 ^ 31) (hy1 : ∀ j, y1 j < 2 ^ 31) (hy2 : ∀ j, y2 j < 2 ^ 31) (hfa : ∀ j, fa j < 2 ^ 30) (hwe : ∀ j, we j < 2 ^ 31) (hsh : ∀ j, sh j < 2 ^ 31) (hto : ∀ j, to j < 2 ^ 31) (hal : al < 2 ^ 31) (hch : ch < 2 ^ 31) {z : Nat} (hz : z < 2 ^ 30) (hR : ¬ 4 ^ z % 2147483579 = y1 i * (y2 i ^ fa i % 2147483579) % 2147483579 * (ke i ^ (ch * we i % 1073741789) % 2147483579) % 2147483579) : xm_R g l false m_M_tell [.ref 16, .int (nI i), .long (lN z)] (hQ c0 c1 c2 c3 c4 c5 c6 c7 c8 c9 c10 c11 c12 c13 c14 c15 (hM g th n t dl se ke oz f1 f2 e1 e2 ms al ch y1 y2 fa we sz mz sh to tk bl mi ++ rest)) (some (.int 0)) (hQ c0 c1 c2 c3 c4 c5 c6 c7 c8 c9 c10 c11 c12 c13 c14 c15 (hM g th n t dl se ke oz f1 f2 e1 e2 ms al ch y1 y2 fa we sz mz sh to tk (bl ||| on_ i) mi ++ rest)) := by
  refine xm_of [some (.ref 16), some (.int (nI i)), some (.long (lN z)), none, none, none, none, none, none] rfl (Nat.le_of_ble_eq_true rfl) rfl ?_
  intro p e s m args below meth c C hr hk
  refine xa_aload_n C dM_tell_0 rfl ?_
  refine xa_get C f_M_32 dM_tell_1 rfl rfl ?_
  refine xa_iload_n C dM_tell_4 rfl ?_
  refine xa_laloadN C dM_tell_5 rfl ?_ (by omega) ?_
  · omega
  refine xa_aload_n C dM_tell_6 rfl ?_
  refine xa_get C f_M_35 dM_tell_7 rfl rfl ?_
  refine xa_iload_n C dM_tell_10 rfl ?_
  refine xa_laloadN C dM_tell_11 rfl ?_ (by omega) ?_
  · omega
  refine xa_aload_n C dM_tell_12 rfl ?_
  refine xa_get C f_M_38 dM_tell_13 rfl rfl ?_
  refine xa_iload_n C dM_tell_16 rfl ?_
  refine xa_laloadN C dM_tell_17 rfl ?_ (by omega) ?_
  · omega
  refine xa_ldcN C 2147483579 (xw_in wk_M_101 rfl) dM_tell_18 ?_
  refine xa_callS1 C (p_M_power g l (by first | exact hy2 _ | exact hke _ | decide) (by first | exact Nat.lt_trans (hfa _) (by decide) | exact Nat.lt_trans (tb_q _) (by decide) | omega) (by decide) (by decide) _) b_M_95 (xw_in wt_M_power rfl) dM_tell_21 rfl (Nat.le_of_ble_eq_true rfl) ⟨Nat.le_of_ble_eq_true rfl, Nat.le_of_ble_eq_true rfl⟩ ⟨Nat.zero_le _, Nat.zero_le _⟩ ?_
  refine xa_mulN C dM_tell_24 ?_
  refine xa_ldcN C 2147483579 (xw_in wk_M_101 rfl) dM_tell_25 ?_
  refine xa_remN C dM_tell_28 (by first | exact tm_62 (hy1 _) (tb_p _) | exact tm_62 hch (hwe _) | exact tm_62 (tb_p _) (tb_p _) | omega) (by decide) (by decide) ?_
  refine xa_lstore C dM_tell_29 (Nat.le_of_ble_eq_true rfl) ?_
  refine xa_aload_n C dM_tell_31 rfl ?_
  refine xa_get C f_M_147 dM_tell_32 rfl rfl ?_
  refine xa_aload_n C dM_tell_35 rfl ?_
  refine xa_get C f_M_41 dM_tell_36 rfl rfl ?_
  refine xa_iload_n C dM_tell_39 rfl ?_
  refine xa_laloadN C dM_tell_40 rfl ?_ (by omega) ?_
  · omega
  refine xa_mulN C dM_tell_41 ?_
  refine xa_ldcN C 1073741789 (xw_in wk_M_68 rfl) dM_tell_42 ?_
  refine xa_remN C dM_tell_45 (by first | exact tm_62 (hy1 _) (tb_p _) | exact tm_62 hch (hwe _) | exact tm_62 (tb_p _) (tb_p _) | omega) (by decide) (by decide) ?_
  refine xa_lstore C dM_tell_46 (Nat.le_of_ble_eq_true rfl) ?_
  refine xa_lload C dM_tell_48 rfl ?_
  refine xa_aload_n C dM_tell_50 rfl ?_
  refine xa_get C f_M_13 dM_tell_51 rfl rfl ?_
  refine xa_iload_n C dM_tell_54 rfl ?_
  refine xa_laloadN C dM_tell_55 rfl ?_ (by omega) ?_
  · omega
  refine xa_lload C dM_tell_56 rfl ?_
  refine xa_ldcN C 2147483579 (xw_in wk_M_101 rfl) dM_tell_58 ?_
  refine xa_callS1 C (p_M_power g l (by first | exact hy2 _ | exact hke _ | decide) (by first | exact Nat.lt_trans (hfa _) (by decide) | exact Nat.lt_trans (tb_q _) (by decide) | omega) (by decide) (by decide) _) b_M_95 (xw_in wt_M_power rfl) dM_tell_61 rfl (Nat.le_of_ble_eq_true rfl) ⟨Nat.le_of_ble_eq_true rfl, Nat.le_of_ble_eq_true rfl⟩ ⟨Nat.zero_le _, Nat.zero_le _⟩ ?_
  refine xa_mulN C dM_tell_64 ?_
  refine xa_ldcN C 2147483579 (xw_in wk_M_101 rfl) dM_tell_65 ?_
  refine xa_remN C dM_tell_68 (by first | exact tm_62 (hy1 _) (tb_p _) | exact tm_62 hch (hwe _) | exact tm_62 (tb_p _) (tb_p _) | omega) (by decide) (by decide) ?_
  refine xa_lstore C dM_tell_69 (Nat.le_of_ble_eq_true rfl) ?_
  refine xa_icN C 1 dM_tell_71 ?_
  refine xa_iload_n C dM_tell_72 rfl ?_
  refine xa_icN C 1 dM_tell_73 ?_
  refine xa_isub C dM_tell_74 ?_
  refine xa_ishl C dM_tell_75 ?_
  refine xa_istore C dM_tell_76 (Nat.le_of_ble_eq_true rfl) ?_
  refine xa_ldcN C 4 (xw_in wk_M_99 rfl) dM_tell_78 ?_
  refine xa_lload_n C dM_tell_81 rfl ?_
  refine xa_ldcN C 2147483579 (xw_in wk_M_101 rfl) dM_tell_82 ?_
  refine xa_callS1 C (p_M_power g l (by first | exact hy2 _ | exact hke _ | decide) (by first | exact Nat.lt_trans (hfa _) (by decide) | exact Nat.lt_trans (tb_q _) (by decide) | omega) (by decide) (by decide) _) b_M_95 (xw_in wt_M_power rfl) dM_tell_85 rfl (Nat.le_of_ble_eq_true rfl) ⟨Nat.le_of_ble_eq_true rfl, Nat.le_of_ble_eq_true rfl⟩ ⟨Nat.zero_le _, Nat.zero_le _⟩ ?_
  refine xa_lload C dM_tell_88 rfl ?_
  refine xa_lcmp C dM_tell_90 ?_
  refine xa_if_eq C dM_tell_91 (tgt := 107) rfl (fun h91 => ?_) (fun h91 => ?_)
  · exact absurd ((tp_eq (tb_p _) (tb_p _)).mp h91) hR
  · refine xa_aload_n C dM_tell_94 rfl ?_
    refine xa_aload_n C dM_tell_95 rfl ?_
    refine xa_get C f_M_113 dM_tell_96 rfl rfl ?_
    refine xa_iload C dM_tell_99 rfl ?_
    refine xa_ior C dM_tell_101 ?_
    refine xa_put C f_M_113 u_M_23 dM_tell_102 rfl (Nat.le_of_ble_eq_true rfl) rfl rfl (fun _ h => by cases h) ?_
    refine xa_icN C 0 dM_tell_105 ?_
    exact xa_eq rfl rfl rfl (xa_zret C hr hk rfl dM_tell_106)
set_option maxHeartbeats 4000000 in
set_option maxRecDepth 100000 in
theorem p_M_submit_a (g : xw_G) (l : Launch) {c0 c1 c2 c3 c4 c5 c6 c7 c8 c9 c10 c11 c12 c13 c14 c15 : va_E} {n t : Nat} {se ke f1 f2 e1 e2 y1 y2 fa we sh to : Nat → Nat} {oz sz mz : Nat → Int32} {th dl ms tk bl : Int32} {al ch : Nat} {mi : Int64} {rest : List va_E} (x : Int32) (hx : ¬ sg n x) (w : Int64) : xm_R g l false m_M_submit [.ref 16, .int x, .long w] (hQ c0 c1 c2 c3 c4 c5 c6 c7 c8 c9 c10 c11 c12 c13 c14 c15 (hM g th n t dl se ke oz f1 f2 e1 e2 ms al ch y1 y2 fa we sz mz sh to tk bl mi ++ rest)) (some (.int 0)) (hQ c0 c1 c2 c3 c4 c5 c6 c7 c8 c9 c10 c11 c12 c13 c14 c15 (hM g (nI 1) n t dl se ke oz f1 f2 e1 e2 ms al ch y1 y2 fa we sz mz sh to tk bl mi ++ rest)) := by
  refine xm_of [some (.ref 16), some (.int x), some (.long w), none] rfl (Nat.le_of_ble_eq_true rfl) rfl ?_
  intro p e s m args below meth c C hr hk
  refine xa_aload_n C dM_submit_0 rfl ?_
  refine xa_aload_n C dM_submit_1 rfl ?_
  refine xa_iload_n C dM_submit_2 rfl ?_
  refine xa_callV1 C (p_M_isSigner g l _) b_M_116 (xw_in wi_M_isSigner rfl) e_M_isSigner dM_submit_3 rfl rfl rfl rfl (Nat.le_of_ble_eq_true rfl) ⟨Nat.le_of_ble_eq_true rfl, Nat.le_of_ble_eq_true rfl⟩ ⟨Nat.zero_le _, Nat.zero_le _⟩ ?_
  refine xa_if_eq C dM_submit_6 (tgt := 16) rfl (fun h6 => ?_) (fun h6 => ?_)
  · refine xa_icN C 1 dM_submit_16 ?_
    refine xa_goto C dM_submit_17 (tgt := 44) rfl ?_
    refine xa_put C f_M_63 u_M_0 dM_submit_44 rfl (Nat.le_of_ble_eq_true rfl) rfl rfl (fun _ h => by cases h) ?_
    refine xa_aload_n C dM_submit_47 rfl ?_
    refine xa_get C f_M_63 dM_submit_48 rfl rfl ?_
    refine xa_if_ne C dM_submit_51 (tgt := 67) rfl (fun h51 => ?_) (fun h51 => ?_)
    · refine xa_icN C 0 dM_submit_67 ?_
      exact xa_eq rfl rfl rfl (xa_zret C hr hk (by first | exact xb_nar _ | rfl) dM_submit_68)
    · exact absurd h51 (by decide)
  · exact absurd (xb_f hx) h6
set_option maxHeartbeats 4000000 in
set_option maxRecDepth 100000 in
theorem p_M_submit_b (g : xw_G) (l : Launch) {c0 c1 c2 c3 c4 c5 c6 c7 c8 c9 c10 c11 c12 c13 c14 c15 : va_E} {n t : Nat} {se ke f1 f2 e1 e2 y1 y2 fa we sh to : Nat → Nat} {oz sz mz : Nat → Int32} {th dl ms tk bl : Int32} {al ch : Nat} {mi : Int64} {rest : List va_E} (hn : n ≤ 6) {i : Nat} (h1 : 1 ≤ i) (hi : i ≤ n) (w : Int64) (hw : ¬ (0 ≤ w ∧ w < 1073741789)) : xm_R g l false m_M_submit [.ref 16, .int (nI i), .long w] (hQ c0 c1 c2 c3 c4 c5 c6 c7 c8 c9 c10 c11 c12 c13 c14 c15 (hM g th n t dl se ke oz f1 f2 e1 e2 ms al ch y1 y2 fa we sz mz sh to tk bl mi ++ rest)) (some (.int 0)) (hQ c0 c1 c2 c3 c4 c5 c6 c7 c8 c9 c10 c11 c12 c13 c14 c15 (hM g (nI 1) n t dl se ke oz f1 f2 e1 e2 ms al ch y1 y2 fa we sz mz sh to tk bl mi ++ rest)) := by
  refine xm_of [some (.ref 16), some (.int (nI i)), some (.long w), none] rfl (Nat.le_of_ble_eq_true rfl) rfl ?_
  intro p e s m args below meth c C hr hk
  refine xa_aload_n C dM_submit_0 rfl ?_
  refine xa_aload_n C dM_submit_1 rfl ?_
  refine xa_iload_n C dM_submit_2 rfl ?_
  refine xa_callV1 C (p_M_isSigner g l _) b_M_116 (xw_in wi_M_isSigner rfl) e_M_isSigner dM_submit_3 rfl rfl rfl rfl (Nat.le_of_ble_eq_true rfl) ⟨Nat.le_of_ble_eq_true rfl, Nat.le_of_ble_eq_true rfl⟩ ⟨Nat.zero_le _, Nat.zero_le _⟩ ?_
  refine xa_if_eq C dM_submit_6 (tgt := 16) rfl (fun h6 => ?_) (fun h6 => ?_)
  · exact absurd (sg_nI hn h1 hi) (xb_eq0.mp h6)
  · refine xa_lload_n C dM_submit_9 rfl ?_
    refine xa_callS1 C (p_M_isNumber g l _ _) b_M_153 (xw_in wt_M_isNumber rfl) dM_submit_10 rfl (Nat.le_of_ble_eq_true rfl) ⟨Nat.le_of_ble_eq_true rfl, Nat.le_of_ble_eq_true rfl⟩ ⟨Nat.zero_le _, Nat.zero_le _⟩ ?_
    refine xa_if_ne C dM_submit_13 (tgt := 20) rfl (fun h13 => ?_) (fun h13 => ?_)
    · exact absurd (xb_f hw) h13
    · refine xa_icN C 1 dM_submit_16 ?_
      refine xa_goto C dM_submit_17 (tgt := 44) rfl ?_
      refine xa_put C f_M_63 u_M_0 dM_submit_44 rfl (Nat.le_of_ble_eq_true rfl) rfl rfl (fun _ h => by cases h) ?_
      refine xa_aload_n C dM_submit_47 rfl ?_
      refine xa_get C f_M_63 dM_submit_48 rfl rfl ?_
      refine xa_if_ne C dM_submit_51 (tgt := 67) rfl (fun h51 => ?_) (fun h51 => ?_)
      · refine xa_icN C 0 dM_submit_67 ?_
        exact xa_eq rfl rfl rfl (xa_zret C hr hk (by first | exact xb_nar _ | rfl) dM_submit_68)
      · exact absurd h51 (by decide)
set_option maxHeartbeats 4000000 in
set_option maxRecDepth 100000 in
theorem p_M_submit_c (g : xw_G) (l : Launch) {c0 c1 c2 c3 c4 c5 c6 c7 c8 c9 c10 c11 c12 c13 c14 c15 : va_E} {n t : Nat} {se ke f1 f2 e1 e2 y1 y2 fa we sh to : Nat → Nat} {oz sz mz : Nat → Int32} {th dl ms tk bl : Int32} {al ch : Nat} {mi : Int64} {rest : List va_E} (hn : n ≤ 6) {i : Nat} (h1 : 1 ≤ i) (hi : i ≤ n) {z : Nat} (hz : z < 1073741789) (hm : hs ms i = false) : xm_R g l false m_M_submit [.ref 16, .int (nI i), .long (lN z)] (hQ c0 c1 c2 c3 c4 c5 c6 c7 c8 c9 c10 c11 c12 c13 c14 c15 (hM g th n t dl se ke oz f1 f2 e1 e2 ms al ch y1 y2 fa we sz mz sh to tk bl mi ++ rest)) (some (.int 0)) (hQ c0 c1 c2 c3 c4 c5 c6 c7 c8 c9 c10 c11 c12 c13 c14 c15 (hM g (nI 2) n t dl se ke oz f1 f2 e1 e2 ms al ch y1 y2 fa we sz mz sh to tk bl mi ++ rest)) := by
  refine xm_of [some (.ref 16), some (.int (nI i)), some (.long (lN z)), none] rfl (Nat.le_of_ble_eq_true rfl) rfl ?_
  intro p e s m args below meth c C hr hk
  refine xa_aload_n C dM_submit_0 rfl ?_
  refine xa_aload_n C dM_submit_1 rfl ?_
  refine xa_iload_n C dM_submit_2 rfl ?_
  refine xa_callV1 C (p_M_isSigner g l _) b_M_116 (xw_in wi_M_isSigner rfl) e_M_isSigner dM_submit_3 rfl rfl rfl rfl (Nat.le_of_ble_eq_true rfl) ⟨Nat.le_of_ble_eq_true rfl, Nat.le_of_ble_eq_true rfl⟩ ⟨Nat.zero_le _, Nat.zero_le _⟩ ?_
  refine xa_if_eq C dM_submit_6 (tgt := 16) rfl (fun h6 => ?_) (fun h6 => ?_)
  · exact absurd (sg_nI hn h1 hi) (xb_eq0.mp h6)
  · refine xa_lload_n C dM_submit_9 rfl ?_
    refine xa_callS1 C (p_M_isNumber g l _ _) b_M_153 (xw_in wt_M_isNumber rfl) dM_submit_10 rfl (Nat.le_of_ble_eq_true rfl) ⟨Nat.le_of_ble_eq_true rfl, Nat.le_of_ble_eq_true rfl⟩ ⟨Nat.zero_le _, Nat.zero_le _⟩ ?_
    refine xa_if_ne C dM_submit_13 (tgt := 20) rfl (fun h13 => ?_) (fun h13 => ?_)
    · refine xa_aload_n C dM_submit_20 rfl ?_
      refine xa_iload_n C dM_submit_21 rfl ?_
      refine xa_callV1 C (p_M_isMember g l hn h1 hi) b_M_150 (xw_in wi_M_isMember rfl) e_M_isMember dM_submit_22 rfl rfl rfl rfl (Nat.le_of_ble_eq_true rfl) ⟨Nat.le_of_ble_eq_true rfl, Nat.le_of_ble_eq_true rfl⟩ ⟨Nat.zero_le _, Nat.zero_le _⟩ ?_
      refine xa_if_eq C dM_submit_25 (tgt := 39) rfl (fun h25 => ?_) (fun h25 => ?_)
      · refine xa_icN C 2 dM_submit_39 ?_
        refine xa_goto C dM_submit_40 (tgt := 44) rfl ?_
        refine xa_put C f_M_63 u_M_0 dM_submit_44 rfl (Nat.le_of_ble_eq_true rfl) rfl rfl (fun _ h => by cases h) ?_
        refine xa_aload_n C dM_submit_47 rfl ?_
        refine xa_get C f_M_63 dM_submit_48 rfl rfl ?_
        refine xa_if_ne C dM_submit_51 (tgt := 67) rfl (fun h51 => ?_) (fun h51 => ?_)
        · refine xa_icN C 0 dM_submit_67 ?_
          exact xa_eq rfl rfl rfl (xa_zret C hr hk (by first | exact xb_nar _ | rfl) dM_submit_68)
        · exact absurd h51 (by decide)
      · exact absurd (xb_f (by rw [hm]; decide)) h25
    · exact absurd (nm_lt hz) (xb_eq0.mp h13)
set_option maxHeartbeats 4000000 in
set_option maxRecDepth 100000 in
theorem p_M_submit_d (g : xw_G) (l : Launch) {c0 c1 c2 c3 c4 c5 c6 c7 c8 c9 c10 c11 c12 c13 c14 c15 : va_E} {n t : Nat} {se ke f1 f2 e1 e2 y1 y2 fa we sh to : Nat → Nat} {oz sz mz : Nat → Int32} {th dl ms tk bl : Int32} {al ch : Nat} {mi : Int64} {rest : List va_E} (hn : n ≤ 6) {i : Nat} (h1 : 1 ≤ i) (hi : i ≤ n) {z : Nat} (hz : z < 1073741789) (hm : hs ms i = true) (ht9 : hs tk i = true) : xm_R g l false m_M_submit [.ref 16, .int (nI i), .long (lN z)] (hQ c0 c1 c2 c3 c4 c5 c6 c7 c8 c9 c10 c11 c12 c13 c14 c15 (hM g th n t dl se ke oz f1 f2 e1 e2 ms al ch y1 y2 fa we sz mz sh to tk bl mi ++ rest)) (some (.int 0)) (hQ c0 c1 c2 c3 c4 c5 c6 c7 c8 c9 c10 c11 c12 c13 c14 c15 (hM g (nI 2) n t dl se ke oz f1 f2 e1 e2 ms al ch y1 y2 fa we sz mz sh to tk bl mi ++ rest)) := by
  refine xm_of [some (.ref 16), some (.int (nI i)), some (.long (lN z)), none] rfl (Nat.le_of_ble_eq_true rfl) rfl ?_
  intro p e s m args below meth c C hr hk
  refine xa_aload_n C dM_submit_0 rfl ?_
  refine xa_aload_n C dM_submit_1 rfl ?_
  refine xa_iload_n C dM_submit_2 rfl ?_
  refine xa_callV1 C (p_M_isSigner g l _) b_M_116 (xw_in wi_M_isSigner rfl) e_M_isSigner dM_submit_3 rfl rfl rfl rfl (Nat.le_of_ble_eq_true rfl) ⟨Nat.le_of_ble_eq_true rfl, Nat.le_of_ble_eq_true rfl⟩ ⟨Nat.zero_le _, Nat.zero_le _⟩ ?_
  refine xa_if_eq C dM_submit_6 (tgt := 16) rfl (fun h6 => ?_) (fun h6 => ?_)
  · exact absurd (sg_nI hn h1 hi) (xb_eq0.mp h6)
  · refine xa_lload_n C dM_submit_9 rfl ?_
    refine xa_callS1 C (p_M_isNumber g l _ _) b_M_153 (xw_in wt_M_isNumber rfl) dM_submit_10 rfl (Nat.le_of_ble_eq_true rfl) ⟨Nat.le_of_ble_eq_true rfl, Nat.le_of_ble_eq_true rfl⟩ ⟨Nat.zero_le _, Nat.zero_le _⟩ ?_
    refine xa_if_ne C dM_submit_13 (tgt := 20) rfl (fun h13 => ?_) (fun h13 => ?_)
    · refine xa_aload_n C dM_submit_20 rfl ?_
      refine xa_iload_n C dM_submit_21 rfl ?_
      refine xa_callV1 C (p_M_isMember g l hn h1 hi) b_M_150 (xw_in wi_M_isMember rfl) e_M_isMember dM_submit_22 rfl rfl rfl rfl (Nat.le_of_ble_eq_true rfl) ⟨Nat.le_of_ble_eq_true rfl, Nat.le_of_ble_eq_true rfl⟩ ⟨Nat.zero_le _, Nat.zero_le _⟩ ?_
      refine xa_if_eq C dM_submit_25 (tgt := 39) rfl (fun h25 => ?_) (fun h25 => ?_)
      · exact absurd hm (xb_eq0.mp h25)
      · refine xa_aload_n C dM_submit_28 rfl ?_
        refine xa_get C f_M_110 dM_submit_29 rfl rfl ?_
        refine xa_iload_n C dM_submit_32 rfl ?_
        refine xa_callS1 C (p_M_inN g l _ (by omega) (by omega) _) b_M_89 (xw_in wt_M_in rfl) dM_submit_33 rfl (Nat.le_of_ble_eq_true rfl) ⟨Nat.le_of_ble_eq_true rfl, Nat.le_of_ble_eq_true rfl⟩ ⟨Nat.zero_le _, Nat.zero_le _⟩ ?_
        refine xa_if_eq C dM_submit_36 (tgt := 43) rfl (fun h36 => ?_) (fun h36 => ?_)
        · exact absurd ht9 (xb_eq0.mp h36)
        · refine xa_icN C 2 dM_submit_39 ?_
          refine xa_goto C dM_submit_40 (tgt := 44) rfl ?_
          refine xa_put C f_M_63 u_M_0 dM_submit_44 rfl (Nat.le_of_ble_eq_true rfl) rfl rfl (fun _ h => by cases h) ?_
          refine xa_aload_n C dM_submit_47 rfl ?_
          refine xa_get C f_M_63 dM_submit_48 rfl rfl ?_
          refine xa_if_ne C dM_submit_51 (tgt := 67) rfl (fun h51 => ?_) (fun h51 => ?_)
          · refine xa_icN C 0 dM_submit_67 ?_
            exact xa_eq rfl rfl rfl (xa_zret C hr hk (by first | exact xb_nar _ | rfl) dM_submit_68)
          · exact absurd h51 (by decide)
    · exact absurd (nm_lt hz) (xb_eq0.mp h13)
set_option maxHeartbeats 4000000 in
set_option maxRecDepth 100000 in
theorem p_M_submit_t (g : xw_G) (l : Launch) {c0 c1 c2 c3 c4 c5 c6 c7 c8 c9 c10 c11 c12 c13 c14 c15 : va_E} {n t : Nat} {se ke f1 f2 e1 e2 y1 y2 fa we sh to : Nat → Nat} {oz sz mz : Nat → Int32} {th dl ms tk bl : Int32} {al ch : Nat} {mi : Int64} {rest : List va_E} (hn : n ≤ 6) {i : Nat} (h1 : 1 ≤ i) (hi : i ≤ n) (hse : ∀ j, se j < 2 ^ 31) (hke : ∀ j, ke j < 2 ^ 31) (hf1 : ∀ j, f1 j < 2 ^ 31) (hf2 : ∀ j, f2 j < 2 ^ 31) (he1 : ∀ j, e1 j < 2 ^ 31) (he2 : ∀ j, e2 j < 2 ^ 31) (hy1 : ∀ j, y1 j < 2 ^ 31) (hy2 : ∀ j, y2 j < 2 ^ 31) (hfa : ∀ j, fa j < 2 ^ 30) (hwe : ∀ j, we j < 2 ^ 31) (hsh : ∀ j, sh j < 2 ^ 31) (hto : ∀ j, to j < 2 ^ 31) (hal : al < 2 ^ 31) (hch : ch < 2 ^ 31) {z : Nat} (hz : z < 1073741789) (hm : hs ms i = true) (ht9 : hs tk i = false) (hR : 4 ^ z % 2147483579 = y1 i * (y2 i ^ fa i % 2147483579) % 2147483579 * (ke i ^ (ch * we i % 1073741789) % 2147483579) % 2147483579) : xm_R g l false m_M_submit [.ref 16, .int (nI i), .long (lN z)] (hQ c0 c1 c2 c3 c4 c5 c6 c7 c8 c9 c10 c11 c12 c13 c14 c15 (hM g th n t dl se ke oz f1 f2 e1 e2 ms al ch y1 y2 fa we sz mz sh to tk bl mi ++ rest)) (some (.int 1)) (hQ c0 c1 c2 c3 c4 c5 c6 c7 c8 c9 c10 c11 c12 c13 c14 c15 (hM g (nI 0) n t dl se ke oz f1 f2 e1 e2 ms al ch y1 y2 fa we sz mz sh (va_up to i z) (tk ||| on_ i) bl mi ++ rest)) := by
  refine xm_of [some (.ref 16), some (.int (nI i)), some (.long (lN z)), none] rfl (Nat.le_of_ble_eq_true rfl) rfl ?_
  intro p e s m args below meth c C hr hk
  refine xa_aload_n C dM_submit_0 rfl ?_
  refine xa_aload_n C dM_submit_1 rfl ?_
  refine xa_iload_n C dM_submit_2 rfl ?_
  refine xa_callV1 C (p_M_isSigner g l _) b_M_116 (xw_in wi_M_isSigner rfl) e_M_isSigner dM_submit_3 rfl rfl rfl rfl (Nat.le_of_ble_eq_true rfl) ⟨Nat.le_of_ble_eq_true rfl, Nat.le_of_ble_eq_true rfl⟩ ⟨Nat.zero_le _, Nat.zero_le _⟩ ?_
  refine xa_if_eq C dM_submit_6 (tgt := 16) rfl (fun h6 => ?_) (fun h6 => ?_)
  · exact absurd (sg_nI hn h1 hi) (xb_eq0.mp h6)
  · refine xa_lload_n C dM_submit_9 rfl ?_
    refine xa_callS1 C (p_M_isNumber g l _ _) b_M_153 (xw_in wt_M_isNumber rfl) dM_submit_10 rfl (Nat.le_of_ble_eq_true rfl) ⟨Nat.le_of_ble_eq_true rfl, Nat.le_of_ble_eq_true rfl⟩ ⟨Nat.zero_le _, Nat.zero_le _⟩ ?_
    refine xa_if_ne C dM_submit_13 (tgt := 20) rfl (fun h13 => ?_) (fun h13 => ?_)
    · refine xa_aload_n C dM_submit_20 rfl ?_
      refine xa_iload_n C dM_submit_21 rfl ?_
      refine xa_callV1 C (p_M_isMember g l hn h1 hi) b_M_150 (xw_in wi_M_isMember rfl) e_M_isMember dM_submit_22 rfl rfl rfl rfl (Nat.le_of_ble_eq_true rfl) ⟨Nat.le_of_ble_eq_true rfl, Nat.le_of_ble_eq_true rfl⟩ ⟨Nat.zero_le _, Nat.zero_le _⟩ ?_
      refine xa_if_eq C dM_submit_25 (tgt := 39) rfl (fun h25 => ?_) (fun h25 => ?_)
      · exact absurd hm (xb_eq0.mp h25)
      · refine xa_aload_n C dM_submit_28 rfl ?_
        refine xa_get C f_M_110 dM_submit_29 rfl rfl ?_
        refine xa_iload_n C dM_submit_32 rfl ?_
        refine xa_callS1 C (p_M_inN g l _ (by omega) (by omega) _) b_M_89 (xw_in wt_M_in rfl) dM_submit_33 rfl (Nat.le_of_ble_eq_true rfl) ⟨Nat.le_of_ble_eq_true rfl, Nat.le_of_ble_eq_true rfl⟩ ⟨Nat.zero_le _, Nat.zero_le _⟩ ?_
        refine xa_if_eq C dM_submit_36 (tgt := 43) rfl (fun h36 => ?_) (fun h36 => ?_)
        · refine xa_icN C 0 dM_submit_43 ?_
          refine xa_put C f_M_63 u_M_0 dM_submit_44 rfl (Nat.le_of_ble_eq_true rfl) rfl rfl (fun _ h => by cases h) ?_
          refine xa_aload_n C dM_submit_47 rfl ?_
          refine xa_get C f_M_63 dM_submit_48 rfl rfl ?_
          refine xa_if_ne C dM_submit_51 (tgt := 67) rfl (fun h51 => ?_) (fun h51 => ?_)
          · exact absurd rfl h51
          · refine xa_aload_n C dM_submit_54 rfl ?_
            refine xa_iload_n C dM_submit_55 rfl ?_
            refine xa_lload_n C dM_submit_56 rfl ?_
            refine xa_callV1 C (p_M_tell_t g l hn h1 hi hse hke hf1 hf2 he1 he2 hy1 hy2 hfa hwe hsh hto hal hch (by first | omega | exact Nat.lt_trans (Nat.mod_lt _ (by decide)) (by decide)) hR) b_M_157 (xw_in wi_M_tell rfl) e_M_tell dM_submit_57 rfl rfl rfl rfl (Nat.le_of_ble_eq_true rfl) ⟨Nat.le_of_ble_eq_true rfl, Nat.le_of_ble_eq_true rfl⟩ ⟨Nat.zero_le _, Nat.zero_le _⟩ ?_
            refine xa_if_eq C dM_submit_60 (tgt := 67) rfl (fun h60 => ?_) (fun h60 => ?_)
            · exact absurd h60 (by decide)
            · refine xa_icN C 1 dM_submit_63 ?_
              refine xa_goto C dM_submit_64 (tgt := 68) rfl ?_
              exact xa_eq rfl rfl rfl (xa_zret C hr hk (by first | exact xb_nar _ | rfl) dM_submit_68)
        · exact absurd (xb_f (by rw [ht9]; decide)) h36
    · exact absurd (nm_lt hz) (xb_eq0.mp h13)
set_option maxHeartbeats 4000000 in
set_option maxRecDepth 100000 in
theorem p_M_submit_f (g : xw_G) (l : Launch) {c0 c1 c2 c3 c4 c5 c6 c7 c8 c9 c10 c11 c12 c13 c14 c15 : va_E} {n t : Nat} {se ke f1 f2 e1 e2 y1 y2 fa we sh to : Nat → Nat} {oz sz mz : Nat → Int32} {th dl ms tk bl : Int32} {al ch : Nat} {mi : Int64} {rest : List va_E} (hn : n ≤ 6) {i : Nat} (h1 : 1 ≤ i) (hi : i ≤ n) (hse : ∀ j, se j < 2 ^ 31) (hke : ∀ j, ke j < 2 ^ 31) (hf1 : ∀ j, f1 j < 2 ^ 31) (hf2 : ∀ j, f2 j < 2 ^ 31) (he1 : ∀ j, e1 j < 2 ^ 31) (he2 : ∀ j, e2 j < 2 ^ 31) (hy1 : ∀ j, y1 j < 2 ^ 31) (hy2 : ∀ j, y2 j < 2 ^ 31) (hfa : ∀ j, fa j < 2 ^ 30) (hwe : ∀ j, we j < 2 ^ 31) (hsh : ∀ j, sh j < 2 ^ 31) (hto : ∀ j, to j < 2 ^ 31) (hal : al < 2 ^ 31) (hch : ch < 2 ^ 31) {z : Nat} (hz : z < 1073741789) (hm : hs ms i = true) (ht9 : hs tk i = false) (hR : ¬ 4 ^ z % 2147483579 = y1 i * (y2 i ^ fa i % 2147483579) % 2147483579 * (ke i ^ (ch * we i % 1073741789) % 2147483579) % 2147483579) : xm_R g l false m_M_submit [.ref 16, .int (nI i), .long (lN z)] (hQ c0 c1 c2 c3 c4 c5 c6 c7 c8 c9 c10 c11 c12 c13 c14 c15 (hM g th n t dl se ke oz f1 f2 e1 e2 ms al ch y1 y2 fa we sz mz sh to tk bl mi ++ rest)) (some (.int 0)) (hQ c0 c1 c2 c3 c4 c5 c6 c7 c8 c9 c10 c11 c12 c13 c14 c15 (hM g (nI 0) n t dl se ke oz f1 f2 e1 e2 ms al ch y1 y2 fa we sz mz sh to tk (bl ||| on_ i) mi ++ rest)) := by
  refine xm_of [some (.ref 16), some (.int (nI i)), some (.long (lN z)), none] rfl (Nat.le_of_ble_eq_true rfl) rfl ?_
  intro p e s m args below meth c C hr hk
  refine xa_aload_n C dM_submit_0 rfl ?_
  refine xa_aload_n C dM_submit_1 rfl ?_
  refine xa_iload_n C dM_submit_2 rfl ?_
  refine xa_callV1 C (p_M_isSigner g l _) b_M_116 (xw_in wi_M_isSigner rfl) e_M_isSigner dM_submit_3 rfl rfl rfl rfl (Nat.le_of_ble_eq_true rfl) ⟨Nat.le_of_ble_eq_true rfl, Nat.le_of_ble_eq_true rfl⟩ ⟨Nat.zero_le _, Nat.zero_le _⟩ ?_
  refine xa_if_eq C dM_submit_6 (tgt := 16) rfl (fun h6 => ?_) (fun h6 => ?_)
  · exact absurd (sg_nI hn h1 hi) (xb_eq0.mp h6)
  · refine xa_lload_n C dM_submit_9 rfl ?_
    refine xa_callS1 C (p_M_isNumber g l _ _) b_M_153 (xw_in wt_M_isNumber rfl) dM_submit_10 rfl (Nat.le_of_ble_eq_true rfl) ⟨Nat.le_of_ble_eq_true rfl, Nat.le_of_ble_eq_true rfl⟩ ⟨Nat.zero_le _, Nat.zero_le _⟩ ?_
    refine xa_if_ne C dM_submit_13 (tgt := 20) rfl (fun h13 => ?_) (fun h13 => ?_)
    · refine xa_aload_n C dM_submit_20 rfl ?_
      refine xa_iload_n C dM_submit_21 rfl ?_
      refine xa_callV1 C (p_M_isMember g l hn h1 hi) b_M_150 (xw_in wi_M_isMember rfl) e_M_isMember dM_submit_22 rfl rfl rfl rfl (Nat.le_of_ble_eq_true rfl) ⟨Nat.le_of_ble_eq_true rfl, Nat.le_of_ble_eq_true rfl⟩ ⟨Nat.zero_le _, Nat.zero_le _⟩ ?_
      refine xa_if_eq C dM_submit_25 (tgt := 39) rfl (fun h25 => ?_) (fun h25 => ?_)
      · exact absurd hm (xb_eq0.mp h25)
      · refine xa_aload_n C dM_submit_28 rfl ?_
        refine xa_get C f_M_110 dM_submit_29 rfl rfl ?_
        refine xa_iload_n C dM_submit_32 rfl ?_
        refine xa_callS1 C (p_M_inN g l _ (by omega) (by omega) _) b_M_89 (xw_in wt_M_in rfl) dM_submit_33 rfl (Nat.le_of_ble_eq_true rfl) ⟨Nat.le_of_ble_eq_true rfl, Nat.le_of_ble_eq_true rfl⟩ ⟨Nat.zero_le _, Nat.zero_le _⟩ ?_
        refine xa_if_eq C dM_submit_36 (tgt := 43) rfl (fun h36 => ?_) (fun h36 => ?_)
        · refine xa_icN C 0 dM_submit_43 ?_
          refine xa_put C f_M_63 u_M_0 dM_submit_44 rfl (Nat.le_of_ble_eq_true rfl) rfl rfl (fun _ h => by cases h) ?_
          refine xa_aload_n C dM_submit_47 rfl ?_
          refine xa_get C f_M_63 dM_submit_48 rfl rfl ?_
          refine xa_if_ne C dM_submit_51 (tgt := 67) rfl (fun h51 => ?_) (fun h51 => ?_)
          · exact absurd rfl h51
          · refine xa_aload_n C dM_submit_54 rfl ?_
            refine xa_iload_n C dM_submit_55 rfl ?_
            refine xa_lload_n C dM_submit_56 rfl ?_
            refine xa_callV1 C (p_M_tell_f g l hn h1 hi hse hke hf1 hf2 he1 he2 hy1 hy2 hfa hwe hsh hto hal hch (by first | omega | exact Nat.lt_trans (Nat.mod_lt _ (by decide)) (by decide)) hR) b_M_157 (xw_in wi_M_tell rfl) e_M_tell dM_submit_57 rfl rfl rfl rfl (Nat.le_of_ble_eq_true rfl) ⟨Nat.le_of_ble_eq_true rfl, Nat.le_of_ble_eq_true rfl⟩ ⟨Nat.zero_le _, Nat.zero_le _⟩ ?_
            refine xa_if_eq C dM_submit_60 (tgt := 67) rfl (fun h60 => ?_) (fun h60 => ?_)
            · refine xa_icN C 0 dM_submit_67 ?_
              exact xa_eq rfl rfl rfl (xa_zret C hr hk (by first | exact xb_nar _ | rfl) dM_submit_68)
            · exact absurd rfl h60
        · exact absurd (xb_f (by rw [ht9]; decide)) h36
    · exact absurd (nm_lt hz) (xb_eq0.mp h13)
set_option maxHeartbeats 4000000 in
set_option maxRecDepth 100000 in
theorem p_M_relay_a (g : xw_G) (l : Launch) {c0 c1 c2 c3 c4 c5 c6 c7 c8 c9 c10 c11 c12 c13 c14 c15 : va_E} {n t : Nat} {se ke f1 f2 e1 e2 y1 y2 fa we sh to : Nat → Nat} {oz sz mz : Nat → Int32} {th dl ms tk bl : Int32} {al ch : Nat} {mi : Int64} {rest : List va_E} (x : Int32) (hx : ¬ sg n x) (w : Int64) : xm_R g l false m_M_relay [.ref 16, .int x, .long w] (hQ c0 c1 c2 c3 c4 c5 c6 c7 c8 c9 c10 c11 c12 c13 c14 c15 (hM g th n t dl se ke oz f1 f2 e1 e2 ms al ch y1 y2 fa we sz mz sh to tk bl mi ++ rest)) (some (.int 0)) (hQ c0 c1 c2 c3 c4 c5 c6 c7 c8 c9 c10 c11 c12 c13 c14 c15 (hM g (nI 1) n t dl se ke oz f1 f2 e1 e2 ms al ch y1 y2 fa we sz mz sh to tk bl mi ++ rest)) := by
  refine xm_of [some (.ref 16), some (.int x), some (.long w), none] rfl (Nat.le_of_ble_eq_true rfl) rfl ?_
  intro p e s m args below meth c C hr hk
  refine xa_aload_n C dM_relay_0 rfl ?_
  refine xa_aload_n C dM_relay_1 rfl ?_
  refine xa_iload_n C dM_relay_2 rfl ?_
  refine xa_callV1 C (p_M_isSigner g l _) b_M_116 (xw_in wi_M_isSigner rfl) e_M_isSigner dM_relay_3 rfl rfl rfl rfl (Nat.le_of_ble_eq_true rfl) ⟨Nat.le_of_ble_eq_true rfl, Nat.le_of_ble_eq_true rfl⟩ ⟨Nat.zero_le _, Nat.zero_le _⟩ ?_
  refine xa_if_eq C dM_relay_6 (tgt := 16) rfl (fun h6 => ?_) (fun h6 => ?_)
  · refine xa_icN C 1 dM_relay_16 ?_
    refine xa_goto C dM_relay_17 (tgt := 53) rfl ?_
    refine xa_put C f_M_63 u_M_0 dM_relay_53 rfl (Nat.le_of_ble_eq_true rfl) rfl rfl (fun _ h => by cases h) ?_
    refine xa_aload_n C dM_relay_56 rfl ?_
    refine xa_get C f_M_63 dM_relay_57 rfl rfl ?_
    refine xa_if_ne C dM_relay_60 (tgt := 87) rfl (fun h60 => ?_) (fun h60 => ?_)
    · refine xa_icN C 0 dM_relay_87 ?_
      exact xa_eq rfl rfl rfl (xa_zret C hr hk (by first | exact xb_nar _ | rfl) dM_relay_88)
    · exact absurd h60 (by decide)
  · exact absurd (xb_f hx) h6
set_option maxHeartbeats 4000000 in
set_option maxRecDepth 100000 in
theorem p_M_relay_b (g : xw_G) (l : Launch) {c0 c1 c2 c3 c4 c5 c6 c7 c8 c9 c10 c11 c12 c13 c14 c15 : va_E} {n t : Nat} {se ke f1 f2 e1 e2 y1 y2 fa we sh to : Nat → Nat} {oz sz mz : Nat → Int32} {th dl ms tk bl : Int32} {al ch : Nat} {mi : Int64} {rest : List va_E} (hn : n ≤ 6) {i : Nat} (h1 : 1 ≤ i) (hi : i ≤ n) (w : Int64) (hw : ¬ (0 ≤ w ∧ w < 1073741789)) : xm_R g l false m_M_relay [.ref 16, .int (nI i), .long w] (hQ c0 c1 c2 c3 c4 c5 c6 c7 c8 c9 c10 c11 c12 c13 c14 c15 (hM g th n t dl se ke oz f1 f2 e1 e2 ms al ch y1 y2 fa we sz mz sh to tk bl mi ++ rest)) (some (.int 0)) (hQ c0 c1 c2 c3 c4 c5 c6 c7 c8 c9 c10 c11 c12 c13 c14 c15 (hM g (nI 1) n t dl se ke oz f1 f2 e1 e2 ms al ch y1 y2 fa we sz mz sh to tk bl mi ++ rest)) := by
  refine xm_of [some (.ref 16), some (.int (nI i)), some (.long w), none] rfl (Nat.le_of_ble_eq_true rfl) rfl ?_
  intro p e s m args below meth c C hr hk
  refine xa_aload_n C dM_relay_0 rfl ?_
  refine xa_aload_n C dM_relay_1 rfl ?_
  refine xa_iload_n C dM_relay_2 rfl ?_
  refine xa_callV1 C (p_M_isSigner g l _) b_M_116 (xw_in wi_M_isSigner rfl) e_M_isSigner dM_relay_3 rfl rfl rfl rfl (Nat.le_of_ble_eq_true rfl) ⟨Nat.le_of_ble_eq_true rfl, Nat.le_of_ble_eq_true rfl⟩ ⟨Nat.zero_le _, Nat.zero_le _⟩ ?_
  refine xa_if_eq C dM_relay_6 (tgt := 16) rfl (fun h6 => ?_) (fun h6 => ?_)
  · exact absurd (sg_nI hn h1 hi) (xb_eq0.mp h6)
  · refine xa_lload_n C dM_relay_9 rfl ?_
    refine xa_callS1 C (p_M_isNumber g l _ _) b_M_153 (xw_in wt_M_isNumber rfl) dM_relay_10 rfl (Nat.le_of_ble_eq_true rfl) ⟨Nat.le_of_ble_eq_true rfl, Nat.le_of_ble_eq_true rfl⟩ ⟨Nat.zero_le _, Nat.zero_le _⟩ ?_
    refine xa_if_ne C dM_relay_13 (tgt := 20) rfl (fun h13 => ?_) (fun h13 => ?_)
    · exact absurd (xb_f hw) h13
    · refine xa_icN C 1 dM_relay_16 ?_
      refine xa_goto C dM_relay_17 (tgt := 53) rfl ?_
      refine xa_put C f_M_63 u_M_0 dM_relay_53 rfl (Nat.le_of_ble_eq_true rfl) rfl rfl (fun _ h => by cases h) ?_
      refine xa_aload_n C dM_relay_56 rfl ?_
      refine xa_get C f_M_63 dM_relay_57 rfl rfl ?_
      refine xa_if_ne C dM_relay_60 (tgt := 87) rfl (fun h60 => ?_) (fun h60 => ?_)
      · refine xa_icN C 0 dM_relay_87 ?_
        exact xa_eq rfl rfl rfl (xa_zret C hr hk (by first | exact xb_nar _ | rfl) dM_relay_88)
      · exact absurd h60 (by decide)
set_option maxHeartbeats 4000000 in
set_option maxRecDepth 100000 in
theorem p_M_relay_c (g : xw_G) (l : Launch) {c0 c1 c2 c3 c4 c5 c6 c7 c8 c9 c10 c11 c12 c13 c14 c15 : va_E} {n t : Nat} {se ke f1 f2 e1 e2 y1 y2 fa we sh to : Nat → Nat} {oz sz mz : Nat → Int32} {th dl ms tk bl : Int32} {al ch : Nat} {mi : Int64} {rest : List va_E} (hn : n ≤ 6) {i : Nat} (h1 : 1 ≤ i) (hi : i ≤ n) {z : Nat} (hz : z < 1073741789) (hm : hs ms i = false) : xm_R g l false m_M_relay [.ref 16, .int (nI i), .long (lN z)] (hQ c0 c1 c2 c3 c4 c5 c6 c7 c8 c9 c10 c11 c12 c13 c14 c15 (hM g th n t dl se ke oz f1 f2 e1 e2 ms al ch y1 y2 fa we sz mz sh to tk bl mi ++ rest)) (some (.int 0)) (hQ c0 c1 c2 c3 c4 c5 c6 c7 c8 c9 c10 c11 c12 c13 c14 c15 (hM g (nI 2) n t dl se ke oz f1 f2 e1 e2 ms al ch y1 y2 fa we sz mz sh to tk bl mi ++ rest)) := by
  refine xm_of [some (.ref 16), some (.int (nI i)), some (.long (lN z)), none] rfl (Nat.le_of_ble_eq_true rfl) rfl ?_
  intro p e s m args below meth c C hr hk
  refine xa_aload_n C dM_relay_0 rfl ?_
  refine xa_aload_n C dM_relay_1 rfl ?_
  refine xa_iload_n C dM_relay_2 rfl ?_
  refine xa_callV1 C (p_M_isSigner g l _) b_M_116 (xw_in wi_M_isSigner rfl) e_M_isSigner dM_relay_3 rfl rfl rfl rfl (Nat.le_of_ble_eq_true rfl) ⟨Nat.le_of_ble_eq_true rfl, Nat.le_of_ble_eq_true rfl⟩ ⟨Nat.zero_le _, Nat.zero_le _⟩ ?_
  refine xa_if_eq C dM_relay_6 (tgt := 16) rfl (fun h6 => ?_) (fun h6 => ?_)
  · exact absurd (sg_nI hn h1 hi) (xb_eq0.mp h6)
  · refine xa_lload_n C dM_relay_9 rfl ?_
    refine xa_callS1 C (p_M_isNumber g l _ _) b_M_153 (xw_in wt_M_isNumber rfl) dM_relay_10 rfl (Nat.le_of_ble_eq_true rfl) ⟨Nat.le_of_ble_eq_true rfl, Nat.le_of_ble_eq_true rfl⟩ ⟨Nat.zero_le _, Nat.zero_le _⟩ ?_
    refine xa_if_ne C dM_relay_13 (tgt := 20) rfl (fun h13 => ?_) (fun h13 => ?_)
    · refine xa_aload_n C dM_relay_20 rfl ?_
      refine xa_iload_n C dM_relay_21 rfl ?_
      refine xa_callV1 C (p_M_isMember g l hn h1 hi) b_M_150 (xw_in wi_M_isMember rfl) e_M_isMember dM_relay_22 rfl rfl rfl rfl (Nat.le_of_ble_eq_true rfl) ⟨Nat.le_of_ble_eq_true rfl, Nat.le_of_ble_eq_true rfl⟩ ⟨Nat.zero_le _, Nat.zero_le _⟩ ?_
      refine xa_if_eq C dM_relay_25 (tgt := 48) rfl (fun h25 => ?_) (fun h25 => ?_)
      · refine xa_icN C 2 dM_relay_48 ?_
        refine xa_goto C dM_relay_49 (tgt := 53) rfl ?_
        refine xa_put C f_M_63 u_M_0 dM_relay_53 rfl (Nat.le_of_ble_eq_true rfl) rfl rfl (fun _ h => by cases h) ?_
        refine xa_aload_n C dM_relay_56 rfl ?_
        refine xa_get C f_M_63 dM_relay_57 rfl rfl ?_
        refine xa_if_ne C dM_relay_60 (tgt := 87) rfl (fun h60 => ?_) (fun h60 => ?_)
        · refine xa_icN C 0 dM_relay_87 ?_
          exact xa_eq rfl rfl rfl (xa_zret C hr hk (by first | exact xb_nar _ | rfl) dM_relay_88)
        · exact absurd h60 (by decide)
      · exact absurd (xb_f (by rw [hm]; decide)) h25
    · exact absurd (nm_lt hz) (xb_eq0.mp h13)
set_option maxHeartbeats 4000000 in
set_option maxRecDepth 100000 in
theorem p_M_relay_d (g : xw_G) (l : Launch) {c0 c1 c2 c3 c4 c5 c6 c7 c8 c9 c10 c11 c12 c13 c14 c15 : va_E} {n t : Nat} {se ke f1 f2 e1 e2 y1 y2 fa we sh to : Nat → Nat} {oz sz mz : Nat → Int32} {th dl ms tk bl : Int32} {al ch : Nat} {mi : Int64} {rest : List va_E} (hn : n ≤ 6) {i : Nat} (h1 : 1 ≤ i) (hi : i ≤ n) {z : Nat} (hz : z < 1073741789) (hm : hs ms i = true) (hmz : mz i = 0) : xm_R g l false m_M_relay [.ref 16, .int (nI i), .long (lN z)] (hQ c0 c1 c2 c3 c4 c5 c6 c7 c8 c9 c10 c11 c12 c13 c14 c15 (hM g th n t dl se ke oz f1 f2 e1 e2 ms al ch y1 y2 fa we sz mz sh to tk bl mi ++ rest)) (some (.int 0)) (hQ c0 c1 c2 c3 c4 c5 c6 c7 c8 c9 c10 c11 c12 c13 c14 c15 (hM g (nI 2) n t dl se ke oz f1 f2 e1 e2 ms al ch y1 y2 fa we sz mz sh to tk bl mi ++ rest)) := by
  refine xm_of [some (.ref 16), some (.int (nI i)), some (.long (lN z)), none] rfl (Nat.le_of_ble_eq_true rfl) rfl ?_
  intro p e s m args below meth c C hr hk
  refine xa_aload_n C dM_relay_0 rfl ?_
  refine xa_aload_n C dM_relay_1 rfl ?_
  refine xa_iload_n C dM_relay_2 rfl ?_
  refine xa_callV1 C (p_M_isSigner g l _) b_M_116 (xw_in wi_M_isSigner rfl) e_M_isSigner dM_relay_3 rfl rfl rfl rfl (Nat.le_of_ble_eq_true rfl) ⟨Nat.le_of_ble_eq_true rfl, Nat.le_of_ble_eq_true rfl⟩ ⟨Nat.zero_le _, Nat.zero_le _⟩ ?_
  refine xa_if_eq C dM_relay_6 (tgt := 16) rfl (fun h6 => ?_) (fun h6 => ?_)
  · exact absurd (sg_nI hn h1 hi) (xb_eq0.mp h6)
  · refine xa_lload_n C dM_relay_9 rfl ?_
    refine xa_callS1 C (p_M_isNumber g l _ _) b_M_153 (xw_in wt_M_isNumber rfl) dM_relay_10 rfl (Nat.le_of_ble_eq_true rfl) ⟨Nat.le_of_ble_eq_true rfl, Nat.le_of_ble_eq_true rfl⟩ ⟨Nat.zero_le _, Nat.zero_le _⟩ ?_
    refine xa_if_ne C dM_relay_13 (tgt := 20) rfl (fun h13 => ?_) (fun h13 => ?_)
    · refine xa_aload_n C dM_relay_20 rfl ?_
      refine xa_iload_n C dM_relay_21 rfl ?_
      refine xa_callV1 C (p_M_isMember g l hn h1 hi) b_M_150 (xw_in wi_M_isMember rfl) e_M_isMember dM_relay_22 rfl rfl rfl rfl (Nat.le_of_ble_eq_true rfl) ⟨Nat.le_of_ble_eq_true rfl, Nat.le_of_ble_eq_true rfl⟩ ⟨Nat.zero_le _, Nat.zero_le _⟩ ?_
      refine xa_if_eq C dM_relay_25 (tgt := 48) rfl (fun h25 => ?_) (fun h25 => ?_)
      · exact absurd hm (xb_eq0.mp h25)
      · refine xa_aload_n C dM_relay_28 rfl ?_
        refine xa_get C f_M_47 dM_relay_29 rfl rfl ?_
        refine xa_iload_n C dM_relay_32 rfl ?_
        refine xa_baloadN C dM_relay_33 rfl ?_ (by omega) ?_
        · omega
        refine xa_if_eq C dM_relay_34 (tgt := 48) rfl (fun h34 => ?_) (fun h34 => ?_)
        · refine xa_icN C 2 dM_relay_48 ?_
          refine xa_goto C dM_relay_49 (tgt := 53) rfl ?_
          refine xa_put C f_M_63 u_M_0 dM_relay_53 rfl (Nat.le_of_ble_eq_true rfl) rfl rfl (fun _ h => by cases h) ?_
          refine xa_aload_n C dM_relay_56 rfl ?_
          refine xa_get C f_M_63 dM_relay_57 rfl rfl ?_
          refine xa_if_ne C dM_relay_60 (tgt := 87) rfl (fun h60 => ?_) (fun h60 => ?_)
          · refine xa_icN C 0 dM_relay_87 ?_
            exact xa_eq rfl rfl rfl (xa_zret C hr hk (by first | exact xb_nar _ | rfl) dM_relay_88)
          · exact absurd h60 (by decide)
        · exact absurd hmz h34
    · exact absurd (nm_lt hz) (xb_eq0.mp h13)
set_option maxHeartbeats 4000000 in
set_option maxRecDepth 100000 in
theorem p_M_relay_e (g : xw_G) (l : Launch) {c0 c1 c2 c3 c4 c5 c6 c7 c8 c9 c10 c11 c12 c13 c14 c15 : va_E} {n t : Nat} {se ke f1 f2 e1 e2 y1 y2 fa we sh to : Nat → Nat} {oz sz mz : Nat → Int32} {th dl ms tk bl : Int32} {al ch : Nat} {mi : Int64} {rest : List va_E} (hn : n ≤ 6) {i : Nat} (h1 : 1 ≤ i) (hi : i ≤ n) {z : Nat} (hz : z < 1073741789) (hm : hs ms i = true) (hmz : ¬ mz i = 0) (ht9 : hs tk i = true) : xm_R g l false m_M_relay [.ref 16, .int (nI i), .long (lN z)] (hQ c0 c1 c2 c3 c4 c5 c6 c7 c8 c9 c10 c11 c12 c13 c14 c15 (hM g th n t dl se ke oz f1 f2 e1 e2 ms al ch y1 y2 fa we sz mz sh to tk bl mi ++ rest)) (some (.int 0)) (hQ c0 c1 c2 c3 c4 c5 c6 c7 c8 c9 c10 c11 c12 c13 c14 c15 (hM g (nI 2) n t dl se ke oz f1 f2 e1 e2 ms al ch y1 y2 fa we sz mz sh to tk bl mi ++ rest)) := by
  refine xm_of [some (.ref 16), some (.int (nI i)), some (.long (lN z)), none] rfl (Nat.le_of_ble_eq_true rfl) rfl ?_
  intro p e s m args below meth c C hr hk
  refine xa_aload_n C dM_relay_0 rfl ?_
  refine xa_aload_n C dM_relay_1 rfl ?_
  refine xa_iload_n C dM_relay_2 rfl ?_
  refine xa_callV1 C (p_M_isSigner g l _) b_M_116 (xw_in wi_M_isSigner rfl) e_M_isSigner dM_relay_3 rfl rfl rfl rfl (Nat.le_of_ble_eq_true rfl) ⟨Nat.le_of_ble_eq_true rfl, Nat.le_of_ble_eq_true rfl⟩ ⟨Nat.zero_le _, Nat.zero_le _⟩ ?_
  refine xa_if_eq C dM_relay_6 (tgt := 16) rfl (fun h6 => ?_) (fun h6 => ?_)
  · exact absurd (sg_nI hn h1 hi) (xb_eq0.mp h6)
  · refine xa_lload_n C dM_relay_9 rfl ?_
    refine xa_callS1 C (p_M_isNumber g l _ _) b_M_153 (xw_in wt_M_isNumber rfl) dM_relay_10 rfl (Nat.le_of_ble_eq_true rfl) ⟨Nat.le_of_ble_eq_true rfl, Nat.le_of_ble_eq_true rfl⟩ ⟨Nat.zero_le _, Nat.zero_le _⟩ ?_
    refine xa_if_ne C dM_relay_13 (tgt := 20) rfl (fun h13 => ?_) (fun h13 => ?_)
    · refine xa_aload_n C dM_relay_20 rfl ?_
      refine xa_iload_n C dM_relay_21 rfl ?_
      refine xa_callV1 C (p_M_isMember g l hn h1 hi) b_M_150 (xw_in wi_M_isMember rfl) e_M_isMember dM_relay_22 rfl rfl rfl rfl (Nat.le_of_ble_eq_true rfl) ⟨Nat.le_of_ble_eq_true rfl, Nat.le_of_ble_eq_true rfl⟩ ⟨Nat.zero_le _, Nat.zero_le _⟩ ?_
      refine xa_if_eq C dM_relay_25 (tgt := 48) rfl (fun h25 => ?_) (fun h25 => ?_)
      · exact absurd hm (xb_eq0.mp h25)
      · refine xa_aload_n C dM_relay_28 rfl ?_
        refine xa_get C f_M_47 dM_relay_29 rfl rfl ?_
        refine xa_iload_n C dM_relay_32 rfl ?_
        refine xa_baloadN C dM_relay_33 rfl ?_ (by omega) ?_
        · omega
        refine xa_if_eq C dM_relay_34 (tgt := 48) rfl (fun h34 => ?_) (fun h34 => ?_)
        · exact absurd h34 hmz
        · refine xa_aload_n C dM_relay_37 rfl ?_
          refine xa_get C f_M_110 dM_relay_38 rfl rfl ?_
          refine xa_iload_n C dM_relay_41 rfl ?_
          refine xa_callS1 C (p_M_inN g l _ (by omega) (by omega) _) b_M_89 (xw_in wt_M_in rfl) dM_relay_42 rfl (Nat.le_of_ble_eq_true rfl) ⟨Nat.le_of_ble_eq_true rfl, Nat.le_of_ble_eq_true rfl⟩ ⟨Nat.zero_le _, Nat.zero_le _⟩ ?_
          refine xa_if_eq C dM_relay_45 (tgt := 52) rfl (fun h45 => ?_) (fun h45 => ?_)
          · exact absurd ht9 (xb_eq0.mp h45)
          · refine xa_icN C 2 dM_relay_48 ?_
            refine xa_goto C dM_relay_49 (tgt := 53) rfl ?_
            refine xa_put C f_M_63 u_M_0 dM_relay_53 rfl (Nat.le_of_ble_eq_true rfl) rfl rfl (fun _ h => by cases h) ?_
            refine xa_aload_n C dM_relay_56 rfl ?_
            refine xa_get C f_M_63 dM_relay_57 rfl rfl ?_
            refine xa_if_ne C dM_relay_60 (tgt := 87) rfl (fun h60 => ?_) (fun h60 => ?_)
            · refine xa_icN C 0 dM_relay_87 ?_
              exact xa_eq rfl rfl rfl (xa_zret C hr hk (by first | exact xb_nar _ | rfl) dM_relay_88)
            · exact absurd h60 (by decide)
    · exact absurd (nm_lt hz) (xb_eq0.mp h13)
set_option maxHeartbeats 4000000 in
set_option maxRecDepth 100000 in
theorem p_M_relay_t (g : xw_G) (l : Launch) {c0 c1 c2 c3 c4 c5 c6 c7 c8 c9 c10 c11 c12 c13 c14 c15 : va_E} {n t : Nat} {se ke f1 f2 e1 e2 y1 y2 fa we sh to : Nat → Nat} {oz sz mz : Nat → Int32} {th dl ms tk bl : Int32} {al ch : Nat} {mi : Int64} {rest : List va_E} (hn : n ≤ 6) {i : Nat} (h1 : 1 ≤ i) (hi : i ≤ n) (hse : ∀ j, se j < 2 ^ 31) (hke : ∀ j, ke j < 2 ^ 31) (hf1 : ∀ j, f1 j < 2 ^ 31) (hf2 : ∀ j, f2 j < 2 ^ 31) (he1 : ∀ j, e1 j < 2 ^ 31) (he2 : ∀ j, e2 j < 2 ^ 31) (hy1 : ∀ j, y1 j < 2 ^ 31) (hy2 : ∀ j, y2 j < 2 ^ 31) (hfa : ∀ j, fa j < 2 ^ 30) (hwe : ∀ j, we j < 2 ^ 31) (hsh : ∀ j, sh j < 2 ^ 31) (hto : ∀ j, to j < 2 ^ 31) (hal : al < 2 ^ 31) (hch : ch < 2 ^ 31) {z : Nat} (hz : z < 1073741789) (hm : hs ms i = true) (hmz : ¬ mz i = 0) (ht9 : hs tk i = false) (hR : 4 ^ ((sh i + z) % 1073741789) % 2147483579 = y1 i * (y2 i ^ fa i % 2147483579) % 2147483579 * (ke i ^ (ch * we i % 1073741789) % 2147483579) % 2147483579) : xm_R g l false m_M_relay [.ref 16, .int (nI i), .long (lN z)] (hQ c0 c1 c2 c3 c4 c5 c6 c7 c8 c9 c10 c11 c12 c13 c14 c15 (hM g th n t dl se ke oz f1 f2 e1 e2 ms al ch y1 y2 fa we sz mz sh to tk bl mi ++ rest)) (some (.int 1)) (hQ c0 c1 c2 c3 c4 c5 c6 c7 c8 c9 c10 c11 c12 c13 c14 c15 (hM g (nI 0) n t dl se ke oz f1 f2 e1 e2 ms al ch y1 y2 fa we sz mz sh (va_up to i ((sh i + z) % 1073741789)) (tk ||| on_ i) bl mi ++ rest)) := by
  refine xm_of [some (.ref 16), some (.int (nI i)), some (.long (lN z)), none] rfl (Nat.le_of_ble_eq_true rfl) rfl ?_
  intro p e s m args below meth c C hr hk
  refine xa_aload_n C dM_relay_0 rfl ?_
  refine xa_aload_n C dM_relay_1 rfl ?_
  refine xa_iload_n C dM_relay_2 rfl ?_
  refine xa_callV1 C (p_M_isSigner g l _) b_M_116 (xw_in wi_M_isSigner rfl) e_M_isSigner dM_relay_3 rfl rfl rfl rfl (Nat.le_of_ble_eq_true rfl) ⟨Nat.le_of_ble_eq_true rfl, Nat.le_of_ble_eq_true rfl⟩ ⟨Nat.zero_le _, Nat.zero_le _⟩ ?_
  refine xa_if_eq C dM_relay_6 (tgt := 16) rfl (fun h6 => ?_) (fun h6 => ?_)
  · exact absurd (sg_nI hn h1 hi) (xb_eq0.mp h6)
  · refine xa_lload_n C dM_relay_9 rfl ?_
    refine xa_callS1 C (p_M_isNumber g l _ _) b_M_153 (xw_in wt_M_isNumber rfl) dM_relay_10 rfl (Nat.le_of_ble_eq_true rfl) ⟨Nat.le_of_ble_eq_true rfl, Nat.le_of_ble_eq_true rfl⟩ ⟨Nat.zero_le _, Nat.zero_le _⟩ ?_
    refine xa_if_ne C dM_relay_13 (tgt := 20) rfl (fun h13 => ?_) (fun h13 => ?_)
    · refine xa_aload_n C dM_relay_20 rfl ?_
      refine xa_iload_n C dM_relay_21 rfl ?_
      refine xa_callV1 C (p_M_isMember g l hn h1 hi) b_M_150 (xw_in wi_M_isMember rfl) e_M_isMember dM_relay_22 rfl rfl rfl rfl (Nat.le_of_ble_eq_true rfl) ⟨Nat.le_of_ble_eq_true rfl, Nat.le_of_ble_eq_true rfl⟩ ⟨Nat.zero_le _, Nat.zero_le _⟩ ?_
      refine xa_if_eq C dM_relay_25 (tgt := 48) rfl (fun h25 => ?_) (fun h25 => ?_)
      · exact absurd hm (xb_eq0.mp h25)
      · refine xa_aload_n C dM_relay_28 rfl ?_
        refine xa_get C f_M_47 dM_relay_29 rfl rfl ?_
        refine xa_iload_n C dM_relay_32 rfl ?_
        refine xa_baloadN C dM_relay_33 rfl ?_ (by omega) ?_
        · omega
        refine xa_if_eq C dM_relay_34 (tgt := 48) rfl (fun h34 => ?_) (fun h34 => ?_)
        · exact absurd h34 hmz
        · refine xa_aload_n C dM_relay_37 rfl ?_
          refine xa_get C f_M_110 dM_relay_38 rfl rfl ?_
          refine xa_iload_n C dM_relay_41 rfl ?_
          refine xa_callS1 C (p_M_inN g l _ (by omega) (by omega) _) b_M_89 (xw_in wt_M_in rfl) dM_relay_42 rfl (Nat.le_of_ble_eq_true rfl) ⟨Nat.le_of_ble_eq_true rfl, Nat.le_of_ble_eq_true rfl⟩ ⟨Nat.zero_le _, Nat.zero_le _⟩ ?_
          refine xa_if_eq C dM_relay_45 (tgt := 52) rfl (fun h45 => ?_) (fun h45 => ?_)
          · refine xa_icN C 0 dM_relay_52 ?_
            refine xa_put C f_M_63 u_M_0 dM_relay_53 rfl (Nat.le_of_ble_eq_true rfl) rfl rfl (fun _ h => by cases h) ?_
            refine xa_aload_n C dM_relay_56 rfl ?_
            refine xa_get C f_M_63 dM_relay_57 rfl rfl ?_
            refine xa_if_ne C dM_relay_60 (tgt := 87) rfl (fun h60 => ?_) (fun h60 => ?_)
            · exact absurd rfl h60
            · refine xa_aload_n C dM_relay_63 rfl ?_
              refine xa_iload_n C dM_relay_64 rfl ?_
              refine xa_aload_n C dM_relay_65 rfl ?_
              refine xa_get C f_M_50 dM_relay_66 rfl rfl ?_
              refine xa_iload_n C dM_relay_69 rfl ?_
              refine xa_laloadN C dM_relay_70 rfl ?_ (by omega) ?_
              · omega
              refine xa_lload_n C dM_relay_71 rfl ?_
              refine xa_addN C dM_relay_72 ?_
              refine xa_ldcN C 1073741789 (xw_in wk_M_68 rfl) dM_relay_73 ?_
              refine xa_remN C dM_relay_76 (by first | (have := hsh i; omega) | omega) (by decide) (by decide) ?_
              refine xa_callV1 C (p_M_tell_t g l hn h1 hi hse hke hf1 hf2 he1 he2 hy1 hy2 hfa hwe hsh hto hal hch (by first | omega | exact Nat.lt_trans (Nat.mod_lt _ (by decide)) (by decide)) hR) b_M_157 (xw_in wi_M_tell rfl) e_M_tell dM_relay_77 rfl rfl rfl rfl (Nat.le_of_ble_eq_true rfl) ⟨Nat.le_of_ble_eq_true rfl, Nat.le_of_ble_eq_true rfl⟩ ⟨Nat.zero_le _, Nat.zero_le _⟩ ?_
              refine xa_if_eq C dM_relay_80 (tgt := 87) rfl (fun h80 => ?_) (fun h80 => ?_)
              · exact absurd h80 (by decide)
              · refine xa_icN C 1 dM_relay_83 ?_
                refine xa_goto C dM_relay_84 (tgt := 88) rfl ?_
                exact xa_eq rfl rfl rfl (xa_zret C hr hk (by first | exact xb_nar _ | rfl) dM_relay_88)
          · exact absurd (xb_f (by rw [ht9]; decide)) h45
    · exact absurd (nm_lt hz) (xb_eq0.mp h13)
set_option maxHeartbeats 4000000 in
set_option maxRecDepth 100000 in
theorem p_M_relay_f (g : xw_G) (l : Launch) {c0 c1 c2 c3 c4 c5 c6 c7 c8 c9 c10 c11 c12 c13 c14 c15 : va_E} {n t : Nat} {se ke f1 f2 e1 e2 y1 y2 fa we sh to : Nat → Nat} {oz sz mz : Nat → Int32} {th dl ms tk bl : Int32} {al ch : Nat} {mi : Int64} {rest : List va_E} (hn : n ≤ 6) {i : Nat} (h1 : 1 ≤ i) (hi : i ≤ n) (hse : ∀ j, se j < 2 ^ 31) (hke : ∀ j, ke j < 2 ^ 31) (hf1 : ∀ j, f1 j < 2 ^ 31) (hf2 : ∀ j, f2 j < 2 ^ 31) (he1 : ∀ j, e1 j < 2 ^ 31) (he2 : ∀ j, e2 j < 2 ^ 31) (hy1 : ∀ j, y1 j < 2 ^ 31) (hy2 : ∀ j, y2 j < 2 ^ 31) (hfa : ∀ j, fa j < 2 ^ 30) (hwe : ∀ j, we j < 2 ^ 31) (hsh : ∀ j, sh j < 2 ^ 31) (hto : ∀ j, to j < 2 ^ 31) (hal : al < 2 ^ 31) (hch : ch < 2 ^ 31) {z : Nat} (hz : z < 1073741789) (hm : hs ms i = true) (hmz : ¬ mz i = 0) (ht9 : hs tk i = false) (hR : ¬ 4 ^ ((sh i + z) % 1073741789) % 2147483579 = y1 i * (y2 i ^ fa i % 2147483579) % 2147483579 * (ke i ^ (ch * we i % 1073741789) % 2147483579) % 2147483579) : xm_R g l false m_M_relay [.ref 16, .int (nI i), .long (lN z)] (hQ c0 c1 c2 c3 c4 c5 c6 c7 c8 c9 c10 c11 c12 c13 c14 c15 (hM g th n t dl se ke oz f1 f2 e1 e2 ms al ch y1 y2 fa we sz mz sh to tk bl mi ++ rest)) (some (.int 0)) (hQ c0 c1 c2 c3 c4 c5 c6 c7 c8 c9 c10 c11 c12 c13 c14 c15 (hM g (nI 0) n t dl se ke oz f1 f2 e1 e2 ms al ch y1 y2 fa we sz mz sh to tk (bl ||| on_ i) mi ++ rest)) := by
  refine xm_of [some (.ref 16), some (.int (nI i)), some (.long (lN z)), none] rfl (Nat.le_of_ble_eq_true rfl) rfl ?_
  intro p e s m args below meth c C hr hk
  refine xa_aload_n C dM_relay_0 rfl ?_
  refine xa_aload_n C dM_relay_1 rfl ?_
  refine xa_iload_n C dM_relay_2 rfl ?_
  refine xa_callV1 C (p_M_isSigner g l _) b_M_116 (xw_in wi_M_isSigner rfl) e_M_isSigner dM_relay_3 rfl rfl rfl rfl (Nat.le_of_ble_eq_true rfl) ⟨Nat.le_of_ble_eq_true rfl, Nat.le_of_ble_eq_true rfl⟩ ⟨Nat.zero_le _, Nat.zero_le _⟩ ?_
  refine xa_if_eq C dM_relay_6 (tgt := 16) rfl (fun h6 => ?_) (fun h6 => ?_)
  · exact absurd (sg_nI hn h1 hi) (xb_eq0.mp h6)
  · refine xa_lload_n C dM_relay_9 rfl ?_
    refine xa_callS1 C (p_M_isNumber g l _ _) b_M_153 (xw_in wt_M_isNumber rfl) dM_relay_10 rfl (Nat.le_of_ble_eq_true rfl) ⟨Nat.le_of_ble_eq_true rfl, Nat.le_of_ble_eq_true rfl⟩ ⟨Nat.zero_le _, Nat.zero_le _⟩ ?_
    refine xa_if_ne C dM_relay_13 (tgt := 20) rfl (fun h13 => ?_) (fun h13 => ?_)
    · refine xa_aload_n C dM_relay_20 rfl ?_
      refine xa_iload_n C dM_relay_21 rfl ?_
      refine xa_callV1 C (p_M_isMember g l hn h1 hi) b_M_150 (xw_in wi_M_isMember rfl) e_M_isMember dM_relay_22 rfl rfl rfl rfl (Nat.le_of_ble_eq_true rfl) ⟨Nat.le_of_ble_eq_true rfl, Nat.le_of_ble_eq_true rfl⟩ ⟨Nat.zero_le _, Nat.zero_le _⟩ ?_
      refine xa_if_eq C dM_relay_25 (tgt := 48) rfl (fun h25 => ?_) (fun h25 => ?_)
      · exact absurd hm (xb_eq0.mp h25)
      · refine xa_aload_n C dM_relay_28 rfl ?_
        refine xa_get C f_M_47 dM_relay_29 rfl rfl ?_
        refine xa_iload_n C dM_relay_32 rfl ?_
        refine xa_baloadN C dM_relay_33 rfl ?_ (by omega) ?_
        · omega
        refine xa_if_eq C dM_relay_34 (tgt := 48) rfl (fun h34 => ?_) (fun h34 => ?_)
        · exact absurd h34 hmz
        · refine xa_aload_n C dM_relay_37 rfl ?_
          refine xa_get C f_M_110 dM_relay_38 rfl rfl ?_
          refine xa_iload_n C dM_relay_41 rfl ?_
          refine xa_callS1 C (p_M_inN g l _ (by omega) (by omega) _) b_M_89 (xw_in wt_M_in rfl) dM_relay_42 rfl (Nat.le_of_ble_eq_true rfl) ⟨Nat.le_of_ble_eq_true rfl, Nat.le_of_ble_eq_true rfl⟩ ⟨Nat.zero_le _, Nat.zero_le _⟩ ?_
          refine xa_if_eq C dM_relay_45 (tgt := 52) rfl (fun h45 => ?_) (fun h45 => ?_)
          · refine xa_icN C 0 dM_relay_52 ?_
            refine xa_put C f_M_63 u_M_0 dM_relay_53 rfl (Nat.le_of_ble_eq_true rfl) rfl rfl (fun _ h => by cases h) ?_
            refine xa_aload_n C dM_relay_56 rfl ?_
            refine xa_get C f_M_63 dM_relay_57 rfl rfl ?_
            refine xa_if_ne C dM_relay_60 (tgt := 87) rfl (fun h60 => ?_) (fun h60 => ?_)
            · exact absurd rfl h60
            · refine xa_aload_n C dM_relay_63 rfl ?_
              refine xa_iload_n C dM_relay_64 rfl ?_
              refine xa_aload_n C dM_relay_65 rfl ?_
              refine xa_get C f_M_50 dM_relay_66 rfl rfl ?_
              refine xa_iload_n C dM_relay_69 rfl ?_
              refine xa_laloadN C dM_relay_70 rfl ?_ (by omega) ?_
              · omega
              refine xa_lload_n C dM_relay_71 rfl ?_
              refine xa_addN C dM_relay_72 ?_
              refine xa_ldcN C 1073741789 (xw_in wk_M_68 rfl) dM_relay_73 ?_
              refine xa_remN C dM_relay_76 (by first | (have := hsh i; omega) | omega) (by decide) (by decide) ?_
              refine xa_callV1 C (p_M_tell_f g l hn h1 hi hse hke hf1 hf2 he1 he2 hy1 hy2 hfa hwe hsh hto hal hch (by first | omega | exact Nat.lt_trans (Nat.mod_lt _ (by decide)) (by decide)) hR) b_M_157 (xw_in wi_M_tell rfl) e_M_tell dM_relay_77 rfl rfl rfl rfl (Nat.le_of_ble_eq_true rfl) ⟨Nat.le_of_ble_eq_true rfl, Nat.le_of_ble_eq_true rfl⟩ ⟨Nat.zero_le _, Nat.zero_le _⟩ ?_
              refine xa_if_eq C dM_relay_80 (tgt := 87) rfl (fun h80 => ?_) (fun h80 => ?_)
              · refine xa_icN C 0 dM_relay_87 ?_
                exact xa_eq rfl rfl rfl (xa_zret C hr hk (by first | exact xb_nar _ | rfl) dM_relay_88)
              · exact absurd rfl h80
          · exact absurd (xb_f (by rw [ht9]; decide)) h45
    · exact absurd (nm_lt hz) (xb_eq0.mp h13)
