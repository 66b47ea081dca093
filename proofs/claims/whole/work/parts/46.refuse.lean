/-! the bits counted (the JDK's own code), then the class's own tests and refusals -/
def us_ (x : Int32) (k : Nat) : Int32 := (x.toUInt32 >>> ((nI k).toUInt32 &&& Int32.toUInt32 31)).toInt32
def bc1 (x : Int32) : Int32 := x - (us_ x 1 &&& 1431655765)
def bc2 (x : Int32) : Int32 := (x &&& 858993459) + (us_ x 2 &&& 858993459)
def bc3 (x : Int32) : Int32 := (x + us_ x 4) &&& 252645135
def bc4 (x : Int32) : Int32 := x + us_ x 8
def bc5 (x : Int32) : Int32 := x + us_ x 16
def bc_ (x : Int32) : Int32 := bc5 (bc4 (bc3 (bc2 (bc1 x)))) &&& nI 63
set_option maxHeartbeats 4000000 in
set_option maxRecDepth 100000 in
theorem p_JI_bitCount (g : xw_G) (l : Launch) (x : Int32) (hp : List va_E) : xm_R g l true m_JI_bitCount [.int x] hp (some (.int (bc_ x))) hp := by
  refine xm_of [some (.int x)] rfl (Nat.le_of_ble_eq_true rfl) rfl ?_
  intro p e s m args below meth c C hr hk
  refine xa_iload_n C dJI_bitCount_0 rfl ?_
  refine xa_iload_n C dJI_bitCount_1 rfl ?_
  refine xa_icN C 1 dJI_bitCount_2 ?_
  refine xa_iushr C dJI_bitCount_3 ?_
  refine xa_ldcw C (xw_in wk_JI_265 rfl) dJI_bitCount_4 ?_
  refine xa_iand C dJI_bitCount_7 ?_
  refine xa_isub C dJI_bitCount_8 ?_
  refine xa_istore_n C dJI_bitCount_9 (Nat.le_of_ble_eq_true rfl) ?_
  refine xa_iload_n C dJI_bitCount_10 rfl ?_
  refine xa_ldcw C (xw_in wk_JI_266 rfl) dJI_bitCount_11 ?_
  refine xa_iand C dJI_bitCount_14 ?_
  refine xa_iload_n C dJI_bitCount_15 rfl ?_
  refine xa_icN C 2 dJI_bitCount_16 ?_
  refine xa_iushr C dJI_bitCount_17 ?_
  refine xa_ldcw C (xw_in wk_JI_266 rfl) dJI_bitCount_18 ?_
  refine xa_iand C dJI_bitCount_21 ?_
  refine xa_iadd C dJI_bitCount_22 ?_
  refine xa_istore_n C dJI_bitCount_23 (Nat.le_of_ble_eq_true rfl) ?_
  refine xa_iload_n C dJI_bitCount_24 rfl ?_
  refine xa_iload_n C dJI_bitCount_25 rfl ?_
  refine xa_icN C 4 dJI_bitCount_26 ?_
  refine xa_iushr C dJI_bitCount_27 ?_
  refine xa_iadd C dJI_bitCount_28 ?_
  refine xa_ldcw C (xw_in wk_JI_267 rfl) dJI_bitCount_29 ?_
  refine xa_iand C dJI_bitCount_32 ?_
  refine xa_istore_n C dJI_bitCount_33 (Nat.le_of_ble_eq_true rfl) ?_
  refine xa_iload_n C dJI_bitCount_34 rfl ?_
  refine xa_iload_n C dJI_bitCount_35 rfl ?_
  refine xa_bpN C 8 dJI_bitCount_36 (by decide) ?_
  refine xa_iushr C dJI_bitCount_38 ?_
  refine xa_iadd C dJI_bitCount_39 ?_
  refine xa_istore_n C dJI_bitCount_40 (Nat.le_of_ble_eq_true rfl) ?_
  refine xa_iload_n C dJI_bitCount_41 rfl ?_
  refine xa_iload_n C dJI_bitCount_42 rfl ?_
  refine xa_bpN C 16 dJI_bitCount_43 (by decide) ?_
  refine xa_iushr C dJI_bitCount_45 ?_
  refine xa_iadd C dJI_bitCount_46 ?_
  refine xa_istore_n C dJI_bitCount_47 (Nat.le_of_ble_eq_true rfl) ?_
  refine xa_iload_n C dJI_bitCount_48 rfl ?_
  refine xa_bpN C 63 dJI_bitCount_49 (by decide) ?_
  refine xa_iand C dJI_bitCount_51 ?_
  exact xa_iret C hr hk dJI_bitCount_52
abbrev sg (n : Nat) (i : Int32) : Prop := ¬ i < nI 1 ∧ ¬ nI n < i
theorem sg_of {n : Nat} {i : Int32} (hn : n ≤ 6) (h : sg n i) : ∃ j : Nat, 1 ≤ j ∧ j ≤ n ∧ i = nI j := by
  obtain ⟨h1, h2⟩ := h
  have h0 : ¬ i < 0 := fun q => h1 (by
    rw [Int32.lt_iff_toInt_lt] at q ⊢
    have : (nI 1).toInt = 1 := by decide
    have : (0 : Int32).toInt = 0 := by decide
    omega)
  obtain ⟨j, hj, rfl⟩ := nI_of h0
  refine ⟨j, ?_, ?_, rfl⟩
  · rcases Nat.lt_or_ge j 1 with q | q
    · exact absurd (nI_lt q (by omega)) h1
    · exact q
  · rcases Nat.lt_or_ge n j with q | q
    · exact absurd (nI_lt q hj) h2
    · exact q
theorem sg_nI {n j : Nat} (hn : n ≤ 6) (h1 : 1 ≤ j) (h : j ≤ n) : sg n (nI j) := ⟨nI_nlt h1 (by omega), nI_nlt h (by omega)⟩
abbrev xw_tr (l : Launch) : Prop := ∀ e : Env, l.admits e → e.platform.stackTraces = false
set_option maxHeartbeats 4000000 in
set_option maxRecDepth 100000 in
theorem p_S_isSigner (g : xw_G) (l : Launch) {n t : Nat} {co se ke f1 f2 e1 e2 x1 x2 fa we sh : Nat → Nat} {dn op ms ps md tk bl : Int32} {pr ch sm : Nat} {rest : List va_E} (x : Int32) : xm_R g l true m_S_isSigner [.ref 0, .int x] (hC g n t co se ke dn f1 f2 e1 e2 op x1 x2 fa we sh ms ps md tk bl pr ch sm ++ rest) (some (.int (xb (sg n x)))) (hC g n t co se ke dn f1 f2 e1 e2 op x1 x2 fa we sh ms ps md tk bl pr ch sm ++ rest) := by
  refine xm_of [some (.ref 0), some (.int x)] rfl (Nat.le_of_ble_eq_true rfl) rfl ?_
  intro p e s m args below meth c C hr hk
  refine xa_iload_n C dS_isSigner_0 rfl ?_
  refine xa_icN C 1 dS_isSigner_1 ?_
  refine xa_icmp_lt C dS_isSigner_2 (tgt := 17) rfl (fun h2 => ?_) (fun h2 => ?_)
  · refine xa_icN C 0 dS_isSigner_17 ?_
    exact xa_eq rfl (congrArg (fun z => [Value.int z]) (xb_f (P := sg n x) (fun q => q.1 h2)).symm) rfl (xa_zret C hr hk (xb_nar _) dS_isSigner_18)
  · refine xa_iload_n C dS_isSigner_5 rfl ?_
    refine xa_aload_n C dS_isSigner_6 rfl ?_
    refine xa_get C f_S_18 dS_isSigner_7 rfl rfl ?_
    refine xa_icmp_gt C dS_isSigner_10 (tgt := 17) rfl (fun h10 => ?_) (fun h10 => ?_)
    · refine xa_icN C 0 dS_isSigner_17 ?_
      exact xa_eq rfl (congrArg (fun z => [Value.int z]) (xb_f (P := sg n x) (fun q => q.2 h10)).symm) rfl (xa_zret C hr hk (xb_nar _) dS_isSigner_18)
    · refine xa_icN C 1 dS_isSigner_13 ?_
      refine xa_goto C dS_isSigner_14 (tgt := 18) rfl ?_
      exact xa_eq rfl (congrArg (fun z => [Value.int z]) (xb_t (P := sg n x) (⟨h2, h10⟩)).symm) rfl (xa_zret C hr hk (xb_nar _) dS_isSigner_18)
set_option maxHeartbeats 4000000 in
set_option maxRecDepth 100000 in
theorem p_S_isMember_no (g : xw_G) (l : Launch) {n t : Nat} {co se ke f1 f2 e1 e2 x1 x2 fa we sh : Nat → Nat} {dn op ms ps md tk bl : Int32} {pr ch sm : Nat} {rest : List va_E} (x : Int32) (hx : ¬ sg n x) : xm_R g l true m_S_isMember [.ref 0, .int x] (hC g n t co se ke dn f1 f2 e1 e2 op x1 x2 fa we sh ms ps md tk bl pr ch sm ++ rest) (some (.int 0)) (hC g n t co se ke dn f1 f2 e1 e2 op x1 x2 fa we sh ms ps md tk bl pr ch sm ++ rest) := by
  refine xm_of [some (.ref 0), some (.int x)] rfl (Nat.le_of_ble_eq_true rfl) rfl ?_
  intro p e s m args below meth c C hr hk
  refine xa_aload_n C dS_isMember_0 rfl ?_
  refine xa_iload_n C dS_isMember_1 rfl ?_
  refine xa_callV1 C (p_S_isSigner g l _) b_S_172 (xw_in wi_S_isSigner rfl) e_S_isSigner dS_isMember_2 rfl rfl rfl rfl (Nat.le_of_ble_eq_true rfl) ⟨Nat.le_of_ble_eq_true rfl, Nat.le_of_ble_eq_true rfl⟩ ⟨Nat.zero_le _, Nat.zero_le _⟩ ?_
  refine xa_if_eq C dS_isMember_5 (tgt := 26) rfl (fun h5 => ?_) (fun h5 => ?_)
  · refine xa_icN C 0 dS_isMember_26 ?_
    exact xa_zret C hr hk rfl dS_isMember_27
  · exact absurd (xb_f hx) h5
set_option maxHeartbeats 4000000 in
set_option maxRecDepth 100000 in
theorem p_S_isMember (g : xw_G) (l : Launch) {n t : Nat} {co se ke f1 f2 e1 e2 x1 x2 fa we sh : Nat → Nat} {dn op ms ps md tk bl : Int32} {pr ch sm : Nat} {rest : List va_E} (hn : n ≤ 6) {i : Nat} (h1 : 1 ≤ i) (hi : i ≤ n) : xm_R g l true m_S_isMember [.ref 0, .int (nI i)] (hC g n t co se ke dn f1 f2 e1 e2 op x1 x2 fa we sh ms ps md tk bl pr ch sm ++ rest) (some (.int (xb (hs ms i = true)))) (hC g n t co se ke dn f1 f2 e1 e2 op x1 x2 fa we sh ms ps md tk bl pr ch sm ++ rest) := by
  refine xm_of [some (.ref 0), some (.int (nI i))] rfl (Nat.le_of_ble_eq_true rfl) rfl ?_
  intro p e s m args below meth c C hr hk
  refine xa_aload_n C dS_isMember_0 rfl ?_
  refine xa_iload_n C dS_isMember_1 rfl ?_
  refine xa_callV1 C (p_S_isSigner g l _) b_S_172 (xw_in wi_S_isSigner rfl) e_S_isSigner dS_isMember_2 rfl rfl rfl rfl (Nat.le_of_ble_eq_true rfl) ⟨Nat.le_of_ble_eq_true rfl, Nat.le_of_ble_eq_true rfl⟩ ⟨Nat.zero_le _, Nat.zero_le _⟩ ?_
  refine xa_if_eq C dS_isMember_5 (tgt := 26) rfl (fun h5 => ?_) (fun h5 => ?_)
  · refine xa_icN C 0 dS_isMember_26 ?_
    exact xa_eq rfl (congrArg (fun z => [Value.int z]) (xb_f (P := hs ms i = true) (fun q => absurd (sg_nI hn h1 hi) (xb_eq0.mp h5))).symm) rfl (xa_zret C hr hk (xb_nar _) dS_isMember_27)
  · refine xa_aload_n C dS_isMember_8 rfl ?_
    refine xa_get C f_S_46 dS_isMember_9 rfl rfl ?_
    refine xa_get C f_S_199 dS_isMember_12 rfl rfl ?_
    refine xa_iload_n C dS_isMember_15 rfl ?_
    refine xa_callS1 C (p_I_hasN g l _ (by omega) (by omega) _) b_S_106 (xw_in wt_I_has rfl) dS_isMember_16 rfl (Nat.le_of_ble_eq_true rfl) ⟨Nat.le_of_ble_eq_true rfl, Nat.le_of_ble_eq_true rfl⟩ ⟨Nat.zero_le _, Nat.zero_le _⟩ ?_
    refine xa_if_eq C dS_isMember_19 (tgt := 26) rfl (fun h19 => ?_) (fun h19 => ?_)
    · refine xa_icN C 0 dS_isMember_26 ?_
      exact xa_eq rfl (congrArg (fun z => [Value.int z]) (xb_f (P := hs ms i = true) (by rw [xb_hs0 h19]; decide)).symm) rfl (xa_zret C hr hk (xb_nar _) dS_isMember_27)
    · refine xa_icN C 1 dS_isMember_22 ?_
      refine xa_goto C dS_isMember_23 (tgt := 27) rfl ?_
      exact xa_eq rfl (congrArg (fun z => [Value.int z]) (xb_t (P := hs ms i = true) (xb_hs1 h19)).symm) rfl (xa_zret C hr hk (xb_nar _) dS_isMember_27)
theorem tk_S_begin_20 : xt_ok "ThresholdSeal" 88 90 92 "java/lang/IllegalStateException" "a member has no open pair" ["java/lang/RuntimeException", "java/lang/Exception"] := ⟨xw_in wl_S_88 rfl, xw_in wz_JS rfl, xw_in wn_JS rfl, wq_S_90, by decide +kernel, by decide +kernel, by decide +kernel⟩
theorem tk_S_sign_19 : xt_ok "ThresholdSeal" 88 112 92 "java/lang/IllegalStateException" "no member of a session, or his pair is gone" ["java/lang/RuntimeException", "java/lang/Exception"] := ⟨xw_in wl_S_88 rfl, xw_in wz_JS rfl, xw_in wn_JS rfl, wq_S_112, by decide +kernel, by decide +kernel, by decide +kernel⟩
theorem tk_S_relay_29 : xt_ok "ThresholdSeal" 88 143 92 "java/lang/IllegalStateException" "the member made no share in this session" ["java/lang/RuntimeException", "java/lang/Exception"] := ⟨xw_in wl_S_88 rfl, xw_in wz_JS rfl, xw_in wn_JS rfl, wq_S_143, by decide +kernel, by decide +kernel, by decide +kernel⟩
theorem tk_S_requireSigner_8 : xt_ok "ThresholdSeal" 231 233 235 "java/lang/IllegalArgumentException" "no such signer" ["java/lang/RuntimeException", "java/lang/Exception"] := ⟨xw_in wl_S_231 rfl, xw_in wz_JA rfl, xw_in wn_JA rfl, wq_S_233, by decide +kernel, by decide +kernel, by decide +kernel⟩
theorem tk_S_requireNumber_7 : xt_ok "ThresholdSeal" 231 236 235 "java/lang/IllegalArgumentException" "no number" ["java/lang/RuntimeException", "java/lang/Exception"] := ⟨xw_in wl_S_231 rfl, xw_in wz_JA rfl, xw_in wn_JA rfl, wq_S_236, by decide +kernel, by decide +kernel, by decide +kernel⟩
theorem tk_S_requireEnough_20 : xt_ok "ThresholdSeal" 231 244 235 "java/lang/IllegalArgumentException" "a signer that there is none, or too few" ["java/lang/RuntimeException", "java/lang/Exception"] := ⟨xw_in wl_S_231 rfl, xw_in wz_JA rfl, xw_in wn_JA rfl, wq_S_244, by decide +kernel, by decide +kernel, by decide +kernel⟩
theorem tk_S_requireDealt_10 : xt_ok "ThresholdSeal" 88 246 92 "java/lang/IllegalStateException" "nothing is dealt" ["java/lang/RuntimeException", "java/lang/Exception"] := ⟨xw_in wl_S_88 rfl, xw_in wz_JS rfl, xw_in wn_JS rfl, wq_S_246, by decide +kernel, by decide +kernel, by decide +kernel⟩
theorem tk_S_requireUntaken_22 : xt_ok "ThresholdSeal" 88 248 92 "java/lang/IllegalStateException" "no member of a session, or his share is taken" ["java/lang/RuntimeException", "java/lang/Exception"] := ⟨xw_in wl_S_88 rfl, xw_in wz_JS rfl, xw_in wn_JS rfl, wq_S_248, by decide +kernel, by decide +kernel, by decide +kernel⟩
theorem tk_S_requireSealed_27 : xt_ok "ThresholdSeal" 88 250 92 "java/lang/IllegalStateException" "no session, or a share is not taken" ["java/lang/RuntimeException", "java/lang/Exception"] := ⟨xw_in wl_S_88 rfl, xw_in wz_JS rfl, xw_in wn_JS rfl, wq_S_250, by decide +kernel, by decide +kernel, by decide +kernel⟩
set_option maxHeartbeats 4000000 in
set_option maxRecDepth 100000 in
theorem p_S_requireSigner (g : xw_G) (l : Launch) {n t : Nat} {co se ke f1 f2 e1 e2 x1 x2 fa we sh : Nat → Nat} {dn op ms ps md tk bl : Int32} {pr ch sm : Nat} {rest : List va_E} (x : Int32) (hx : sg n x) : xm_R g l true m_S_requireSigner [.ref 0, .int x] (hC g n t co se ke dn f1 f2 e1 e2 op x1 x2 fa we sh ms ps md tk bl pr ch sm ++ rest) none (hC g n t co se ke dn f1 f2 e1 e2 op x1 x2 fa we sh ms ps md tk bl pr ch sm ++ rest) := by
  refine xm_of [some (.ref 0), some (.int x)] rfl (Nat.le_of_ble_eq_true rfl) rfl ?_
  intro p e s m args below meth c C hr hk
  refine xa_aload_n C dS_requireSigner_0 rfl ?_
  refine xa_iload_n C dS_requireSigner_1 rfl ?_
  refine xa_callV1 C (p_S_isSigner g l _) b_S_172 (xw_in wi_S_isSigner rfl) e_S_isSigner dS_requireSigner_2 rfl rfl rfl rfl (Nat.le_of_ble_eq_true rfl) ⟨Nat.le_of_ble_eq_true rfl, Nat.le_of_ble_eq_true rfl⟩ ⟨Nat.zero_le _, Nat.zero_le _⟩ ?_
  refine xa_if_ne C dS_requireSigner_5 (tgt := 18) rfl (fun h5 => ?_) (fun h5 => ?_)
  · exact xa_vret C hr hk dS_requireSigner_18
  · exact absurd hx (xb_eq0.mp h5)
set_option maxHeartbeats 4000000 in
set_option maxRecDepth 100000 in
theorem q_S_requireSigner (g : xw_G) {l : Launch} (htr : xw_tr l) {n t : Nat} {co se ke f1 f2 e1 e2 x1 x2 fa we sh : Nat → Nat} {dn op ms ps md tk bl : Int32} {pr ch sm : Nat} {rest : List va_E} (x : Int32) (hx : ¬ sg n x) : xt_R g l m_S_requireSigner [.ref 0, .int x] (hC g n t co se ke dn f1 f2 e1 e2 op x1 x2 fa we sh ms ps md tk bl pr ch sm ++ rest) "java/lang/IllegalArgumentException" := by
  refine xt_of [some (.ref 0), some (.int x)] rfl (Nat.le_of_ble_eq_true rfl) rfl ?_
  intro p e s m args below meth c C hE hk
  refine xa_aload_n C dS_requireSigner_0 rfl ?_
  refine xa_iload_n C dS_requireSigner_1 rfl ?_
  refine xa_callV1 C (p_S_isSigner g l _) b_S_172 (xw_in wi_S_isSigner rfl) e_S_isSigner dS_requireSigner_2 rfl rfl rfl rfl (Nat.le_of_ble_eq_true rfl) ⟨Nat.le_of_ble_eq_true rfl, Nat.le_of_ble_eq_true rfl⟩ ⟨Nat.zero_le _, Nat.zero_le _⟩ ?_
  refine xa_if_ne C dS_requireSigner_5 (tgt := 18) rfl (fun h5 => ?_) (fun h5 => ?_)
  · exact absurd (xb_f hx) h5
  · exact xa_throw C htr hE hk tk_S_requireSigner_8 dS_requireSigner_8 dS_requireSigner_11 dS_requireSigner_12 dS_requireSigner_14 dS_requireSigner_17 ⟨Nat.le_of_ble_eq_true rfl, Nat.le_of_ble_eq_true rfl⟩ ⟨Nat.le_of_ble_eq_true rfl, Nat.le_of_ble_eq_true rfl⟩
set_option maxHeartbeats 4000000 in
set_option maxRecDepth 100000 in
theorem p_S_requireNumber (g : xw_G) (l : Launch) {n t : Nat} {co se ke f1 f2 e1 e2 x1 x2 fa we sh : Nat → Nat} {dn op ms ps md tk bl : Int32} {pr ch sm : Nat} {rest : List va_E} (x : Int64) (hx : 0 ≤ x ∧ x < 1073741789) : xm_R g l true m_S_requireNumber [.ref 0, .long x] (hC g n t co se ke dn f1 f2 e1 e2 op x1 x2 fa we sh ms ps md tk bl pr ch sm ++ rest) none (hC g n t co se ke dn f1 f2 e1 e2 op x1 x2 fa we sh ms ps md tk bl pr ch sm ++ rest) := by
  refine xm_of [some (.ref 0), some (.long x), none] rfl (Nat.le_of_ble_eq_true rfl) rfl ?_
  intro p e s m args below meth c C hr hk
  refine xa_lload_n C dS_requireNumber_0 rfl ?_
  refine xa_callS1 C (p_N_isNumber g l _ _) b_S_214 (xw_in wt_N_isNumber rfl) dS_requireNumber_1 rfl (Nat.le_of_ble_eq_true rfl) ⟨Nat.le_of_ble_eq_true rfl, Nat.le_of_ble_eq_true rfl⟩ ⟨Nat.zero_le _, Nat.zero_le _⟩ ?_
  refine xa_if_ne C dS_requireNumber_4 (tgt := 17) rfl (fun h4 => ?_) (fun h4 => ?_)
  · exact xa_vret C hr hk dS_requireNumber_17
  · exact absurd hx (xb_eq0.mp h4)
set_option maxHeartbeats 4000000 in
set_option maxRecDepth 100000 in
theorem q_S_requireNumber (g : xw_G) {l : Launch} (htr : xw_tr l) {n t : Nat} {co se ke f1 f2 e1 e2 x1 x2 fa we sh : Nat → Nat} {dn op ms ps md tk bl : Int32} {pr ch sm : Nat} {rest : List va_E} (x : Int64) (hx : ¬ (0 ≤ x ∧ x < 1073741789)) : xt_R g l m_S_requireNumber [.ref 0, .long x] (hC g n t co se ke dn f1 f2 e1 e2 op x1 x2 fa we sh ms ps md tk bl pr ch sm ++ rest) "java/lang/IllegalArgumentException" := by
  refine xt_of [some (.ref 0), some (.long x), none] rfl (Nat.le_of_ble_eq_true rfl) rfl ?_
  intro p e s m args below meth c C hE hk
  refine xa_lload_n C dS_requireNumber_0 rfl ?_
  refine xa_callS1 C (p_N_isNumber g l _ _) b_S_214 (xw_in wt_N_isNumber rfl) dS_requireNumber_1 rfl (Nat.le_of_ble_eq_true rfl) ⟨Nat.le_of_ble_eq_true rfl, Nat.le_of_ble_eq_true rfl⟩ ⟨Nat.zero_le _, Nat.zero_le _⟩ ?_
  refine xa_if_ne C dS_requireNumber_4 (tgt := 17) rfl (fun h4 => ?_) (fun h4 => ?_)
  · exact absurd (xb_f hx) h4
  · exact xa_throw C htr hE hk tk_S_requireNumber_7 dS_requireNumber_7 dS_requireNumber_10 dS_requireNumber_11 dS_requireNumber_13 dS_requireNumber_16 ⟨Nat.le_of_ble_eq_true rfl, Nat.le_of_ble_eq_true rfl⟩ ⟨Nat.le_of_ble_eq_true rfl, Nat.le_of_ble_eq_true rfl⟩
set_option maxHeartbeats 4000000 in
set_option maxRecDepth 100000 in
theorem p_S_requireDealt (g : xw_G) (l : Launch) {n t : Nat} {co se ke f1 f2 e1 e2 x1 x2 fa we sh : Nat → Nat} {dn op ms ps md tk bl : Int32} {pr ch sm : Nat} {rest : List va_E}  (hd : ¬ dn = 0) : xm_R g l true m_S_requireDealt [.ref 0] (hC g n t co se ke dn f1 f2 e1 e2 op x1 x2 fa we sh ms ps md tk bl pr ch sm ++ rest) none (hC g n t co se ke dn f1 f2 e1 e2 op x1 x2 fa we sh ms ps md tk bl pr ch sm ++ rest) := by
  refine xm_of [some (.ref 0)] rfl (Nat.le_of_ble_eq_true rfl) rfl ?_
  intro p e s m args below meth c C hr hk
  refine xa_aload_n C dS_requireDealt_0 rfl ?_
  refine xa_get C f_S_30 dS_requireDealt_1 rfl rfl ?_
  refine xa_get C f_S_157 dS_requireDealt_4 rfl rfl ?_
  refine xa_if_ne C dS_requireDealt_7 (tgt := 20) rfl (fun h7 => ?_) (fun h7 => ?_)
  · exact xa_vret C hr hk dS_requireDealt_20
  · exact absurd h7 hd
set_option maxHeartbeats 4000000 in
set_option maxRecDepth 100000 in
theorem q_S_requireDealt (g : xw_G) {l : Launch} (htr : xw_tr l) {n t : Nat} {co se ke f1 f2 e1 e2 x1 x2 fa we sh : Nat → Nat} {dn op ms ps md tk bl : Int32} {pr ch sm : Nat} {rest : List va_E}  (hd : dn = 0) : xt_R g l m_S_requireDealt [.ref 0] (hC g n t co se ke dn f1 f2 e1 e2 op x1 x2 fa we sh ms ps md tk bl pr ch sm ++ rest) "java/lang/IllegalStateException" := by
  refine xt_of [some (.ref 0)] rfl (Nat.le_of_ble_eq_true rfl) rfl ?_
  intro p e s m args below meth c C hE hk
  refine xa_aload_n C dS_requireDealt_0 rfl ?_
  refine xa_get C f_S_30 dS_requireDealt_1 rfl rfl ?_
  refine xa_get C f_S_157 dS_requireDealt_4 rfl rfl ?_
  refine xa_if_ne C dS_requireDealt_7 (tgt := 20) rfl (fun h7 => ?_) (fun h7 => ?_)
  · exact absurd hd h7
  · exact xa_throw C htr hE hk tk_S_requireDealt_10 dS_requireDealt_10 dS_requireDealt_13 dS_requireDealt_14 dS_requireDealt_16 dS_requireDealt_19 ⟨Nat.le_of_ble_eq_true rfl, Nat.le_of_ble_eq_true rfl⟩ ⟨Nat.le_of_ble_eq_true rfl, Nat.le_of_ble_eq_true rfl⟩
abbrev en (n t : Nat) (x : Int32) : Prop := us_ x n = 0 ∧ nI t ≤ bc_ x
set_option maxHeartbeats 4000000 in
set_option maxRecDepth 100000 in
theorem p_S_requireEnough (g : xw_G) (l : Launch) {n t : Nat} {co se ke f1 f2 e1 e2 x1 x2 fa we sh : Nat → Nat} {dn op ms ps md tk bl : Int32} {pr ch sm : Nat} {rest : List va_E} (x : Int32) (hx : en n t x) : xm_R g l true m_S_requireEnough [.ref 0, .int x] (hC g n t co se ke dn f1 f2 e1 e2 op x1 x2 fa we sh ms ps md tk bl pr ch sm ++ rest) none (hC g n t co se ke dn f1 f2 e1 e2 op x1 x2 fa we sh ms ps md tk bl pr ch sm ++ rest) := by
  refine xm_of [some (.ref 0), some (.int x)] rfl (Nat.le_of_ble_eq_true rfl) rfl ?_
  intro p e s m args below meth c C hr hk
  refine xa_iload_n C dS_requireEnough_0 rfl ?_
  refine xa_aload_n C dS_requireEnough_1 rfl ?_
  refine xa_get C f_S_18 dS_requireEnough_2 rfl rfl ?_
  refine xa_iushr C dS_requireEnough_5 ?_
  refine xa_if_ne C dS_requireEnough_6 (tgt := 20) rfl (fun h6 => ?_) (fun h6 => ?_)
  · exact absurd hx.1 h6
  · refine xa_iload_n C dS_requireEnough_9 rfl ?_
    refine xa_callS1 C (p_JI_bitCount g l _ _) b_S_238 (xw_in wt_JI_bitCount rfl) dS_requireEnough_10 rfl (Nat.le_of_ble_eq_true rfl) ⟨Nat.le_of_ble_eq_true rfl, Nat.le_of_ble_eq_true rfl⟩ ⟨Nat.zero_le _, Nat.zero_le _⟩ ?_
    refine xa_aload_n C dS_requireEnough_13 rfl ?_
    refine xa_get C f_S_22 dS_requireEnough_14 rfl rfl ?_
    refine xa_icmp_ge C dS_requireEnough_17 (tgt := 30) rfl (fun h17 => ?_) (fun h17 => ?_)
    · exact xa_vret C hr hk dS_requireEnough_30
    · exact absurd hx.2 h17
set_option maxHeartbeats 4000000 in
set_option maxRecDepth 100000 in
theorem q_S_requireEnough (g : xw_G) {l : Launch} (htr : xw_tr l) {n t : Nat} {co se ke f1 f2 e1 e2 x1 x2 fa we sh : Nat → Nat} {dn op ms ps md tk bl : Int32} {pr ch sm : Nat} {rest : List va_E} (x : Int32) (hx : ¬ en n t x) : xt_R g l m_S_requireEnough [.ref 0, .int x] (hC g n t co se ke dn f1 f2 e1 e2 op x1 x2 fa we sh ms ps md tk bl pr ch sm ++ rest) "java/lang/IllegalArgumentException" := by
  refine xt_of [some (.ref 0), some (.int x)] rfl (Nat.le_of_ble_eq_true rfl) rfl ?_
  intro p e s m args below meth c C hE hk
  refine xa_iload_n C dS_requireEnough_0 rfl ?_
  refine xa_aload_n C dS_requireEnough_1 rfl ?_
  refine xa_get C f_S_18 dS_requireEnough_2 rfl rfl ?_
  refine xa_iushr C dS_requireEnough_5 ?_
  refine xa_if_ne C dS_requireEnough_6 (tgt := 20) rfl (fun h6 => ?_) (fun h6 => ?_)
  · exact xa_throw C htr hE hk tk_S_requireEnough_20 dS_requireEnough_20 dS_requireEnough_23 dS_requireEnough_24 dS_requireEnough_26 dS_requireEnough_29 ⟨Nat.le_of_ble_eq_true rfl, Nat.le_of_ble_eq_true rfl⟩ ⟨Nat.le_of_ble_eq_true rfl, Nat.le_of_ble_eq_true rfl⟩
  · refine xa_iload_n C dS_requireEnough_9 rfl ?_
    refine xa_callS1 C (p_JI_bitCount g l _ _) b_S_238 (xw_in wt_JI_bitCount rfl) dS_requireEnough_10 rfl (Nat.le_of_ble_eq_true rfl) ⟨Nat.le_of_ble_eq_true rfl, Nat.le_of_ble_eq_true rfl⟩ ⟨Nat.zero_le _, Nat.zero_le _⟩ ?_
    refine xa_aload_n C dS_requireEnough_13 rfl ?_
    refine xa_get C f_S_22 dS_requireEnough_14 rfl rfl ?_
    refine xa_icmp_ge C dS_requireEnough_17 (tgt := 30) rfl (fun h17 => ?_) (fun h17 => ?_)
    · exact absurd ⟨h6, h17⟩ hx
    · exact xa_throw C htr hE hk tk_S_requireEnough_20 dS_requireEnough_20 dS_requireEnough_23 dS_requireEnough_24 dS_requireEnough_26 dS_requireEnough_29 ⟨Nat.le_of_ble_eq_true rfl, Nat.le_of_ble_eq_true rfl⟩ ⟨Nat.le_of_ble_eq_true rfl, Nat.le_of_ble_eq_true rfl⟩
set_option maxHeartbeats 4000000 in
set_option maxRecDepth 100000 in
theorem p_S_requireUntaken (g : xw_G) (l : Launch) {n t : Nat} {co se ke f1 f2 e1 e2 x1 x2 fa we sh : Nat → Nat} {dn op ms ps md tk bl : Int32} {pr ch sm : Nat} {rest : List va_E} (hn : n ≤ 6) {i : Nat} (h1 : 1 ≤ i) (hi : i ≤ n) (hm : hs ms i = true) (hk9 : hs tk i = false) : xm_R g l true m_S_requireUntaken [.ref 0, .int (nI i)] (hC g n t co se ke dn f1 f2 e1 e2 op x1 x2 fa we sh ms ps md tk bl pr ch sm ++ rest) none (hC g n t co se ke dn f1 f2 e1 e2 op x1 x2 fa we sh ms ps md tk bl pr ch sm ++ rest) := by
  refine xm_of [some (.ref 0), some (.int (nI i))] rfl (Nat.le_of_ble_eq_true rfl) rfl ?_
  intro p e s m args below meth c C hr hk
  refine xa_aload_n C dS_requireUntaken_0 rfl ?_
  refine xa_iload_n C dS_requireUntaken_1 rfl ?_
  refine xa_callV1 C (p_S_isMember g l hn h1 hi) b_S_183 (xw_in wi_S_isMember rfl) e_S_isMember dS_requireUntaken_2 rfl rfl rfl rfl (Nat.le_of_ble_eq_true rfl) ⟨Nat.le_of_ble_eq_true rfl, Nat.le_of_ble_eq_true rfl⟩ ⟨Nat.zero_le _, Nat.zero_le _⟩ ?_
  refine xa_if_eq C dS_requireUntaken_5 (tgt := 22) rfl (fun h5 => ?_) (fun h5 => ?_)
  · exact absurd hm (xb_eq0.mp h5)
  · refine xa_aload_n C dS_requireUntaken_8 rfl ?_
    refine xa_get C f_S_46 dS_requireUntaken_9 rfl rfl ?_
    refine xa_get C f_S_202 dS_requireUntaken_12 rfl rfl ?_
    refine xa_iload_n C dS_requireUntaken_15 rfl ?_
    refine xa_callS1 C (p_I_hasN g l _ (by omega) (by omega) _) b_S_106 (xw_in wt_I_has rfl) dS_requireUntaken_16 rfl (Nat.le_of_ble_eq_true rfl) ⟨Nat.le_of_ble_eq_true rfl, Nat.le_of_ble_eq_true rfl⟩ ⟨Nat.zero_le _, Nat.zero_le _⟩ ?_
    refine xa_if_eq C dS_requireUntaken_19 (tgt := 32) rfl (fun h19 => ?_) (fun h19 => ?_)
    · exact xa_vret C hr hk dS_requireUntaken_32
    · exact absurd (xb_f (by rw [hk9]; decide)) h19
set_option maxHeartbeats 4000000 in
set_option maxRecDepth 100000 in
theorem q_S_requireUntaken (g : xw_G) {l : Launch} (htr : xw_tr l) {n t : Nat} {co se ke f1 f2 e1 e2 x1 x2 fa we sh : Nat → Nat} {dn op ms ps md tk bl : Int32} {pr ch sm : Nat} {rest : List va_E} (hn : n ≤ 6) {i : Nat} (h1 : 1 ≤ i) (hi : i ≤ n) (hm : hs ms i = false ∨ hs tk i = true) : xt_R g l m_S_requireUntaken [.ref 0, .int (nI i)] (hC g n t co se ke dn f1 f2 e1 e2 op x1 x2 fa we sh ms ps md tk bl pr ch sm ++ rest) "java/lang/IllegalStateException" := by
  refine xt_of [some (.ref 0), some (.int (nI i))] rfl (Nat.le_of_ble_eq_true rfl) rfl ?_
  intro p e s m args below meth c C hE hk
  refine xa_aload_n C dS_requireUntaken_0 rfl ?_
  refine xa_iload_n C dS_requireUntaken_1 rfl ?_
  refine xa_callV1 C (p_S_isMember g l hn h1 hi) b_S_183 (xw_in wi_S_isMember rfl) e_S_isMember dS_requireUntaken_2 rfl rfl rfl rfl (Nat.le_of_ble_eq_true rfl) ⟨Nat.le_of_ble_eq_true rfl, Nat.le_of_ble_eq_true rfl⟩ ⟨Nat.zero_le _, Nat.zero_le _⟩ ?_
  refine xa_if_eq C dS_requireUntaken_5 (tgt := 22) rfl (fun h5 => ?_) (fun h5 => ?_)
  · exact xa_throw C htr hE hk tk_S_requireUntaken_22 dS_requireUntaken_22 dS_requireUntaken_25 dS_requireUntaken_26 dS_requireUntaken_28 dS_requireUntaken_31 ⟨Nat.le_of_ble_eq_true rfl, Nat.le_of_ble_eq_true rfl⟩ ⟨Nat.le_of_ble_eq_true rfl, Nat.le_of_ble_eq_true rfl⟩
  · refine xa_aload_n C dS_requireUntaken_8 rfl ?_
    refine xa_get C f_S_46 dS_requireUntaken_9 rfl rfl ?_
    refine xa_get C f_S_202 dS_requireUntaken_12 rfl rfl ?_
    refine xa_iload_n C dS_requireUntaken_15 rfl ?_
    refine xa_callS1 C (p_I_hasN g l _ (by omega) (by omega) _) b_S_106 (xw_in wt_I_has rfl) dS_requireUntaken_16 rfl (Nat.le_of_ble_eq_true rfl) ⟨Nat.le_of_ble_eq_true rfl, Nat.le_of_ble_eq_true rfl⟩ ⟨Nat.zero_le _, Nat.zero_le _⟩ ?_
    refine xa_if_eq C dS_requireUntaken_19 (tgt := 32) rfl (fun h19 => ?_) (fun h19 => ?_)
    · have q1 := xb_hs1 h5
      have q2 := xb_hs0 h19
      rcases hm with q | q
      · rw [q] at q1; exact absurd q1 (by decide)
      · rw [q] at q2; exact absurd q2 (by decide)
    · exact xa_throw C htr hE hk tk_S_requireUntaken_22 dS_requireUntaken_22 dS_requireUntaken_25 dS_requireUntaken_26 dS_requireUntaken_28 dS_requireUntaken_31 ⟨Nat.le_of_ble_eq_true rfl, Nat.le_of_ble_eq_true rfl⟩ ⟨Nat.le_of_ble_eq_true rfl, Nat.le_of_ble_eq_true rfl⟩
set_option maxHeartbeats 4000000 in
set_option maxRecDepth 100000 in
theorem p_S_requireSealed (g : xw_G) (l : Launch) {n t : Nat} {co se ke f1 f2 e1 e2 x1 x2 fa we sh : Nat → Nat} {dn op ms ps md tk bl : Int32} {pr ch sm : Nat} {rest : List va_E} (h0 : ¬ ms = 0) (he : tk = ms) : xm_R g l true m_S_requireSealed [.ref 0] (hC g n t co se ke dn f1 f2 e1 e2 op x1 x2 fa we sh ms ps md tk bl pr ch sm ++ rest) none (hC g n t co se ke dn f1 f2 e1 e2 op x1 x2 fa we sh ms ps md tk bl pr ch sm ++ rest) := by
  refine xm_of [some (.ref 0)] rfl (Nat.le_of_ble_eq_true rfl) rfl ?_
  intro p e s m args below meth c C hr hk
  refine xa_aload_n C dS_requireSealed_0 rfl ?_
  refine xa_get C f_S_46 dS_requireSealed_1 rfl rfl ?_
  refine xa_callV1 C (p_X_isOn g l) b_S_192 (xw_in wi_X_isOn rfl) e_X_isOn dS_requireSealed_4 rfl rfl rfl rfl (Nat.le_of_ble_eq_true rfl) ⟨Nat.le_of_ble_eq_true rfl, Nat.le_of_ble_eq_true rfl⟩ ⟨Nat.zero_le _, Nat.zero_le _⟩ ?_
  refine xa_if_eq C dS_requireSealed_7 (tgt := 27) rfl (fun h7 => ?_) (fun h7 => ?_)
  · exact absurd h0 (xb_eq0.mp h7)
  · refine xa_aload_n C dS_requireSealed_10 rfl ?_
    refine xa_get C f_S_46 dS_requireSealed_11 rfl rfl ?_
    refine xa_get C f_S_202 dS_requireSealed_14 rfl rfl ?_
    refine xa_aload_n C dS_requireSealed_17 rfl ?_
    refine xa_get C f_S_46 dS_requireSealed_18 rfl rfl ?_
    refine xa_get C f_S_199 dS_requireSealed_21 rfl rfl ?_
    refine xa_icmp_eq C dS_requireSealed_24 (tgt := 37) rfl (fun h24 => ?_) (fun h24 => ?_)
    · exact xa_vret C hr hk dS_requireSealed_37
    · exact absurd he h24
set_option maxHeartbeats 4000000 in
set_option maxRecDepth 100000 in
theorem q_S_requireSealed (g : xw_G) {l : Launch} (htr : xw_tr l) {n t : Nat} {co se ke f1 f2 e1 e2 x1 x2 fa we sh : Nat → Nat} {dn op ms ps md tk bl : Int32} {pr ch sm : Nat} {rest : List va_E} (h0 : ms = 0 ∨ ¬ tk = ms) : xt_R g l m_S_requireSealed [.ref 0] (hC g n t co se ke dn f1 f2 e1 e2 op x1 x2 fa we sh ms ps md tk bl pr ch sm ++ rest) "java/lang/IllegalStateException" := by
  refine xt_of [some (.ref 0)] rfl (Nat.le_of_ble_eq_true rfl) rfl ?_
  intro p e s m args below meth c C hE hk
  refine xa_aload_n C dS_requireSealed_0 rfl ?_
  refine xa_get C f_S_46 dS_requireSealed_1 rfl rfl ?_
  refine xa_callV1 C (p_X_isOn g l) b_S_192 (xw_in wi_X_isOn rfl) e_X_isOn dS_requireSealed_4 rfl rfl rfl rfl (Nat.le_of_ble_eq_true rfl) ⟨Nat.le_of_ble_eq_true rfl, Nat.le_of_ble_eq_true rfl⟩ ⟨Nat.zero_le _, Nat.zero_le _⟩ ?_
  refine xa_if_eq C dS_requireSealed_7 (tgt := 27) rfl (fun h7 => ?_) (fun h7 => ?_)
  · exact xa_throw C htr hE hk tk_S_requireSealed_27 dS_requireSealed_27 dS_requireSealed_30 dS_requireSealed_31 dS_requireSealed_33 dS_requireSealed_36 ⟨Nat.le_of_ble_eq_true rfl, Nat.le_of_ble_eq_true rfl⟩ ⟨Nat.le_of_ble_eq_true rfl, Nat.le_of_ble_eq_true rfl⟩
  · refine xa_aload_n C dS_requireSealed_10 rfl ?_
    refine xa_get C f_S_46 dS_requireSealed_11 rfl rfl ?_
    refine xa_get C f_S_202 dS_requireSealed_14 rfl rfl ?_
    refine xa_aload_n C dS_requireSealed_17 rfl ?_
    refine xa_get C f_S_46 dS_requireSealed_18 rfl rfl ?_
    refine xa_get C f_S_199 dS_requireSealed_21 rfl rfl ?_
    refine xa_icmp_eq C dS_requireSealed_24 (tgt := 37) rfl (fun h24 => ?_) (fun h24 => ?_)
    · rcases h0 with q | q
      · exact absurd (xb_f (fun z => z q)) h7
      · exact absurd h24 q
    · exact xa_throw C htr hE hk tk_S_requireSealed_27 dS_requireSealed_27 dS_requireSealed_30 dS_requireSealed_31 dS_requireSealed_33 dS_requireSealed_36 ⟨Nat.le_of_ble_eq_true rfl, Nat.le_of_ble_eq_true rfl⟩ ⟨Nat.le_of_ble_eq_true rfl, Nat.le_of_ble_eq_true rfl⟩
