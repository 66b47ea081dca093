section
-- ===== PART A: goes FIRST, ahead of the names: the tables' words, and 'selects' of the private methods out of them =====
/-- a private method of a class that the tables say can be made, by its rows of tables_1 -/
def lw_okq (q : MethodName × Nat) : Prop := (q.1.cls ≠ "java/lang/invoke/MethodHandle" ∧ q.1.cls ≠ "java/lang/invoke/VarHandle") ∧ Cond.instantiable q.1.cls q.2 ∈ tables_1 ∧ Cond.privateMethod q.1 ∈ tables_1 ∧ Cond.instanceMethod q.1 ∈ tables_1
theorem lw_p0 : lw_okq (⟨"ThresholdSeal$Dealing", "valueAt", "(I)J"⟩, 6) := ⟨⟨by decide +kernel, by decide +kernel⟩, List.mem_of_getElem? (i := 32) (by decide +kernel), List.mem_of_getElem? (i := 185) (by decide +kernel), List.mem_of_getElem? (i := 186) (by decide +kernel)⟩
theorem lw_p1 : lw_okq (⟨"ThresholdSeal$Session", "reset", "(I)V"⟩, 14) := ⟨⟨by decide +kernel, by decide +kernel⟩, List.mem_of_getElem? (i := 90) (by decide +kernel), List.mem_of_getElem? (i := 215) (by decide +kernel), List.mem_of_getElem? (i := 216) (by decide +kernel)⟩
theorem lw_p2 : lw_okq (⟨"ThresholdSeal", "sealHolds", "(JJJ)Z"⟩, 5) := ⟨⟨by decide +kernel, by decide +kernel⟩, List.mem_of_getElem? (i := 18) (by decide +kernel), List.mem_of_getElem? (i := 227) (by decide +kernel), List.mem_of_getElem? (i := 228) (by decide +kernel)⟩
theorem lw_p3 : lw_okq (⟨"ThresholdSeal", "isSigner", "(I)Z"⟩, 5) := ⟨⟨by decide +kernel, by decide +kernel⟩, List.mem_of_getElem? (i := 18) (by decide +kernel), List.mem_of_getElem? (i := 248) (by decide +kernel), List.mem_of_getElem? (i := 249) (by decide +kernel)⟩
theorem lw_p4 : lw_okq (⟨"ThresholdSeal", "isMember", "(I)Z"⟩, 5) := ⟨⟨by decide +kernel, by decide +kernel⟩, List.mem_of_getElem? (i := 18) (by decide +kernel), List.mem_of_getElem? (i := 271) (by decide +kernel), List.mem_of_getElem? (i := 272) (by decide +kernel)⟩
theorem lw_p5 : lw_okq (⟨"ThresholdSeal", "requireSigner", "(I)V"⟩, 5) := ⟨⟨by decide +kernel, by decide +kernel⟩, List.mem_of_getElem? (i := 18) (by decide +kernel), List.mem_of_getElem? (i := 311) (by decide +kernel), List.mem_of_getElem? (i := 312) (by decide +kernel)⟩
theorem lw_p6 : lw_okq (⟨"java/lang/Throwable", "fillInStackTrace", "(I)Ljava/lang/Throwable;"⟩, 6) := ⟨⟨by decide +kernel, by decide +kernel⟩, List.mem_of_getElem? (i := 352) (by decide +kernel), List.mem_of_getElem? (i := 350) (by decide +kernel), List.mem_of_getElem? (i := 351) (by decide +kernel)⟩
theorem lw_p7 : lw_okq (⟨"ThresholdSeal", "requireDealt", "()V"⟩, 5) := ⟨⟨by decide +kernel, by decide +kernel⟩, List.mem_of_getElem? (i := 18) (by decide +kernel), List.mem_of_getElem? (i := 382) (by decide +kernel), List.mem_of_getElem? (i := 383) (by decide +kernel)⟩
theorem lw_p8 : lw_okq (⟨"ThresholdSeal", "requireEnough", "(I)V"⟩, 5) := ⟨⟨by decide +kernel, by decide +kernel⟩, List.mem_of_getElem? (i := 18) (by decide +kernel), List.mem_of_getElem? (i := 423) (by decide +kernel), List.mem_of_getElem? (i := 424) (by decide +kernel)⟩
theorem lw_p9 : lw_okq (⟨"ThresholdSeal$Session", "factorFor", "(IJJ)J"⟩, 14) := ⟨⟨by decide +kernel, by decide +kernel⟩, List.mem_of_getElem? (i := 90) (by decide +kernel), List.mem_of_getElem? (i := 444) (by decide +kernel), List.mem_of_getElem? (i := 445) (by decide +kernel)⟩
theorem lw_p10 : lw_okq (⟨"ThresholdSeal$Session", "toldPart", "(I)J"⟩, 14) := ⟨⟨by decide +kernel, by decide +kernel⟩, List.mem_of_getElem? (i := 90) (by decide +kernel), List.mem_of_getElem? (i := 464) (by decide +kernel), List.mem_of_getElem? (i := 465) (by decide +kernel)⟩
theorem lw_p11 : lw_okq (⟨"ThresholdSeal$Session", "keyExponent", "(I)J"⟩, 14) := ⟨⟨by decide +kernel, by decide +kernel⟩, List.mem_of_getElem? (i := 90) (by decide +kernel), List.mem_of_getElem? (i := 485) (by decide +kernel), List.mem_of_getElem? (i := 486) (by decide +kernel)⟩
theorem lw_p12 : lw_okq (⟨"ThresholdSeal", "requireNumber", "(J)V"⟩, 5) := ⟨⟨by decide +kernel, by decide +kernel⟩, List.mem_of_getElem? (i := 18) (by decide +kernel), List.mem_of_getElem? (i := 500) (by decide +kernel), List.mem_of_getElem? (i := 501) (by decide +kernel)⟩
theorem lw_p13 : lw_okq (⟨"ThresholdSeal", "requireUntaken", "(I)V"⟩, 5) := ⟨⟨by decide +kernel, by decide +kernel⟩, List.mem_of_getElem? (i := 18) (by decide +kernel), List.mem_of_getElem? (i := 505) (by decide +kernel), List.mem_of_getElem? (i := 506) (by decide +kernel)⟩
theorem lw_p14 : lw_okq (⟨"ThresholdSeal$Session", "isRight", "(IJJ)Z"⟩, 14) := ⟨⟨by decide +kernel, by decide +kernel⟩, List.mem_of_getElem? (i := 90) (by decide +kernel), List.mem_of_getElem? (i := 514) (by decide +kernel), List.mem_of_getElem? (i := 515) (by decide +kernel)⟩
theorem lw_p15 : lw_okq (⟨"ThresholdSeal", "requireSealed", "()V"⟩, 5) := ⟨⟨by decide +kernel, by decide +kernel⟩, List.mem_of_getElem? (i := 18) (by decide +kernel), List.mem_of_getElem? (i := 535) (by decide +kernel), List.mem_of_getElem? (i := 536) (by decide +kernel)⟩
def lw_privs_1 : List (MethodName × Nat) := [(⟨"ThresholdSeal$Dealing", "valueAt", "(I)J"⟩, 6), (⟨"ThresholdSeal$Session", "reset", "(I)V"⟩, 14), (⟨"ThresholdSeal", "sealHolds", "(JJJ)Z"⟩, 5), (⟨"ThresholdSeal", "isSigner", "(I)Z"⟩, 5), (⟨"ThresholdSeal", "isMember", "(I)Z"⟩, 5), (⟨"ThresholdSeal", "requireSigner", "(I)V"⟩, 5), (⟨"java/lang/Throwable", "fillInStackTrace", "(I)Ljava/lang/Throwable;"⟩, 6), (⟨"ThresholdSeal", "requireDealt", "()V"⟩, 5), (⟨"ThresholdSeal", "requireEnough", "(I)V"⟩, 5), (⟨"ThresholdSeal$Session", "factorFor", "(IJJ)J"⟩, 14), (⟨"ThresholdSeal$Session", "toldPart", "(I)J"⟩, 14), (⟨"ThresholdSeal$Session", "keyExponent", "(I)J"⟩, 14), (⟨"ThresholdSeal", "requireNumber", "(J)V"⟩, 5), (⟨"ThresholdSeal", "requireUntaken", "(I)V"⟩, 5), (⟨"ThresholdSeal$Session", "isRight", "(IJJ)Z"⟩, 14), (⟨"ThresholdSeal", "requireSealed", "()V"⟩, 5)]
theorem lw_r1 : ∀ q ∈ lw_privs_1, lw_okq q := List.forall_mem_cons.mpr ⟨lw_p0, List.forall_mem_cons.mpr ⟨lw_p1, List.forall_mem_cons.mpr ⟨lw_p2, List.forall_mem_cons.mpr ⟨lw_p3, List.forall_mem_cons.mpr ⟨lw_p4, List.forall_mem_cons.mpr ⟨lw_p5, List.forall_mem_cons.mpr ⟨lw_p6, List.forall_mem_cons.mpr ⟨lw_p7, List.forall_mem_cons.mpr ⟨lw_p8, List.forall_mem_cons.mpr ⟨lw_p9, List.forall_mem_cons.mpr ⟨lw_p10, List.forall_mem_cons.mpr ⟨lw_p11, List.forall_mem_cons.mpr ⟨lw_p12, List.forall_mem_cons.mpr ⟨lw_p13, List.forall_mem_cons.mpr ⟨lw_p14, List.forall_mem_cons.mpr ⟨lw_p15, fun _ h => absurd h List.not_mem_nil⟩⟩⟩⟩⟩⟩⟩⟩⟩⟩⟩⟩⟩⟩⟩⟩
theorem lw_p16 : lw_okq (⟨"ThresholdSealModel", "begins", "(J)V"⟩, 25) := ⟨⟨by decide +kernel, by decide +kernel⟩, List.mem_of_getElem? (i := 556) (by decide +kernel), List.mem_of_getElem? (i := 647) (by decide +kernel), List.mem_of_getElem? (i := 648) (by decide +kernel)⟩
theorem lw_p17 : lw_okq (⟨"ThresholdSealModel", "mix", "(J)V"⟩, 25) := ⟨⟨by decide +kernel, by decide +kernel⟩, List.mem_of_getElem? (i := 556) (by decide +kernel), List.mem_of_getElem? (i := 651) (by decide +kernel), List.mem_of_getElem? (i := 652) (by decide +kernel)⟩
theorem lw_p18 : lw_okq (⟨"ThresholdSealModel", "digest", "()J"⟩, 25) := ⟨⟨by decide +kernel, by decide +kernel⟩, List.mem_of_getElem? (i := 556) (by decide +kernel), List.mem_of_getElem? (i := 656) (by decide +kernel), List.mem_of_getElem? (i := 657) (by decide +kernel)⟩
theorem lw_p19 : lw_okq (⟨"ThresholdSealModel", "isSigner", "(I)Z"⟩, 25) := ⟨⟨by decide +kernel, by decide +kernel⟩, List.mem_of_getElem? (i := 556) (by decide +kernel), List.mem_of_getElem? (i := 671) (by decide +kernel), List.mem_of_getElem? (i := 672) (by decide +kernel)⟩
theorem lw_p20 : lw_okq (⟨"ThresholdSealModel", "pairNumber", "(JJI)J"⟩, 25) := ⟨⟨by decide +kernel, by decide +kernel⟩, List.mem_of_getElem? (i := 556) (by decide +kernel), List.mem_of_getElem? (i := 676) (by decide +kernel), List.mem_of_getElem? (i := 677) (by decide +kernel)⟩
theorem lw_p21 : lw_okq (⟨"ThresholdSealModel", "isSet", "(I)Z"⟩, 25) := ⟨⟨by decide +kernel, by decide +kernel⟩, List.mem_of_getElem? (i := 556) (by decide +kernel), List.mem_of_getElem? (i := 684) (by decide +kernel), List.mem_of_getElem? (i := 685) (by decide +kernel)⟩
theorem lw_p22 : lw_okq (⟨"ThresholdSealModel", "allOpen", "(I)Z"⟩, 25) := ⟨⟨by decide +kernel, by decide +kernel⟩, List.mem_of_getElem? (i := 556) (by decide +kernel), List.mem_of_getElem? (i := 691) (by decide +kernel), List.mem_of_getElem? (i := 692) (by decide +kernel)⟩
theorem lw_p23 : lw_okq (⟨"ThresholdSealModel", "factorOf", "(IJI)J"⟩, 25) := ⟨⟨by decide +kernel, by decide +kernel⟩, List.mem_of_getElem? (i := 556) (by decide +kernel), List.mem_of_getElem? (i := 695) (by decide +kernel), List.mem_of_getElem? (i := 696) (by decide +kernel)⟩
theorem lw_p24 : lw_okq (⟨"ThresholdSealModel", "weightIn", "(II)J"⟩, 25) := ⟨⟨by decide +kernel, by decide +kernel⟩, List.mem_of_getElem? (i := 556) (by decide +kernel), List.mem_of_getElem? (i := 699) (by decide +kernel), List.mem_of_getElem? (i := 700) (by decide +kernel)⟩
theorem lw_p25 : lw_okq (⟨"ThresholdSealModel", "challengeOf", "(JJ)J"⟩, 25) := ⟨⟨by decide +kernel, by decide +kernel⟩, List.mem_of_getElem? (i := 556) (by decide +kernel), List.mem_of_getElem? (i := 704) (by decide +kernel), List.mem_of_getElem? (i := 705) (by decide +kernel)⟩
theorem lw_p26 : lw_okq (⟨"ThresholdSealModel", "isMember", "(I)Z"⟩, 25) := ⟨⟨by decide +kernel, by decide +kernel⟩, List.mem_of_getElem? (i := 556) (by decide +kernel), List.mem_of_getElem? (i := 713) (by decide +kernel), List.mem_of_getElem? (i := 714) (by decide +kernel)⟩
theorem lw_p27 : lw_okq (⟨"ThresholdSealModel", "tell", "(IJ)Z"⟩, 25) := ⟨⟨by decide +kernel, by decide +kernel⟩, List.mem_of_getElem? (i := 556) (by decide +kernel), List.mem_of_getElem? (i := 724) (by decide +kernel), List.mem_of_getElem? (i := 725) (by decide +kernel)⟩
theorem lw_p28 : lw_okq (⟨"ThresholdSealModel", "isWhole", "()Z"⟩, 25) := ⟨⟨by decide +kernel, by decide +kernel⟩, List.mem_of_getElem? (i := 556) (by decide +kernel), List.mem_of_getElem? (i := 736) (by decide +kernel), List.mem_of_getElem? (i := 737) (by decide +kernel)⟩
theorem lw_p29 : lw_okq (⟨"ThresholdSealModel", "sum", "()J"⟩, 25) := ⟨⟨by decide +kernel, by decide +kernel⟩, List.mem_of_getElem? (i := 556) (by decide +kernel), List.mem_of_getElem? (i := 740) (by decide +kernel), List.mem_of_getElem? (i := 741) (by decide +kernel)⟩
theorem lw_p30 : lw_okq (⟨"ThresholdSealModel", "isSealOf", "(JJJ)Z"⟩, 25) := ⟨⟨by decide +kernel, by decide +kernel⟩, List.mem_of_getElem? (i := 556) (by decide +kernel), List.mem_of_getElem? (i := 748) (by decide +kernel), List.mem_of_getElem? (i := 749) (by decide +kernel)⟩
def lw_privs_2 : List (MethodName × Nat) := [(⟨"ThresholdSealModel", "begins", "(J)V"⟩, 25), (⟨"ThresholdSealModel", "mix", "(J)V"⟩, 25), (⟨"ThresholdSealModel", "digest", "()J"⟩, 25), (⟨"ThresholdSealModel", "isSigner", "(I)Z"⟩, 25), (⟨"ThresholdSealModel", "pairNumber", "(JJI)J"⟩, 25), (⟨"ThresholdSealModel", "isSet", "(I)Z"⟩, 25), (⟨"ThresholdSealModel", "allOpen", "(I)Z"⟩, 25), (⟨"ThresholdSealModel", "factorOf", "(IJI)J"⟩, 25), (⟨"ThresholdSealModel", "weightIn", "(II)J"⟩, 25), (⟨"ThresholdSealModel", "challengeOf", "(JJ)J"⟩, 25), (⟨"ThresholdSealModel", "isMember", "(I)Z"⟩, 25), (⟨"ThresholdSealModel", "tell", "(IJ)Z"⟩, 25), (⟨"ThresholdSealModel", "isWhole", "()Z"⟩, 25), (⟨"ThresholdSealModel", "sum", "()J"⟩, 25), (⟨"ThresholdSealModel", "isSealOf", "(JJJ)Z"⟩, 25)]
theorem lw_r2 : ∀ q ∈ lw_privs_2, lw_okq q := List.forall_mem_cons.mpr ⟨lw_p16, List.forall_mem_cons.mpr ⟨lw_p17, List.forall_mem_cons.mpr ⟨lw_p18, List.forall_mem_cons.mpr ⟨lw_p19, List.forall_mem_cons.mpr ⟨lw_p20, List.forall_mem_cons.mpr ⟨lw_p21, List.forall_mem_cons.mpr ⟨lw_p22, List.forall_mem_cons.mpr ⟨lw_p23, List.forall_mem_cons.mpr ⟨lw_p24, List.forall_mem_cons.mpr ⟨lw_p25, List.forall_mem_cons.mpr ⟨lw_p26, List.forall_mem_cons.mpr ⟨lw_p27, List.forall_mem_cons.mpr ⟨lw_p28, List.forall_mem_cons.mpr ⟨lw_p29, List.forall_mem_cons.mpr ⟨lw_p30, fun _ h => absurd h List.not_mem_nil⟩⟩⟩⟩⟩⟩⟩⟩⟩⟩⟩⟩⟩⟩⟩
def lw_privs : List (MethodName × Nat) := lw_privs_1 ++ (lw_privs_2)
def lw_tbl : List Cond := k2_sels lw_privs ++ tables_1
theorem lw_privs_ok : ∀ q ∈ lw_privs, lw_okq q := by
  show ∀ q ∈ lw_privs_1 ++ (lw_privs_2), lw_okq q
  exact List.forall_mem_append.mpr ⟨lw_r1, lw_r2⟩
end
section
/-! names, printed by wip/whole/gen_names.py -/
abbrev yS_init : MethodName := ⟨"ThresholdSeal", "<init>", "(II)V"⟩
abbrev yJO_init : MethodName := ⟨"java/lang/Object", "<init>", "()V"⟩
abbrev yJM_max : MethodName := ⟨"java/lang/Math", "max", "(II)I"⟩
abbrev yJM_min : MethodName := ⟨"java/lang/Math", "min", "(II)I"⟩
abbrev yD_init : MethodName := ⟨"ThresholdSeal$Dealing", "<init>", "(II)V"⟩
abbrev yP_init : MethodName := ⟨"ThresholdSeal$Pairs", "<init>", "(I)V"⟩
abbrev yX_init : MethodName := ⟨"ThresholdSeal$Session", "<init>", "(I)V"⟩
abbrev yS_deal : MethodName := ⟨"ThresholdSeal", "deal", "(J)J"⟩
abbrev yD_make : MethodName := ⟨"ThresholdSeal$Dealing", "make", "(J)V"⟩
abbrev yG_ofThree : MethodName := ⟨"ThresholdSeal$Digest", "ofThree", "(JJJ)J"⟩
abbrev yG_mix : MethodName := ⟨"ThresholdSeal$Digest", "mix", "(JJ)J"⟩
abbrev yG_finish : MethodName := ⟨"ThresholdSeal$Digest", "finish", "(J)J"⟩
abbrev yD_valueAt : MethodName := ⟨"ThresholdSeal$Dealing", "valueAt", "(I)J"⟩
abbrev yN_times : MethodName := ⟨"ThresholdSeal$Numbers", "times", "(JJ)J"⟩
abbrev yN_plus : MethodName := ⟨"ThresholdSeal$Numbers", "plus", "(JJ)J"⟩
abbrev yE_ofNumber : MethodName := ⟨"ThresholdSeal$Elements", "ofNumber", "(J)J"⟩
abbrev yE_power : MethodName := ⟨"ThresholdSeal$Elements", "power", "(JJ)J"⟩
abbrev yE_times : MethodName := ⟨"ThresholdSeal$Elements", "times", "(JJ)J"⟩
abbrev yP_dropAll : MethodName := ⟨"ThresholdSeal$Pairs", "dropAll", "()V"⟩
abbrev yX_end : MethodName := ⟨"ThresholdSeal$Session", "end", "()V"⟩
abbrev yX_reset : MethodName := ⟨"ThresholdSeal$Session", "reset", "(I)V"⟩
abbrev yD_keyOfAll : MethodName := ⟨"ThresholdSeal$Dealing", "keyOfAll", "()J"⟩
abbrev yS_check : MethodName := ⟨"ThresholdSeal", "check", "(JJJ)Z"⟩
abbrev yS_sealHolds : MethodName := ⟨"ThresholdSeal", "sealHolds", "(JJJ)Z"⟩
abbrev yE_isElement : MethodName := ⟨"ThresholdSeal$Elements", "isElement", "(J)Z"⟩
abbrev yN_isNumber : MethodName := ⟨"ThresholdSeal$Numbers", "isNumber", "(J)Z"⟩
abbrev yG_ofSeal : MethodName := ⟨"ThresholdSeal$Digest", "ofSeal", "(JJJ)J"⟩
abbrev yS_key : MethodName := ⟨"ThresholdSeal", "key", "(I)J"⟩
abbrev yS_isSigner : MethodName := ⟨"ThresholdSeal", "isSigner", "(I)Z"⟩
abbrev yS_secret : MethodName := ⟨"ThresholdSeal", "secret", "(I)J"⟩
abbrev yS_commitment : MethodName := ⟨"ThresholdSeal", "commitment", "(IZ)J"⟩
abbrev yI_has : MethodName := ⟨"ThresholdSeal$Signers", "has", "(II)Z"⟩
abbrev yI_only : MethodName := ⟨"ThresholdSeal$Signers", "only", "(I)I"⟩
abbrev yS_factor : MethodName := ⟨"ThresholdSeal", "factor", "(I)J"⟩
abbrev yS_isMember : MethodName := ⟨"ThresholdSeal", "isMember", "(I)Z"⟩
abbrev yS_weight : MethodName := ⟨"ThresholdSeal", "weight", "(I)J"⟩
abbrev yS_challenge : MethodName := ⟨"ThresholdSeal", "challenge", "()J"⟩
abbrev yX_isOn : MethodName := ⟨"ThresholdSeal$Session", "isOn", "()Z"⟩
abbrev yS_members : MethodName := ⟨"ThresholdSeal", "members", "()I"⟩
abbrev yS_taken : MethodName := ⟨"ThresholdSeal", "taken", "()I"⟩
abbrev yS_blamed : MethodName := ⟨"ThresholdSeal", "blamed", "()I"⟩
abbrev yL_cell : MethodName := ⟨"ThresholdSealLaw", "cell", "([II)I"⟩
abbrev yL_commit : MethodName := ⟨"ThresholdSealLaw", "commit", "(LThresholdSeal;IJ[J)I"⟩
abbrev yS_commit : MethodName := ⟨"ThresholdSeal", "commit", "(IJ)J"⟩
abbrev yS_requireSigner : MethodName := ⟨"ThresholdSeal", "requireSigner", "(I)V"⟩
abbrev yJR_init : MethodName := ⟨"java/lang/RuntimeException", "<init>", "()V"⟩
abbrev yJR_init2 : MethodName := ⟨"java/lang/RuntimeException", "<init>", "(Ljava/lang/String;)V"⟩
abbrev yJE_init : MethodName := ⟨"java/lang/Exception", "<init>", "()V"⟩
abbrev yJE_init2 : MethodName := ⟨"java/lang/Exception", "<init>", "(Ljava/lang/String;)V"⟩
abbrev yJT_init : MethodName := ⟨"java/lang/Throwable", "<init>", "()V"⟩
abbrev yJT_init2 : MethodName := ⟨"java/lang/Throwable", "<init>", "(Ljava/lang/String;)V"⟩
abbrev yJT_fillInStackTrace : MethodName := ⟨"java/lang/Throwable", "fillInStackTrace", "(I)Ljava/lang/Throwable;"⟩
abbrev yJT_fillInStackTrace2 : MethodName := ⟨"java/lang/Throwable", "fillInStackTrace", "()Ljava/lang/Throwable;"⟩
abbrev yJA_init : MethodName := ⟨"java/lang/IllegalArgumentException", "<init>", "(Ljava/lang/String;)V"⟩
abbrev yS_requireDealt : MethodName := ⟨"ThresholdSeal", "requireDealt", "()V"⟩
abbrev yJS_init : MethodName := ⟨"java/lang/IllegalStateException", "<init>", "(Ljava/lang/String;)V"⟩
abbrev yP_open : MethodName := ⟨"ThresholdSeal$Pairs", "open", "(IJ)V"⟩
abbrev yX_losePair : MethodName := ⟨"ThresholdSeal$Session", "losePair", "(I)V"⟩
abbrev yL_begin : MethodName := ⟨"ThresholdSealLaw", "begin", "(LThresholdSeal;IJ[J)I"⟩
abbrev yS_begin : MethodName := ⟨"ThresholdSeal", "begin", "(IJ)J"⟩
abbrev yS_requireEnough : MethodName := ⟨"ThresholdSeal", "requireEnough", "(I)V"⟩
abbrev yJI_bitCount : MethodName := ⟨"java/lang/Integer", "bitCount", "(I)I"⟩
abbrev yP_areOpen : MethodName := ⟨"ThresholdSeal$Pairs", "areOpen", "(I)Z"⟩
abbrev yX_start : MethodName := ⟨"ThresholdSeal$Session", "start", "(IJJLThresholdSeal$Pairs;)V"⟩
abbrev yX_factorFor : MethodName := ⟨"ThresholdSeal$Session", "factorFor", "(IJJ)J"⟩
abbrev yI_weightIn : MethodName := ⟨"ThresholdSeal$Signers", "weightIn", "(III)J"⟩
abbrev yN_minus : MethodName := ⟨"ThresholdSeal$Numbers", "minus", "(JJ)J"⟩
abbrev yN_inverse : MethodName := ⟨"ThresholdSeal$Numbers", "inverse", "(J)J"⟩
abbrev yX_toldPart : MethodName := ⟨"ThresholdSeal$Session", "toldPart", "(I)J"⟩
abbrev yL_sign : MethodName := ⟨"ThresholdSealLaw", "sign", "(LThresholdSeal;I[J)I"⟩
abbrev yS_sign : MethodName := ⟨"ThresholdSeal", "sign", "(I)J"⟩
abbrev yX_makeShare : MethodName := ⟨"ThresholdSeal$Session", "makeShare", "(IJLThresholdSeal$Pairs;)V"⟩
abbrev yX_keyExponent : MethodName := ⟨"ThresholdSeal$Session", "keyExponent", "(I)J"⟩
abbrev yP_drop : MethodName := ⟨"ThresholdSeal$Pairs", "drop", "(I)V"⟩
abbrev yL_submit : MethodName := ⟨"ThresholdSealLaw", "submit", "(LThresholdSeal;IJ[J)I"⟩
abbrev yS_submit : MethodName := ⟨"ThresholdSeal", "submit", "(IJ)Z"⟩
abbrev yS_requireNumber : MethodName := ⟨"ThresholdSeal", "requireNumber", "(J)V"⟩
abbrev yS_requireUntaken : MethodName := ⟨"ThresholdSeal", "requireUntaken", "(I)V"⟩
abbrev yX_tell : MethodName := ⟨"ThresholdSeal$Session", "tell", "(IJJ)Z"⟩
abbrev yX_isRight : MethodName := ⟨"ThresholdSeal$Session", "isRight", "(IJJ)Z"⟩
abbrev yL_relay : MethodName := ⟨"ThresholdSealLaw", "relay", "(LThresholdSeal;IJ[J)I"⟩
abbrev yS_relay : MethodName := ⟨"ThresholdSeal", "relay", "(IJ)Z"⟩
abbrev yL_seal : MethodName := ⟨"ThresholdSealLaw", "seal", "(LThresholdSeal;[J)I"⟩
abbrev yS_seal : MethodName := ⟨"ThresholdSeal", "seal", "()J"⟩
abbrev yS_requireSealed : MethodName := ⟨"ThresholdSeal", "requireSealed", "()V"⟩
abbrev yL_holds : MethodName := ⟨"ThresholdSealLaw", "holds", "(LThresholdSeal;JJ[J)I"⟩
abbrev yS_holds : MethodName := ⟨"ThresholdSeal", "holds", "(JJ)Z"⟩
abbrev yL_recover : MethodName := ⟨"ThresholdSealLaw", "recover", "(LThresholdSeal;I[J)I"⟩
abbrev yS_recover : MethodName := ⟨"ThresholdSeal", "recover", "(I)J"⟩
abbrev yM_init : MethodName := ⟨"ThresholdSealModel", "<init>", "(II)V"⟩
abbrev yM_thrown : MethodName := ⟨"ThresholdSealModel", "thrown", "()I"⟩
abbrev yM_deal : MethodName := ⟨"ThresholdSealModel", "deal", "(J)J"⟩
abbrev yM_begins : MethodName := ⟨"ThresholdSealModel", "begins", "(J)V"⟩
abbrev yM_mix : MethodName := ⟨"ThresholdSealModel", "mix", "(J)V"⟩
abbrev yM_digest : MethodName := ⟨"ThresholdSealModel", "digest", "()J"⟩
abbrev yM_power : MethodName := ⟨"ThresholdSealModel", "power", "(JJJ)J"⟩
abbrev yM_commit : MethodName := ⟨"ThresholdSealModel", "commit", "(IJ)J"⟩
abbrev yM_isSigner : MethodName := ⟨"ThresholdSealModel", "isSigner", "(I)Z"⟩
abbrev yM_pairNumber : MethodName := ⟨"ThresholdSealModel", "pairNumber", "(JJI)J"⟩
abbrev yM_begin : MethodName := ⟨"ThresholdSealModel", "begin", "(IJ)J"⟩
abbrev yM_isSet : MethodName := ⟨"ThresholdSealModel", "isSet", "(I)Z"⟩
abbrev yM_in : MethodName := ⟨"ThresholdSealModel", "in", "(II)Z"⟩
abbrev yM_allOpen : MethodName := ⟨"ThresholdSealModel", "allOpen", "(I)Z"⟩
abbrev yM_factorOf : MethodName := ⟨"ThresholdSealModel", "factorOf", "(IJI)J"⟩
abbrev yM_weightIn : MethodName := ⟨"ThresholdSealModel", "weightIn", "(II)J"⟩
abbrev yM_challengeOf : MethodName := ⟨"ThresholdSealModel", "challengeOf", "(JJ)J"⟩
abbrev yM_sign : MethodName := ⟨"ThresholdSealModel", "sign", "(I)J"⟩
abbrev yM_isMember : MethodName := ⟨"ThresholdSealModel", "isMember", "(I)Z"⟩
abbrev yM_submit : MethodName := ⟨"ThresholdSealModel", "submit", "(IJ)Z"⟩
abbrev yM_isNumber : MethodName := ⟨"ThresholdSealModel", "isNumber", "(J)Z"⟩
abbrev yM_tell : MethodName := ⟨"ThresholdSealModel", "tell", "(IJ)Z"⟩
abbrev yM_relay : MethodName := ⟨"ThresholdSealModel", "relay", "(IJ)Z"⟩
abbrev yM_seal : MethodName := ⟨"ThresholdSealModel", "seal", "()J"⟩
abbrev yM_isWhole : MethodName := ⟨"ThresholdSealModel", "isWhole", "()Z"⟩
abbrev yM_sum : MethodName := ⟨"ThresholdSealModel", "sum", "()J"⟩
abbrev yM_check : MethodName := ⟨"ThresholdSealModel", "check", "(JJJ)Z"⟩
abbrev yM_isSealOf : MethodName := ⟨"ThresholdSealModel", "isSealOf", "(JJJ)Z"⟩
abbrev yM_holds : MethodName := ⟨"ThresholdSealModel", "holds", "(JJ)Z"⟩
abbrev yM_recover : MethodName := ⟨"ThresholdSealModel", "recover", "(I)J"⟩
abbrev yM_key : MethodName := ⟨"ThresholdSealModel", "key", "(I)J"⟩
abbrev yM_secret : MethodName := ⟨"ThresholdSealModel", "secret", "(I)J"⟩
abbrev yM_commitment : MethodName := ⟨"ThresholdSealModel", "commitment", "(IZ)J"⟩
abbrev yM_factor : MethodName := ⟨"ThresholdSealModel", "factor", "(I)J"⟩
abbrev yM_weight : MethodName := ⟨"ThresholdSealModel", "weight", "(I)J"⟩
abbrev yM_challenge : MethodName := ⟨"ThresholdSealModel", "challenge", "()J"⟩
abbrev yM_members : MethodName := ⟨"ThresholdSealModel", "members", "()I"⟩
abbrev yM_taken : MethodName := ⟨"ThresholdSealModel", "taken", "()I"⟩
abbrev yM_blamed : MethodName := ⟨"ThresholdSealModel", "blamed", "()I"⟩
abbrev cS_init : ByteArray := prog_1_method_1_code
abbrev cJO_init : ByteArray := object_method_1_code
abbrev cJM_max : ByteArray := prog_15_method_65_code
abbrev cJM_min : ByteArray := prog_15_method_69_code
abbrev cD_init : ByteArray := prog_2_method_1_code
abbrev cP_init : ByteArray := prog_6_method_1_code
abbrev cX_init : ByteArray := prog_7_method_1_code
abbrev cS_deal : ByteArray := prog_1_method_2_code
abbrev cD_make : ByteArray := prog_2_method_2_code
abbrev cG_ofThree : ByteArray := prog_3_method_4_code
abbrev cG_mix : ByteArray := prog_3_method_2_code
abbrev cG_finish : ByteArray := prog_3_method_3_code
abbrev cD_valueAt : ByteArray := prog_2_method_4_code
abbrev cN_times : ByteArray := prog_5_method_5_code
abbrev cN_plus : ByteArray := prog_5_method_3_code
abbrev cE_ofNumber : ByteArray := prog_4_method_5_code
abbrev cE_power : ByteArray := prog_4_method_4_code
abbrev cE_times : ByteArray := prog_4_method_3_code
abbrev cP_dropAll : ByteArray := prog_6_method_5_code
abbrev cX_end : ByteArray := prog_7_method_3_code
abbrev cX_reset : ByteArray := prog_7_method_8_code
abbrev cD_keyOfAll : ByteArray := prog_2_method_3_code
abbrev cS_check : ByteArray := prog_1_method_9_code
abbrev cS_sealHolds : ByteArray := prog_1_method_23_code
abbrev cE_isElement : ByteArray := prog_4_method_2_code
abbrev cN_isNumber : ByteArray := prog_5_method_2_code
abbrev cG_ofSeal : ByteArray := prog_3_method_5_code
abbrev cS_key : ByteArray := prog_1_method_12_code
abbrev cS_isSigner : ByteArray := prog_1_method_21_code
abbrev cS_secret : ByteArray := prog_1_method_13_code
abbrev cS_commitment : ByteArray := prog_1_method_14_code
abbrev cI_has : ByteArray := prog_8_method_3_code
abbrev cI_only : ByteArray := prog_8_method_2_code
abbrev cS_factor : ByteArray := prog_1_method_15_code
abbrev cS_isMember : ByteArray := prog_1_method_22_code
abbrev cS_weight : ByteArray := prog_1_method_16_code
abbrev cS_challenge : ByteArray := prog_1_method_17_code
abbrev cX_isOn : ByteArray := prog_7_method_2_code
abbrev cS_members : ByteArray := prog_1_method_18_code
abbrev cS_taken : ByteArray := prog_1_method_19_code
abbrev cS_blamed : ByteArray := prog_1_method_20_code
abbrev cL_cell : ByteArray := method_2_code
abbrev cL_commit : ByteArray := method_3_code
abbrev cS_commit : ByteArray := prog_1_method_3_code
abbrev cS_requireSigner : ByteArray := prog_1_method_24_code
abbrev cJT_init : ByteArray := prog_18_method_1_code
abbrev cJT_fillInStackTrace2 : ByteArray := prog_18_method_18_code
abbrev cJA_init : ByteArray := prog_12_method_2_code
abbrev cJR_init2 : ByteArray := prog_16_method_2_code
abbrev cJE_init2 : ByteArray := prog_11_method_2_code
abbrev cJT_init2 : ByteArray := prog_18_method_2_code
abbrev cS_requireDealt : ByteArray := prog_1_method_27_code
abbrev cJS_init : ByteArray := prog_13_method_2_code
abbrev cP_open : ByteArray := prog_6_method_2_code
abbrev cX_losePair : ByteArray := prog_7_method_5_code
abbrev cL_begin : ByteArray := method_4_code
abbrev cS_begin : ByteArray := prog_1_method_4_code
abbrev cS_requireEnough : ByteArray := prog_1_method_26_code
abbrev cJI_bitCount : ByteArray := prog_14_method_49_code
abbrev cP_areOpen : ByteArray := prog_6_method_3_code
abbrev cX_start : ByteArray := prog_7_method_4_code
abbrev cX_factorFor : ByteArray := prog_7_method_9_code
abbrev cI_weightIn : ByteArray := prog_8_method_4_code
abbrev cN_minus : ByteArray := prog_5_method_4_code
abbrev cN_inverse : ByteArray := prog_5_method_6_code
abbrev cX_toldPart : ByteArray := prog_7_method_10_code
abbrev cL_sign : ByteArray := method_5_code
abbrev cS_sign : ByteArray := prog_1_method_5_code
abbrev cX_makeShare : ByteArray := prog_7_method_6_code
abbrev cX_keyExponent : ByteArray := prog_7_method_11_code
abbrev cP_drop : ByteArray := prog_6_method_4_code
abbrev cL_submit : ByteArray := method_6_code
abbrev cS_submit : ByteArray := prog_1_method_6_code
abbrev cS_requireNumber : ByteArray := prog_1_method_25_code
abbrev cS_requireUntaken : ByteArray := prog_1_method_28_code
abbrev cX_tell : ByteArray := prog_7_method_7_code
abbrev cX_isRight : ByteArray := prog_7_method_12_code
abbrev cL_relay : ByteArray := method_7_code
abbrev cS_relay : ByteArray := prog_1_method_7_code
abbrev cL_seal : ByteArray := method_8_code
abbrev cS_seal : ByteArray := prog_1_method_8_code
abbrev cS_requireSealed : ByteArray := prog_1_method_29_code
abbrev cL_holds : ByteArray := method_9_code
abbrev cS_holds : ByteArray := prog_1_method_10_code
abbrev cL_recover : ByteArray := method_10_code
abbrev cS_recover : ByteArray := prog_1_method_11_code
abbrev cM_init : ByteArray := prog_10_method_1_code
abbrev cM_thrown : ByteArray := prog_10_method_2_code
abbrev cM_deal : ByteArray := prog_10_method_14_code
abbrev cM_begins : ByteArray := prog_10_method_5_code
abbrev cM_mix : ByteArray := prog_10_method_6_code
abbrev cM_digest : ByteArray := prog_10_method_7_code
abbrev cM_power : ByteArray := prog_10_method_3_code
abbrev cM_commit : ByteArray := prog_10_method_15_code
abbrev cM_isSigner : ByteArray := prog_10_method_10_code
abbrev cM_pairNumber : ByteArray := prog_10_method_8_code
abbrev cM_begin : ByteArray := prog_10_method_18_code
abbrev cM_isSet : ByteArray := prog_10_method_12_code
abbrev cM_in : ByteArray := prog_10_method_11_code
abbrev cM_allOpen : ByteArray := prog_10_method_16_code
abbrev cM_factorOf : ByteArray := prog_10_method_17_code
abbrev cM_weightIn : ByteArray := prog_10_method_13_code
abbrev cM_challengeOf : ByteArray := prog_10_method_9_code
abbrev cM_sign : ByteArray := prog_10_method_20_code
abbrev cM_isMember : ByteArray := prog_10_method_19_code
abbrev cM_submit : ByteArray := prog_10_method_22_code
abbrev cM_isNumber : ByteArray := prog_10_method_4_code
abbrev cM_tell : ByteArray := prog_10_method_21_code
abbrev cM_relay : ByteArray := prog_10_method_23_code
abbrev cM_seal : ByteArray := prog_10_method_26_code
abbrev cM_isWhole : ByteArray := prog_10_method_24_code
abbrev cM_sum : ByteArray := prog_10_method_25_code
abbrev cM_check : ByteArray := prog_10_method_28_code
abbrev cM_isSealOf : ByteArray := prog_10_method_27_code
abbrev cM_holds : ByteArray := prog_10_method_29_code
abbrev cM_recover : ByteArray := prog_10_method_30_code
abbrev cM_key : ByteArray := prog_10_method_31_code
abbrev cM_secret : ByteArray := prog_10_method_32_code
abbrev cM_commitment : ByteArray := prog_10_method_33_code
abbrev cM_factor : ByteArray := prog_10_method_34_code
abbrev cM_weight : ByteArray := prog_10_method_35_code
abbrev cM_challenge : ByteArray := prog_10_method_36_code
abbrev cM_members : ByteArray := prog_10_method_37_code
abbrev cM_taken : ByteArray := prog_10_method_38_code
abbrev cM_blamed : ByteArray := prog_10_method_39_code
abbrev cL_law : ByteArray := code
def TD_ : u_T := fun k => match k with
  | 0 => ("ThresholdSeal$Dealing", "signers", "I", true)
  | 1 => ("ThresholdSeal$Dealing", "enough", "I", true)
  | 2 => ("ThresholdSeal$Dealing", "coefficients", "[J", true)
  | 3 => ("ThresholdSeal$Dealing", "secrets", "[J", true)
  | 4 => ("ThresholdSeal$Dealing", "keys", "[J", true)
  | _ => ("ThresholdSeal$Dealing", "done", "Z", false)
def tD_ : Nat → FieldType := fun k => match k with
  | 0 => .int
  | 1 => .int
  | 2 => .array .long
  | 3 => .array .long
  | 4 => .array .long
  | _ => .boolean
theorem nD_ : ∀ a, a < 6 → ∀ b, b < 6 → a ≠ b → (TD_ a).2.1 ≠ (TD_ b).2.1 := by decide +kernel
theorem tD_ok : ∀ k, k < 6 → parseFieldDescriptor (TD_ k).2.2.1 = some (tD_ k) := by decide +kernel
def TP_ : u_T := fun k => match k with
  | 0 => ("ThresholdSeal$Pairs", "firstNumbers", "[J", true)
  | 1 => ("ThresholdSeal$Pairs", "secondNumbers", "[J", true)
  | 2 => ("ThresholdSeal$Pairs", "firstElements", "[J", true)
  | 3 => ("ThresholdSeal$Pairs", "secondElements", "[J", true)
  | _ => ("ThresholdSeal$Pairs", "openSet", "I", false)
def tP_ : Nat → FieldType := fun k => match k with
  | 0 => .array .long
  | 1 => .array .long
  | 2 => .array .long
  | 3 => .array .long
  | _ => .int
theorem nP_ : ∀ a, a < 5 → ∀ b, b < 5 → a ≠ b → (TP_ a).2.1 ≠ (TP_ b).2.1 := by decide +kernel
theorem tP_ok : ∀ k, k < 5 → parseFieldDescriptor (TP_ k).2.2.1 = some (tP_ k) := by decide +kernel
def TX_ : u_T := fun k => match k with
  | 0 => ("ThresholdSeal$Session", "signers", "I", true)
  | 1 => ("ThresholdSeal$Session", "firstElements", "[J", true)
  | 2 => ("ThresholdSeal$Session", "secondElements", "[J", true)
  | 3 => ("ThresholdSeal$Session", "factors", "[J", true)
  | 4 => ("ThresholdSeal$Session", "weights", "[J", true)
  | 5 => ("ThresholdSeal$Session", "shares", "[J", true)
  | 6 => ("ThresholdSeal$Session", "memberSet", "I", false)
  | 7 => ("ThresholdSeal$Session", "pairSet", "I", false)
  | 8 => ("ThresholdSeal$Session", "madeSet", "I", false)
  | 9 => ("ThresholdSeal$Session", "takenSet", "I", false)
  | 10 => ("ThresholdSeal$Session", "blamedSet", "I", false)
  | 11 => ("ThresholdSeal$Session", "product", "J", false)
  | 12 => ("ThresholdSeal$Session", "challengeNumber", "J", false)
  | _ => ("ThresholdSeal$Session", "sum", "J", false)
def tX_ : Nat → FieldType := fun k => match k with
  | 0 => .int
  | 1 => .array .long
  | 2 => .array .long
  | 3 => .array .long
  | 4 => .array .long
  | 5 => .array .long
  | 6 => .int
  | 7 => .int
  | 8 => .int
  | 9 => .int
  | 10 => .int
  | 11 => .long
  | 12 => .long
  | _ => .long
theorem nX_ : ∀ a, a < 14 → ∀ b, b < 14 → a ≠ b → (TX_ a).2.1 ≠ (TX_ b).2.1 := by decide +kernel
theorem tX_ok : ∀ k, k < 14 → parseFieldDescriptor (TX_ k).2.2.1 = some (tX_ k) := by decide +kernel
def TS_ : u_T := fun k => match k with
  | 0 => ("ThresholdSeal", "signers", "I", true)
  | 1 => ("ThresholdSeal", "enough", "I", true)
  | 2 => ("ThresholdSeal", "dealing", "LThresholdSeal$Dealing;", true)
  | 3 => ("ThresholdSeal", "pairs", "LThresholdSeal$Pairs;", true)
  | _ => ("ThresholdSeal", "session", "LThresholdSeal$Session;", true)
def tS_ : Nat → FieldType := fun k => match k with
  | 0 => .int
  | 1 => .int
  | 2 => .object "ThresholdSeal$Dealing"
  | 3 => .object "ThresholdSeal$Pairs"
  | _ => .object "ThresholdSeal$Session"
theorem nS_ : ∀ a, a < 5 → ∀ b, b < 5 → a ≠ b → (TS_ a).2.1 ≠ (TS_ b).2.1 := by decide +kernel
theorem tS_ok : ∀ k, k < 5 → parseFieldDescriptor (TS_ k).2.2.1 = some (tS_ k) := by decide +kernel
def TM_ : u_T := fun k => match k with
  | 0 => ("ThresholdSealModel", "thrown", "I", false)
  | 1 => ("ThresholdSealModel", "signers", "I", true)
  | 2 => ("ThresholdSealModel", "enough", "I", true)
  | 3 => ("ThresholdSealModel", "dealt", "Z", false)
  | 4 => ("ThresholdSealModel", "secrets", "[J", true)
  | 5 => ("ThresholdSealModel", "keys", "[J", true)
  | 6 => ("ThresholdSealModel", "open", "[Z", true)
  | 7 => ("ThresholdSealModel", "firstNumber", "[J", true)
  | 8 => ("ThresholdSealModel", "secondNumber", "[J", true)
  | 9 => ("ThresholdSealModel", "firstElement", "[J", true)
  | 10 => ("ThresholdSealModel", "secondElement", "[J", true)
  | 11 => ("ThresholdSealModel", "session", "I", false)
  | 12 => ("ThresholdSealModel", "all", "J", false)
  | 13 => ("ThresholdSealModel", "challenged", "J", false)
  | 14 => ("ThresholdSealModel", "firstThen", "[J", true)
  | 15 => ("ThresholdSealModel", "secondThen", "[J", true)
  | 16 => ("ThresholdSealModel", "factors", "[J", true)
  | 17 => ("ThresholdSealModel", "weights", "[J", true)
  | 18 => ("ThresholdSealModel", "still", "[Z", true)
  | 19 => ("ThresholdSealModel", "made", "[Z", true)
  | 20 => ("ThresholdSealModel", "shares", "[J", true)
  | 21 => ("ThresholdSealModel", "told", "[J", true)
  | 22 => ("ThresholdSealModel", "takenNow", "I", false)
  | 23 => ("ThresholdSealModel", "blamedNow", "I", false)
  | _ => ("ThresholdSealModel", "mixed", "J", false)
def tM_ : Nat → FieldType := fun k => match k with
  | 0 => .int
  | 1 => .int
  | 2 => .int
  | 3 => .boolean
  | 4 => .array .long
  | 5 => .array .long
  | 6 => .array .boolean
  | 7 => .array .long
  | 8 => .array .long
  | 9 => .array .long
  | 10 => .array .long
  | 11 => .int
  | 12 => .long
  | 13 => .long
  | 14 => .array .long
  | 15 => .array .long
  | 16 => .array .long
  | 17 => .array .long
  | 18 => .array .boolean
  | 19 => .array .boolean
  | 20 => .array .long
  | 21 => .array .long
  | 22 => .int
  | 23 => .int
  | _ => .long
theorem nM_ : ∀ a, a < 25 → ∀ b, b < 25 → a ≠ b → (TM_ a).2.1 ≠ (TM_ b).2.1 := by decide +kernel
theorem tM_ok : ∀ k, k < 25 → parseFieldDescriptor (TM_ k).2.2.1 = some (tM_ k) := by decide +kernel
theorem wn_L : Cond.initialized "ThresholdSealLaw" ∈ lw_tbl := List.mem_append_right _ (List.mem_of_getElem? (i := 0) (by decide +kernel))
theorem wn_S : Cond.initialized "ThresholdSeal" ∈ lw_tbl := List.mem_append_right _ (List.mem_of_getElem? (i := 1) (by decide +kernel))
theorem wn_JM : Cond.initialized "java/lang/Math" ∈ lw_tbl := List.mem_append_right _ (List.mem_of_getElem? (i := 2) (by decide +kernel))
theorem wn_D : Cond.initialized "ThresholdSeal$Dealing" ∈ lw_tbl := List.mem_append_right _ (List.mem_of_getElem? (i := 3) (by decide +kernel))
theorem wn_P : Cond.initialized "ThresholdSeal$Pairs" ∈ lw_tbl := List.mem_append_right _ (List.mem_of_getElem? (i := 4) (by decide +kernel))
theorem wn_X : Cond.initialized "ThresholdSeal$Session" ∈ lw_tbl := List.mem_append_right _ (List.mem_of_getElem? (i := 5) (by decide +kernel))
theorem wn_M : Cond.initialized "ThresholdSealModel" ∈ lw_tbl := List.mem_append_right _ (List.mem_of_getElem? (i := 6) (by decide +kernel))
theorem wn_G : Cond.initialized "ThresholdSeal$Digest" ∈ lw_tbl := List.mem_append_right _ (List.mem_of_getElem? (i := 7) (by decide +kernel))
theorem wn_N : Cond.initialized "ThresholdSeal$Numbers" ∈ lw_tbl := List.mem_append_right _ (List.mem_of_getElem? (i := 8) (by decide +kernel))
theorem wn_E : Cond.initialized "ThresholdSeal$Elements" ∈ lw_tbl := List.mem_append_right _ (List.mem_of_getElem? (i := 9) (by decide +kernel))
theorem wn_JT : Cond.initialized "java/lang/Throwable" ∈ lw_tbl := List.mem_append_right _ (List.mem_of_getElem? (i := 10) (by decide +kernel))
theorem wn_JE : Cond.initialized "java/lang/Exception" ∈ lw_tbl := List.mem_append_right _ (List.mem_of_getElem? (i := 11) (by decide +kernel))
theorem wn_JR : Cond.initialized "java/lang/RuntimeException" ∈ lw_tbl := List.mem_append_right _ (List.mem_of_getElem? (i := 12) (by decide +kernel))
theorem wn_JA : Cond.initialized "java/lang/IllegalArgumentException" ∈ lw_tbl := List.mem_append_right _ (List.mem_of_getElem? (i := 13) (by decide +kernel))
theorem wn_JS : Cond.initialized "java/lang/IllegalStateException" ∈ lw_tbl := List.mem_append_right _ (List.mem_of_getElem? (i := 14) (by decide +kernel))
theorem wn_I : Cond.initialized "ThresholdSeal$Signers" ∈ lw_tbl := List.mem_append_right _ (List.mem_of_getElem? (i := 15) (by decide +kernel))
theorem wn_JI : Cond.initialized "java/lang/Integer" ∈ lw_tbl := List.mem_append_right _ (List.mem_of_getElem? (i := 16) (by decide +kernel))
theorem wl_L_8 : Cond.classLink "ThresholdSealLaw" 8 "ThresholdSeal" ∈ lw_tbl := List.mem_append_right _ (List.mem_of_getElem? (i := 17) (by decide +kernel))
theorem wz_S : Cond.instantiable "ThresholdSeal" 5 ∈ lw_tbl := List.mem_append_right _ (List.mem_of_getElem? (i := 18) (by decide +kernel))
theorem wm_L_48 : Cond.methodLink "ThresholdSealLaw" 48 yS_init ∈ lw_tbl := List.mem_append_right _ (List.mem_of_getElem? (i := 19) (by decide +kernel))
theorem wi_S_init : Cond.instanceMethod yS_init ∈ lw_tbl := List.mem_append_right _ (List.mem_of_getElem? (i := 20) (by decide +kernel))
theorem wc_S_init : Cond.code yS_init prog_1_method_1_code 3 (Option.none : Option ClassFile.FieldType) ∈ lw_tbl := List.mem_append_right _ (List.mem_of_getElem? (i := 21) (by decide +kernel))
theorem wm_S_1 : Cond.methodLink "ThresholdSeal" 1 yJO_init ∈ lw_tbl := List.mem_append_right _ (List.mem_of_getElem? (i := 22) (by decide +kernel))
theorem wi_JO_init : Cond.instanceMethod yJO_init ∈ lw_tbl := List.mem_append_right _ (List.mem_of_getElem? (i := 23) (by decide +kernel))
theorem wc_JO_init : Cond.code yJO_init object_method_1_code 1 (Option.none : Option ClassFile.FieldType) ∈ lw_tbl := List.mem_append_right _ (List.mem_of_getElem? (i := 24) (by decide +kernel))
theorem wm_S_7 : Cond.methodLink "ThresholdSeal" 7 yJM_max ∈ lw_tbl := List.mem_append_right _ (List.mem_of_getElem? (i := 25) (by decide +kernel))
theorem wt_JM_max : Cond.static yJM_max ∈ lw_tbl := List.mem_append_right _ (List.mem_of_getElem? (i := 26) (by decide +kernel))
theorem wc_JM_max : Cond.code yJM_max prog_15_method_65_code 2 (Option.some ClassFile.FieldType.int) ∈ lw_tbl := List.mem_append_right _ (List.mem_of_getElem? (i := 27) (by decide +kernel))
theorem wm_S_15 : Cond.methodLink "ThresholdSeal" 15 yJM_min ∈ lw_tbl := List.mem_append_right _ (List.mem_of_getElem? (i := 28) (by decide +kernel))
theorem wt_JM_min : Cond.static yJM_min ∈ lw_tbl := List.mem_append_right _ (List.mem_of_getElem? (i := 29) (by decide +kernel))
theorem wc_JM_min : Cond.code yJM_min prog_15_method_69_code 2 (Option.some ClassFile.FieldType.int) ∈ lw_tbl := List.mem_append_right _ (List.mem_of_getElem? (i := 30) (by decide +kernel))
theorem wl_S_25 : Cond.classLink "ThresholdSeal" 25 "ThresholdSeal$Dealing" ∈ lw_tbl := List.mem_append_right _ (List.mem_of_getElem? (i := 31) (by decide +kernel))
theorem wz_D : Cond.instantiable "ThresholdSeal$Dealing" 6 ∈ lw_tbl := List.mem_append_right _ (List.mem_of_getElem? (i := 32) (by decide +kernel))
theorem wm_S_27 : Cond.methodLink "ThresholdSeal" 27 yD_init ∈ lw_tbl := List.mem_append_right _ (List.mem_of_getElem? (i := 33) (by decide +kernel))
theorem wi_D_init : Cond.instanceMethod yD_init ∈ lw_tbl := List.mem_append_right _ (List.mem_of_getElem? (i := 34) (by decide +kernel))
theorem wc_D_init : Cond.code yD_init prog_2_method_1_code 3 (Option.none : Option ClassFile.FieldType) ∈ lw_tbl := List.mem_append_right _ (List.mem_of_getElem? (i := 35) (by decide +kernel))
theorem wm_D_1 : Cond.methodLink "ThresholdSeal$Dealing" 1 yJO_init ∈ lw_tbl := List.mem_append_right _ (List.mem_of_getElem? (i := 36) (by decide +kernel))
theorem wf_D_7 : Cond.fieldLink "ThresholdSeal$Dealing" 7 "ThresholdSeal$Dealing" "signers" "I" ∈ lw_tbl := List.mem_append_right _ (List.mem_of_getElem? (i := 37) (by decide +kernel))
theorem wf_D_13 : Cond.fieldLink "ThresholdSeal$Dealing" 13 "ThresholdSeal$Dealing" "enough" "I" ∈ lw_tbl := List.mem_append_right _ (List.mem_of_getElem? (i := 38) (by decide +kernel))
theorem wf_D_16 : Cond.fieldLink "ThresholdSeal$Dealing" 16 "ThresholdSeal$Dealing" "coefficients" "[J" ∈ lw_tbl := List.mem_append_right _ (List.mem_of_getElem? (i := 39) (by decide +kernel))
theorem wf_D_20 : Cond.fieldLink "ThresholdSeal$Dealing" 20 "ThresholdSeal$Dealing" "secrets" "[J" ∈ lw_tbl := List.mem_append_right _ (List.mem_of_getElem? (i := 40) (by decide +kernel))
theorem wf_S_114 : Cond.fieldLink "ThresholdSeal" 114 "ThresholdSeal$Dealing" "secrets" "[J" ∈ lw_tbl := List.mem_append_right _ (List.mem_of_getElem? (i := 41) (by decide +kernel))
theorem wf_D_23 : Cond.fieldLink "ThresholdSeal$Dealing" 23 "ThresholdSeal$Dealing" "keys" "[J" ∈ lw_tbl := List.mem_append_right _ (List.mem_of_getElem? (i := 42) (by decide +kernel))
theorem wf_S_133 : Cond.fieldLink "ThresholdSeal" 133 "ThresholdSeal$Dealing" "keys" "[J" ∈ lw_tbl := List.mem_append_right _ (List.mem_of_getElem? (i := 43) (by decide +kernel))
theorem wf_D_42 : Cond.fieldLink "ThresholdSeal$Dealing" 42 "ThresholdSeal$Dealing" "done" "Z" ∈ lw_tbl := List.mem_append_right _ (List.mem_of_getElem? (i := 44) (by decide +kernel))
theorem wf_S_157 : Cond.fieldLink "ThresholdSeal" 157 "ThresholdSeal$Dealing" "done" "Z" ∈ lw_tbl := List.mem_append_right _ (List.mem_of_getElem? (i := 45) (by decide +kernel))
theorem wy_D_signers : Cond.laysFinal "ThresholdSeal$Dealing" "ThresholdSeal$Dealing" "signers" "I" ∈ lw_tbl := List.mem_append_right _ (List.mem_of_getElem? (i := 46) (by decide +kernel))
theorem wx_47 : Cond.soleField "ThresholdSeal$Dealing" "signers" ∈ lw_tbl := List.mem_append_right _ (List.mem_of_getElem? (i := 47) (by decide +kernel))
theorem wy_D_enough : Cond.laysFinal "ThresholdSeal$Dealing" "ThresholdSeal$Dealing" "enough" "I" ∈ lw_tbl := List.mem_append_right _ (List.mem_of_getElem? (i := 48) (by decide +kernel))
theorem wx_49 : Cond.soleField "ThresholdSeal$Dealing" "enough" ∈ lw_tbl := List.mem_append_right _ (List.mem_of_getElem? (i := 49) (by decide +kernel))
theorem wy_D_coefficients : Cond.laysFinal "ThresholdSeal$Dealing" "ThresholdSeal$Dealing" "coefficients" "[J" ∈ lw_tbl := List.mem_append_right _ (List.mem_of_getElem? (i := 50) (by decide +kernel))
theorem wx_51 : Cond.soleField "ThresholdSeal$Dealing" "coefficients" ∈ lw_tbl := List.mem_append_right _ (List.mem_of_getElem? (i := 51) (by decide +kernel))
theorem wy_D_secrets : Cond.laysFinal "ThresholdSeal$Dealing" "ThresholdSeal$Dealing" "secrets" "[J" ∈ lw_tbl := List.mem_append_right _ (List.mem_of_getElem? (i := 52) (by decide +kernel))
theorem wx_53 : Cond.soleField "ThresholdSeal$Dealing" "secrets" ∈ lw_tbl := List.mem_append_right _ (List.mem_of_getElem? (i := 53) (by decide +kernel))
theorem wy_D_keys : Cond.laysFinal "ThresholdSeal$Dealing" "ThresholdSeal$Dealing" "keys" "[J" ∈ lw_tbl := List.mem_append_right _ (List.mem_of_getElem? (i := 54) (by decide +kernel))
theorem wx_55 : Cond.soleField "ThresholdSeal$Dealing" "keys" ∈ lw_tbl := List.mem_append_right _ (List.mem_of_getElem? (i := 55) (by decide +kernel))
theorem wy_D_done : Cond.lays "ThresholdSeal$Dealing" "ThresholdSeal$Dealing" "done" "Z" ∈ lw_tbl := List.mem_append_right _ (List.mem_of_getElem? (i := 56) (by decide +kernel))
theorem wx_57 : Cond.soleField "ThresholdSeal$Dealing" "done" ∈ lw_tbl := List.mem_append_right _ (List.mem_of_getElem? (i := 57) (by decide +kernel))
theorem wx_58 : Cond.superclass "ThresholdSeal$Dealing" "java/lang/Object" ∈ lw_tbl := List.mem_append_right _ (List.mem_of_getElem? (i := 58) (by decide +kernel))
theorem wa_long : Cond.arrayClass ClassFile.FieldType.long ∈ lw_tbl := List.mem_append_right _ (List.mem_of_getElem? (i := 59) (by decide +kernel))
theorem wl_S_34 : Cond.classLink "ThresholdSeal" 34 "ThresholdSeal$Pairs" ∈ lw_tbl := List.mem_append_right _ (List.mem_of_getElem? (i := 60) (by decide +kernel))
theorem wz_P : Cond.instantiable "ThresholdSeal$Pairs" 5 ∈ lw_tbl := List.mem_append_right _ (List.mem_of_getElem? (i := 61) (by decide +kernel))
theorem wm_S_36 : Cond.methodLink "ThresholdSeal" 36 yP_init ∈ lw_tbl := List.mem_append_right _ (List.mem_of_getElem? (i := 62) (by decide +kernel))
theorem wi_P_init : Cond.instanceMethod yP_init ∈ lw_tbl := List.mem_append_right _ (List.mem_of_getElem? (i := 63) (by decide +kernel))
theorem wc_P_init : Cond.code yP_init prog_6_method_1_code 2 (Option.none : Option ClassFile.FieldType) ∈ lw_tbl := List.mem_append_right _ (List.mem_of_getElem? (i := 64) (by decide +kernel))
theorem wm_P_1 : Cond.methodLink "ThresholdSeal$Pairs" 1 yJO_init ∈ lw_tbl := List.mem_append_right _ (List.mem_of_getElem? (i := 65) (by decide +kernel))
theorem wf_P_7 : Cond.fieldLink "ThresholdSeal$Pairs" 7 "ThresholdSeal$Pairs" "firstNumbers" "[J" ∈ lw_tbl := List.mem_append_right _ (List.mem_of_getElem? (i := 66) (by decide +kernel))
theorem wf_X_84 : Cond.fieldLink "ThresholdSeal$Session" 84 "ThresholdSeal$Pairs" "firstNumbers" "[J" ∈ lw_tbl := List.mem_append_right _ (List.mem_of_getElem? (i := 67) (by decide +kernel))
theorem wf_P_13 : Cond.fieldLink "ThresholdSeal$Pairs" 13 "ThresholdSeal$Pairs" "secondNumbers" "[J" ∈ lw_tbl := List.mem_append_right _ (List.mem_of_getElem? (i := 68) (by decide +kernel))
theorem wf_X_87 : Cond.fieldLink "ThresholdSeal$Session" 87 "ThresholdSeal$Pairs" "secondNumbers" "[J" ∈ lw_tbl := List.mem_append_right _ (List.mem_of_getElem? (i := 69) (by decide +kernel))
theorem wf_P_16 : Cond.fieldLink "ThresholdSeal$Pairs" 16 "ThresholdSeal$Pairs" "firstElements" "[J" ∈ lw_tbl := List.mem_append_right _ (List.mem_of_getElem? (i := 70) (by decide +kernel))
theorem wf_S_77 : Cond.fieldLink "ThresholdSeal" 77 "ThresholdSeal$Pairs" "firstElements" "[J" ∈ lw_tbl := List.mem_append_right _ (List.mem_of_getElem? (i := 71) (by decide +kernel))
theorem wf_X_36 : Cond.fieldLink "ThresholdSeal$Session" 36 "ThresholdSeal$Pairs" "firstElements" "[J" ∈ lw_tbl := List.mem_append_right _ (List.mem_of_getElem? (i := 72) (by decide +kernel))
theorem wf_P_19 : Cond.fieldLink "ThresholdSeal$Pairs" 19 "ThresholdSeal$Pairs" "secondElements" "[J" ∈ lw_tbl := List.mem_append_right _ (List.mem_of_getElem? (i := 73) (by decide +kernel))
theorem wf_X_39 : Cond.fieldLink "ThresholdSeal$Session" 39 "ThresholdSeal$Pairs" "secondElements" "[J" ∈ lw_tbl := List.mem_append_right _ (List.mem_of_getElem? (i := 74) (by decide +kernel))
theorem wf_S_180 : Cond.fieldLink "ThresholdSeal" 180 "ThresholdSeal$Pairs" "secondElements" "[J" ∈ lw_tbl := List.mem_append_right _ (List.mem_of_getElem? (i := 75) (by decide +kernel))
theorem wf_P_38 : Cond.fieldLink "ThresholdSeal$Pairs" 38 "ThresholdSeal$Pairs" "openSet" "I" ∈ lw_tbl := List.mem_append_right _ (List.mem_of_getElem? (i := 76) (by decide +kernel))
theorem wf_S_177 : Cond.fieldLink "ThresholdSeal" 177 "ThresholdSeal$Pairs" "openSet" "I" ∈ lw_tbl := List.mem_append_right _ (List.mem_of_getElem? (i := 77) (by decide +kernel))
theorem wy_P_firstNumbers : Cond.laysFinal "ThresholdSeal$Pairs" "ThresholdSeal$Pairs" "firstNumbers" "[J" ∈ lw_tbl := List.mem_append_right _ (List.mem_of_getElem? (i := 78) (by decide +kernel))
theorem wx_79 : Cond.soleField "ThresholdSeal$Pairs" "firstNumbers" ∈ lw_tbl := List.mem_append_right _ (List.mem_of_getElem? (i := 79) (by decide +kernel))
theorem wy_P_secondNumbers : Cond.laysFinal "ThresholdSeal$Pairs" "ThresholdSeal$Pairs" "secondNumbers" "[J" ∈ lw_tbl := List.mem_append_right _ (List.mem_of_getElem? (i := 80) (by decide +kernel))
theorem wx_81 : Cond.soleField "ThresholdSeal$Pairs" "secondNumbers" ∈ lw_tbl := List.mem_append_right _ (List.mem_of_getElem? (i := 81) (by decide +kernel))
theorem wy_P_firstElements : Cond.laysFinal "ThresholdSeal$Pairs" "ThresholdSeal$Pairs" "firstElements" "[J" ∈ lw_tbl := List.mem_append_right _ (List.mem_of_getElem? (i := 82) (by decide +kernel))
theorem wx_83 : Cond.soleField "ThresholdSeal$Pairs" "firstElements" ∈ lw_tbl := List.mem_append_right _ (List.mem_of_getElem? (i := 83) (by decide +kernel))
theorem wy_P_secondElements : Cond.laysFinal "ThresholdSeal$Pairs" "ThresholdSeal$Pairs" "secondElements" "[J" ∈ lw_tbl := List.mem_append_right _ (List.mem_of_getElem? (i := 84) (by decide +kernel))
theorem wx_85 : Cond.soleField "ThresholdSeal$Pairs" "secondElements" ∈ lw_tbl := List.mem_append_right _ (List.mem_of_getElem? (i := 85) (by decide +kernel))
theorem wy_P_openSet : Cond.lays "ThresholdSeal$Pairs" "ThresholdSeal$Pairs" "openSet" "I" ∈ lw_tbl := List.mem_append_right _ (List.mem_of_getElem? (i := 86) (by decide +kernel))
theorem wx_87 : Cond.soleField "ThresholdSeal$Pairs" "openSet" ∈ lw_tbl := List.mem_append_right _ (List.mem_of_getElem? (i := 87) (by decide +kernel))
theorem wx_88 : Cond.superclass "ThresholdSeal$Pairs" "java/lang/Object" ∈ lw_tbl := List.mem_append_right _ (List.mem_of_getElem? (i := 88) (by decide +kernel))
theorem wl_S_43 : Cond.classLink "ThresholdSeal" 43 "ThresholdSeal$Session" ∈ lw_tbl := List.mem_append_right _ (List.mem_of_getElem? (i := 89) (by decide +kernel))
theorem wz_X : Cond.instantiable "ThresholdSeal$Session" 14 ∈ lw_tbl := List.mem_append_right _ (List.mem_of_getElem? (i := 90) (by decide +kernel))
theorem wm_S_45 : Cond.methodLink "ThresholdSeal" 45 yX_init ∈ lw_tbl := List.mem_append_right _ (List.mem_of_getElem? (i := 91) (by decide +kernel))
theorem wi_X_init : Cond.instanceMethod yX_init ∈ lw_tbl := List.mem_append_right _ (List.mem_of_getElem? (i := 92) (by decide +kernel))
theorem wc_X_init : Cond.code yX_init prog_7_method_1_code 2 (Option.none : Option ClassFile.FieldType) ∈ lw_tbl := List.mem_append_right _ (List.mem_of_getElem? (i := 93) (by decide +kernel))
theorem wm_X_1 : Cond.methodLink "ThresholdSeal$Session" 1 yJO_init ∈ lw_tbl := List.mem_append_right _ (List.mem_of_getElem? (i := 94) (by decide +kernel))
theorem wf_X_7 : Cond.fieldLink "ThresholdSeal$Session" 7 "ThresholdSeal$Session" "signers" "I" ∈ lw_tbl := List.mem_append_right _ (List.mem_of_getElem? (i := 95) (by decide +kernel))
theorem wf_X_13 : Cond.fieldLink "ThresholdSeal$Session" 13 "ThresholdSeal$Session" "firstElements" "[J" ∈ lw_tbl := List.mem_append_right _ (List.mem_of_getElem? (i := 96) (by decide +kernel))
theorem wf_X_17 : Cond.fieldLink "ThresholdSeal$Session" 17 "ThresholdSeal$Session" "secondElements" "[J" ∈ lw_tbl := List.mem_append_right _ (List.mem_of_getElem? (i := 97) (by decide +kernel))
theorem wf_X_20 : Cond.fieldLink "ThresholdSeal$Session" 20 "ThresholdSeal$Session" "factors" "[J" ∈ lw_tbl := List.mem_append_right _ (List.mem_of_getElem? (i := 98) (by decide +kernel))
theorem wf_S_186 : Cond.fieldLink "ThresholdSeal" 186 "ThresholdSeal$Session" "factors" "[J" ∈ lw_tbl := List.mem_append_right _ (List.mem_of_getElem? (i := 99) (by decide +kernel))
theorem wf_X_23 : Cond.fieldLink "ThresholdSeal$Session" 23 "ThresholdSeal$Session" "weights" "[J" ∈ lw_tbl := List.mem_append_right _ (List.mem_of_getElem? (i := 100) (by decide +kernel))
theorem wf_S_189 : Cond.fieldLink "ThresholdSeal" 189 "ThresholdSeal$Session" "weights" "[J" ∈ lw_tbl := List.mem_append_right _ (List.mem_of_getElem? (i := 101) (by decide +kernel))
theorem wf_X_26 : Cond.fieldLink "ThresholdSeal$Session" 26 "ThresholdSeal$Session" "shares" "[J" ∈ lw_tbl := List.mem_append_right _ (List.mem_of_getElem? (i := 102) (by decide +kernel))
theorem wf_S_124 : Cond.fieldLink "ThresholdSeal" 124 "ThresholdSeal$Session" "shares" "[J" ∈ lw_tbl := List.mem_append_right _ (List.mem_of_getElem? (i := 103) (by decide +kernel))
theorem wf_X_29 : Cond.fieldLink "ThresholdSeal$Session" 29 "ThresholdSeal$Session" "memberSet" "I" ∈ lw_tbl := List.mem_append_right _ (List.mem_of_getElem? (i := 104) (by decide +kernel))
theorem wf_S_199 : Cond.fieldLink "ThresholdSeal" 199 "ThresholdSeal$Session" "memberSet" "I" ∈ lw_tbl := List.mem_append_right _ (List.mem_of_getElem? (i := 105) (by decide +kernel))
theorem wf_X_77 : Cond.fieldLink "ThresholdSeal$Session" 77 "ThresholdSeal$Session" "pairSet" "I" ∈ lw_tbl := List.mem_append_right _ (List.mem_of_getElem? (i := 106) (by decide +kernel))
theorem wf_S_103 : Cond.fieldLink "ThresholdSeal" 103 "ThresholdSeal$Session" "pairSet" "I" ∈ lw_tbl := List.mem_append_right _ (List.mem_of_getElem? (i := 107) (by decide +kernel))
theorem wf_X_99 : Cond.fieldLink "ThresholdSeal$Session" 99 "ThresholdSeal$Session" "madeSet" "I" ∈ lw_tbl := List.mem_append_right _ (List.mem_of_getElem? (i := 108) (by decide +kernel))
theorem wf_S_140 : Cond.fieldLink "ThresholdSeal" 140 "ThresholdSeal$Session" "madeSet" "I" ∈ lw_tbl := List.mem_append_right _ (List.mem_of_getElem? (i := 109) (by decide +kernel))
theorem wf_X_109 : Cond.fieldLink "ThresholdSeal$Session" 109 "ThresholdSeal$Session" "takenSet" "I" ∈ lw_tbl := List.mem_append_right _ (List.mem_of_getElem? (i := 110) (by decide +kernel))
theorem wf_S_202 : Cond.fieldLink "ThresholdSeal" 202 "ThresholdSeal$Session" "takenSet" "I" ∈ lw_tbl := List.mem_append_right _ (List.mem_of_getElem? (i := 111) (by decide +kernel))
theorem wf_X_106 : Cond.fieldLink "ThresholdSeal$Session" 106 "ThresholdSeal$Session" "blamedSet" "I" ∈ lw_tbl := List.mem_append_right _ (List.mem_of_getElem? (i := 112) (by decide +kernel))
theorem wf_S_205 : Cond.fieldLink "ThresholdSeal" 205 "ThresholdSeal$Session" "blamedSet" "I" ∈ lw_tbl := List.mem_append_right _ (List.mem_of_getElem? (i := 113) (by decide +kernel))
theorem wf_S_99 : Cond.fieldLink "ThresholdSeal" 99 "ThresholdSeal$Session" "product" "J" ∈ lw_tbl := List.mem_append_right _ (List.mem_of_getElem? (i := 114) (by decide +kernel))
theorem wf_X_54 : Cond.fieldLink "ThresholdSeal$Session" 54 "ThresholdSeal$Session" "product" "J" ∈ lw_tbl := List.mem_append_right _ (List.mem_of_getElem? (i := 115) (by decide +kernel))
theorem wf_X_74 : Cond.fieldLink "ThresholdSeal$Session" 74 "ThresholdSeal$Session" "challengeNumber" "J" ∈ lw_tbl := List.mem_append_right _ (List.mem_of_getElem? (i := 116) (by decide +kernel))
theorem wf_S_196 : Cond.fieldLink "ThresholdSeal" 196 "ThresholdSeal$Session" "challengeNumber" "J" ∈ lw_tbl := List.mem_append_right _ (List.mem_of_getElem? (i := 117) (by decide +kernel))
theorem wf_X_112 : Cond.fieldLink "ThresholdSeal$Session" 112 "ThresholdSeal$Session" "sum" "J" ∈ lw_tbl := List.mem_append_right _ (List.mem_of_getElem? (i := 118) (by decide +kernel))
theorem wf_S_154 : Cond.fieldLink "ThresholdSeal" 154 "ThresholdSeal$Session" "sum" "J" ∈ lw_tbl := List.mem_append_right _ (List.mem_of_getElem? (i := 119) (by decide +kernel))
theorem wy_X_signers : Cond.laysFinal "ThresholdSeal$Session" "ThresholdSeal$Session" "signers" "I" ∈ lw_tbl := List.mem_append_right _ (List.mem_of_getElem? (i := 120) (by decide +kernel))
theorem wx_121 : Cond.soleField "ThresholdSeal$Session" "signers" ∈ lw_tbl := List.mem_append_right _ (List.mem_of_getElem? (i := 121) (by decide +kernel))
theorem wy_X_firstElements : Cond.laysFinal "ThresholdSeal$Session" "ThresholdSeal$Session" "firstElements" "[J" ∈ lw_tbl := List.mem_append_right _ (List.mem_of_getElem? (i := 122) (by decide +kernel))
theorem wx_123 : Cond.soleField "ThresholdSeal$Session" "firstElements" ∈ lw_tbl := List.mem_append_right _ (List.mem_of_getElem? (i := 123) (by decide +kernel))
theorem wy_X_secondElements : Cond.laysFinal "ThresholdSeal$Session" "ThresholdSeal$Session" "secondElements" "[J" ∈ lw_tbl := List.mem_append_right _ (List.mem_of_getElem? (i := 124) (by decide +kernel))
theorem wx_125 : Cond.soleField "ThresholdSeal$Session" "secondElements" ∈ lw_tbl := List.mem_append_right _ (List.mem_of_getElem? (i := 125) (by decide +kernel))
theorem wy_X_factors : Cond.laysFinal "ThresholdSeal$Session" "ThresholdSeal$Session" "factors" "[J" ∈ lw_tbl := List.mem_append_right _ (List.mem_of_getElem? (i := 126) (by decide +kernel))
theorem wx_127 : Cond.soleField "ThresholdSeal$Session" "factors" ∈ lw_tbl := List.mem_append_right _ (List.mem_of_getElem? (i := 127) (by decide +kernel))
theorem wy_X_weights : Cond.laysFinal "ThresholdSeal$Session" "ThresholdSeal$Session" "weights" "[J" ∈ lw_tbl := List.mem_append_right _ (List.mem_of_getElem? (i := 128) (by decide +kernel))
theorem wx_129 : Cond.soleField "ThresholdSeal$Session" "weights" ∈ lw_tbl := List.mem_append_right _ (List.mem_of_getElem? (i := 129) (by decide +kernel))
theorem wy_X_shares : Cond.laysFinal "ThresholdSeal$Session" "ThresholdSeal$Session" "shares" "[J" ∈ lw_tbl := List.mem_append_right _ (List.mem_of_getElem? (i := 130) (by decide +kernel))
theorem wx_131 : Cond.soleField "ThresholdSeal$Session" "shares" ∈ lw_tbl := List.mem_append_right _ (List.mem_of_getElem? (i := 131) (by decide +kernel))
theorem wy_X_memberSet : Cond.lays "ThresholdSeal$Session" "ThresholdSeal$Session" "memberSet" "I" ∈ lw_tbl := List.mem_append_right _ (List.mem_of_getElem? (i := 132) (by decide +kernel))
theorem wx_133 : Cond.soleField "ThresholdSeal$Session" "memberSet" ∈ lw_tbl := List.mem_append_right _ (List.mem_of_getElem? (i := 133) (by decide +kernel))
theorem wy_X_pairSet : Cond.lays "ThresholdSeal$Session" "ThresholdSeal$Session" "pairSet" "I" ∈ lw_tbl := List.mem_append_right _ (List.mem_of_getElem? (i := 134) (by decide +kernel))
theorem wx_135 : Cond.soleField "ThresholdSeal$Session" "pairSet" ∈ lw_tbl := List.mem_append_right _ (List.mem_of_getElem? (i := 135) (by decide +kernel))
theorem wy_X_madeSet : Cond.lays "ThresholdSeal$Session" "ThresholdSeal$Session" "madeSet" "I" ∈ lw_tbl := List.mem_append_right _ (List.mem_of_getElem? (i := 136) (by decide +kernel))
theorem wx_137 : Cond.soleField "ThresholdSeal$Session" "madeSet" ∈ lw_tbl := List.mem_append_right _ (List.mem_of_getElem? (i := 137) (by decide +kernel))
theorem wy_X_takenSet : Cond.lays "ThresholdSeal$Session" "ThresholdSeal$Session" "takenSet" "I" ∈ lw_tbl := List.mem_append_right _ (List.mem_of_getElem? (i := 138) (by decide +kernel))
theorem wx_139 : Cond.soleField "ThresholdSeal$Session" "takenSet" ∈ lw_tbl := List.mem_append_right _ (List.mem_of_getElem? (i := 139) (by decide +kernel))
theorem wy_X_blamedSet : Cond.lays "ThresholdSeal$Session" "ThresholdSeal$Session" "blamedSet" "I" ∈ lw_tbl := List.mem_append_right _ (List.mem_of_getElem? (i := 140) (by decide +kernel))
theorem wx_141 : Cond.soleField "ThresholdSeal$Session" "blamedSet" ∈ lw_tbl := List.mem_append_right _ (List.mem_of_getElem? (i := 141) (by decide +kernel))
theorem wy_X_product : Cond.lays "ThresholdSeal$Session" "ThresholdSeal$Session" "product" "J" ∈ lw_tbl := List.mem_append_right _ (List.mem_of_getElem? (i := 142) (by decide +kernel))
theorem wx_143 : Cond.soleField "ThresholdSeal$Session" "product" ∈ lw_tbl := List.mem_append_right _ (List.mem_of_getElem? (i := 143) (by decide +kernel))
theorem wy_X_challengeNumber : Cond.lays "ThresholdSeal$Session" "ThresholdSeal$Session" "challengeNumber" "J" ∈ lw_tbl := List.mem_append_right _ (List.mem_of_getElem? (i := 144) (by decide +kernel))
theorem wx_145 : Cond.soleField "ThresholdSeal$Session" "challengeNumber" ∈ lw_tbl := List.mem_append_right _ (List.mem_of_getElem? (i := 145) (by decide +kernel))
theorem wy_X_sum : Cond.lays "ThresholdSeal$Session" "ThresholdSeal$Session" "sum" "J" ∈ lw_tbl := List.mem_append_right _ (List.mem_of_getElem? (i := 146) (by decide +kernel))
theorem wx_147 : Cond.soleField "ThresholdSeal$Session" "sum" ∈ lw_tbl := List.mem_append_right _ (List.mem_of_getElem? (i := 147) (by decide +kernel))
theorem wx_148 : Cond.superclass "ThresholdSeal$Session" "java/lang/Object" ∈ lw_tbl := List.mem_append_right _ (List.mem_of_getElem? (i := 148) (by decide +kernel))
theorem wf_S_18 : Cond.fieldLink "ThresholdSeal" 18 "ThresholdSeal" "signers" "I" ∈ lw_tbl := List.mem_append_right _ (List.mem_of_getElem? (i := 149) (by decide +kernel))
theorem wf_S_22 : Cond.fieldLink "ThresholdSeal" 22 "ThresholdSeal" "enough" "I" ∈ lw_tbl := List.mem_append_right _ (List.mem_of_getElem? (i := 150) (by decide +kernel))
theorem wf_S_30 : Cond.fieldLink "ThresholdSeal" 30 "ThresholdSeal" "dealing" "LThresholdSeal$Dealing;" ∈ lw_tbl := List.mem_append_right _ (List.mem_of_getElem? (i := 151) (by decide +kernel))
theorem wf_S_39 : Cond.fieldLink "ThresholdSeal" 39 "ThresholdSeal" "pairs" "LThresholdSeal$Pairs;" ∈ lw_tbl := List.mem_append_right _ (List.mem_of_getElem? (i := 152) (by decide +kernel))
theorem wf_S_46 : Cond.fieldLink "ThresholdSeal" 46 "ThresholdSeal" "session" "LThresholdSeal$Session;" ∈ lw_tbl := List.mem_append_right _ (List.mem_of_getElem? (i := 153) (by decide +kernel))
theorem wy_S_signers : Cond.laysFinal "ThresholdSeal" "ThresholdSeal" "signers" "I" ∈ lw_tbl := List.mem_append_right _ (List.mem_of_getElem? (i := 154) (by decide +kernel))
theorem wx_155 : Cond.soleField "ThresholdSeal" "signers" ∈ lw_tbl := List.mem_append_right _ (List.mem_of_getElem? (i := 155) (by decide +kernel))
theorem wy_S_enough : Cond.laysFinal "ThresholdSeal" "ThresholdSeal" "enough" "I" ∈ lw_tbl := List.mem_append_right _ (List.mem_of_getElem? (i := 156) (by decide +kernel))
theorem wx_157 : Cond.soleField "ThresholdSeal" "enough" ∈ lw_tbl := List.mem_append_right _ (List.mem_of_getElem? (i := 157) (by decide +kernel))
theorem wy_S_dealing : Cond.laysFinal "ThresholdSeal" "ThresholdSeal" "dealing" "LThresholdSeal$Dealing;" ∈ lw_tbl := List.mem_append_right _ (List.mem_of_getElem? (i := 158) (by decide +kernel))
theorem wx_159 : Cond.soleField "ThresholdSeal" "dealing" ∈ lw_tbl := List.mem_append_right _ (List.mem_of_getElem? (i := 159) (by decide +kernel))
theorem wy_S_pairs : Cond.laysFinal "ThresholdSeal" "ThresholdSeal" "pairs" "LThresholdSeal$Pairs;" ∈ lw_tbl := List.mem_append_right _ (List.mem_of_getElem? (i := 160) (by decide +kernel))
theorem wx_161 : Cond.soleField "ThresholdSeal" "pairs" ∈ lw_tbl := List.mem_append_right _ (List.mem_of_getElem? (i := 161) (by decide +kernel))
theorem wy_S_session : Cond.laysFinal "ThresholdSeal" "ThresholdSeal" "session" "LThresholdSeal$Session;" ∈ lw_tbl := List.mem_append_right _ (List.mem_of_getElem? (i := 162) (by decide +kernel))
theorem wx_163 : Cond.soleField "ThresholdSeal" "session" ∈ lw_tbl := List.mem_append_right _ (List.mem_of_getElem? (i := 163) (by decide +kernel))
theorem wx_164 : Cond.superclass "ThresholdSeal" "java/lang/Object" ∈ lw_tbl := List.mem_append_right _ (List.mem_of_getElem? (i := 164) (by decide +kernel))
theorem wm_L_56 : Cond.methodLink "ThresholdSealLaw" 56 yS_deal ∈ lw_tbl := List.mem_append_right _ (List.mem_of_getElem? (i := 165) (by decide +kernel))
theorem wi_S_deal : Cond.instanceMethod yS_deal ∈ lw_tbl := List.mem_append_right _ (List.mem_of_getElem? (i := 166) (by decide +kernel))
theorem ws_S_S_deal : Cond.selects "ThresholdSeal" yS_deal yS_deal ∈ lw_tbl := List.mem_append_right _ (List.mem_of_getElem? (i := 167) (by decide +kernel))
theorem wc_S_deal : Cond.code yS_deal prog_1_method_2_code 3 (Option.some ClassFile.FieldType.long) ∈ lw_tbl := List.mem_append_right _ (List.mem_of_getElem? (i := 168) (by decide +kernel))
theorem wm_S_50 : Cond.methodLink "ThresholdSeal" 50 yD_make ∈ lw_tbl := List.mem_append_right _ (List.mem_of_getElem? (i := 169) (by decide +kernel))
theorem wi_D_make : Cond.instanceMethod yD_make ∈ lw_tbl := List.mem_append_right _ (List.mem_of_getElem? (i := 170) (by decide +kernel))
theorem ws_D_D_make : Cond.selects "ThresholdSeal$Dealing" yD_make yD_make ∈ lw_tbl := List.mem_append_right _ (List.mem_of_getElem? (i := 171) (by decide +kernel))
theorem wc_D_make : Cond.code yD_make prog_2_method_2_code 4 (Option.none : Option ClassFile.FieldType) ∈ lw_tbl := List.mem_append_right _ (List.mem_of_getElem? (i := 172) (by decide +kernel))
theorem wm_D_26 : Cond.methodLink "ThresholdSeal$Dealing" 26 yG_ofThree ∈ lw_tbl := List.mem_append_right _ (List.mem_of_getElem? (i := 173) (by decide +kernel))
theorem wt_G_ofThree : Cond.static yG_ofThree ∈ lw_tbl := List.mem_append_right _ (List.mem_of_getElem? (i := 174) (by decide +kernel))
theorem wc_G_ofThree : Cond.code yG_ofThree prog_3_method_4_code 6 (Option.some ClassFile.FieldType.long) ∈ lw_tbl := List.mem_append_right _ (List.mem_of_getElem? (i := 175) (by decide +kernel))
theorem wm_G_15 : Cond.methodLink "ThresholdSeal$Digest" 15 yG_mix ∈ lw_tbl := List.mem_append_right _ (List.mem_of_getElem? (i := 176) (by decide +kernel))
theorem wt_G_mix : Cond.static yG_mix ∈ lw_tbl := List.mem_append_right _ (List.mem_of_getElem? (i := 177) (by decide +kernel))
theorem wc_G_mix : Cond.code yG_mix prog_3_method_2_code 6 (Option.some ClassFile.FieldType.long) ∈ lw_tbl := List.mem_append_right _ (List.mem_of_getElem? (i := 178) (by decide +kernel))
theorem wk_G_9 : Cond.constantLong "ThresholdSeal$Digest" 9 (-7046029254386353131 : Int64) ∈ lw_tbl := List.mem_append_right _ (List.mem_of_getElem? (i := 179) (by decide +kernel))
theorem wm_G_19 : Cond.methodLink "ThresholdSeal$Digest" 19 yG_finish ∈ lw_tbl := List.mem_append_right _ (List.mem_of_getElem? (i := 180) (by decide +kernel))
theorem wt_G_finish : Cond.static yG_finish ∈ lw_tbl := List.mem_append_right _ (List.mem_of_getElem? (i := 181) (by decide +kernel))
theorem wc_G_finish : Cond.code yG_finish prog_3_method_3_code 2 (Option.some ClassFile.FieldType.long) ∈ lw_tbl := List.mem_append_right _ (List.mem_of_getElem? (i := 182) (by decide +kernel))
theorem wk_G_13 : Cond.constantLong "ThresholdSeal$Digest" 13 (1073741789 : Int64) ∈ lw_tbl := List.mem_append_right _ (List.mem_of_getElem? (i := 183) (by decide +kernel))
theorem wm_D_32 : Cond.methodLink "ThresholdSeal$Dealing" 32 yD_valueAt ∈ lw_tbl := List.mem_append_right _ (List.mem_of_getElem? (i := 184) (by decide +kernel))
theorem wv_D_valueAt : Cond.privateMethod yD_valueAt ∈ lw_tbl := List.mem_append_right _ (List.mem_of_getElem? (i := 185) (by decide +kernel))
theorem wi_D_valueAt : Cond.instanceMethod yD_valueAt ∈ lw_tbl := List.mem_append_right _ (List.mem_of_getElem? (i := 186) (by decide +kernel))
theorem wc_D_valueAt : Cond.code yD_valueAt prog_2_method_4_code 5 (Option.some ClassFile.FieldType.long) ∈ lw_tbl := List.mem_append_right _ (List.mem_of_getElem? (i := 187) (by decide +kernel))
theorem wm_D_46 : Cond.methodLink "ThresholdSeal$Dealing" 46 yN_times ∈ lw_tbl := List.mem_append_right _ (List.mem_of_getElem? (i := 188) (by decide +kernel))
theorem wt_N_times : Cond.static yN_times ∈ lw_tbl := List.mem_append_right _ (List.mem_of_getElem? (i := 189) (by decide +kernel))
theorem wc_N_times : Cond.code yN_times prog_5_method_5_code 4 (Option.some ClassFile.FieldType.long) ∈ lw_tbl := List.mem_append_right _ (List.mem_of_getElem? (i := 190) (by decide +kernel))
theorem wk_N_9 : Cond.constantLong "ThresholdSeal$Numbers" 9 (1073741789 : Int64) ∈ lw_tbl := List.mem_append_right _ (List.mem_of_getElem? (i := 191) (by decide +kernel))
theorem wm_D_52 : Cond.methodLink "ThresholdSeal$Dealing" 52 yN_plus ∈ lw_tbl := List.mem_append_right _ (List.mem_of_getElem? (i := 192) (by decide +kernel))
theorem wt_N_plus : Cond.static yN_plus ∈ lw_tbl := List.mem_append_right _ (List.mem_of_getElem? (i := 193) (by decide +kernel))
theorem wc_N_plus : Cond.code yN_plus prog_5_method_3_code 4 (Option.some ClassFile.FieldType.long) ∈ lw_tbl := List.mem_append_right _ (List.mem_of_getElem? (i := 194) (by decide +kernel))
theorem wm_D_36 : Cond.methodLink "ThresholdSeal$Dealing" 36 yE_ofNumber ∈ lw_tbl := List.mem_append_right _ (List.mem_of_getElem? (i := 195) (by decide +kernel))
theorem wt_E_ofNumber : Cond.static yE_ofNumber ∈ lw_tbl := List.mem_append_right _ (List.mem_of_getElem? (i := 196) (by decide +kernel))
theorem wc_E_ofNumber : Cond.code yE_ofNumber prog_4_method_5_code 2 (Option.some ClassFile.FieldType.long) ∈ lw_tbl := List.mem_append_right _ (List.mem_of_getElem? (i := 197) (by decide +kernel))
theorem wk_E_17 : Cond.constantLong "ThresholdSeal$Elements" 17 (4 : Int64) ∈ lw_tbl := List.mem_append_right _ (List.mem_of_getElem? (i := 198) (by decide +kernel))
theorem wm_E_19 : Cond.methodLink "ThresholdSeal$Elements" 19 yE_power ∈ lw_tbl := List.mem_append_right _ (List.mem_of_getElem? (i := 199) (by decide +kernel))
theorem wt_E_power : Cond.static yE_power ∈ lw_tbl := List.mem_append_right _ (List.mem_of_getElem? (i := 200) (by decide +kernel))
theorem wc_E_power : Cond.code yE_power prog_4_method_4_code 7 (Option.some ClassFile.FieldType.long) ∈ lw_tbl := List.mem_append_right _ (List.mem_of_getElem? (i := 201) (by decide +kernel))
theorem wm_E_13 : Cond.methodLink "ThresholdSeal$Elements" 13 yE_times ∈ lw_tbl := List.mem_append_right _ (List.mem_of_getElem? (i := 202) (by decide +kernel))
theorem wt_E_times : Cond.static yE_times ∈ lw_tbl := List.mem_append_right _ (List.mem_of_getElem? (i := 203) (by decide +kernel))
theorem wc_E_times : Cond.code yE_times prog_4_method_3_code 4 (Option.some ClassFile.FieldType.long) ∈ lw_tbl := List.mem_append_right _ (List.mem_of_getElem? (i := 204) (by decide +kernel))
theorem wk_E_9 : Cond.constantLong "ThresholdSeal$Elements" 9 (2147483579 : Int64) ∈ lw_tbl := List.mem_append_right _ (List.mem_of_getElem? (i := 205) (by decide +kernel))
theorem wm_S_54 : Cond.methodLink "ThresholdSeal" 54 yP_dropAll ∈ lw_tbl := List.mem_append_right _ (List.mem_of_getElem? (i := 206) (by decide +kernel))
theorem wi_P_dropAll : Cond.instanceMethod yP_dropAll ∈ lw_tbl := List.mem_append_right _ (List.mem_of_getElem? (i := 207) (by decide +kernel))
theorem ws_P_P_dropAll : Cond.selects "ThresholdSeal$Pairs" yP_dropAll yP_dropAll ∈ lw_tbl := List.mem_append_right _ (List.mem_of_getElem? (i := 208) (by decide +kernel))
theorem wc_P_dropAll : Cond.code yP_dropAll prog_6_method_5_code 1 (Option.none : Option ClassFile.FieldType) ∈ lw_tbl := List.mem_append_right _ (List.mem_of_getElem? (i := 209) (by decide +kernel))
theorem wm_S_57 : Cond.methodLink "ThresholdSeal" 57 yX_end ∈ lw_tbl := List.mem_append_right _ (List.mem_of_getElem? (i := 210) (by decide +kernel))
theorem wi_X_end : Cond.instanceMethod yX_end ∈ lw_tbl := List.mem_append_right _ (List.mem_of_getElem? (i := 211) (by decide +kernel))
theorem ws_X_X_end : Cond.selects "ThresholdSeal$Session" yX_end yX_end ∈ lw_tbl := List.mem_append_right _ (List.mem_of_getElem? (i := 212) (by decide +kernel))
theorem wc_X_end : Cond.code yX_end prog_7_method_3_code 1 (Option.none : Option ClassFile.FieldType) ∈ lw_tbl := List.mem_append_right _ (List.mem_of_getElem? (i := 213) (by decide +kernel))
theorem wm_X_32 : Cond.methodLink "ThresholdSeal$Session" 32 yX_reset ∈ lw_tbl := List.mem_append_right _ (List.mem_of_getElem? (i := 214) (by decide +kernel))
theorem wv_X_reset : Cond.privateMethod yX_reset ∈ lw_tbl := List.mem_append_right _ (List.mem_of_getElem? (i := 215) (by decide +kernel))
theorem wi_X_reset : Cond.instanceMethod yX_reset ∈ lw_tbl := List.mem_append_right _ (List.mem_of_getElem? (i := 216) (by decide +kernel))
theorem wc_X_reset : Cond.code yX_reset prog_7_method_8_code 2 (Option.none : Option ClassFile.FieldType) ∈ lw_tbl := List.mem_append_right _ (List.mem_of_getElem? (i := 217) (by decide +kernel))
theorem wm_S_60 : Cond.methodLink "ThresholdSeal" 60 yD_keyOfAll ∈ lw_tbl := List.mem_append_right _ (List.mem_of_getElem? (i := 218) (by decide +kernel))
theorem wi_D_keyOfAll : Cond.instanceMethod yD_keyOfAll ∈ lw_tbl := List.mem_append_right _ (List.mem_of_getElem? (i := 219) (by decide +kernel))
theorem ws_D_D_keyOfAll : Cond.selects "ThresholdSeal$Dealing" yD_keyOfAll yD_keyOfAll ∈ lw_tbl := List.mem_append_right _ (List.mem_of_getElem? (i := 220) (by decide +kernel))
theorem wc_D_keyOfAll : Cond.code yD_keyOfAll prog_2_method_3_code 1 (Option.some ClassFile.FieldType.long) ∈ lw_tbl := List.mem_append_right _ (List.mem_of_getElem? (i := 221) (by decide +kernel))
theorem wm_L_86 : Cond.methodLink "ThresholdSealLaw" 86 yS_check ∈ lw_tbl := List.mem_append_right _ (List.mem_of_getElem? (i := 222) (by decide +kernel))
theorem wi_S_check : Cond.instanceMethod yS_check ∈ lw_tbl := List.mem_append_right _ (List.mem_of_getElem? (i := 223) (by decide +kernel))
theorem ws_S_S_check : Cond.selects "ThresholdSeal" yS_check yS_check ∈ lw_tbl := List.mem_append_right _ (List.mem_of_getElem? (i := 224) (by decide +kernel))
theorem wc_S_check : Cond.code yS_check prog_1_method_9_code 7 (Option.some ClassFile.FieldType.boolean) ∈ lw_tbl := List.mem_append_right _ (List.mem_of_getElem? (i := 225) (by decide +kernel))
theorem wm_S_161 : Cond.methodLink "ThresholdSeal" 161 yS_sealHolds ∈ lw_tbl := List.mem_append_right _ (List.mem_of_getElem? (i := 226) (by decide +kernel))
theorem wv_S_sealHolds : Cond.privateMethod yS_sealHolds ∈ lw_tbl := List.mem_append_right _ (List.mem_of_getElem? (i := 227) (by decide +kernel))
theorem wi_S_sealHolds : Cond.instanceMethod yS_sealHolds ∈ lw_tbl := List.mem_append_right _ (List.mem_of_getElem? (i := 228) (by decide +kernel))
theorem wc_S_sealHolds : Cond.code yS_sealHolds prog_1_method_23_code 11 (Option.some ClassFile.FieldType.boolean) ∈ lw_tbl := List.mem_append_right _ (List.mem_of_getElem? (i := 229) (by decide +kernel))
theorem wm_S_208 : Cond.methodLink "ThresholdSeal" 208 yE_isElement ∈ lw_tbl := List.mem_append_right _ (List.mem_of_getElem? (i := 230) (by decide +kernel))
theorem wt_E_isElement : Cond.static yE_isElement ∈ lw_tbl := List.mem_append_right _ (List.mem_of_getElem? (i := 231) (by decide +kernel))
theorem wc_E_isElement : Cond.code yE_isElement prog_4_method_2_code 2 (Option.some ClassFile.FieldType.boolean) ∈ lw_tbl := List.mem_append_right _ (List.mem_of_getElem? (i := 232) (by decide +kernel))
theorem wm_S_214 : Cond.methodLink "ThresholdSeal" 214 yN_isNumber ∈ lw_tbl := List.mem_append_right _ (List.mem_of_getElem? (i := 233) (by decide +kernel))
theorem wt_N_isNumber : Cond.static yN_isNumber ∈ lw_tbl := List.mem_append_right _ (List.mem_of_getElem? (i := 234) (by decide +kernel))
theorem wc_N_isNumber : Cond.code yN_isNumber prog_5_method_2_code 2 (Option.some ClassFile.FieldType.boolean) ∈ lw_tbl := List.mem_append_right _ (List.mem_of_getElem? (i := 235) (by decide +kernel))
theorem wm_S_217 : Cond.methodLink "ThresholdSeal" 217 yG_ofSeal ∈ lw_tbl := List.mem_append_right _ (List.mem_of_getElem? (i := 236) (by decide +kernel))
theorem wt_G_ofSeal : Cond.static yG_ofSeal ∈ lw_tbl := List.mem_append_right _ (List.mem_of_getElem? (i := 237) (by decide +kernel))
theorem wc_G_ofSeal : Cond.code yG_ofSeal prog_3_method_5_code 6 (Option.some ClassFile.FieldType.long) ∈ lw_tbl := List.mem_append_right _ (List.mem_of_getElem? (i := 238) (by decide +kernel))
theorem wk_G_23 : Cond.constantLong "ThresholdSeal$Digest" 23 (5 : Int64) ∈ lw_tbl := List.mem_append_right _ (List.mem_of_getElem? (i := 239) (by decide +kernel))
theorem wm_S_223 : Cond.methodLink "ThresholdSeal" 223 yE_ofNumber ∈ lw_tbl := List.mem_append_right _ (List.mem_of_getElem? (i := 240) (by decide +kernel))
theorem wm_S_227 : Cond.methodLink "ThresholdSeal" 227 yE_power ∈ lw_tbl := List.mem_append_right _ (List.mem_of_getElem? (i := 241) (by decide +kernel))
theorem wm_S_230 : Cond.methodLink "ThresholdSeal" 230 yE_times ∈ lw_tbl := List.mem_append_right _ (List.mem_of_getElem? (i := 242) (by decide +kernel))
theorem wm_L_98 : Cond.methodLink "ThresholdSealLaw" 98 yS_key ∈ lw_tbl := List.mem_append_right _ (List.mem_of_getElem? (i := 243) (by decide +kernel))
theorem wi_S_key : Cond.instanceMethod yS_key ∈ lw_tbl := List.mem_append_right _ (List.mem_of_getElem? (i := 244) (by decide +kernel))
theorem ws_S_S_key : Cond.selects "ThresholdSeal" yS_key yS_key ∈ lw_tbl := List.mem_append_right _ (List.mem_of_getElem? (i := 245) (by decide +kernel))
theorem wc_S_key : Cond.code yS_key prog_1_method_12_code 3 (Option.some ClassFile.FieldType.long) ∈ lw_tbl := List.mem_append_right _ (List.mem_of_getElem? (i := 246) (by decide +kernel))
theorem wm_S_172 : Cond.methodLink "ThresholdSeal" 172 yS_isSigner ∈ lw_tbl := List.mem_append_right _ (List.mem_of_getElem? (i := 247) (by decide +kernel))
theorem wv_S_isSigner : Cond.privateMethod yS_isSigner ∈ lw_tbl := List.mem_append_right _ (List.mem_of_getElem? (i := 248) (by decide +kernel))
theorem wi_S_isSigner : Cond.instanceMethod yS_isSigner ∈ lw_tbl := List.mem_append_right _ (List.mem_of_getElem? (i := 249) (by decide +kernel))
theorem wc_S_isSigner : Cond.code yS_isSigner prog_1_method_21_code 2 (Option.some ClassFile.FieldType.boolean) ∈ lw_tbl := List.mem_append_right _ (List.mem_of_getElem? (i := 250) (by decide +kernel))
theorem wk_S_175 : Cond.constantLong "ThresholdSeal" 175 (-1 : Int64) ∈ lw_tbl := List.mem_append_right _ (List.mem_of_getElem? (i := 251) (by decide +kernel))
theorem wm_L_102 : Cond.methodLink "ThresholdSealLaw" 102 yS_secret ∈ lw_tbl := List.mem_append_right _ (List.mem_of_getElem? (i := 252) (by decide +kernel))
theorem wi_S_secret : Cond.instanceMethod yS_secret ∈ lw_tbl := List.mem_append_right _ (List.mem_of_getElem? (i := 253) (by decide +kernel))
theorem ws_S_S_secret : Cond.selects "ThresholdSeal" yS_secret yS_secret ∈ lw_tbl := List.mem_append_right _ (List.mem_of_getElem? (i := 254) (by decide +kernel))
theorem wc_S_secret : Cond.code yS_secret prog_1_method_13_code 2 (Option.some ClassFile.FieldType.long) ∈ lw_tbl := List.mem_append_right _ (List.mem_of_getElem? (i := 255) (by decide +kernel))
theorem wm_L_106 : Cond.methodLink "ThresholdSealLaw" 106 yS_commitment ∈ lw_tbl := List.mem_append_right _ (List.mem_of_getElem? (i := 256) (by decide +kernel))
theorem wi_S_commitment : Cond.instanceMethod yS_commitment ∈ lw_tbl := List.mem_append_right _ (List.mem_of_getElem? (i := 257) (by decide +kernel))
theorem ws_S_S_commitment : Cond.selects "ThresholdSeal" yS_commitment yS_commitment ∈ lw_tbl := List.mem_append_right _ (List.mem_of_getElem? (i := 258) (by decide +kernel))
theorem wc_S_commitment : Cond.code yS_commitment prog_1_method_14_code 3 (Option.some ClassFile.FieldType.long) ∈ lw_tbl := List.mem_append_right _ (List.mem_of_getElem? (i := 259) (by decide +kernel))
theorem wm_S_106 : Cond.methodLink "ThresholdSeal" 106 yI_has ∈ lw_tbl := List.mem_append_right _ (List.mem_of_getElem? (i := 260) (by decide +kernel))
theorem wt_I_has : Cond.static yI_has ∈ lw_tbl := List.mem_append_right _ (List.mem_of_getElem? (i := 261) (by decide +kernel))
theorem wc_I_has : Cond.code yI_has prog_8_method_3_code 2 (Option.some ClassFile.FieldType.boolean) ∈ lw_tbl := List.mem_append_right _ (List.mem_of_getElem? (i := 262) (by decide +kernel))
theorem wm_I_7 : Cond.methodLink "ThresholdSeal$Signers" 7 yI_only ∈ lw_tbl := List.mem_append_right _ (List.mem_of_getElem? (i := 263) (by decide +kernel))
theorem wt_I_only : Cond.static yI_only ∈ lw_tbl := List.mem_append_right _ (List.mem_of_getElem? (i := 264) (by decide +kernel))
theorem wc_I_only : Cond.code yI_only prog_8_method_2_code 1 (Option.some ClassFile.FieldType.int) ∈ lw_tbl := List.mem_append_right _ (List.mem_of_getElem? (i := 265) (by decide +kernel))
theorem wm_L_111 : Cond.methodLink "ThresholdSealLaw" 111 yS_factor ∈ lw_tbl := List.mem_append_right _ (List.mem_of_getElem? (i := 266) (by decide +kernel))
theorem wi_S_factor : Cond.instanceMethod yS_factor ∈ lw_tbl := List.mem_append_right _ (List.mem_of_getElem? (i := 267) (by decide +kernel))
theorem ws_S_S_factor : Cond.selects "ThresholdSeal" yS_factor yS_factor ∈ lw_tbl := List.mem_append_right _ (List.mem_of_getElem? (i := 268) (by decide +kernel))
theorem wc_S_factor : Cond.code yS_factor prog_1_method_15_code 2 (Option.some ClassFile.FieldType.long) ∈ lw_tbl := List.mem_append_right _ (List.mem_of_getElem? (i := 269) (by decide +kernel))
theorem wm_S_183 : Cond.methodLink "ThresholdSeal" 183 yS_isMember ∈ lw_tbl := List.mem_append_right _ (List.mem_of_getElem? (i := 270) (by decide +kernel))
theorem wv_S_isMember : Cond.privateMethod yS_isMember ∈ lw_tbl := List.mem_append_right _ (List.mem_of_getElem? (i := 271) (by decide +kernel))
theorem wi_S_isMember : Cond.instanceMethod yS_isMember ∈ lw_tbl := List.mem_append_right _ (List.mem_of_getElem? (i := 272) (by decide +kernel))
theorem wc_S_isMember : Cond.code yS_isMember prog_1_method_22_code 2 (Option.some ClassFile.FieldType.boolean) ∈ lw_tbl := List.mem_append_right _ (List.mem_of_getElem? (i := 273) (by decide +kernel))
theorem wm_L_115 : Cond.methodLink "ThresholdSealLaw" 115 yS_weight ∈ lw_tbl := List.mem_append_right _ (List.mem_of_getElem? (i := 274) (by decide +kernel))
theorem wi_S_weight : Cond.instanceMethod yS_weight ∈ lw_tbl := List.mem_append_right _ (List.mem_of_getElem? (i := 275) (by decide +kernel))
theorem ws_S_S_weight : Cond.selects "ThresholdSeal" yS_weight yS_weight ∈ lw_tbl := List.mem_append_right _ (List.mem_of_getElem? (i := 276) (by decide +kernel))
theorem wc_S_weight : Cond.code yS_weight prog_1_method_16_code 2 (Option.some ClassFile.FieldType.long) ∈ lw_tbl := List.mem_append_right _ (List.mem_of_getElem? (i := 277) (by decide +kernel))
theorem wm_L_119 : Cond.methodLink "ThresholdSealLaw" 119 yS_challenge ∈ lw_tbl := List.mem_append_right _ (List.mem_of_getElem? (i := 278) (by decide +kernel))
theorem wi_S_challenge : Cond.instanceMethod yS_challenge ∈ lw_tbl := List.mem_append_right _ (List.mem_of_getElem? (i := 279) (by decide +kernel))
theorem ws_S_S_challenge : Cond.selects "ThresholdSeal" yS_challenge yS_challenge ∈ lw_tbl := List.mem_append_right _ (List.mem_of_getElem? (i := 280) (by decide +kernel))
theorem wc_S_challenge : Cond.code yS_challenge prog_1_method_17_code 1 (Option.some ClassFile.FieldType.long) ∈ lw_tbl := List.mem_append_right _ (List.mem_of_getElem? (i := 281) (by decide +kernel))
theorem wm_S_192 : Cond.methodLink "ThresholdSeal" 192 yX_isOn ∈ lw_tbl := List.mem_append_right _ (List.mem_of_getElem? (i := 282) (by decide +kernel))
theorem wi_X_isOn : Cond.instanceMethod yX_isOn ∈ lw_tbl := List.mem_append_right _ (List.mem_of_getElem? (i := 283) (by decide +kernel))
theorem ws_X_X_isOn : Cond.selects "ThresholdSeal$Session" yX_isOn yX_isOn ∈ lw_tbl := List.mem_append_right _ (List.mem_of_getElem? (i := 284) (by decide +kernel))
theorem wc_X_isOn : Cond.code yX_isOn prog_7_method_2_code 1 (Option.some ClassFile.FieldType.boolean) ∈ lw_tbl := List.mem_append_right _ (List.mem_of_getElem? (i := 285) (by decide +kernel))
theorem wm_L_123 : Cond.methodLink "ThresholdSealLaw" 123 yS_members ∈ lw_tbl := List.mem_append_right _ (List.mem_of_getElem? (i := 286) (by decide +kernel))
theorem wi_S_members : Cond.instanceMethod yS_members ∈ lw_tbl := List.mem_append_right _ (List.mem_of_getElem? (i := 287) (by decide +kernel))
theorem ws_S_S_members : Cond.selects "ThresholdSeal" yS_members yS_members ∈ lw_tbl := List.mem_append_right _ (List.mem_of_getElem? (i := 288) (by decide +kernel))
theorem wc_S_members : Cond.code yS_members prog_1_method_18_code 1 (Option.some ClassFile.FieldType.int) ∈ lw_tbl := List.mem_append_right _ (List.mem_of_getElem? (i := 289) (by decide +kernel))
theorem wm_L_127 : Cond.methodLink "ThresholdSealLaw" 127 yS_taken ∈ lw_tbl := List.mem_append_right _ (List.mem_of_getElem? (i := 290) (by decide +kernel))
theorem wi_S_taken : Cond.instanceMethod yS_taken ∈ lw_tbl := List.mem_append_right _ (List.mem_of_getElem? (i := 291) (by decide +kernel))
theorem ws_S_S_taken : Cond.selects "ThresholdSeal" yS_taken yS_taken ∈ lw_tbl := List.mem_append_right _ (List.mem_of_getElem? (i := 292) (by decide +kernel))
theorem wc_S_taken : Cond.code yS_taken prog_1_method_19_code 1 (Option.some ClassFile.FieldType.int) ∈ lw_tbl := List.mem_append_right _ (List.mem_of_getElem? (i := 293) (by decide +kernel))
theorem wm_L_131 : Cond.methodLink "ThresholdSealLaw" 131 yS_blamed ∈ lw_tbl := List.mem_append_right _ (List.mem_of_getElem? (i := 294) (by decide +kernel))
theorem wi_S_blamed : Cond.instanceMethod yS_blamed ∈ lw_tbl := List.mem_append_right _ (List.mem_of_getElem? (i := 295) (by decide +kernel))
theorem ws_S_S_blamed : Cond.selects "ThresholdSeal" yS_blamed yS_blamed ∈ lw_tbl := List.mem_append_right _ (List.mem_of_getElem? (i := 296) (by decide +kernel))
theorem wc_S_blamed : Cond.code yS_blamed prog_1_method_20_code 1 (Option.some ClassFile.FieldType.int) ∈ lw_tbl := List.mem_append_right _ (List.mem_of_getElem? (i := 297) (by decide +kernel))
theorem wm_L_42 : Cond.methodLink "ThresholdSealLaw" 42 yL_cell ∈ lw_tbl := List.mem_append_right _ (List.mem_of_getElem? (i := 298) (by decide +kernel))
theorem wt_L_cell : Cond.static yL_cell ∈ lw_tbl := List.mem_append_right _ (List.mem_of_getElem? (i := 299) (by decide +kernel))
theorem wc_L_cell : Cond.code yL_cell method_2_code 2 (Option.some ClassFile.FieldType.int) ∈ lw_tbl := List.mem_append_right _ (List.mem_of_getElem? (i := 300) (by decide +kernel))
theorem wm_L_61 : Cond.methodLink "ThresholdSealLaw" 61 yL_commit ∈ lw_tbl := List.mem_append_right _ (List.mem_of_getElem? (i := 301) (by decide +kernel))
theorem wt_L_commit : Cond.static yL_commit ∈ lw_tbl := List.mem_append_right _ (List.mem_of_getElem? (i := 302) (by decide +kernel))
theorem wc_L_commit : Cond.codeWith yL_commit method_3_code 6 (Option.some ClassFile.FieldType.int) [(0, 10, 13, 13), (0, 10, 17, 15)] ∈ lw_tbl := List.mem_append_right _ (List.mem_of_getElem? (i := 303) (by decide +kernel))
theorem wl_L_13 : Cond.classLink "ThresholdSealLaw" 13 "java/lang/IllegalArgumentException" ∈ lw_tbl := List.mem_append_right _ (List.mem_of_getElem? (i := 304) (by decide +kernel))
theorem wl_L_15 : Cond.classLink "ThresholdSealLaw" 15 "java/lang/IllegalStateException" ∈ lw_tbl := List.mem_append_right _ (List.mem_of_getElem? (i := 305) (by decide +kernel))
theorem wm_L_7 : Cond.methodLink "ThresholdSealLaw" 7 yS_commit ∈ lw_tbl := List.mem_append_right _ (List.mem_of_getElem? (i := 306) (by decide +kernel))
theorem wi_S_commit : Cond.instanceMethod yS_commit ∈ lw_tbl := List.mem_append_right _ (List.mem_of_getElem? (i := 307) (by decide +kernel))
theorem ws_S_S_commit : Cond.selects "ThresholdSeal" yS_commit yS_commit ∈ lw_tbl := List.mem_append_right _ (List.mem_of_getElem? (i := 308) (by decide +kernel))
theorem wc_S_commit : Cond.code yS_commit prog_1_method_3_code 4 (Option.some ClassFile.FieldType.long) ∈ lw_tbl := List.mem_append_right _ (List.mem_of_getElem? (i := 309) (by decide +kernel))
theorem wm_S_64 : Cond.methodLink "ThresholdSeal" 64 yS_requireSigner ∈ lw_tbl := List.mem_append_right _ (List.mem_of_getElem? (i := 310) (by decide +kernel))
theorem wv_S_requireSigner : Cond.privateMethod yS_requireSigner ∈ lw_tbl := List.mem_append_right _ (List.mem_of_getElem? (i := 311) (by decide +kernel))
theorem wi_S_requireSigner : Cond.instanceMethod yS_requireSigner ∈ lw_tbl := List.mem_append_right _ (List.mem_of_getElem? (i := 312) (by decide +kernel))
theorem wc_S_requireSigner : Cond.code yS_requireSigner prog_1_method_24_code 2 (Option.none : Option ClassFile.FieldType) ∈ lw_tbl := List.mem_append_right _ (List.mem_of_getElem? (i := 313) (by decide +kernel))
theorem wl_S_231 : Cond.classLink "ThresholdSeal" 231 "java/lang/IllegalArgumentException" ∈ lw_tbl := List.mem_append_right _ (List.mem_of_getElem? (i := 314) (by decide +kernel))
theorem wz_JA : Cond.instantiable "java/lang/IllegalArgumentException" 6 ∈ lw_tbl := List.mem_append_right _ (List.mem_of_getElem? (i := 315) (by decide +kernel))
theorem wx_316 : Cond.castable "java/lang/IllegalArgumentException" "java/lang/IllegalArgumentException" ∈ lw_tbl := List.mem_append_right _ (List.mem_of_getElem? (i := 316) (by decide +kernel))
theorem wx_317 : Cond.declares yJR_init ∈ lw_tbl := List.mem_append_right _ (List.mem_of_getElem? (i := 317) (by decide +kernel))
theorem wx_318 : Cond.declares yJR_init2 ∈ lw_tbl := List.mem_append_right _ (List.mem_of_getElem? (i := 318) (by decide +kernel))
theorem wx_319 : Cond.declares yJE_init ∈ lw_tbl := List.mem_append_right _ (List.mem_of_getElem? (i := 319) (by decide +kernel))
theorem wx_320 : Cond.declares yJE_init2 ∈ lw_tbl := List.mem_append_right _ (List.mem_of_getElem? (i := 320) (by decide +kernel))
theorem wx_321 : Cond.declares yJT_init ∈ lw_tbl := List.mem_append_right _ (List.mem_of_getElem? (i := 321) (by decide +kernel))
theorem wx_322 : Cond.declares yJT_init2 ∈ lw_tbl := List.mem_append_right _ (List.mem_of_getElem? (i := 322) (by decide +kernel))
theorem ws_JA_JT_fillInStackTrace : Cond.selects "java/lang/IllegalArgumentException" yJT_fillInStackTrace yJT_fillInStackTrace ∈ lw_tbl := List.mem_append_right _ (List.mem_of_getElem? (i := 323) (by decide +kernel))
theorem ws_JA_JT_fillInStackTrace2 : Cond.selects "java/lang/IllegalArgumentException" yJT_fillInStackTrace2 yJT_fillInStackTrace2 ∈ lw_tbl := List.mem_append_right _ (List.mem_of_getElem? (i := 324) (by decide +kernel))
theorem wy_JA_cause : Cond.lays "java/lang/IllegalArgumentException" "java/lang/Throwable" "cause" "Ljava/lang/Throwable;" ∈ lw_tbl := List.mem_append_right _ (List.mem_of_getElem? (i := 325) (by decide +kernel))
theorem wy_JT_cause : Cond.lays "java/lang/Throwable" "java/lang/Throwable" "cause" "Ljava/lang/Throwable;" ∈ lw_tbl := List.mem_append_right _ (List.mem_of_getElem? (i := 326) (by decide +kernel))
theorem wy_JA_stackTrace : Cond.lays "java/lang/IllegalArgumentException" "java/lang/Throwable" "stackTrace" "[Ljava/lang/StackTraceElement;" ∈ lw_tbl := List.mem_append_right _ (List.mem_of_getElem? (i := 327) (by decide +kernel))
theorem wy_JT_stackTrace : Cond.lays "java/lang/Throwable" "java/lang/Throwable" "stackTrace" "[Ljava/lang/StackTraceElement;" ∈ lw_tbl := List.mem_append_right _ (List.mem_of_getElem? (i := 328) (by decide +kernel))
theorem wy_JA_suppressedExceptions : Cond.lays "java/lang/IllegalArgumentException" "java/lang/Throwable" "suppressedExceptions" "Ljava/util/List;" ∈ lw_tbl := List.mem_append_right _ (List.mem_of_getElem? (i := 329) (by decide +kernel))
theorem wy_JT_suppressedExceptions : Cond.lays "java/lang/Throwable" "java/lang/Throwable" "suppressedExceptions" "Ljava/util/List;" ∈ lw_tbl := List.mem_append_right _ (List.mem_of_getElem? (i := 330) (by decide +kernel))
theorem wy_JA_detailMessage : Cond.lays "java/lang/IllegalArgumentException" "java/lang/Throwable" "detailMessage" "Ljava/lang/String;" ∈ lw_tbl := List.mem_append_right _ (List.mem_of_getElem? (i := 331) (by decide +kernel))
theorem wy_JT_detailMessage : Cond.lays "java/lang/Throwable" "java/lang/Throwable" "detailMessage" "Ljava/lang/String;" ∈ lw_tbl := List.mem_append_right _ (List.mem_of_getElem? (i := 332) (by decide +kernel))
theorem wy_JA_backtrace : Cond.lays "java/lang/IllegalArgumentException" "java/lang/Throwable" "backtrace" "Ljava/lang/Object;" ∈ lw_tbl := List.mem_append_right _ (List.mem_of_getElem? (i := 333) (by decide +kernel))
theorem wy_JT_backtrace : Cond.lays "java/lang/Throwable" "java/lang/Throwable" "backtrace" "Ljava/lang/Object;" ∈ lw_tbl := List.mem_append_right _ (List.mem_of_getElem? (i := 334) (by decide +kernel))
theorem wf_JT_198 : Cond.fieldLink "java/lang/Throwable" 198 "java/lang/Throwable" "backtrace" "Ljava/lang/Object;" ∈ lw_tbl := List.mem_append_right _ (List.mem_of_getElem? (i := 335) (by decide +kernel))
theorem wx_336 : Cond.superclass "java/lang/Throwable" "java/lang/Object" ∈ lw_tbl := List.mem_append_right _ (List.mem_of_getElem? (i := 336) (by decide +kernel))
theorem wi_JT_init : Cond.instanceMethod yJT_init ∈ lw_tbl := List.mem_append_right _ (List.mem_of_getElem? (i := 337) (by decide +kernel))
theorem wc_JT_init : Cond.code yJT_init prog_18_method_1_code 1 (Option.none : Option ClassFile.FieldType) ∈ lw_tbl := List.mem_append_right _ (List.mem_of_getElem? (i := 338) (by decide +kernel))
theorem wm_JT_1 : Cond.methodLink "java/lang/Throwable" 1 yJO_init ∈ lw_tbl := List.mem_append_right _ (List.mem_of_getElem? (i := 339) (by decide +kernel))
theorem wf_JT_13 : Cond.fieldLink "java/lang/Throwable" 13 "java/lang/Throwable" "UNASSIGNED_STACK" "[Ljava/lang/StackTraceElement;" ∈ lw_tbl := List.mem_append_right _ (List.mem_of_getElem? (i := 340) (by decide +kernel))
theorem wy_JT_UNASSIGNED_STACK : Cond.laysStatic "java/lang/Throwable" "UNASSIGNED_STACK" "[Ljava/lang/StackTraceElement;" ∈ lw_tbl := List.mem_append_right _ (List.mem_of_getElem? (i := 341) (by decide +kernel))
theorem wf_JT_20 : Cond.fieldLink "java/lang/Throwable" 20 "java/lang/Throwable" "SUPPRESSED_SENTINEL" "Ljava/util/List;" ∈ lw_tbl := List.mem_append_right _ (List.mem_of_getElem? (i := 342) (by decide +kernel))
theorem wy_JT_SUPPRESSED_SENTINEL : Cond.laysStatic "java/lang/Throwable" "SUPPRESSED_SENTINEL" "Ljava/util/List;" ∈ lw_tbl := List.mem_append_right _ (List.mem_of_getElem? (i := 343) (by decide +kernel))
theorem wm_JT_27 : Cond.methodLink "java/lang/Throwable" 27 yJT_fillInStackTrace2 ∈ lw_tbl := List.mem_append_right _ (List.mem_of_getElem? (i := 344) (by decide +kernel))
theorem wi_JT_fillInStackTrace2 : Cond.instanceMethod yJT_fillInStackTrace2 ∈ lw_tbl := List.mem_append_right _ (List.mem_of_getElem? (i := 345) (by decide +kernel))
theorem wx_346 : Cond.sameMethod "java/lang/Throwable" "java/lang/Throwable" "fillInStackTrace" "()Ljava/lang/Throwable;" ∈ lw_tbl := List.mem_append_right _ (List.mem_of_getElem? (i := 346) (by decide +kernel))
theorem ws_JS_JT_fillInStackTrace2 : Cond.selects "java/lang/IllegalStateException" yJT_fillInStackTrace2 yJT_fillInStackTrace2 ∈ lw_tbl := List.mem_append_right _ (List.mem_of_getElem? (i := 347) (by decide +kernel))
theorem wc_JT_fillInStackTrace2 : Cond.codeSync yJT_fillInStackTrace2 prog_18_method_18_code 1 (Option.some (ClassFile.FieldType.object "java/lang/Throwable")) ∈ lw_tbl := List.mem_append_right _ (List.mem_of_getElem? (i := 348) (by decide +kernel))
theorem wm_JT_202 : Cond.methodLink "java/lang/Throwable" 202 yJT_fillInStackTrace ∈ lw_tbl := List.mem_append_right _ (List.mem_of_getElem? (i := 349) (by decide +kernel))
theorem wv_JT_fillInStackTrace : Cond.privateMethod yJT_fillInStackTrace ∈ lw_tbl := List.mem_append_right _ (List.mem_of_getElem? (i := 350) (by decide +kernel))
theorem wi_JT_fillInStackTrace : Cond.instanceMethod yJT_fillInStackTrace ∈ lw_tbl := List.mem_append_right _ (List.mem_of_getElem? (i := 351) (by decide +kernel))
theorem wz_JT : Cond.instantiable "java/lang/Throwable" 6 ∈ lw_tbl := List.mem_append_right _ (List.mem_of_getElem? (i := 352) (by decide +kernel))
theorem wx_353 : Cond.native yJT_fillInStackTrace ∈ lw_tbl := List.mem_append_right _ (List.mem_of_getElem? (i := 353) (by decide +kernel))
theorem wq_S_233 : Cond.stringRef "ThresholdSeal" 233 "no such signer" ∈ lw_tbl := List.mem_append_right _ (List.mem_of_getElem? (i := 354) (by decide +kernel))
theorem wm_S_235 : Cond.methodLink "ThresholdSeal" 235 yJA_init ∈ lw_tbl := List.mem_append_right _ (List.mem_of_getElem? (i := 355) (by decide +kernel))
theorem wi_JA_init : Cond.instanceMethod yJA_init ∈ lw_tbl := List.mem_append_right _ (List.mem_of_getElem? (i := 356) (by decide +kernel))
theorem wc_JA_init : Cond.code yJA_init prog_12_method_2_code 2 (Option.none : Option ClassFile.FieldType) ∈ lw_tbl := List.mem_append_right _ (List.mem_of_getElem? (i := 357) (by decide +kernel))
theorem wm_JA_7 : Cond.methodLink "java/lang/IllegalArgumentException" 7 yJR_init2 ∈ lw_tbl := List.mem_append_right _ (List.mem_of_getElem? (i := 358) (by decide +kernel))
theorem wi_JR_init2 : Cond.instanceMethod yJR_init2 ∈ lw_tbl := List.mem_append_right _ (List.mem_of_getElem? (i := 359) (by decide +kernel))
theorem wc_JR_init2 : Cond.code yJR_init2 prog_16_method_2_code 2 (Option.none : Option ClassFile.FieldType) ∈ lw_tbl := List.mem_append_right _ (List.mem_of_getElem? (i := 360) (by decide +kernel))
theorem wm_JR_7 : Cond.methodLink "java/lang/RuntimeException" 7 yJE_init2 ∈ lw_tbl := List.mem_append_right _ (List.mem_of_getElem? (i := 361) (by decide +kernel))
theorem wi_JE_init2 : Cond.instanceMethod yJE_init2 ∈ lw_tbl := List.mem_append_right _ (List.mem_of_getElem? (i := 362) (by decide +kernel))
theorem wc_JE_init2 : Cond.code yJE_init2 prog_11_method_2_code 2 (Option.none : Option ClassFile.FieldType) ∈ lw_tbl := List.mem_append_right _ (List.mem_of_getElem? (i := 363) (by decide +kernel))
theorem wm_JE_7 : Cond.methodLink "java/lang/Exception" 7 yJT_init2 ∈ lw_tbl := List.mem_append_right _ (List.mem_of_getElem? (i := 364) (by decide +kernel))
theorem wi_JT_init2 : Cond.instanceMethod yJT_init2 ∈ lw_tbl := List.mem_append_right _ (List.mem_of_getElem? (i := 365) (by decide +kernel))
theorem wc_JT_init2 : Cond.code yJT_init2 prog_18_method_2_code 2 (Option.none : Option ClassFile.FieldType) ∈ lw_tbl := List.mem_append_right _ (List.mem_of_getElem? (i := 366) (by decide +kernel))
theorem wf_JT_31 : Cond.fieldLink "java/lang/Throwable" 31 "java/lang/Throwable" "detailMessage" "Ljava/lang/String;" ∈ lw_tbl := List.mem_append_right _ (List.mem_of_getElem? (i := 368) (by decide +kernel))
theorem wf_JT_7 : Cond.fieldLink "java/lang/Throwable" 7 "java/lang/Throwable" "cause" "Ljava/lang/Throwable;" ∈ lw_tbl := List.mem_append_right _ (List.mem_of_getElem? (i := 369) (by decide +kernel))
theorem wf_JT_17 : Cond.fieldLink "java/lang/Throwable" 17 "java/lang/Throwable" "stackTrace" "[Ljava/lang/StackTraceElement;" ∈ lw_tbl := List.mem_append_right _ (List.mem_of_getElem? (i := 370) (by decide +kernel))
theorem wf_JT_24 : Cond.fieldLink "java/lang/Throwable" 24 "java/lang/Throwable" "suppressedExceptions" "Ljava/util/List;" ∈ lw_tbl := List.mem_append_right _ (List.mem_of_getElem? (i := 371) (by decide +kernel))
theorem wx_372 : Cond.soleField "java/lang/Throwable" "backtrace" ∈ lw_tbl := List.mem_append_right _ (List.mem_of_getElem? (i := 372) (by decide +kernel))
theorem wx_373 : Cond.soleField "java/lang/Throwable" "detailMessage" ∈ lw_tbl := List.mem_append_right _ (List.mem_of_getElem? (i := 373) (by decide +kernel))
theorem wx_374 : Cond.soleField "java/lang/Throwable" "cause" ∈ lw_tbl := List.mem_append_right _ (List.mem_of_getElem? (i := 374) (by decide +kernel))
theorem wx_375 : Cond.soleField "java/lang/Throwable" "stackTrace" ∈ lw_tbl := List.mem_append_right _ (List.mem_of_getElem? (i := 375) (by decide +kernel))
theorem wy_JA_depth : Cond.lays "java/lang/IllegalArgumentException" "java/lang/Throwable" "depth" "I" ∈ lw_tbl := List.mem_append_right _ (List.mem_of_getElem? (i := 376) (by decide +kernel))
theorem wx_377 : Cond.soleField "java/lang/Throwable" "depth" ∈ lw_tbl := List.mem_append_right _ (List.mem_of_getElem? (i := 377) (by decide +kernel))
theorem wx_378 : Cond.soleField "java/lang/Throwable" "suppressedExceptions" ∈ lw_tbl := List.mem_append_right _ (List.mem_of_getElem? (i := 378) (by decide +kernel))
theorem wx_379 : Cond.superclass "java/lang/IllegalArgumentException" "java/lang/RuntimeException" ∈ lw_tbl := List.mem_append_right _ (List.mem_of_getElem? (i := 379) (by decide +kernel))
theorem wa_byte : Cond.arrayClass ClassFile.FieldType.byte ∈ lw_tbl := List.mem_append_right _ (List.mem_of_getElem? (i := 380) (by decide +kernel))
theorem wm_S_67 : Cond.methodLink "ThresholdSeal" 67 yS_requireDealt ∈ lw_tbl := List.mem_append_right _ (List.mem_of_getElem? (i := 381) (by decide +kernel))
theorem wv_S_requireDealt : Cond.privateMethod yS_requireDealt ∈ lw_tbl := List.mem_append_right _ (List.mem_of_getElem? (i := 382) (by decide +kernel))
theorem wi_S_requireDealt : Cond.instanceMethod yS_requireDealt ∈ lw_tbl := List.mem_append_right _ (List.mem_of_getElem? (i := 383) (by decide +kernel))
theorem wc_S_requireDealt : Cond.code yS_requireDealt prog_1_method_27_code 1 (Option.none : Option ClassFile.FieldType) ∈ lw_tbl := List.mem_append_right _ (List.mem_of_getElem? (i := 384) (by decide +kernel))
theorem wl_S_88 : Cond.classLink "ThresholdSeal" 88 "java/lang/IllegalStateException" ∈ lw_tbl := List.mem_append_right _ (List.mem_of_getElem? (i := 385) (by decide +kernel))
theorem wz_JS : Cond.instantiable "java/lang/IllegalStateException" 6 ∈ lw_tbl := List.mem_append_right _ (List.mem_of_getElem? (i := 386) (by decide +kernel))
theorem wx_387 : Cond.castable "java/lang/IllegalStateException" "java/lang/IllegalStateException" ∈ lw_tbl := List.mem_append_right _ (List.mem_of_getElem? (i := 387) (by decide +kernel))
theorem ws_JS_JT_fillInStackTrace : Cond.selects "java/lang/IllegalStateException" yJT_fillInStackTrace yJT_fillInStackTrace ∈ lw_tbl := List.mem_append_right _ (List.mem_of_getElem? (i := 388) (by decide +kernel))
theorem wy_JS_cause : Cond.lays "java/lang/IllegalStateException" "java/lang/Throwable" "cause" "Ljava/lang/Throwable;" ∈ lw_tbl := List.mem_append_right _ (List.mem_of_getElem? (i := 389) (by decide +kernel))
theorem wy_JS_stackTrace : Cond.lays "java/lang/IllegalStateException" "java/lang/Throwable" "stackTrace" "[Ljava/lang/StackTraceElement;" ∈ lw_tbl := List.mem_append_right _ (List.mem_of_getElem? (i := 390) (by decide +kernel))
theorem wy_JS_suppressedExceptions : Cond.lays "java/lang/IllegalStateException" "java/lang/Throwable" "suppressedExceptions" "Ljava/util/List;" ∈ lw_tbl := List.mem_append_right _ (List.mem_of_getElem? (i := 391) (by decide +kernel))
theorem wy_JS_detailMessage : Cond.lays "java/lang/IllegalStateException" "java/lang/Throwable" "detailMessage" "Ljava/lang/String;" ∈ lw_tbl := List.mem_append_right _ (List.mem_of_getElem? (i := 392) (by decide +kernel))
theorem wy_JS_backtrace : Cond.lays "java/lang/IllegalStateException" "java/lang/Throwable" "backtrace" "Ljava/lang/Object;" ∈ lw_tbl := List.mem_append_right _ (List.mem_of_getElem? (i := 393) (by decide +kernel))
theorem wq_S_246 : Cond.stringRef "ThresholdSeal" 246 "nothing is dealt" ∈ lw_tbl := List.mem_append_right _ (List.mem_of_getElem? (i := 394) (by decide +kernel))
theorem wm_S_92 : Cond.methodLink "ThresholdSeal" 92 yJS_init ∈ lw_tbl := List.mem_append_right _ (List.mem_of_getElem? (i := 395) (by decide +kernel))
theorem wi_JS_init : Cond.instanceMethod yJS_init ∈ lw_tbl := List.mem_append_right _ (List.mem_of_getElem? (i := 396) (by decide +kernel))
theorem wc_JS_init : Cond.code yJS_init prog_13_method_2_code 2 (Option.none : Option ClassFile.FieldType) ∈ lw_tbl := List.mem_append_right _ (List.mem_of_getElem? (i := 397) (by decide +kernel))
theorem wm_JS_7 : Cond.methodLink "java/lang/IllegalStateException" 7 yJR_init2 ∈ lw_tbl := List.mem_append_right _ (List.mem_of_getElem? (i := 398) (by decide +kernel))
theorem wy_JS_depth : Cond.lays "java/lang/IllegalStateException" "java/lang/Throwable" "depth" "I" ∈ lw_tbl := List.mem_append_right _ (List.mem_of_getElem? (i := 399) (by decide +kernel))
theorem wx_400 : Cond.superclass "java/lang/IllegalStateException" "java/lang/RuntimeException" ∈ lw_tbl := List.mem_append_right _ (List.mem_of_getElem? (i := 400) (by decide +kernel))
theorem wm_S_70 : Cond.methodLink "ThresholdSeal" 70 yP_open ∈ lw_tbl := List.mem_append_right _ (List.mem_of_getElem? (i := 401) (by decide +kernel))
theorem wi_P_open : Cond.instanceMethod yP_open ∈ lw_tbl := List.mem_append_right _ (List.mem_of_getElem? (i := 402) (by decide +kernel))
theorem ws_P_P_open : Cond.selects "ThresholdSeal$Pairs" yP_open yP_open ∈ lw_tbl := List.mem_append_right _ (List.mem_of_getElem? (i := 403) (by decide +kernel))
theorem wc_P_open : Cond.code yP_open prog_6_method_2_code 4 (Option.none : Option ClassFile.FieldType) ∈ lw_tbl := List.mem_append_right _ (List.mem_of_getElem? (i := 404) (by decide +kernel))
theorem wk_P_22 : Cond.constantLong "ThresholdSeal$Pairs" 22 (2 : Int64) ∈ lw_tbl := List.mem_append_right _ (List.mem_of_getElem? (i := 405) (by decide +kernel))
theorem wm_P_24 : Cond.methodLink "ThresholdSeal$Pairs" 24 yG_ofThree ∈ lw_tbl := List.mem_append_right _ (List.mem_of_getElem? (i := 406) (by decide +kernel))
theorem wk_P_30 : Cond.constantLong "ThresholdSeal$Pairs" 30 (3 : Int64) ∈ lw_tbl := List.mem_append_right _ (List.mem_of_getElem? (i := 407) (by decide +kernel))
theorem wm_P_32 : Cond.methodLink "ThresholdSeal$Pairs" 32 yE_ofNumber ∈ lw_tbl := List.mem_append_right _ (List.mem_of_getElem? (i := 408) (by decide +kernel))
theorem wm_P_42 : Cond.methodLink "ThresholdSeal$Pairs" 42 yI_only ∈ lw_tbl := List.mem_append_right _ (List.mem_of_getElem? (i := 409) (by decide +kernel))
theorem wm_S_74 : Cond.methodLink "ThresholdSeal" 74 yX_losePair ∈ lw_tbl := List.mem_append_right _ (List.mem_of_getElem? (i := 410) (by decide +kernel))
theorem wi_X_losePair : Cond.instanceMethod yX_losePair ∈ lw_tbl := List.mem_append_right _ (List.mem_of_getElem? (i := 411) (by decide +kernel))
theorem ws_X_X_losePair : Cond.selects "ThresholdSeal$Session" yX_losePair yX_losePair ∈ lw_tbl := List.mem_append_right _ (List.mem_of_getElem? (i := 412) (by decide +kernel))
theorem wc_X_losePair : Cond.code yX_losePair prog_7_method_5_code 2 (Option.none : Option ClassFile.FieldType) ∈ lw_tbl := List.mem_append_right _ (List.mem_of_getElem? (i := 413) (by decide +kernel))
theorem wm_X_80 : Cond.methodLink "ThresholdSeal$Session" 80 yI_only ∈ lw_tbl := List.mem_append_right _ (List.mem_of_getElem? (i := 414) (by decide +kernel))
theorem wm_L_69 : Cond.methodLink "ThresholdSealLaw" 69 yL_begin ∈ lw_tbl := List.mem_append_right _ (List.mem_of_getElem? (i := 415) (by decide +kernel))
theorem wt_L_begin : Cond.static yL_begin ∈ lw_tbl := List.mem_append_right _ (List.mem_of_getElem? (i := 416) (by decide +kernel))
theorem wc_L_begin : Cond.codeWith yL_begin method_4_code 6 (Option.some ClassFile.FieldType.int) [(0, 10, 13, 13), (0, 10, 17, 15)] ∈ lw_tbl := List.mem_append_right _ (List.mem_of_getElem? (i := 417) (by decide +kernel))
theorem wm_L_17 : Cond.methodLink "ThresholdSealLaw" 17 yS_begin ∈ lw_tbl := List.mem_append_right _ (List.mem_of_getElem? (i := 418) (by decide +kernel))
theorem wi_S_begin : Cond.instanceMethod yS_begin ∈ lw_tbl := List.mem_append_right _ (List.mem_of_getElem? (i := 419) (by decide +kernel))
theorem ws_S_S_begin : Cond.selects "ThresholdSeal" yS_begin yS_begin ∈ lw_tbl := List.mem_append_right _ (List.mem_of_getElem? (i := 420) (by decide +kernel))
theorem wc_S_begin : Cond.code yS_begin prog_1_method_4_code 4 (Option.some ClassFile.FieldType.long) ∈ lw_tbl := List.mem_append_right _ (List.mem_of_getElem? (i := 421) (by decide +kernel))
theorem wm_S_81 : Cond.methodLink "ThresholdSeal" 81 yS_requireEnough ∈ lw_tbl := List.mem_append_right _ (List.mem_of_getElem? (i := 422) (by decide +kernel))
theorem wv_S_requireEnough : Cond.privateMethod yS_requireEnough ∈ lw_tbl := List.mem_append_right _ (List.mem_of_getElem? (i := 423) (by decide +kernel))
theorem wi_S_requireEnough : Cond.instanceMethod yS_requireEnough ∈ lw_tbl := List.mem_append_right _ (List.mem_of_getElem? (i := 424) (by decide +kernel))
theorem wc_S_requireEnough : Cond.code yS_requireEnough prog_1_method_26_code 2 (Option.none : Option ClassFile.FieldType) ∈ lw_tbl := List.mem_append_right _ (List.mem_of_getElem? (i := 425) (by decide +kernel))
theorem wm_S_238 : Cond.methodLink "ThresholdSeal" 238 yJI_bitCount ∈ lw_tbl := List.mem_append_right _ (List.mem_of_getElem? (i := 426) (by decide +kernel))
theorem wt_JI_bitCount : Cond.static yJI_bitCount ∈ lw_tbl := List.mem_append_right _ (List.mem_of_getElem? (i := 427) (by decide +kernel))
theorem wc_JI_bitCount : Cond.code yJI_bitCount prog_14_method_49_code 1 (Option.some ClassFile.FieldType.int) ∈ lw_tbl := List.mem_append_right _ (List.mem_of_getElem? (i := 428) (by decide +kernel))
theorem wk_JI_265 : Cond.constant "java/lang/Integer" 265 (1431655765 : Int32) ∈ lw_tbl := List.mem_append_right _ (List.mem_of_getElem? (i := 429) (by decide +kernel))
theorem wk_JI_266 : Cond.constant "java/lang/Integer" 266 (858993459 : Int32) ∈ lw_tbl := List.mem_append_right _ (List.mem_of_getElem? (i := 430) (by decide +kernel))
theorem wk_JI_267 : Cond.constant "java/lang/Integer" 267 (252645135 : Int32) ∈ lw_tbl := List.mem_append_right _ (List.mem_of_getElem? (i := 431) (by decide +kernel))
theorem wq_S_244 : Cond.stringRef "ThresholdSeal" 244 "a signer that there is none, or too few" ∈ lw_tbl := List.mem_append_right _ (List.mem_of_getElem? (i := 432) (by decide +kernel))
theorem wm_S_84 : Cond.methodLink "ThresholdSeal" 84 yP_areOpen ∈ lw_tbl := List.mem_append_right _ (List.mem_of_getElem? (i := 433) (by decide +kernel))
theorem wi_P_areOpen : Cond.instanceMethod yP_areOpen ∈ lw_tbl := List.mem_append_right _ (List.mem_of_getElem? (i := 434) (by decide +kernel))
theorem ws_P_P_areOpen : Cond.selects "ThresholdSeal$Pairs" yP_areOpen yP_areOpen ∈ lw_tbl := List.mem_append_right _ (List.mem_of_getElem? (i := 435) (by decide +kernel))
theorem wc_P_areOpen : Cond.code yP_areOpen prog_6_method_3_code 2 (Option.some ClassFile.FieldType.boolean) ∈ lw_tbl := List.mem_append_right _ (List.mem_of_getElem? (i := 436) (by decide +kernel))
theorem wq_S_90 : Cond.stringRef "ThresholdSeal" 90 "a member has no open pair" ∈ lw_tbl := List.mem_append_right _ (List.mem_of_getElem? (i := 437) (by decide +kernel))
theorem wm_S_95 : Cond.methodLink "ThresholdSeal" 95 yX_start ∈ lw_tbl := List.mem_append_right _ (List.mem_of_getElem? (i := 438) (by decide +kernel))
theorem wi_X_start : Cond.instanceMethod yX_start ∈ lw_tbl := List.mem_append_right _ (List.mem_of_getElem? (i := 439) (by decide +kernel))
theorem ws_X_X_start : Cond.selects "ThresholdSeal$Session" yX_start yX_start ∈ lw_tbl := List.mem_append_right _ (List.mem_of_getElem? (i := 440) (by decide +kernel))
theorem wc_X_start : Cond.code yX_start prog_7_method_4_code 8 (Option.none : Option ClassFile.FieldType) ∈ lw_tbl := List.mem_append_right _ (List.mem_of_getElem? (i := 441) (by decide +kernel))
theorem wm_X_40 : Cond.methodLink "ThresholdSeal$Session" 40 yI_has ∈ lw_tbl := List.mem_append_right _ (List.mem_of_getElem? (i := 442) (by decide +kernel))
theorem wm_X_46 : Cond.methodLink "ThresholdSeal$Session" 46 yX_factorFor ∈ lw_tbl := List.mem_append_right _ (List.mem_of_getElem? (i := 443) (by decide +kernel))
theorem wv_X_factorFor : Cond.privateMethod yX_factorFor ∈ lw_tbl := List.mem_append_right _ (List.mem_of_getElem? (i := 444) (by decide +kernel))
theorem wi_X_factorFor : Cond.instanceMethod yX_factorFor ∈ lw_tbl := List.mem_append_right _ (List.mem_of_getElem? (i := 445) (by decide +kernel))
theorem wc_X_factorFor : Cond.code yX_factorFor prog_7_method_9_code 9 (Option.some ClassFile.FieldType.long) ∈ lw_tbl := List.mem_append_right _ (List.mem_of_getElem? (i := 446) (by decide +kernel))
theorem wk_X_115 : Cond.constantLong "ThresholdSeal$Session" 115 (4 : Int64) ∈ lw_tbl := List.mem_append_right _ (List.mem_of_getElem? (i := 447) (by decide +kernel))
theorem wm_X_117 : Cond.methodLink "ThresholdSeal$Session" 117 yG_mix ∈ lw_tbl := List.mem_append_right _ (List.mem_of_getElem? (i := 448) (by decide +kernel))
theorem wm_X_120 : Cond.methodLink "ThresholdSeal$Session" 120 yG_finish ∈ lw_tbl := List.mem_append_right _ (List.mem_of_getElem? (i := 449) (by decide +kernel))
theorem wm_X_50 : Cond.methodLink "ThresholdSeal$Session" 50 yI_weightIn ∈ lw_tbl := List.mem_append_right _ (List.mem_of_getElem? (i := 450) (by decide +kernel))
theorem wt_I_weightIn : Cond.static yI_weightIn ∈ lw_tbl := List.mem_append_right _ (List.mem_of_getElem? (i := 451) (by decide +kernel))
theorem wc_I_weightIn : Cond.code yI_weightIn prog_8_method_4_code 8 (Option.some ClassFile.FieldType.long) ∈ lw_tbl := List.mem_append_right _ (List.mem_of_getElem? (i := 452) (by decide +kernel))
theorem wm_I_13 : Cond.methodLink "ThresholdSeal$Signers" 13 yI_has ∈ lw_tbl := List.mem_append_right _ (List.mem_of_getElem? (i := 453) (by decide +kernel))
theorem wm_I_17 : Cond.methodLink "ThresholdSeal$Signers" 17 yN_times ∈ lw_tbl := List.mem_append_right _ (List.mem_of_getElem? (i := 454) (by decide +kernel))
theorem wm_I_23 : Cond.methodLink "ThresholdSeal$Signers" 23 yN_minus ∈ lw_tbl := List.mem_append_right _ (List.mem_of_getElem? (i := 455) (by decide +kernel))
theorem wt_N_minus : Cond.static yN_minus ∈ lw_tbl := List.mem_append_right _ (List.mem_of_getElem? (i := 456) (by decide +kernel))
theorem wc_N_minus : Cond.code yN_minus prog_5_method_4_code 4 (Option.some ClassFile.FieldType.long) ∈ lw_tbl := List.mem_append_right _ (List.mem_of_getElem? (i := 457) (by decide +kernel))
theorem wm_I_26 : Cond.methodLink "ThresholdSeal$Signers" 26 yN_inverse ∈ lw_tbl := List.mem_append_right _ (List.mem_of_getElem? (i := 458) (by decide +kernel))
theorem wt_N_inverse : Cond.static yN_inverse ∈ lw_tbl := List.mem_append_right _ (List.mem_of_getElem? (i := 459) (by decide +kernel))
theorem wc_N_inverse : Cond.code yN_inverse prog_5_method_6_code 5 (Option.some ClassFile.FieldType.long) ∈ lw_tbl := List.mem_append_right _ (List.mem_of_getElem? (i := 460) (by decide +kernel))
theorem wm_N_11 : Cond.methodLink "ThresholdSeal$Numbers" 11 yN_times ∈ lw_tbl := List.mem_append_right _ (List.mem_of_getElem? (i := 461) (by decide +kernel))
theorem wk_N_15 : Cond.constantLong "ThresholdSeal$Numbers" 15 (1073741787 : Int64) ∈ lw_tbl := List.mem_append_right _ (List.mem_of_getElem? (i := 462) (by decide +kernel))
theorem wm_X_58 : Cond.methodLink "ThresholdSeal$Session" 58 yX_toldPart ∈ lw_tbl := List.mem_append_right _ (List.mem_of_getElem? (i := 463) (by decide +kernel))
theorem wv_X_toldPart : Cond.privateMethod yX_toldPart ∈ lw_tbl := List.mem_append_right _ (List.mem_of_getElem? (i := 464) (by decide +kernel))
theorem wi_X_toldPart : Cond.instanceMethod yX_toldPart ∈ lw_tbl := List.mem_append_right _ (List.mem_of_getElem? (i := 465) (by decide +kernel))
theorem wc_X_toldPart : Cond.code yX_toldPart prog_7_method_10_code 2 (Option.some ClassFile.FieldType.long) ∈ lw_tbl := List.mem_append_right _ (List.mem_of_getElem? (i := 466) (by decide +kernel))
theorem wm_X_124 : Cond.methodLink "ThresholdSeal$Session" 124 yE_power ∈ lw_tbl := List.mem_append_right _ (List.mem_of_getElem? (i := 467) (by decide +kernel))
theorem wm_X_62 : Cond.methodLink "ThresholdSeal$Session" 62 yE_times ∈ lw_tbl := List.mem_append_right _ (List.mem_of_getElem? (i := 468) (by decide +kernel))
theorem wm_X_68 : Cond.methodLink "ThresholdSeal$Session" 68 yG_ofSeal ∈ lw_tbl := List.mem_append_right _ (List.mem_of_getElem? (i := 469) (by decide +kernel))
theorem wm_L_72 : Cond.methodLink "ThresholdSealLaw" 72 yL_sign ∈ lw_tbl := List.mem_append_right _ (List.mem_of_getElem? (i := 470) (by decide +kernel))
theorem wt_L_sign : Cond.static yL_sign ∈ lw_tbl := List.mem_append_right _ (List.mem_of_getElem? (i := 471) (by decide +kernel))
theorem wc_L_sign : Cond.codeWith yL_sign method_5_code 4 (Option.some ClassFile.FieldType.int) [(0, 8, 11, 13), (0, 8, 14, 15)] ∈ lw_tbl := List.mem_append_right _ (List.mem_of_getElem? (i := 472) (by decide +kernel))
theorem wm_L_20 : Cond.methodLink "ThresholdSealLaw" 20 yS_sign ∈ lw_tbl := List.mem_append_right _ (List.mem_of_getElem? (i := 473) (by decide +kernel))
theorem wi_S_sign : Cond.instanceMethod yS_sign ∈ lw_tbl := List.mem_append_right _ (List.mem_of_getElem? (i := 474) (by decide +kernel))
theorem ws_S_S_sign : Cond.selects "ThresholdSeal" yS_sign yS_sign ∈ lw_tbl := List.mem_append_right _ (List.mem_of_getElem? (i := 475) (by decide +kernel))
theorem wc_S_sign : Cond.code yS_sign prog_1_method_5_code 2 (Option.some ClassFile.FieldType.long) ∈ lw_tbl := List.mem_append_right _ (List.mem_of_getElem? (i := 476) (by decide +kernel))
theorem wq_S_112 : Cond.stringRef "ThresholdSeal" 112 "no member of a session, or his pair is gone" ∈ lw_tbl := List.mem_append_right _ (List.mem_of_getElem? (i := 477) (by decide +kernel))
theorem wm_S_117 : Cond.methodLink "ThresholdSeal" 117 yX_makeShare ∈ lw_tbl := List.mem_append_right _ (List.mem_of_getElem? (i := 478) (by decide +kernel))
theorem wi_X_makeShare : Cond.instanceMethod yX_makeShare ∈ lw_tbl := List.mem_append_right _ (List.mem_of_getElem? (i := 479) (by decide +kernel))
theorem ws_X_X_makeShare : Cond.selects "ThresholdSeal$Session" yX_makeShare yX_makeShare ∈ lw_tbl := List.mem_append_right _ (List.mem_of_getElem? (i := 480) (by decide +kernel))
theorem wc_X_makeShare : Cond.code yX_makeShare prog_7_method_6_code 7 (Option.none : Option ClassFile.FieldType) ∈ lw_tbl := List.mem_append_right _ (List.mem_of_getElem? (i := 481) (by decide +kernel))
theorem wm_X_90 : Cond.methodLink "ThresholdSeal$Session" 90 yN_times ∈ lw_tbl := List.mem_append_right _ (List.mem_of_getElem? (i := 482) (by decide +kernel))
theorem wm_X_93 : Cond.methodLink "ThresholdSeal$Session" 93 yN_plus ∈ lw_tbl := List.mem_append_right _ (List.mem_of_getElem? (i := 483) (by decide +kernel))
theorem wm_X_96 : Cond.methodLink "ThresholdSeal$Session" 96 yX_keyExponent ∈ lw_tbl := List.mem_append_right _ (List.mem_of_getElem? (i := 484) (by decide +kernel))
theorem wv_X_keyExponent : Cond.privateMethod yX_keyExponent ∈ lw_tbl := List.mem_append_right _ (List.mem_of_getElem? (i := 485) (by decide +kernel))
theorem wi_X_keyExponent : Cond.instanceMethod yX_keyExponent ∈ lw_tbl := List.mem_append_right _ (List.mem_of_getElem? (i := 486) (by decide +kernel))
theorem wc_X_keyExponent : Cond.code yX_keyExponent prog_7_method_11_code 2 (Option.some ClassFile.FieldType.long) ∈ lw_tbl := List.mem_append_right _ (List.mem_of_getElem? (i := 487) (by decide +kernel))
theorem wm_S_121 : Cond.methodLink "ThresholdSeal" 121 yP_drop ∈ lw_tbl := List.mem_append_right _ (List.mem_of_getElem? (i := 488) (by decide +kernel))
theorem wi_P_drop : Cond.instanceMethod yP_drop ∈ lw_tbl := List.mem_append_right _ (List.mem_of_getElem? (i := 489) (by decide +kernel))
theorem ws_P_P_drop : Cond.selects "ThresholdSeal$Pairs" yP_drop yP_drop ∈ lw_tbl := List.mem_append_right _ (List.mem_of_getElem? (i := 490) (by decide +kernel))
theorem wc_P_drop : Cond.code yP_drop prog_6_method_4_code 2 (Option.none : Option ClassFile.FieldType) ∈ lw_tbl := List.mem_append_right _ (List.mem_of_getElem? (i := 491) (by decide +kernel))
theorem wm_L_76 : Cond.methodLink "ThresholdSealLaw" 76 yL_submit ∈ lw_tbl := List.mem_append_right _ (List.mem_of_getElem? (i := 492) (by decide +kernel))
theorem wt_L_submit : Cond.static yL_submit ∈ lw_tbl := List.mem_append_right _ (List.mem_of_getElem? (i := 493) (by decide +kernel))
theorem wc_L_submit : Cond.codeWith yL_submit method_6_code 6 (Option.some ClassFile.FieldType.int) [(0, 18, 21, 13), (0, 18, 25, 15)] ∈ lw_tbl := List.mem_append_right _ (List.mem_of_getElem? (i := 494) (by decide +kernel))
theorem wm_L_24 : Cond.methodLink "ThresholdSealLaw" 24 yS_submit ∈ lw_tbl := List.mem_append_right _ (List.mem_of_getElem? (i := 495) (by decide +kernel))
theorem wi_S_submit : Cond.instanceMethod yS_submit ∈ lw_tbl := List.mem_append_right _ (List.mem_of_getElem? (i := 496) (by decide +kernel))
theorem ws_S_S_submit : Cond.selects "ThresholdSeal" yS_submit yS_submit ∈ lw_tbl := List.mem_append_right _ (List.mem_of_getElem? (i := 497) (by decide +kernel))
theorem wc_S_submit : Cond.code yS_submit prog_1_method_6_code 4 (Option.some ClassFile.FieldType.boolean) ∈ lw_tbl := List.mem_append_right _ (List.mem_of_getElem? (i := 498) (by decide +kernel))
theorem wm_S_127 : Cond.methodLink "ThresholdSeal" 127 yS_requireNumber ∈ lw_tbl := List.mem_append_right _ (List.mem_of_getElem? (i := 499) (by decide +kernel))
theorem wv_S_requireNumber : Cond.privateMethod yS_requireNumber ∈ lw_tbl := List.mem_append_right _ (List.mem_of_getElem? (i := 500) (by decide +kernel))
theorem wi_S_requireNumber : Cond.instanceMethod yS_requireNumber ∈ lw_tbl := List.mem_append_right _ (List.mem_of_getElem? (i := 501) (by decide +kernel))
theorem wc_S_requireNumber : Cond.code yS_requireNumber prog_1_method_25_code 3 (Option.none : Option ClassFile.FieldType) ∈ lw_tbl := List.mem_append_right _ (List.mem_of_getElem? (i := 502) (by decide +kernel))
theorem wq_S_236 : Cond.stringRef "ThresholdSeal" 236 "no number" ∈ lw_tbl := List.mem_append_right _ (List.mem_of_getElem? (i := 503) (by decide +kernel))
theorem wm_S_130 : Cond.methodLink "ThresholdSeal" 130 yS_requireUntaken ∈ lw_tbl := List.mem_append_right _ (List.mem_of_getElem? (i := 504) (by decide +kernel))
theorem wv_S_requireUntaken : Cond.privateMethod yS_requireUntaken ∈ lw_tbl := List.mem_append_right _ (List.mem_of_getElem? (i := 505) (by decide +kernel))
theorem wi_S_requireUntaken : Cond.instanceMethod yS_requireUntaken ∈ lw_tbl := List.mem_append_right _ (List.mem_of_getElem? (i := 506) (by decide +kernel))
theorem wc_S_requireUntaken : Cond.code yS_requireUntaken prog_1_method_28_code 2 (Option.none : Option ClassFile.FieldType) ∈ lw_tbl := List.mem_append_right _ (List.mem_of_getElem? (i := 507) (by decide +kernel))
theorem wq_S_248 : Cond.stringRef "ThresholdSeal" 248 "no member of a session, or his share is taken" ∈ lw_tbl := List.mem_append_right _ (List.mem_of_getElem? (i := 508) (by decide +kernel))
theorem wm_S_136 : Cond.methodLink "ThresholdSeal" 136 yX_tell ∈ lw_tbl := List.mem_append_right _ (List.mem_of_getElem? (i := 509) (by decide +kernel))
theorem wi_X_tell : Cond.instanceMethod yX_tell ∈ lw_tbl := List.mem_append_right _ (List.mem_of_getElem? (i := 510) (by decide +kernel))
theorem ws_X_X_tell : Cond.selects "ThresholdSeal$Session" yX_tell yX_tell ∈ lw_tbl := List.mem_append_right _ (List.mem_of_getElem? (i := 511) (by decide +kernel))
theorem wc_X_tell : Cond.code yX_tell prog_7_method_7_code 6 (Option.some ClassFile.FieldType.boolean) ∈ lw_tbl := List.mem_append_right _ (List.mem_of_getElem? (i := 512) (by decide +kernel))
theorem wm_X_102 : Cond.methodLink "ThresholdSeal$Session" 102 yX_isRight ∈ lw_tbl := List.mem_append_right _ (List.mem_of_getElem? (i := 513) (by decide +kernel))
theorem wv_X_isRight : Cond.privateMethod yX_isRight ∈ lw_tbl := List.mem_append_right _ (List.mem_of_getElem? (i := 514) (by decide +kernel))
theorem wi_X_isRight : Cond.instanceMethod yX_isRight ∈ lw_tbl := List.mem_append_right _ (List.mem_of_getElem? (i := 515) (by decide +kernel))
theorem wc_X_isRight : Cond.code yX_isRight prog_7_method_12_code 8 (Option.some ClassFile.FieldType.boolean) ∈ lw_tbl := List.mem_append_right _ (List.mem_of_getElem? (i := 516) (by decide +kernel))
theorem wm_X_127 : Cond.methodLink "ThresholdSeal$Session" 127 yE_ofNumber ∈ lw_tbl := List.mem_append_right _ (List.mem_of_getElem? (i := 517) (by decide +kernel))
theorem wm_L_79 : Cond.methodLink "ThresholdSealLaw" 79 yL_relay ∈ lw_tbl := List.mem_append_right _ (List.mem_of_getElem? (i := 518) (by decide +kernel))
theorem wt_L_relay : Cond.static yL_relay ∈ lw_tbl := List.mem_append_right _ (List.mem_of_getElem? (i := 519) (by decide +kernel))
theorem wc_L_relay : Cond.codeWith yL_relay method_7_code 6 (Option.some ClassFile.FieldType.int) [(0, 18, 21, 13), (0, 18, 25, 15)] ∈ lw_tbl := List.mem_append_right _ (List.mem_of_getElem? (i := 520) (by decide +kernel))
theorem wm_L_28 : Cond.methodLink "ThresholdSealLaw" 28 yS_relay ∈ lw_tbl := List.mem_append_right _ (List.mem_of_getElem? (i := 521) (by decide +kernel))
theorem wi_S_relay : Cond.instanceMethod yS_relay ∈ lw_tbl := List.mem_append_right _ (List.mem_of_getElem? (i := 522) (by decide +kernel))
theorem ws_S_S_relay : Cond.selects "ThresholdSeal" yS_relay yS_relay ∈ lw_tbl := List.mem_append_right _ (List.mem_of_getElem? (i := 523) (by decide +kernel))
theorem wc_S_relay : Cond.code yS_relay prog_1_method_7_code 4 (Option.some ClassFile.FieldType.boolean) ∈ lw_tbl := List.mem_append_right _ (List.mem_of_getElem? (i := 524) (by decide +kernel))
theorem wq_S_143 : Cond.stringRef "ThresholdSeal" 143 "the member made no share in this session" ∈ lw_tbl := List.mem_append_right _ (List.mem_of_getElem? (i := 525) (by decide +kernel))
theorem wm_S_145 : Cond.methodLink "ThresholdSeal" 145 yN_plus ∈ lw_tbl := List.mem_append_right _ (List.mem_of_getElem? (i := 526) (by decide +kernel))
theorem wm_L_82 : Cond.methodLink "ThresholdSealLaw" 82 yL_seal ∈ lw_tbl := List.mem_append_right _ (List.mem_of_getElem? (i := 527) (by decide +kernel))
theorem wt_L_seal : Cond.static yL_seal ∈ lw_tbl := List.mem_append_right _ (List.mem_of_getElem? (i := 528) (by decide +kernel))
theorem wc_L_seal : Cond.codeWith yL_seal method_8_code 3 (Option.some ClassFile.FieldType.int) [(0, 7, 10, 15)] ∈ lw_tbl := List.mem_append_right _ (List.mem_of_getElem? (i := 529) (by decide +kernel))
theorem wm_L_31 : Cond.methodLink "ThresholdSealLaw" 31 yS_seal ∈ lw_tbl := List.mem_append_right _ (List.mem_of_getElem? (i := 530) (by decide +kernel))
theorem wi_S_seal : Cond.instanceMethod yS_seal ∈ lw_tbl := List.mem_append_right _ (List.mem_of_getElem? (i := 531) (by decide +kernel))
theorem ws_S_S_seal : Cond.selects "ThresholdSeal" yS_seal yS_seal ∈ lw_tbl := List.mem_append_right _ (List.mem_of_getElem? (i := 532) (by decide +kernel))
theorem wc_S_seal : Cond.code yS_seal prog_1_method_8_code 1 (Option.some ClassFile.FieldType.long) ∈ lw_tbl := List.mem_append_right _ (List.mem_of_getElem? (i := 533) (by decide +kernel))
theorem wm_S_151 : Cond.methodLink "ThresholdSeal" 151 yS_requireSealed ∈ lw_tbl := List.mem_append_right _ (List.mem_of_getElem? (i := 534) (by decide +kernel))
theorem wv_S_requireSealed : Cond.privateMethod yS_requireSealed ∈ lw_tbl := List.mem_append_right _ (List.mem_of_getElem? (i := 535) (by decide +kernel))
theorem wi_S_requireSealed : Cond.instanceMethod yS_requireSealed ∈ lw_tbl := List.mem_append_right _ (List.mem_of_getElem? (i := 536) (by decide +kernel))
theorem wc_S_requireSealed : Cond.code yS_requireSealed prog_1_method_29_code 1 (Option.none : Option ClassFile.FieldType) ∈ lw_tbl := List.mem_append_right _ (List.mem_of_getElem? (i := 537) (by decide +kernel))
theorem wq_S_250 : Cond.stringRef "ThresholdSeal" 250 "no session, or a share is not taken" ∈ lw_tbl := List.mem_append_right _ (List.mem_of_getElem? (i := 538) (by decide +kernel))
theorem wm_L_91 : Cond.methodLink "ThresholdSealLaw" 91 yL_holds ∈ lw_tbl := List.mem_append_right _ (List.mem_of_getElem? (i := 539) (by decide +kernel))
theorem wt_L_holds : Cond.static yL_holds ∈ lw_tbl := List.mem_append_right _ (List.mem_of_getElem? (i := 540) (by decide +kernel))
theorem wc_L_holds : Cond.codeWith yL_holds method_9_code 7 (Option.some ClassFile.FieldType.int) [(0, 18, 21, 13), (0, 18, 25, 15)] ∈ lw_tbl := List.mem_append_right _ (List.mem_of_getElem? (i := 541) (by decide +kernel))
theorem wm_L_35 : Cond.methodLink "ThresholdSealLaw" 35 yS_holds ∈ lw_tbl := List.mem_append_right _ (List.mem_of_getElem? (i := 542) (by decide +kernel))
theorem wi_S_holds : Cond.instanceMethod yS_holds ∈ lw_tbl := List.mem_append_right _ (List.mem_of_getElem? (i := 543) (by decide +kernel))
theorem ws_S_S_holds : Cond.selects "ThresholdSeal" yS_holds yS_holds ∈ lw_tbl := List.mem_append_right _ (List.mem_of_getElem? (i := 544) (by decide +kernel))
theorem wc_S_holds : Cond.code yS_holds prog_1_method_10_code 5 (Option.some ClassFile.FieldType.boolean) ∈ lw_tbl := List.mem_append_right _ (List.mem_of_getElem? (i := 545) (by decide +kernel))
theorem wm_L_95 : Cond.methodLink "ThresholdSealLaw" 95 yL_recover ∈ lw_tbl := List.mem_append_right _ (List.mem_of_getElem? (i := 546) (by decide +kernel))
theorem wt_L_recover : Cond.static yL_recover ∈ lw_tbl := List.mem_append_right _ (List.mem_of_getElem? (i := 547) (by decide +kernel))
theorem wc_L_recover : Cond.codeWith yL_recover method_10_code 4 (Option.some ClassFile.FieldType.int) [(0, 8, 11, 13), (0, 8, 14, 15)] ∈ lw_tbl := List.mem_append_right _ (List.mem_of_getElem? (i := 548) (by decide +kernel))
theorem wm_L_39 : Cond.methodLink "ThresholdSealLaw" 39 yS_recover ∈ lw_tbl := List.mem_append_right _ (List.mem_of_getElem? (i := 549) (by decide +kernel))
theorem wi_S_recover : Cond.instanceMethod yS_recover ∈ lw_tbl := List.mem_append_right _ (List.mem_of_getElem? (i := 550) (by decide +kernel))
theorem ws_S_S_recover : Cond.selects "ThresholdSeal" yS_recover yS_recover ∈ lw_tbl := List.mem_append_right _ (List.mem_of_getElem? (i := 551) (by decide +kernel))
theorem wc_S_recover : Cond.code yS_recover prog_1_method_11_code 7 (Option.some ClassFile.FieldType.long) ∈ lw_tbl := List.mem_append_right _ (List.mem_of_getElem? (i := 552) (by decide +kernel))
theorem wm_S_165 : Cond.methodLink "ThresholdSeal" 165 yI_weightIn ∈ lw_tbl := List.mem_append_right _ (List.mem_of_getElem? (i := 553) (by decide +kernel))
theorem wm_S_169 : Cond.methodLink "ThresholdSeal" 169 yN_times ∈ lw_tbl := List.mem_append_right _ (List.mem_of_getElem? (i := 554) (by decide +kernel))
theorem wl_L_51 : Cond.classLink "ThresholdSealLaw" 51 "ThresholdSealModel" ∈ lw_tbl := List.mem_append_right _ (List.mem_of_getElem? (i := 555) (by decide +kernel))
theorem wz_M : Cond.instantiable "ThresholdSealModel" 25 ∈ lw_tbl := List.mem_append_right _ (List.mem_of_getElem? (i := 556) (by decide +kernel))
theorem wm_L_53 : Cond.methodLink "ThresholdSealLaw" 53 yM_init ∈ lw_tbl := List.mem_append_right _ (List.mem_of_getElem? (i := 557) (by decide +kernel))
theorem wi_M_init : Cond.instanceMethod yM_init ∈ lw_tbl := List.mem_append_right _ (List.mem_of_getElem? (i := 558) (by decide +kernel))
theorem wc_M_init : Cond.code yM_init prog_10_method_1_code 3 (Option.none : Option ClassFile.FieldType) ∈ lw_tbl := List.mem_append_right _ (List.mem_of_getElem? (i := 559) (by decide +kernel))
theorem wm_M_1 : Cond.methodLink "ThresholdSealModel" 1 yJO_init ∈ lw_tbl := List.mem_append_right _ (List.mem_of_getElem? (i := 560) (by decide +kernel))
theorem wf_M_63 : Cond.fieldLink "ThresholdSealModel" 63 "ThresholdSealModel" "thrown" "I" ∈ lw_tbl := List.mem_append_right _ (List.mem_of_getElem? (i := 561) (by decide +kernel))
theorem wf_M_56 : Cond.fieldLink "ThresholdSealModel" 56 "ThresholdSealModel" "signers" "I" ∈ lw_tbl := List.mem_append_right _ (List.mem_of_getElem? (i := 562) (by decide +kernel))
theorem wf_M_60 : Cond.fieldLink "ThresholdSealModel" 60 "ThresholdSealModel" "enough" "I" ∈ lw_tbl := List.mem_append_right _ (List.mem_of_getElem? (i := 563) (by decide +kernel))
theorem wf_M_103 : Cond.fieldLink "ThresholdSealModel" 103 "ThresholdSealModel" "dealt" "Z" ∈ lw_tbl := List.mem_append_right _ (List.mem_of_getElem? (i := 564) (by decide +kernel))
theorem wf_M_7 : Cond.fieldLink "ThresholdSealModel" 7 "ThresholdSealModel" "secrets" "[J" ∈ lw_tbl := List.mem_append_right _ (List.mem_of_getElem? (i := 565) (by decide +kernel))
theorem wf_M_13 : Cond.fieldLink "ThresholdSealModel" 13 "ThresholdSealModel" "keys" "[J" ∈ lw_tbl := List.mem_append_right _ (List.mem_of_getElem? (i := 566) (by decide +kernel))
theorem wf_M_16 : Cond.fieldLink "ThresholdSealModel" 16 "ThresholdSealModel" "open" "[Z" ∈ lw_tbl := List.mem_append_right _ (List.mem_of_getElem? (i := 567) (by decide +kernel))
theorem wf_M_20 : Cond.fieldLink "ThresholdSealModel" 20 "ThresholdSealModel" "firstNumber" "[J" ∈ lw_tbl := List.mem_append_right _ (List.mem_of_getElem? (i := 568) (by decide +kernel))
theorem wf_M_23 : Cond.fieldLink "ThresholdSealModel" 23 "ThresholdSealModel" "secondNumber" "[J" ∈ lw_tbl := List.mem_append_right _ (List.mem_of_getElem? (i := 569) (by decide +kernel))
theorem wf_M_26 : Cond.fieldLink "ThresholdSealModel" 26 "ThresholdSealModel" "firstElement" "[J" ∈ lw_tbl := List.mem_append_right _ (List.mem_of_getElem? (i := 570) (by decide +kernel))
theorem wf_M_29 : Cond.fieldLink "ThresholdSealModel" 29 "ThresholdSealModel" "secondElement" "[J" ∈ lw_tbl := List.mem_append_right _ (List.mem_of_getElem? (i := 571) (by decide +kernel))
theorem wf_M_107 : Cond.fieldLink "ThresholdSealModel" 107 "ThresholdSealModel" "session" "I" ∈ lw_tbl := List.mem_append_right _ (List.mem_of_getElem? (i := 572) (by decide +kernel))
theorem wf_M_132 : Cond.fieldLink "ThresholdSealModel" 132 "ThresholdSealModel" "all" "J" ∈ lw_tbl := List.mem_append_right _ (List.mem_of_getElem? (i := 573) (by decide +kernel))
theorem wf_M_147 : Cond.fieldLink "ThresholdSealModel" 147 "ThresholdSealModel" "challenged" "J" ∈ lw_tbl := List.mem_append_right _ (List.mem_of_getElem? (i := 574) (by decide +kernel))
theorem wf_M_32 : Cond.fieldLink "ThresholdSealModel" 32 "ThresholdSealModel" "firstThen" "[J" ∈ lw_tbl := List.mem_append_right _ (List.mem_of_getElem? (i := 575) (by decide +kernel))
theorem wf_M_35 : Cond.fieldLink "ThresholdSealModel" 35 "ThresholdSealModel" "secondThen" "[J" ∈ lw_tbl := List.mem_append_right _ (List.mem_of_getElem? (i := 576) (by decide +kernel))
theorem wf_M_38 : Cond.fieldLink "ThresholdSealModel" 38 "ThresholdSealModel" "factors" "[J" ∈ lw_tbl := List.mem_append_right _ (List.mem_of_getElem? (i := 577) (by decide +kernel))
theorem wf_M_41 : Cond.fieldLink "ThresholdSealModel" 41 "ThresholdSealModel" "weights" "[J" ∈ lw_tbl := List.mem_append_right _ (List.mem_of_getElem? (i := 578) (by decide +kernel))
theorem wf_M_44 : Cond.fieldLink "ThresholdSealModel" 44 "ThresholdSealModel" "still" "[Z" ∈ lw_tbl := List.mem_append_right _ (List.mem_of_getElem? (i := 579) (by decide +kernel))
theorem wf_M_47 : Cond.fieldLink "ThresholdSealModel" 47 "ThresholdSealModel" "made" "[Z" ∈ lw_tbl := List.mem_append_right _ (List.mem_of_getElem? (i := 580) (by decide +kernel))
theorem wf_M_50 : Cond.fieldLink "ThresholdSealModel" 50 "ThresholdSealModel" "shares" "[J" ∈ lw_tbl := List.mem_append_right _ (List.mem_of_getElem? (i := 581) (by decide +kernel))
theorem wf_M_53 : Cond.fieldLink "ThresholdSealModel" 53 "ThresholdSealModel" "told" "[J" ∈ lw_tbl := List.mem_append_right _ (List.mem_of_getElem? (i := 582) (by decide +kernel))
theorem wf_M_110 : Cond.fieldLink "ThresholdSealModel" 110 "ThresholdSealModel" "takenNow" "I" ∈ lw_tbl := List.mem_append_right _ (List.mem_of_getElem? (i := 583) (by decide +kernel))
theorem wf_M_113 : Cond.fieldLink "ThresholdSealModel" 113 "ThresholdSealModel" "blamedNow" "I" ∈ lw_tbl := List.mem_append_right _ (List.mem_of_getElem? (i := 584) (by decide +kernel))
theorem wf_M_70 : Cond.fieldLink "ThresholdSealModel" 70 "ThresholdSealModel" "mixed" "J" ∈ lw_tbl := List.mem_append_right _ (List.mem_of_getElem? (i := 585) (by decide +kernel))
theorem wy_M_thrown : Cond.lays "ThresholdSealModel" "ThresholdSealModel" "thrown" "I" ∈ lw_tbl := List.mem_append_right _ (List.mem_of_getElem? (i := 586) (by decide +kernel))
theorem wx_587 : Cond.soleField "ThresholdSealModel" "thrown" ∈ lw_tbl := List.mem_append_right _ (List.mem_of_getElem? (i := 587) (by decide +kernel))
theorem wy_M_signers : Cond.laysFinal "ThresholdSealModel" "ThresholdSealModel" "signers" "I" ∈ lw_tbl := List.mem_append_right _ (List.mem_of_getElem? (i := 588) (by decide +kernel))
theorem wx_589 : Cond.soleField "ThresholdSealModel" "signers" ∈ lw_tbl := List.mem_append_right _ (List.mem_of_getElem? (i := 589) (by decide +kernel))
theorem wy_M_enough : Cond.laysFinal "ThresholdSealModel" "ThresholdSealModel" "enough" "I" ∈ lw_tbl := List.mem_append_right _ (List.mem_of_getElem? (i := 590) (by decide +kernel))
theorem wx_591 : Cond.soleField "ThresholdSealModel" "enough" ∈ lw_tbl := List.mem_append_right _ (List.mem_of_getElem? (i := 591) (by decide +kernel))
theorem wy_M_dealt : Cond.lays "ThresholdSealModel" "ThresholdSealModel" "dealt" "Z" ∈ lw_tbl := List.mem_append_right _ (List.mem_of_getElem? (i := 592) (by decide +kernel))
theorem wx_593 : Cond.soleField "ThresholdSealModel" "dealt" ∈ lw_tbl := List.mem_append_right _ (List.mem_of_getElem? (i := 593) (by decide +kernel))
theorem wy_M_secrets : Cond.laysFinal "ThresholdSealModel" "ThresholdSealModel" "secrets" "[J" ∈ lw_tbl := List.mem_append_right _ (List.mem_of_getElem? (i := 594) (by decide +kernel))
theorem wx_595 : Cond.soleField "ThresholdSealModel" "secrets" ∈ lw_tbl := List.mem_append_right _ (List.mem_of_getElem? (i := 595) (by decide +kernel))
theorem wy_M_keys : Cond.laysFinal "ThresholdSealModel" "ThresholdSealModel" "keys" "[J" ∈ lw_tbl := List.mem_append_right _ (List.mem_of_getElem? (i := 596) (by decide +kernel))
theorem wx_597 : Cond.soleField "ThresholdSealModel" "keys" ∈ lw_tbl := List.mem_append_right _ (List.mem_of_getElem? (i := 597) (by decide +kernel))
theorem wy_M_open : Cond.laysFinal "ThresholdSealModel" "ThresholdSealModel" "open" "[Z" ∈ lw_tbl := List.mem_append_right _ (List.mem_of_getElem? (i := 598) (by decide +kernel))
theorem wx_599 : Cond.soleField "ThresholdSealModel" "open" ∈ lw_tbl := List.mem_append_right _ (List.mem_of_getElem? (i := 599) (by decide +kernel))
theorem wy_M_firstNumber : Cond.laysFinal "ThresholdSealModel" "ThresholdSealModel" "firstNumber" "[J" ∈ lw_tbl := List.mem_append_right _ (List.mem_of_getElem? (i := 600) (by decide +kernel))
theorem wx_601 : Cond.soleField "ThresholdSealModel" "firstNumber" ∈ lw_tbl := List.mem_append_right _ (List.mem_of_getElem? (i := 601) (by decide +kernel))
theorem wy_M_secondNumber : Cond.laysFinal "ThresholdSealModel" "ThresholdSealModel" "secondNumber" "[J" ∈ lw_tbl := List.mem_append_right _ (List.mem_of_getElem? (i := 602) (by decide +kernel))
theorem wx_603 : Cond.soleField "ThresholdSealModel" "secondNumber" ∈ lw_tbl := List.mem_append_right _ (List.mem_of_getElem? (i := 603) (by decide +kernel))
theorem wy_M_firstElement : Cond.laysFinal "ThresholdSealModel" "ThresholdSealModel" "firstElement" "[J" ∈ lw_tbl := List.mem_append_right _ (List.mem_of_getElem? (i := 604) (by decide +kernel))
theorem wx_605 : Cond.soleField "ThresholdSealModel" "firstElement" ∈ lw_tbl := List.mem_append_right _ (List.mem_of_getElem? (i := 605) (by decide +kernel))
theorem wy_M_secondElement : Cond.laysFinal "ThresholdSealModel" "ThresholdSealModel" "secondElement" "[J" ∈ lw_tbl := List.mem_append_right _ (List.mem_of_getElem? (i := 606) (by decide +kernel))
theorem wx_607 : Cond.soleField "ThresholdSealModel" "secondElement" ∈ lw_tbl := List.mem_append_right _ (List.mem_of_getElem? (i := 607) (by decide +kernel))
theorem wy_M_session : Cond.lays "ThresholdSealModel" "ThresholdSealModel" "session" "I" ∈ lw_tbl := List.mem_append_right _ (List.mem_of_getElem? (i := 608) (by decide +kernel))
theorem wx_609 : Cond.soleField "ThresholdSealModel" "session" ∈ lw_tbl := List.mem_append_right _ (List.mem_of_getElem? (i := 609) (by decide +kernel))
theorem wy_M_all : Cond.lays "ThresholdSealModel" "ThresholdSealModel" "all" "J" ∈ lw_tbl := List.mem_append_right _ (List.mem_of_getElem? (i := 610) (by decide +kernel))
theorem wx_611 : Cond.soleField "ThresholdSealModel" "all" ∈ lw_tbl := List.mem_append_right _ (List.mem_of_getElem? (i := 611) (by decide +kernel))
theorem wy_M_challenged : Cond.lays "ThresholdSealModel" "ThresholdSealModel" "challenged" "J" ∈ lw_tbl := List.mem_append_right _ (List.mem_of_getElem? (i := 612) (by decide +kernel))
theorem wx_613 : Cond.soleField "ThresholdSealModel" "challenged" ∈ lw_tbl := List.mem_append_right _ (List.mem_of_getElem? (i := 613) (by decide +kernel))
theorem wy_M_firstThen : Cond.laysFinal "ThresholdSealModel" "ThresholdSealModel" "firstThen" "[J" ∈ lw_tbl := List.mem_append_right _ (List.mem_of_getElem? (i := 614) (by decide +kernel))
theorem wx_615 : Cond.soleField "ThresholdSealModel" "firstThen" ∈ lw_tbl := List.mem_append_right _ (List.mem_of_getElem? (i := 615) (by decide +kernel))
theorem wy_M_secondThen : Cond.laysFinal "ThresholdSealModel" "ThresholdSealModel" "secondThen" "[J" ∈ lw_tbl := List.mem_append_right _ (List.mem_of_getElem? (i := 616) (by decide +kernel))
theorem wx_617 : Cond.soleField "ThresholdSealModel" "secondThen" ∈ lw_tbl := List.mem_append_right _ (List.mem_of_getElem? (i := 617) (by decide +kernel))
theorem wy_M_factors : Cond.laysFinal "ThresholdSealModel" "ThresholdSealModel" "factors" "[J" ∈ lw_tbl := List.mem_append_right _ (List.mem_of_getElem? (i := 618) (by decide +kernel))
theorem wx_619 : Cond.soleField "ThresholdSealModel" "factors" ∈ lw_tbl := List.mem_append_right _ (List.mem_of_getElem? (i := 619) (by decide +kernel))
theorem wy_M_weights : Cond.laysFinal "ThresholdSealModel" "ThresholdSealModel" "weights" "[J" ∈ lw_tbl := List.mem_append_right _ (List.mem_of_getElem? (i := 620) (by decide +kernel))
theorem wx_621 : Cond.soleField "ThresholdSealModel" "weights" ∈ lw_tbl := List.mem_append_right _ (List.mem_of_getElem? (i := 621) (by decide +kernel))
theorem wy_M_still : Cond.laysFinal "ThresholdSealModel" "ThresholdSealModel" "still" "[Z" ∈ lw_tbl := List.mem_append_right _ (List.mem_of_getElem? (i := 622) (by decide +kernel))
theorem wx_623 : Cond.soleField "ThresholdSealModel" "still" ∈ lw_tbl := List.mem_append_right _ (List.mem_of_getElem? (i := 623) (by decide +kernel))
theorem wy_M_made : Cond.laysFinal "ThresholdSealModel" "ThresholdSealModel" "made" "[Z" ∈ lw_tbl := List.mem_append_right _ (List.mem_of_getElem? (i := 624) (by decide +kernel))
theorem wx_625 : Cond.soleField "ThresholdSealModel" "made" ∈ lw_tbl := List.mem_append_right _ (List.mem_of_getElem? (i := 625) (by decide +kernel))
theorem wy_M_shares : Cond.laysFinal "ThresholdSealModel" "ThresholdSealModel" "shares" "[J" ∈ lw_tbl := List.mem_append_right _ (List.mem_of_getElem? (i := 626) (by decide +kernel))
theorem wx_627 : Cond.soleField "ThresholdSealModel" "shares" ∈ lw_tbl := List.mem_append_right _ (List.mem_of_getElem? (i := 627) (by decide +kernel))
theorem wy_M_told : Cond.laysFinal "ThresholdSealModel" "ThresholdSealModel" "told" "[J" ∈ lw_tbl := List.mem_append_right _ (List.mem_of_getElem? (i := 628) (by decide +kernel))
theorem wx_629 : Cond.soleField "ThresholdSealModel" "told" ∈ lw_tbl := List.mem_append_right _ (List.mem_of_getElem? (i := 629) (by decide +kernel))
theorem wy_M_takenNow : Cond.lays "ThresholdSealModel" "ThresholdSealModel" "takenNow" "I" ∈ lw_tbl := List.mem_append_right _ (List.mem_of_getElem? (i := 630) (by decide +kernel))
theorem wx_631 : Cond.soleField "ThresholdSealModel" "takenNow" ∈ lw_tbl := List.mem_append_right _ (List.mem_of_getElem? (i := 631) (by decide +kernel))
theorem wy_M_blamedNow : Cond.lays "ThresholdSealModel" "ThresholdSealModel" "blamedNow" "I" ∈ lw_tbl := List.mem_append_right _ (List.mem_of_getElem? (i := 632) (by decide +kernel))
theorem wx_633 : Cond.soleField "ThresholdSealModel" "blamedNow" ∈ lw_tbl := List.mem_append_right _ (List.mem_of_getElem? (i := 633) (by decide +kernel))
theorem wy_M_mixed : Cond.lays "ThresholdSealModel" "ThresholdSealModel" "mixed" "J" ∈ lw_tbl := List.mem_append_right _ (List.mem_of_getElem? (i := 634) (by decide +kernel))
theorem wx_635 : Cond.soleField "ThresholdSealModel" "mixed" ∈ lw_tbl := List.mem_append_right _ (List.mem_of_getElem? (i := 635) (by decide +kernel))
theorem wx_636 : Cond.superclass "ThresholdSealModel" "java/lang/Object" ∈ lw_tbl := List.mem_append_right _ (List.mem_of_getElem? (i := 636) (by decide +kernel))
theorem wa_boolean : Cond.arrayClass ClassFile.FieldType.boolean ∈ lw_tbl := List.mem_append_right _ (List.mem_of_getElem? (i := 637) (by decide +kernel))
theorem wm_L_65 : Cond.methodLink "ThresholdSealLaw" 65 yM_thrown ∈ lw_tbl := List.mem_append_right _ (List.mem_of_getElem? (i := 638) (by decide +kernel))
theorem wi_M_thrown : Cond.instanceMethod yM_thrown ∈ lw_tbl := List.mem_append_right _ (List.mem_of_getElem? (i := 639) (by decide +kernel))
theorem ws_M_M_thrown : Cond.selects "ThresholdSealModel" yM_thrown yM_thrown ∈ lw_tbl := List.mem_append_right _ (List.mem_of_getElem? (i := 640) (by decide +kernel))
theorem wc_M_thrown : Cond.code yM_thrown prog_10_method_2_code 1 (Option.some ClassFile.FieldType.int) ∈ lw_tbl := List.mem_append_right _ (List.mem_of_getElem? (i := 641) (by decide +kernel))
theorem wm_L_60 : Cond.methodLink "ThresholdSealLaw" 60 yM_deal ∈ lw_tbl := List.mem_append_right _ (List.mem_of_getElem? (i := 642) (by decide +kernel))
theorem wi_M_deal : Cond.instanceMethod yM_deal ∈ lw_tbl := List.mem_append_right _ (List.mem_of_getElem? (i := 643) (by decide +kernel))
theorem ws_M_M_deal : Cond.selects "ThresholdSealModel" yM_deal yM_deal ∈ lw_tbl := List.mem_append_right _ (List.mem_of_getElem? (i := 644) (by decide +kernel))
theorem wc_M_deal : Cond.code yM_deal prog_10_method_14_code 9 (Option.some ClassFile.FieldType.long) ∈ lw_tbl := List.mem_append_right _ (List.mem_of_getElem? (i := 645) (by decide +kernel))
theorem wm_M_80 : Cond.methodLink "ThresholdSealModel" 80 yM_begins ∈ lw_tbl := List.mem_append_right _ (List.mem_of_getElem? (i := 646) (by decide +kernel))
theorem wv_M_begins : Cond.privateMethod yM_begins ∈ lw_tbl := List.mem_append_right _ (List.mem_of_getElem? (i := 647) (by decide +kernel))
theorem wi_M_begins : Cond.instanceMethod yM_begins ∈ lw_tbl := List.mem_append_right _ (List.mem_of_getElem? (i := 648) (by decide +kernel))
theorem wc_M_begins : Cond.code yM_begins prog_10_method_5_code 3 (Option.none : Option ClassFile.FieldType) ∈ lw_tbl := List.mem_append_right _ (List.mem_of_getElem? (i := 649) (by decide +kernel))
theorem wm_M_74 : Cond.methodLink "ThresholdSealModel" 74 yM_mix ∈ lw_tbl := List.mem_append_right _ (List.mem_of_getElem? (i := 650) (by decide +kernel))
theorem wv_M_mix : Cond.privateMethod yM_mix ∈ lw_tbl := List.mem_append_right _ (List.mem_of_getElem? (i := 651) (by decide +kernel))
theorem wi_M_mix : Cond.instanceMethod yM_mix ∈ lw_tbl := List.mem_append_right _ (List.mem_of_getElem? (i := 652) (by decide +kernel))
theorem wc_M_mix : Cond.code yM_mix prog_10_method_6_code 5 (Option.none : Option ClassFile.FieldType) ∈ lw_tbl := List.mem_append_right _ (List.mem_of_getElem? (i := 653) (by decide +kernel))
theorem wk_M_78 : Cond.constantLong "ThresholdSealModel" 78 (-7046029254386353131 : Int64) ∈ lw_tbl := List.mem_append_right _ (List.mem_of_getElem? (i := 654) (by decide +kernel))
theorem wm_M_83 : Cond.methodLink "ThresholdSealModel" 83 yM_digest ∈ lw_tbl := List.mem_append_right _ (List.mem_of_getElem? (i := 655) (by decide +kernel))
theorem wv_M_digest : Cond.privateMethod yM_digest ∈ lw_tbl := List.mem_append_right _ (List.mem_of_getElem? (i := 656) (by decide +kernel))
theorem wi_M_digest : Cond.instanceMethod yM_digest ∈ lw_tbl := List.mem_append_right _ (List.mem_of_getElem? (i := 657) (by decide +kernel))
theorem wc_M_digest : Cond.code yM_digest prog_10_method_7_code 1 (Option.some ClassFile.FieldType.long) ∈ lw_tbl := List.mem_append_right _ (List.mem_of_getElem? (i := 658) (by decide +kernel))
theorem wk_M_68 : Cond.constantLong "ThresholdSealModel" 68 (1073741789 : Int64) ∈ lw_tbl := List.mem_append_right _ (List.mem_of_getElem? (i := 659) (by decide +kernel))
theorem wk_M_99 : Cond.constantLong "ThresholdSealModel" 99 (4 : Int64) ∈ lw_tbl := List.mem_append_right _ (List.mem_of_getElem? (i := 660) (by decide +kernel))
theorem wk_M_101 : Cond.constantLong "ThresholdSealModel" 101 (2147483579 : Int64) ∈ lw_tbl := List.mem_append_right _ (List.mem_of_getElem? (i := 661) (by decide +kernel))
theorem wm_M_95 : Cond.methodLink "ThresholdSealModel" 95 yM_power ∈ lw_tbl := List.mem_append_right _ (List.mem_of_getElem? (i := 662) (by decide +kernel))
theorem wt_M_power : Cond.static yM_power ∈ lw_tbl := List.mem_append_right _ (List.mem_of_getElem? (i := 663) (by decide +kernel))
theorem wc_M_power : Cond.code yM_power prog_10_method_3_code 11 (Option.some ClassFile.FieldType.long) ∈ lw_tbl := List.mem_append_right _ (List.mem_of_getElem? (i := 664) (by decide +kernel))
theorem wk_M_66 : Cond.constantLong "ThresholdSealModel" 66 (3 : Int64) ∈ lw_tbl := List.mem_append_right _ (List.mem_of_getElem? (i := 665) (by decide +kernel))
theorem wm_L_64 : Cond.methodLink "ThresholdSealLaw" 64 yM_commit ∈ lw_tbl := List.mem_append_right _ (List.mem_of_getElem? (i := 666) (by decide +kernel))
theorem wi_M_commit : Cond.instanceMethod yM_commit ∈ lw_tbl := List.mem_append_right _ (List.mem_of_getElem? (i := 667) (by decide +kernel))
theorem ws_M_M_commit : Cond.selects "ThresholdSealModel" yM_commit yM_commit ∈ lw_tbl := List.mem_append_right _ (List.mem_of_getElem? (i := 668) (by decide +kernel))
theorem wc_M_commit : Cond.code yM_commit prog_10_method_15_code 4 (Option.some ClassFile.FieldType.long) ∈ lw_tbl := List.mem_append_right _ (List.mem_of_getElem? (i := 669) (by decide +kernel))
theorem wm_M_116 : Cond.methodLink "ThresholdSealModel" 116 yM_isSigner ∈ lw_tbl := List.mem_append_right _ (List.mem_of_getElem? (i := 670) (by decide +kernel))
theorem wv_M_isSigner : Cond.privateMethod yM_isSigner ∈ lw_tbl := List.mem_append_right _ (List.mem_of_getElem? (i := 671) (by decide +kernel))
theorem wi_M_isSigner : Cond.instanceMethod yM_isSigner ∈ lw_tbl := List.mem_append_right _ (List.mem_of_getElem? (i := 672) (by decide +kernel))
theorem wc_M_isSigner : Cond.code yM_isSigner prog_10_method_10_code 2 (Option.some ClassFile.FieldType.boolean) ∈ lw_tbl := List.mem_append_right _ (List.mem_of_getElem? (i := 673) (by decide +kernel))
theorem wk_M_120 : Cond.constantLong "ThresholdSealModel" 120 (2 : Int64) ∈ lw_tbl := List.mem_append_right _ (List.mem_of_getElem? (i := 674) (by decide +kernel))
theorem wm_M_122 : Cond.methodLink "ThresholdSealModel" 122 yM_pairNumber ∈ lw_tbl := List.mem_append_right _ (List.mem_of_getElem? (i := 675) (by decide +kernel))
theorem wv_M_pairNumber : Cond.privateMethod yM_pairNumber ∈ lw_tbl := List.mem_append_right _ (List.mem_of_getElem? (i := 676) (by decide +kernel))
theorem wi_M_pairNumber : Cond.instanceMethod yM_pairNumber ∈ lw_tbl := List.mem_append_right _ (List.mem_of_getElem? (i := 677) (by decide +kernel))
theorem wc_M_pairNumber : Cond.code yM_pairNumber prog_10_method_8_code 6 (Option.some ClassFile.FieldType.long) ∈ lw_tbl := List.mem_append_right _ (List.mem_of_getElem? (i := 678) (by decide +kernel))
theorem wm_L_71 : Cond.methodLink "ThresholdSealLaw" 71 yM_begin ∈ lw_tbl := List.mem_append_right _ (List.mem_of_getElem? (i := 679) (by decide +kernel))
theorem wi_M_begin : Cond.instanceMethod yM_begin ∈ lw_tbl := List.mem_append_right _ (List.mem_of_getElem? (i := 680) (by decide +kernel))
theorem ws_M_M_begin : Cond.selects "ThresholdSealModel" yM_begin yM_begin ∈ lw_tbl := List.mem_append_right _ (List.mem_of_getElem? (i := 681) (by decide +kernel))
theorem wc_M_begin : Cond.code yM_begin prog_10_method_18_code 5 (Option.some ClassFile.FieldType.long) ∈ lw_tbl := List.mem_append_right _ (List.mem_of_getElem? (i := 682) (by decide +kernel))
theorem wm_M_126 : Cond.methodLink "ThresholdSealModel" 126 yM_isSet ∈ lw_tbl := List.mem_append_right _ (List.mem_of_getElem? (i := 683) (by decide +kernel))
theorem wv_M_isSet : Cond.privateMethod yM_isSet ∈ lw_tbl := List.mem_append_right _ (List.mem_of_getElem? (i := 684) (by decide +kernel))
theorem wi_M_isSet : Cond.instanceMethod yM_isSet ∈ lw_tbl := List.mem_append_right _ (List.mem_of_getElem? (i := 685) (by decide +kernel))
theorem wc_M_isSet : Cond.code yM_isSet prog_10_method_12_code 4 (Option.some ClassFile.FieldType.boolean) ∈ lw_tbl := List.mem_append_right _ (List.mem_of_getElem? (i := 686) (by decide +kernel))
theorem wm_M_89 : Cond.methodLink "ThresholdSealModel" 89 yM_in ∈ lw_tbl := List.mem_append_right _ (List.mem_of_getElem? (i := 687) (by decide +kernel))
theorem wt_M_in : Cond.static yM_in ∈ lw_tbl := List.mem_append_right _ (List.mem_of_getElem? (i := 688) (by decide +kernel))
theorem wc_M_in : Cond.code yM_in prog_10_method_11_code 2 (Option.some ClassFile.FieldType.boolean) ∈ lw_tbl := List.mem_append_right _ (List.mem_of_getElem? (i := 689) (by decide +kernel))
theorem wm_M_129 : Cond.methodLink "ThresholdSealModel" 129 yM_allOpen ∈ lw_tbl := List.mem_append_right _ (List.mem_of_getElem? (i := 690) (by decide +kernel))
theorem wv_M_allOpen : Cond.privateMethod yM_allOpen ∈ lw_tbl := List.mem_append_right _ (List.mem_of_getElem? (i := 691) (by decide +kernel))
theorem wi_M_allOpen : Cond.instanceMethod yM_allOpen ∈ lw_tbl := List.mem_append_right _ (List.mem_of_getElem? (i := 692) (by decide +kernel))
theorem wc_M_allOpen : Cond.code yM_allOpen prog_10_method_16_code 4 (Option.some ClassFile.FieldType.boolean) ∈ lw_tbl := List.mem_append_right _ (List.mem_of_getElem? (i := 693) (by decide +kernel))
theorem wm_M_135 : Cond.methodLink "ThresholdSealModel" 135 yM_factorOf ∈ lw_tbl := List.mem_append_right _ (List.mem_of_getElem? (i := 694) (by decide +kernel))
theorem wv_M_factorOf : Cond.privateMethod yM_factorOf ∈ lw_tbl := List.mem_append_right _ (List.mem_of_getElem? (i := 695) (by decide +kernel))
theorem wi_M_factorOf : Cond.instanceMethod yM_factorOf ∈ lw_tbl := List.mem_append_right _ (List.mem_of_getElem? (i := 696) (by decide +kernel))
theorem wc_M_factorOf : Cond.code yM_factorOf prog_10_method_17_code 6 (Option.some ClassFile.FieldType.long) ∈ lw_tbl := List.mem_append_right _ (List.mem_of_getElem? (i := 697) (by decide +kernel))
theorem wm_M_139 : Cond.methodLink "ThresholdSealModel" 139 yM_weightIn ∈ lw_tbl := List.mem_append_right _ (List.mem_of_getElem? (i := 698) (by decide +kernel))
theorem wv_M_weightIn : Cond.privateMethod yM_weightIn ∈ lw_tbl := List.mem_append_right _ (List.mem_of_getElem? (i := 699) (by decide +kernel))
theorem wi_M_weightIn : Cond.instanceMethod yM_weightIn ∈ lw_tbl := List.mem_append_right _ (List.mem_of_getElem? (i := 700) (by decide +kernel))
theorem wc_M_weightIn : Cond.code yM_weightIn prog_10_method_13_code 8 (Option.some ClassFile.FieldType.long) ∈ lw_tbl := List.mem_append_right _ (List.mem_of_getElem? (i := 701) (by decide +kernel))
theorem wk_M_93 : Cond.constantLong "ThresholdSealModel" 93 (1073741787 : Int64) ∈ lw_tbl := List.mem_append_right _ (List.mem_of_getElem? (i := 702) (by decide +kernel))
theorem wm_M_143 : Cond.methodLink "ThresholdSealModel" 143 yM_challengeOf ∈ lw_tbl := List.mem_append_right _ (List.mem_of_getElem? (i := 703) (by decide +kernel))
theorem wv_M_challengeOf : Cond.privateMethod yM_challengeOf ∈ lw_tbl := List.mem_append_right _ (List.mem_of_getElem? (i := 704) (by decide +kernel))
theorem wi_M_challengeOf : Cond.instanceMethod yM_challengeOf ∈ lw_tbl := List.mem_append_right _ (List.mem_of_getElem? (i := 705) (by decide +kernel))
theorem wc_M_challengeOf : Cond.code yM_challengeOf prog_10_method_9_code 5 (Option.some ClassFile.FieldType.long) ∈ lw_tbl := List.mem_append_right _ (List.mem_of_getElem? (i := 706) (by decide +kernel))
theorem wk_M_87 : Cond.constantLong "ThresholdSealModel" 87 (5 : Int64) ∈ lw_tbl := List.mem_append_right _ (List.mem_of_getElem? (i := 707) (by decide +kernel))
theorem wm_L_75 : Cond.methodLink "ThresholdSealLaw" 75 yM_sign ∈ lw_tbl := List.mem_append_right _ (List.mem_of_getElem? (i := 708) (by decide +kernel))
theorem wi_M_sign : Cond.instanceMethod yM_sign ∈ lw_tbl := List.mem_append_right _ (List.mem_of_getElem? (i := 709) (by decide +kernel))
theorem ws_M_M_sign : Cond.selects "ThresholdSealModel" yM_sign yM_sign ∈ lw_tbl := List.mem_append_right _ (List.mem_of_getElem? (i := 710) (by decide +kernel))
theorem wc_M_sign : Cond.code yM_sign prog_10_method_20_code 6 (Option.some ClassFile.FieldType.long) ∈ lw_tbl := List.mem_append_right _ (List.mem_of_getElem? (i := 711) (by decide +kernel))
theorem wm_M_150 : Cond.methodLink "ThresholdSealModel" 150 yM_isMember ∈ lw_tbl := List.mem_append_right _ (List.mem_of_getElem? (i := 712) (by decide +kernel))
theorem wv_M_isMember : Cond.privateMethod yM_isMember ∈ lw_tbl := List.mem_append_right _ (List.mem_of_getElem? (i := 713) (by decide +kernel))
theorem wi_M_isMember : Cond.instanceMethod yM_isMember ∈ lw_tbl := List.mem_append_right _ (List.mem_of_getElem? (i := 714) (by decide +kernel))
theorem wc_M_isMember : Cond.code yM_isMember prog_10_method_19_code 2 (Option.some ClassFile.FieldType.boolean) ∈ lw_tbl := List.mem_append_right _ (List.mem_of_getElem? (i := 715) (by decide +kernel))
theorem wm_L_78 : Cond.methodLink "ThresholdSealLaw" 78 yM_submit ∈ lw_tbl := List.mem_append_right _ (List.mem_of_getElem? (i := 716) (by decide +kernel))
theorem wi_M_submit : Cond.instanceMethod yM_submit ∈ lw_tbl := List.mem_append_right _ (List.mem_of_getElem? (i := 717) (by decide +kernel))
theorem ws_M_M_submit : Cond.selects "ThresholdSealModel" yM_submit yM_submit ∈ lw_tbl := List.mem_append_right _ (List.mem_of_getElem? (i := 718) (by decide +kernel))
theorem wc_M_submit : Cond.code yM_submit prog_10_method_22_code 4 (Option.some ClassFile.FieldType.boolean) ∈ lw_tbl := List.mem_append_right _ (List.mem_of_getElem? (i := 719) (by decide +kernel))
theorem wm_M_153 : Cond.methodLink "ThresholdSealModel" 153 yM_isNumber ∈ lw_tbl := List.mem_append_right _ (List.mem_of_getElem? (i := 720) (by decide +kernel))
theorem wt_M_isNumber : Cond.static yM_isNumber ∈ lw_tbl := List.mem_append_right _ (List.mem_of_getElem? (i := 721) (by decide +kernel))
theorem wc_M_isNumber : Cond.code yM_isNumber prog_10_method_4_code 2 (Option.some ClassFile.FieldType.boolean) ∈ lw_tbl := List.mem_append_right _ (List.mem_of_getElem? (i := 722) (by decide +kernel))
theorem wm_M_157 : Cond.methodLink "ThresholdSealModel" 157 yM_tell ∈ lw_tbl := List.mem_append_right _ (List.mem_of_getElem? (i := 723) (by decide +kernel))
theorem wv_M_tell : Cond.privateMethod yM_tell ∈ lw_tbl := List.mem_append_right _ (List.mem_of_getElem? (i := 724) (by decide +kernel))
theorem wi_M_tell : Cond.instanceMethod yM_tell ∈ lw_tbl := List.mem_append_right _ (List.mem_of_getElem? (i := 725) (by decide +kernel))
theorem wc_M_tell : Cond.code yM_tell prog_10_method_21_code 9 (Option.some ClassFile.FieldType.boolean) ∈ lw_tbl := List.mem_append_right _ (List.mem_of_getElem? (i := 726) (by decide +kernel))
theorem wm_L_81 : Cond.methodLink "ThresholdSealLaw" 81 yM_relay ∈ lw_tbl := List.mem_append_right _ (List.mem_of_getElem? (i := 727) (by decide +kernel))
theorem wi_M_relay : Cond.instanceMethod yM_relay ∈ lw_tbl := List.mem_append_right _ (List.mem_of_getElem? (i := 728) (by decide +kernel))
theorem ws_M_M_relay : Cond.selects "ThresholdSealModel" yM_relay yM_relay ∈ lw_tbl := List.mem_append_right _ (List.mem_of_getElem? (i := 729) (by decide +kernel))
theorem wc_M_relay : Cond.code yM_relay prog_10_method_23_code 4 (Option.some ClassFile.FieldType.boolean) ∈ lw_tbl := List.mem_append_right _ (List.mem_of_getElem? (i := 730) (by decide +kernel))
theorem wm_L_85 : Cond.methodLink "ThresholdSealLaw" 85 yM_seal ∈ lw_tbl := List.mem_append_right _ (List.mem_of_getElem? (i := 731) (by decide +kernel))
theorem wi_M_seal : Cond.instanceMethod yM_seal ∈ lw_tbl := List.mem_append_right _ (List.mem_of_getElem? (i := 732) (by decide +kernel))
theorem ws_M_M_seal : Cond.selects "ThresholdSealModel" yM_seal yM_seal ∈ lw_tbl := List.mem_append_right _ (List.mem_of_getElem? (i := 733) (by decide +kernel))
theorem wc_M_seal : Cond.code yM_seal prog_10_method_26_code 1 (Option.some ClassFile.FieldType.long) ∈ lw_tbl := List.mem_append_right _ (List.mem_of_getElem? (i := 734) (by decide +kernel))
theorem wm_M_161 : Cond.methodLink "ThresholdSealModel" 161 yM_isWhole ∈ lw_tbl := List.mem_append_right _ (List.mem_of_getElem? (i := 735) (by decide +kernel))
theorem wv_M_isWhole : Cond.privateMethod yM_isWhole ∈ lw_tbl := List.mem_append_right _ (List.mem_of_getElem? (i := 736) (by decide +kernel))
theorem wi_M_isWhole : Cond.instanceMethod yM_isWhole ∈ lw_tbl := List.mem_append_right _ (List.mem_of_getElem? (i := 737) (by decide +kernel))
theorem wc_M_isWhole : Cond.code yM_isWhole prog_10_method_24_code 1 (Option.some ClassFile.FieldType.boolean) ∈ lw_tbl := List.mem_append_right _ (List.mem_of_getElem? (i := 738) (by decide +kernel))
theorem wm_M_165 : Cond.methodLink "ThresholdSealModel" 165 yM_sum ∈ lw_tbl := List.mem_append_right _ (List.mem_of_getElem? (i := 739) (by decide +kernel))
theorem wv_M_sum : Cond.privateMethod yM_sum ∈ lw_tbl := List.mem_append_right _ (List.mem_of_getElem? (i := 740) (by decide +kernel))
theorem wi_M_sum : Cond.instanceMethod yM_sum ∈ lw_tbl := List.mem_append_right _ (List.mem_of_getElem? (i := 741) (by decide +kernel))
theorem wc_M_sum : Cond.code yM_sum prog_10_method_25_code 4 (Option.some ClassFile.FieldType.long) ∈ lw_tbl := List.mem_append_right _ (List.mem_of_getElem? (i := 742) (by decide +kernel))
theorem wm_L_90 : Cond.methodLink "ThresholdSealLaw" 90 yM_check ∈ lw_tbl := List.mem_append_right _ (List.mem_of_getElem? (i := 743) (by decide +kernel))
theorem wi_M_check : Cond.instanceMethod yM_check ∈ lw_tbl := List.mem_append_right _ (List.mem_of_getElem? (i := 744) (by decide +kernel))
theorem ws_M_M_check : Cond.selects "ThresholdSealModel" yM_check yM_check ∈ lw_tbl := List.mem_append_right _ (List.mem_of_getElem? (i := 745) (by decide +kernel))
theorem wc_M_check : Cond.code yM_check prog_10_method_28_code 7 (Option.some ClassFile.FieldType.boolean) ∈ lw_tbl := List.mem_append_right _ (List.mem_of_getElem? (i := 746) (by decide +kernel))
theorem wm_M_168 : Cond.methodLink "ThresholdSealModel" 168 yM_isSealOf ∈ lw_tbl := List.mem_append_right _ (List.mem_of_getElem? (i := 747) (by decide +kernel))
theorem wv_M_isSealOf : Cond.privateMethod yM_isSealOf ∈ lw_tbl := List.mem_append_right _ (List.mem_of_getElem? (i := 748) (by decide +kernel))
theorem wi_M_isSealOf : Cond.instanceMethod yM_isSealOf ∈ lw_tbl := List.mem_append_right _ (List.mem_of_getElem? (i := 749) (by decide +kernel))
theorem wc_M_isSealOf : Cond.code yM_isSealOf prog_10_method_27_code 9 (Option.some ClassFile.FieldType.boolean) ∈ lw_tbl := List.mem_append_right _ (List.mem_of_getElem? (i := 750) (by decide +kernel))
theorem wm_L_94 : Cond.methodLink "ThresholdSealLaw" 94 yM_holds ∈ lw_tbl := List.mem_append_right _ (List.mem_of_getElem? (i := 751) (by decide +kernel))
theorem wi_M_holds : Cond.instanceMethod yM_holds ∈ lw_tbl := List.mem_append_right _ (List.mem_of_getElem? (i := 752) (by decide +kernel))
theorem ws_M_M_holds : Cond.selects "ThresholdSealModel" yM_holds yM_holds ∈ lw_tbl := List.mem_append_right _ (List.mem_of_getElem? (i := 753) (by decide +kernel))
theorem wc_M_holds : Cond.code yM_holds prog_10_method_29_code 5 (Option.some ClassFile.FieldType.boolean) ∈ lw_tbl := List.mem_append_right _ (List.mem_of_getElem? (i := 754) (by decide +kernel))
theorem wm_L_97 : Cond.methodLink "ThresholdSealLaw" 97 yM_recover ∈ lw_tbl := List.mem_append_right _ (List.mem_of_getElem? (i := 755) (by decide +kernel))
theorem wi_M_recover : Cond.instanceMethod yM_recover ∈ lw_tbl := List.mem_append_right _ (List.mem_of_getElem? (i := 756) (by decide +kernel))
theorem ws_M_M_recover : Cond.selects "ThresholdSealModel" yM_recover yM_recover ∈ lw_tbl := List.mem_append_right _ (List.mem_of_getElem? (i := 757) (by decide +kernel))
theorem wc_M_recover : Cond.code yM_recover prog_10_method_30_code 7 (Option.some ClassFile.FieldType.long) ∈ lw_tbl := List.mem_append_right _ (List.mem_of_getElem? (i := 758) (by decide +kernel))
theorem wm_L_101 : Cond.methodLink "ThresholdSealLaw" 101 yM_key ∈ lw_tbl := List.mem_append_right _ (List.mem_of_getElem? (i := 759) (by decide +kernel))
theorem wi_M_key : Cond.instanceMethod yM_key ∈ lw_tbl := List.mem_append_right _ (List.mem_of_getElem? (i := 760) (by decide +kernel))
theorem ws_M_M_key : Cond.selects "ThresholdSealModel" yM_key yM_key ∈ lw_tbl := List.mem_append_right _ (List.mem_of_getElem? (i := 761) (by decide +kernel))
theorem wc_M_key : Cond.code yM_key prog_10_method_31_code 2 (Option.some ClassFile.FieldType.long) ∈ lw_tbl := List.mem_append_right _ (List.mem_of_getElem? (i := 762) (by decide +kernel))
theorem wk_M_172 : Cond.constantLong "ThresholdSealModel" 172 (-1 : Int64) ∈ lw_tbl := List.mem_append_right _ (List.mem_of_getElem? (i := 763) (by decide +kernel))
theorem wm_L_105 : Cond.methodLink "ThresholdSealLaw" 105 yM_secret ∈ lw_tbl := List.mem_append_right _ (List.mem_of_getElem? (i := 764) (by decide +kernel))
theorem wi_M_secret : Cond.instanceMethod yM_secret ∈ lw_tbl := List.mem_append_right _ (List.mem_of_getElem? (i := 765) (by decide +kernel))
theorem ws_M_M_secret : Cond.selects "ThresholdSealModel" yM_secret yM_secret ∈ lw_tbl := List.mem_append_right _ (List.mem_of_getElem? (i := 766) (by decide +kernel))
theorem wc_M_secret : Cond.code yM_secret prog_10_method_32_code 2 (Option.some ClassFile.FieldType.long) ∈ lw_tbl := List.mem_append_right _ (List.mem_of_getElem? (i := 767) (by decide +kernel))
theorem wm_L_110 : Cond.methodLink "ThresholdSealLaw" 110 yM_commitment ∈ lw_tbl := List.mem_append_right _ (List.mem_of_getElem? (i := 768) (by decide +kernel))
theorem wi_M_commitment : Cond.instanceMethod yM_commitment ∈ lw_tbl := List.mem_append_right _ (List.mem_of_getElem? (i := 769) (by decide +kernel))
theorem ws_M_M_commitment : Cond.selects "ThresholdSealModel" yM_commitment yM_commitment ∈ lw_tbl := List.mem_append_right _ (List.mem_of_getElem? (i := 770) (by decide +kernel))
theorem wc_M_commitment : Cond.code yM_commitment prog_10_method_33_code 3 (Option.some ClassFile.FieldType.long) ∈ lw_tbl := List.mem_append_right _ (List.mem_of_getElem? (i := 771) (by decide +kernel))
theorem wm_L_114 : Cond.methodLink "ThresholdSealLaw" 114 yM_factor ∈ lw_tbl := List.mem_append_right _ (List.mem_of_getElem? (i := 772) (by decide +kernel))
theorem wi_M_factor : Cond.instanceMethod yM_factor ∈ lw_tbl := List.mem_append_right _ (List.mem_of_getElem? (i := 773) (by decide +kernel))
theorem ws_M_M_factor : Cond.selects "ThresholdSealModel" yM_factor yM_factor ∈ lw_tbl := List.mem_append_right _ (List.mem_of_getElem? (i := 774) (by decide +kernel))
theorem wc_M_factor : Cond.code yM_factor prog_10_method_34_code 2 (Option.some ClassFile.FieldType.long) ∈ lw_tbl := List.mem_append_right _ (List.mem_of_getElem? (i := 775) (by decide +kernel))
theorem wm_L_118 : Cond.methodLink "ThresholdSealLaw" 118 yM_weight ∈ lw_tbl := List.mem_append_right _ (List.mem_of_getElem? (i := 776) (by decide +kernel))
theorem wi_M_weight : Cond.instanceMethod yM_weight ∈ lw_tbl := List.mem_append_right _ (List.mem_of_getElem? (i := 777) (by decide +kernel))
theorem ws_M_M_weight : Cond.selects "ThresholdSealModel" yM_weight yM_weight ∈ lw_tbl := List.mem_append_right _ (List.mem_of_getElem? (i := 778) (by decide +kernel))
theorem wc_M_weight : Cond.code yM_weight prog_10_method_35_code 2 (Option.some ClassFile.FieldType.long) ∈ lw_tbl := List.mem_append_right _ (List.mem_of_getElem? (i := 779) (by decide +kernel))
theorem wm_L_122 : Cond.methodLink "ThresholdSealLaw" 122 yM_challenge ∈ lw_tbl := List.mem_append_right _ (List.mem_of_getElem? (i := 780) (by decide +kernel))
theorem wi_M_challenge : Cond.instanceMethod yM_challenge ∈ lw_tbl := List.mem_append_right _ (List.mem_of_getElem? (i := 781) (by decide +kernel))
theorem ws_M_M_challenge : Cond.selects "ThresholdSealModel" yM_challenge yM_challenge ∈ lw_tbl := List.mem_append_right _ (List.mem_of_getElem? (i := 782) (by decide +kernel))
theorem wc_M_challenge : Cond.code yM_challenge prog_10_method_36_code 1 (Option.some ClassFile.FieldType.long) ∈ lw_tbl := List.mem_append_right _ (List.mem_of_getElem? (i := 783) (by decide +kernel))
theorem wm_L_126 : Cond.methodLink "ThresholdSealLaw" 126 yM_members ∈ lw_tbl := List.mem_append_right _ (List.mem_of_getElem? (i := 784) (by decide +kernel))
theorem wi_M_members : Cond.instanceMethod yM_members ∈ lw_tbl := List.mem_append_right _ (List.mem_of_getElem? (i := 785) (by decide +kernel))
theorem ws_M_M_members : Cond.selects "ThresholdSealModel" yM_members yM_members ∈ lw_tbl := List.mem_append_right _ (List.mem_of_getElem? (i := 786) (by decide +kernel))
theorem wc_M_members : Cond.code yM_members prog_10_method_37_code 1 (Option.some ClassFile.FieldType.int) ∈ lw_tbl := List.mem_append_right _ (List.mem_of_getElem? (i := 787) (by decide +kernel))
theorem wm_L_130 : Cond.methodLink "ThresholdSealLaw" 130 yM_taken ∈ lw_tbl := List.mem_append_right _ (List.mem_of_getElem? (i := 788) (by decide +kernel))
theorem wi_M_taken : Cond.instanceMethod yM_taken ∈ lw_tbl := List.mem_append_right _ (List.mem_of_getElem? (i := 789) (by decide +kernel))
theorem ws_M_M_taken : Cond.selects "ThresholdSealModel" yM_taken yM_taken ∈ lw_tbl := List.mem_append_right _ (List.mem_of_getElem? (i := 790) (by decide +kernel))
theorem wc_M_taken : Cond.code yM_taken prog_10_method_38_code 1 (Option.some ClassFile.FieldType.int) ∈ lw_tbl := List.mem_append_right _ (List.mem_of_getElem? (i := 791) (by decide +kernel))
theorem wm_L_134 : Cond.methodLink "ThresholdSealLaw" 134 yM_blamed ∈ lw_tbl := List.mem_append_right _ (List.mem_of_getElem? (i := 792) (by decide +kernel))
theorem wi_M_blamed : Cond.instanceMethod yM_blamed ∈ lw_tbl := List.mem_append_right _ (List.mem_of_getElem? (i := 793) (by decide +kernel))
theorem ws_M_M_blamed : Cond.selects "ThresholdSealModel" yM_blamed yM_blamed ∈ lw_tbl := List.mem_append_right _ (List.mem_of_getElem? (i := 794) (by decide +kernel))
theorem wc_M_blamed : Cond.code yM_blamed prog_10_method_39_code 1 (Option.some ClassFile.FieldType.int) ∈ lw_tbl := List.mem_append_right _ (List.mem_of_getElem? (i := 795) (by decide +kernel))
theorem wk_L_54 : Cond.constantLong "ThresholdSealLaw" 54 (4294967295 : Int64) ∈ lw_tbl := List.mem_append_right _ (List.mem_of_getElem? (i := 796) (by decide +kernel))
theorem wx_797 : Cond.sameMethod "java/lang/Throwable" "java/lang/Throwable" "fillInStackTrace" "(I)Ljava/lang/Throwable;" ∈ lw_tbl := List.mem_append_right _ (List.mem_of_getElem? (i := 797) (by decide +kernel))
end
section
-- S_init
theorem dS_init_0 : decode cS_init 0 = .ok (.aload_n 0, 1) := by decide +kernel
theorem dS_init_1 : decode cS_init 1 = .ok (.invokespecial 1, 3) := by decide +kernel
theorem dS_init_4 : decode cS_init 4 = .ok (.aload_n 0, 1) := by decide +kernel
theorem dS_init_5 : decode cS_init 5 = .ok (.iload_n 1, 1) := by decide +kernel
theorem dS_init_6 : decode cS_init 6 = .ok (.iconst 1, 1) := by decide +kernel
theorem dS_init_7 : decode cS_init 7 = .ok (.invokestatic 7, 3) := by decide +kernel
theorem dS_init_10 : decode cS_init 10 = .ok (.bipush 6, 2) := by decide +kernel
theorem dS_init_12 : decode cS_init 12 = .ok (.invokestatic 15, 3) := by decide +kernel
theorem dS_init_15 : decode cS_init 15 = .ok (.putfield 18, 3) := by decide +kernel
theorem dS_init_18 : decode cS_init 18 = .ok (.aload_n 0, 1) := by decide +kernel
theorem dS_init_19 : decode cS_init 19 = .ok (.iload_n 2, 1) := by decide +kernel
theorem dS_init_20 : decode cS_init 20 = .ok (.iconst 1, 1) := by decide +kernel
theorem dS_init_21 : decode cS_init 21 = .ok (.invokestatic 7, 3) := by decide +kernel
theorem dS_init_24 : decode cS_init 24 = .ok (.aload_n 0, 1) := by decide +kernel
theorem dS_init_25 : decode cS_init 25 = .ok (.getfield 18, 3) := by decide +kernel
theorem dS_init_28 : decode cS_init 28 = .ok (.invokestatic 15, 3) := by decide +kernel
theorem dS_init_31 : decode cS_init 31 = .ok (.putfield 22, 3) := by decide +kernel
theorem dS_init_34 : decode cS_init 34 = .ok (.aload_n 0, 1) := by decide +kernel
theorem dS_init_35 : decode cS_init 35 = .ok (.new 25, 3) := by decide +kernel
theorem dS_init_38 : decode cS_init 38 = .ok (.dup, 1) := by decide +kernel
theorem dS_init_39 : decode cS_init 39 = .ok (.aload_n 0, 1) := by decide +kernel
theorem dS_init_40 : decode cS_init 40 = .ok (.getfield 18, 3) := by decide +kernel
theorem dS_init_43 : decode cS_init 43 = .ok (.aload_n 0, 1) := by decide +kernel
theorem dS_init_44 : decode cS_init 44 = .ok (.getfield 22, 3) := by decide +kernel
theorem dS_init_47 : decode cS_init 47 = .ok (.invokespecial 27, 3) := by decide +kernel
theorem dS_init_50 : decode cS_init 50 = .ok (.putfield 30, 3) := by decide +kernel
theorem dS_init_53 : decode cS_init 53 = .ok (.aload_n 0, 1) := by decide +kernel
theorem dS_init_54 : decode cS_init 54 = .ok (.new 34, 3) := by decide +kernel
theorem dS_init_57 : decode cS_init 57 = .ok (.dup, 1) := by decide +kernel
theorem dS_init_58 : decode cS_init 58 = .ok (.aload_n 0, 1) := by decide +kernel
theorem dS_init_59 : decode cS_init 59 = .ok (.getfield 18, 3) := by decide +kernel
theorem dS_init_62 : decode cS_init 62 = .ok (.invokespecial 36, 3) := by decide +kernel
theorem dS_init_65 : decode cS_init 65 = .ok (.putfield 39, 3) := by decide +kernel
theorem dS_init_68 : decode cS_init 68 = .ok (.aload_n 0, 1) := by decide +kernel
theorem dS_init_69 : decode cS_init 69 = .ok (.new 43, 3) := by decide +kernel
theorem dS_init_72 : decode cS_init 72 = .ok (.dup, 1) := by decide +kernel
theorem dS_init_73 : decode cS_init 73 = .ok (.aload_n 0, 1) := by decide +kernel
theorem dS_init_74 : decode cS_init 74 = .ok (.getfield 18, 3) := by decide +kernel
theorem dS_init_77 : decode cS_init 77 = .ok (.invokespecial 45, 3) := by decide +kernel
theorem dS_init_80 : decode cS_init 80 = .ok (.putfield 46, 3) := by decide +kernel
theorem dS_init_83 : decode cS_init 83 = .ok (.return_, 1) := by decide +kernel
-- S_deal
theorem dS_deal_0 : decode cS_deal 0 = .ok (.aload_n 0, 1) := by decide +kernel
theorem dS_deal_1 : decode cS_deal 1 = .ok (.getfield 30, 3) := by decide +kernel
theorem dS_deal_4 : decode cS_deal 4 = .ok (.lload_n 1, 1) := by decide +kernel
theorem dS_deal_5 : decode cS_deal 5 = .ok (.invokevirtual 50, 3) := by decide +kernel
theorem dS_deal_8 : decode cS_deal 8 = .ok (.aload_n 0, 1) := by decide +kernel
theorem dS_deal_9 : decode cS_deal 9 = .ok (.getfield 39, 3) := by decide +kernel
theorem dS_deal_12 : decode cS_deal 12 = .ok (.invokevirtual 54, 3) := by decide +kernel
theorem dS_deal_15 : decode cS_deal 15 = .ok (.aload_n 0, 1) := by decide +kernel
theorem dS_deal_16 : decode cS_deal 16 = .ok (.getfield 46, 3) := by decide +kernel
theorem dS_deal_19 : decode cS_deal 19 = .ok (.invokevirtual 57, 3) := by decide +kernel
theorem dS_deal_22 : decode cS_deal 22 = .ok (.aload_n 0, 1) := by decide +kernel
theorem dS_deal_23 : decode cS_deal 23 = .ok (.getfield 30, 3) := by decide +kernel
theorem dS_deal_26 : decode cS_deal 26 = .ok (.invokevirtual 60, 3) := by decide +kernel
theorem dS_deal_29 : decode cS_deal 29 = .ok (.lreturn, 1) := by decide +kernel
-- S_commit
theorem dS_commit_0 : decode cS_commit 0 = .ok (.aload_n 0, 1) := by decide +kernel
theorem dS_commit_1 : decode cS_commit 1 = .ok (.iload_n 1, 1) := by decide +kernel
theorem dS_commit_2 : decode cS_commit 2 = .ok (.invokevirtual 64, 3) := by decide +kernel
theorem dS_commit_5 : decode cS_commit 5 = .ok (.aload_n 0, 1) := by decide +kernel
theorem dS_commit_6 : decode cS_commit 6 = .ok (.invokevirtual 67, 3) := by decide +kernel
theorem dS_commit_9 : decode cS_commit 9 = .ok (.aload_n 0, 1) := by decide +kernel
theorem dS_commit_10 : decode cS_commit 10 = .ok (.getfield 39, 3) := by decide +kernel
theorem dS_commit_13 : decode cS_commit 13 = .ok (.iload_n 1, 1) := by decide +kernel
theorem dS_commit_14 : decode cS_commit 14 = .ok (.lload_n 2, 1) := by decide +kernel
theorem dS_commit_15 : decode cS_commit 15 = .ok (.invokevirtual 70, 3) := by decide +kernel
theorem dS_commit_18 : decode cS_commit 18 = .ok (.aload_n 0, 1) := by decide +kernel
theorem dS_commit_19 : decode cS_commit 19 = .ok (.getfield 46, 3) := by decide +kernel
theorem dS_commit_22 : decode cS_commit 22 = .ok (.iload_n 1, 1) := by decide +kernel
theorem dS_commit_23 : decode cS_commit 23 = .ok (.invokevirtual 74, 3) := by decide +kernel
theorem dS_commit_26 : decode cS_commit 26 = .ok (.aload_n 0, 1) := by decide +kernel
theorem dS_commit_27 : decode cS_commit 27 = .ok (.getfield 39, 3) := by decide +kernel
theorem dS_commit_30 : decode cS_commit 30 = .ok (.getfield 77, 3) := by decide +kernel
theorem dS_commit_33 : decode cS_commit 33 = .ok (.iload_n 1, 1) := by decide +kernel
theorem dS_commit_34 : decode cS_commit 34 = .ok (.laload, 1) := by decide +kernel
theorem dS_commit_35 : decode cS_commit 35 = .ok (.lreturn, 1) := by decide +kernel
-- S_begin
theorem dS_begin_0 : decode cS_begin 0 = .ok (.aload_n 0, 1) := by decide +kernel
theorem dS_begin_1 : decode cS_begin 1 = .ok (.iload_n 1, 1) := by decide +kernel
theorem dS_begin_2 : decode cS_begin 2 = .ok (.invokevirtual 81, 3) := by decide +kernel
theorem dS_begin_5 : decode cS_begin 5 = .ok (.aload_n 0, 1) := by decide +kernel
theorem dS_begin_6 : decode cS_begin 6 = .ok (.invokevirtual 67, 3) := by decide +kernel
theorem dS_begin_9 : decode cS_begin 9 = .ok (.aload_n 0, 1) := by decide +kernel
theorem dS_begin_10 : decode cS_begin 10 = .ok (.getfield 39, 3) := by decide +kernel
theorem dS_begin_13 : decode cS_begin 13 = .ok (.iload_n 1, 1) := by decide +kernel
theorem dS_begin_14 : decode cS_begin 14 = .ok (.invokevirtual 84, 3) := by decide +kernel
theorem dS_begin_17 : decode cS_begin 17 = .ok (.ifCond .ne 13, 3) := by decide +kernel
theorem dS_begin_20 : decode cS_begin 20 = .ok (.new 88, 3) := by decide +kernel
theorem dS_begin_23 : decode cS_begin 23 = .ok (.dup, 1) := by decide +kernel
theorem dS_begin_24 : decode cS_begin 24 = .ok (.ldc 90, 2) := by decide +kernel
theorem dS_begin_26 : decode cS_begin 26 = .ok (.invokespecial 92, 3) := by decide +kernel
theorem dS_begin_29 : decode cS_begin 29 = .ok (.athrow, 1) := by decide +kernel
theorem dS_begin_30 : decode cS_begin 30 = .ok (.aload_n 0, 1) := by decide +kernel
theorem dS_begin_31 : decode cS_begin 31 = .ok (.getfield 46, 3) := by decide +kernel
theorem dS_begin_34 : decode cS_begin 34 = .ok (.iload_n 1, 1) := by decide +kernel
theorem dS_begin_35 : decode cS_begin 35 = .ok (.lload_n 2, 1) := by decide +kernel
theorem dS_begin_36 : decode cS_begin 36 = .ok (.aload_n 0, 1) := by decide +kernel
theorem dS_begin_37 : decode cS_begin 37 = .ok (.getfield 30, 3) := by decide +kernel
theorem dS_begin_40 : decode cS_begin 40 = .ok (.invokevirtual 60, 3) := by decide +kernel
theorem dS_begin_43 : decode cS_begin 43 = .ok (.aload_n 0, 1) := by decide +kernel
theorem dS_begin_44 : decode cS_begin 44 = .ok (.getfield 39, 3) := by decide +kernel
theorem dS_begin_47 : decode cS_begin 47 = .ok (.invokevirtual 95, 3) := by decide +kernel
theorem dS_begin_50 : decode cS_begin 50 = .ok (.aload_n 0, 1) := by decide +kernel
theorem dS_begin_51 : decode cS_begin 51 = .ok (.getfield 46, 3) := by decide +kernel
theorem dS_begin_54 : decode cS_begin 54 = .ok (.getfield 99, 3) := by decide +kernel
theorem dS_begin_57 : decode cS_begin 57 = .ok (.lreturn, 1) := by decide +kernel
-- S_sign
theorem dS_sign_0 : decode cS_sign 0 = .ok (.aload_n 0, 1) := by decide +kernel
theorem dS_sign_1 : decode cS_sign 1 = .ok (.iload_n 1, 1) := by decide +kernel
theorem dS_sign_2 : decode cS_sign 2 = .ok (.invokevirtual 64, 3) := by decide +kernel
theorem dS_sign_5 : decode cS_sign 5 = .ok (.aload_n 0, 1) := by decide +kernel
theorem dS_sign_6 : decode cS_sign 6 = .ok (.getfield 46, 3) := by decide +kernel
theorem dS_sign_9 : decode cS_sign 9 = .ok (.getfield 103, 3) := by decide +kernel
theorem dS_sign_12 : decode cS_sign 12 = .ok (.iload_n 1, 1) := by decide +kernel
theorem dS_sign_13 : decode cS_sign 13 = .ok (.invokestatic 106, 3) := by decide +kernel
theorem dS_sign_16 : decode cS_sign 16 = .ok (.ifCond .ne 13, 3) := by decide +kernel
theorem dS_sign_19 : decode cS_sign 19 = .ok (.new 88, 3) := by decide +kernel
theorem dS_sign_22 : decode cS_sign 22 = .ok (.dup, 1) := by decide +kernel
theorem dS_sign_23 : decode cS_sign 23 = .ok (.ldc 112, 2) := by decide +kernel
theorem dS_sign_25 : decode cS_sign 25 = .ok (.invokespecial 92, 3) := by decide +kernel
theorem dS_sign_28 : decode cS_sign 28 = .ok (.athrow, 1) := by decide +kernel
theorem dS_sign_29 : decode cS_sign 29 = .ok (.aload_n 0, 1) := by decide +kernel
theorem dS_sign_30 : decode cS_sign 30 = .ok (.getfield 46, 3) := by decide +kernel
theorem dS_sign_33 : decode cS_sign 33 = .ok (.iload_n 1, 1) := by decide +kernel
theorem dS_sign_34 : decode cS_sign 34 = .ok (.aload_n 0, 1) := by decide +kernel
theorem dS_sign_35 : decode cS_sign 35 = .ok (.getfield 30, 3) := by decide +kernel
theorem dS_sign_38 : decode cS_sign 38 = .ok (.getfield 114, 3) := by decide +kernel
theorem dS_sign_41 : decode cS_sign 41 = .ok (.iload_n 1, 1) := by decide +kernel
theorem dS_sign_42 : decode cS_sign 42 = .ok (.laload, 1) := by decide +kernel
theorem dS_sign_43 : decode cS_sign 43 = .ok (.aload_n 0, 1) := by decide +kernel
theorem dS_sign_44 : decode cS_sign 44 = .ok (.getfield 39, 3) := by decide +kernel
theorem dS_sign_47 : decode cS_sign 47 = .ok (.invokevirtual 117, 3) := by decide +kernel
theorem dS_sign_50 : decode cS_sign 50 = .ok (.aload_n 0, 1) := by decide +kernel
theorem dS_sign_51 : decode cS_sign 51 = .ok (.getfield 46, 3) := by decide +kernel
theorem dS_sign_54 : decode cS_sign 54 = .ok (.iload_n 1, 1) := by decide +kernel
theorem dS_sign_55 : decode cS_sign 55 = .ok (.invokevirtual 74, 3) := by decide +kernel
theorem dS_sign_58 : decode cS_sign 58 = .ok (.aload_n 0, 1) := by decide +kernel
theorem dS_sign_59 : decode cS_sign 59 = .ok (.getfield 39, 3) := by decide +kernel
theorem dS_sign_62 : decode cS_sign 62 = .ok (.iload_n 1, 1) := by decide +kernel
theorem dS_sign_63 : decode cS_sign 63 = .ok (.invokevirtual 121, 3) := by decide +kernel
theorem dS_sign_66 : decode cS_sign 66 = .ok (.aload_n 0, 1) := by decide +kernel
theorem dS_sign_67 : decode cS_sign 67 = .ok (.getfield 46, 3) := by decide +kernel
theorem dS_sign_70 : decode cS_sign 70 = .ok (.getfield 124, 3) := by decide +kernel
theorem dS_sign_73 : decode cS_sign 73 = .ok (.iload_n 1, 1) := by decide +kernel
theorem dS_sign_74 : decode cS_sign 74 = .ok (.laload, 1) := by decide +kernel
theorem dS_sign_75 : decode cS_sign 75 = .ok (.lreturn, 1) := by decide +kernel
-- S_submit
theorem dS_submit_0 : decode cS_submit 0 = .ok (.aload_n 0, 1) := by decide +kernel
theorem dS_submit_1 : decode cS_submit 1 = .ok (.iload_n 1, 1) := by decide +kernel
theorem dS_submit_2 : decode cS_submit 2 = .ok (.invokevirtual 64, 3) := by decide +kernel
theorem dS_submit_5 : decode cS_submit 5 = .ok (.aload_n 0, 1) := by decide +kernel
theorem dS_submit_6 : decode cS_submit 6 = .ok (.lload_n 2, 1) := by decide +kernel
theorem dS_submit_7 : decode cS_submit 7 = .ok (.invokevirtual 127, 3) := by decide +kernel
theorem dS_submit_10 : decode cS_submit 10 = .ok (.aload_n 0, 1) := by decide +kernel
theorem dS_submit_11 : decode cS_submit 11 = .ok (.iload_n 1, 1) := by decide +kernel
theorem dS_submit_12 : decode cS_submit 12 = .ok (.invokevirtual 130, 3) := by decide +kernel
theorem dS_submit_15 : decode cS_submit 15 = .ok (.aload_n 0, 1) := by decide +kernel
theorem dS_submit_16 : decode cS_submit 16 = .ok (.getfield 46, 3) := by decide +kernel
theorem dS_submit_19 : decode cS_submit 19 = .ok (.iload_n 1, 1) := by decide +kernel
theorem dS_submit_20 : decode cS_submit 20 = .ok (.lload_n 2, 1) := by decide +kernel
theorem dS_submit_21 : decode cS_submit 21 = .ok (.aload_n 0, 1) := by decide +kernel
theorem dS_submit_22 : decode cS_submit 22 = .ok (.getfield 30, 3) := by decide +kernel
theorem dS_submit_25 : decode cS_submit 25 = .ok (.getfield 133, 3) := by decide +kernel
theorem dS_submit_28 : decode cS_submit 28 = .ok (.iload_n 1, 1) := by decide +kernel
theorem dS_submit_29 : decode cS_submit 29 = .ok (.laload, 1) := by decide +kernel
theorem dS_submit_30 : decode cS_submit 30 = .ok (.invokevirtual 136, 3) := by decide +kernel
theorem dS_submit_33 : decode cS_submit 33 = .ok (.ireturn, 1) := by decide +kernel
-- S_relay
theorem dS_relay_0 : decode cS_relay 0 = .ok (.aload_n 0, 1) := by decide +kernel
theorem dS_relay_1 : decode cS_relay 1 = .ok (.iload_n 1, 1) := by decide +kernel
theorem dS_relay_2 : decode cS_relay 2 = .ok (.invokevirtual 64, 3) := by decide +kernel
theorem dS_relay_5 : decode cS_relay 5 = .ok (.aload_n 0, 1) := by decide +kernel
theorem dS_relay_6 : decode cS_relay 6 = .ok (.lload_n 2, 1) := by decide +kernel
theorem dS_relay_7 : decode cS_relay 7 = .ok (.invokevirtual 127, 3) := by decide +kernel
theorem dS_relay_10 : decode cS_relay 10 = .ok (.aload_n 0, 1) := by decide +kernel
theorem dS_relay_11 : decode cS_relay 11 = .ok (.iload_n 1, 1) := by decide +kernel
theorem dS_relay_12 : decode cS_relay 12 = .ok (.invokevirtual 130, 3) := by decide +kernel
theorem dS_relay_15 : decode cS_relay 15 = .ok (.aload_n 0, 1) := by decide +kernel
theorem dS_relay_16 : decode cS_relay 16 = .ok (.getfield 46, 3) := by decide +kernel
theorem dS_relay_19 : decode cS_relay 19 = .ok (.getfield 140, 3) := by decide +kernel
theorem dS_relay_22 : decode cS_relay 22 = .ok (.iload_n 1, 1) := by decide +kernel
theorem dS_relay_23 : decode cS_relay 23 = .ok (.invokestatic 106, 3) := by decide +kernel
theorem dS_relay_26 : decode cS_relay 26 = .ok (.ifCond .ne 13, 3) := by decide +kernel
theorem dS_relay_29 : decode cS_relay 29 = .ok (.new 88, 3) := by decide +kernel
theorem dS_relay_32 : decode cS_relay 32 = .ok (.dup, 1) := by decide +kernel
theorem dS_relay_33 : decode cS_relay 33 = .ok (.ldc 143, 2) := by decide +kernel
theorem dS_relay_35 : decode cS_relay 35 = .ok (.invokespecial 92, 3) := by decide +kernel
theorem dS_relay_38 : decode cS_relay 38 = .ok (.athrow, 1) := by decide +kernel
theorem dS_relay_39 : decode cS_relay 39 = .ok (.aload_n 0, 1) := by decide +kernel
theorem dS_relay_40 : decode cS_relay 40 = .ok (.getfield 46, 3) := by decide +kernel
theorem dS_relay_43 : decode cS_relay 43 = .ok (.iload_n 1, 1) := by decide +kernel
theorem dS_relay_44 : decode cS_relay 44 = .ok (.aload_n 0, 1) := by decide +kernel
theorem dS_relay_45 : decode cS_relay 45 = .ok (.getfield 46, 3) := by decide +kernel
theorem dS_relay_48 : decode cS_relay 48 = .ok (.getfield 124, 3) := by decide +kernel
theorem dS_relay_51 : decode cS_relay 51 = .ok (.iload_n 1, 1) := by decide +kernel
theorem dS_relay_52 : decode cS_relay 52 = .ok (.laload, 1) := by decide +kernel
theorem dS_relay_53 : decode cS_relay 53 = .ok (.lload_n 2, 1) := by decide +kernel
theorem dS_relay_54 : decode cS_relay 54 = .ok (.invokestatic 145, 3) := by decide +kernel
theorem dS_relay_57 : decode cS_relay 57 = .ok (.aload_n 0, 1) := by decide +kernel
theorem dS_relay_58 : decode cS_relay 58 = .ok (.getfield 30, 3) := by decide +kernel
theorem dS_relay_61 : decode cS_relay 61 = .ok (.getfield 133, 3) := by decide +kernel
theorem dS_relay_64 : decode cS_relay 64 = .ok (.iload_n 1, 1) := by decide +kernel
theorem dS_relay_65 : decode cS_relay 65 = .ok (.laload, 1) := by decide +kernel
theorem dS_relay_66 : decode cS_relay 66 = .ok (.invokevirtual 136, 3) := by decide +kernel
theorem dS_relay_69 : decode cS_relay 69 = .ok (.ireturn, 1) := by decide +kernel
-- S_seal
theorem dS_seal_0 : decode cS_seal 0 = .ok (.aload_n 0, 1) := by decide +kernel
theorem dS_seal_1 : decode cS_seal 1 = .ok (.invokevirtual 151, 3) := by decide +kernel
theorem dS_seal_4 : decode cS_seal 4 = .ok (.aload_n 0, 1) := by decide +kernel
theorem dS_seal_5 : decode cS_seal 5 = .ok (.getfield 46, 3) := by decide +kernel
theorem dS_seal_8 : decode cS_seal 8 = .ok (.getfield 154, 3) := by decide +kernel
theorem dS_seal_11 : decode cS_seal 11 = .ok (.lreturn, 1) := by decide +kernel
-- S_check
theorem dS_check_0 : decode cS_check 0 = .ok (.aload_n 0, 1) := by decide +kernel
theorem dS_check_1 : decode cS_check 1 = .ok (.getfield 30, 3) := by decide +kernel
theorem dS_check_4 : decode cS_check 4 = .ok (.getfield 157, 3) := by decide +kernel
theorem dS_check_7 : decode cS_check 7 = .ok (.ifCond .eq 18, 3) := by decide +kernel
theorem dS_check_10 : decode cS_check 10 = .ok (.aload_n 0, 1) := by decide +kernel
theorem dS_check_11 : decode cS_check 11 = .ok (.lload_n 1, 1) := by decide +kernel
theorem dS_check_12 : decode cS_check 12 = .ok (.lload_n 3, 1) := by decide +kernel
theorem dS_check_13 : decode cS_check 13 = .ok (.lload 5, 2) := by decide +kernel
theorem dS_check_15 : decode cS_check 15 = .ok (.invokevirtual 161, 3) := by decide +kernel
theorem dS_check_18 : decode cS_check 18 = .ok (.ifCond .eq 7, 3) := by decide +kernel
theorem dS_check_21 : decode cS_check 21 = .ok (.iconst 1, 1) := by decide +kernel
theorem dS_check_22 : decode cS_check 22 = .ok (.goto 4, 3) := by decide +kernel
theorem dS_check_25 : decode cS_check 25 = .ok (.iconst 0, 1) := by decide +kernel
theorem dS_check_26 : decode cS_check 26 = .ok (.ireturn, 1) := by decide +kernel
-- S_holds
theorem dS_holds_0 : decode cS_holds 0 = .ok (.aload_n 0, 1) := by decide +kernel
theorem dS_holds_1 : decode cS_holds 1 = .ok (.lload_n 3, 1) := by decide +kernel
theorem dS_holds_2 : decode cS_holds 2 = .ok (.invokevirtual 127, 3) := by decide +kernel
theorem dS_holds_5 : decode cS_holds 5 = .ok (.aload_n 0, 1) := by decide +kernel
theorem dS_holds_6 : decode cS_holds 6 = .ok (.invokevirtual 151, 3) := by decide +kernel
theorem dS_holds_9 : decode cS_holds 9 = .ok (.aload_n 0, 1) := by decide +kernel
theorem dS_holds_10 : decode cS_holds 10 = .ok (.lload_n 1, 1) := by decide +kernel
theorem dS_holds_11 : decode cS_holds 11 = .ok (.aload_n 0, 1) := by decide +kernel
theorem dS_holds_12 : decode cS_holds 12 = .ok (.getfield 46, 3) := by decide +kernel
theorem dS_holds_15 : decode cS_holds 15 = .ok (.getfield 99, 3) := by decide +kernel
theorem dS_holds_18 : decode cS_holds 18 = .ok (.aload_n 0, 1) := by decide +kernel
theorem dS_holds_19 : decode cS_holds 19 = .ok (.getfield 46, 3) := by decide +kernel
theorem dS_holds_22 : decode cS_holds 22 = .ok (.getfield 154, 3) := by decide +kernel
theorem dS_holds_25 : decode cS_holds 25 = .ok (.lload_n 3, 1) := by decide +kernel
theorem dS_holds_26 : decode cS_holds 26 = .ok (.invokestatic 145, 3) := by decide +kernel
theorem dS_holds_29 : decode cS_holds 29 = .ok (.invokevirtual 161, 3) := by decide +kernel
theorem dS_holds_32 : decode cS_holds 32 = .ok (.ireturn, 1) := by decide +kernel
-- S_recover
theorem dS_recover_0 : decode cS_recover 0 = .ok (.aload_n 0, 1) := by decide +kernel
theorem dS_recover_1 : decode cS_recover 1 = .ok (.iload_n 1, 1) := by decide +kernel
theorem dS_recover_2 : decode cS_recover 2 = .ok (.invokevirtual 81, 3) := by decide +kernel
theorem dS_recover_5 : decode cS_recover 5 = .ok (.aload_n 0, 1) := by decide +kernel
theorem dS_recover_6 : decode cS_recover 6 = .ok (.invokevirtual 67, 3) := by decide +kernel
theorem dS_recover_9 : decode cS_recover 9 = .ok (.lconst 0, 1) := by decide +kernel
theorem dS_recover_10 : decode cS_recover 10 = .ok (.lstore_n 2, 1) := by decide +kernel
theorem dS_recover_11 : decode cS_recover 11 = .ok (.iconst 1, 1) := by decide +kernel
theorem dS_recover_12 : decode cS_recover 12 = .ok (.istore 4, 2) := by decide +kernel
theorem dS_recover_14 : decode cS_recover 14 = .ok (.iload 4, 2) := by decide +kernel
theorem dS_recover_16 : decode cS_recover 16 = .ok (.aload_n 0, 1) := by decide +kernel
theorem dS_recover_17 : decode cS_recover 17 = .ok (.getfield 18, 3) := by decide +kernel
theorem dS_recover_20 : decode cS_recover 20 = .ok (.if_icmp .gt 50, 3) := by decide +kernel
theorem dS_recover_23 : decode cS_recover 23 = .ok (.iload_n 1, 1) := by decide +kernel
theorem dS_recover_24 : decode cS_recover 24 = .ok (.iload 4, 2) := by decide +kernel
theorem dS_recover_26 : decode cS_recover 26 = .ok (.invokestatic 106, 3) := by decide +kernel
theorem dS_recover_29 : decode cS_recover 29 = .ok (.ifCond .eq 35, 3) := by decide +kernel
theorem dS_recover_32 : decode cS_recover 32 = .ok (.iload_n 1, 1) := by decide +kernel
theorem dS_recover_33 : decode cS_recover 33 = .ok (.iload 4, 2) := by decide +kernel
theorem dS_recover_35 : decode cS_recover 35 = .ok (.aload_n 0, 1) := by decide +kernel
theorem dS_recover_36 : decode cS_recover 36 = .ok (.getfield 18, 3) := by decide +kernel
theorem dS_recover_39 : decode cS_recover 39 = .ok (.invokestatic 165, 3) := by decide +kernel
theorem dS_recover_42 : decode cS_recover 42 = .ok (.aload_n 0, 1) := by decide +kernel
theorem dS_recover_43 : decode cS_recover 43 = .ok (.getfield 30, 3) := by decide +kernel
theorem dS_recover_46 : decode cS_recover 46 = .ok (.getfield 114, 3) := by decide +kernel
theorem dS_recover_49 : decode cS_recover 49 = .ok (.iload 4, 2) := by decide +kernel
theorem dS_recover_51 : decode cS_recover 51 = .ok (.laload, 1) := by decide +kernel
theorem dS_recover_52 : decode cS_recover 52 = .ok (.invokestatic 169, 3) := by decide +kernel
theorem dS_recover_55 : decode cS_recover 55 = .ok (.lstore 5, 2) := by decide +kernel
theorem dS_recover_57 : decode cS_recover 57 = .ok (.lload_n 2, 1) := by decide +kernel
theorem dS_recover_58 : decode cS_recover 58 = .ok (.lload 5, 2) := by decide +kernel
theorem dS_recover_60 : decode cS_recover 60 = .ok (.invokestatic 145, 3) := by decide +kernel
theorem dS_recover_63 : decode cS_recover 63 = .ok (.lstore_n 2, 1) := by decide +kernel
theorem dS_recover_64 : decode cS_recover 64 = .ok (.iinc 4 1, 3) := by decide +kernel
theorem dS_recover_67 : decode cS_recover 67 = .ok (.goto (-53), 3) := by decide +kernel
theorem dS_recover_70 : decode cS_recover 70 = .ok (.lload_n 2, 1) := by decide +kernel
theorem dS_recover_71 : decode cS_recover 71 = .ok (.lreturn, 1) := by decide +kernel
-- S_key
theorem dS_key_0 : decode cS_key 0 = .ok (.aload_n 0, 1) := by decide +kernel
theorem dS_key_1 : decode cS_key 1 = .ok (.getfield 30, 3) := by decide +kernel
theorem dS_key_4 : decode cS_key 4 = .ok (.getfield 157, 3) := by decide +kernel
theorem dS_key_7 : decode cS_key 7 = .ok (.ifCond .eq 19, 3) := by decide +kernel
theorem dS_key_10 : decode cS_key 10 = .ok (.iload_n 1, 1) := by decide +kernel
theorem dS_key_11 : decode cS_key 11 = .ok (.ifCond .eq 11, 3) := by decide +kernel
theorem dS_key_14 : decode cS_key 14 = .ok (.aload_n 0, 1) := by decide +kernel
theorem dS_key_15 : decode cS_key 15 = .ok (.iload_n 1, 1) := by decide +kernel
theorem dS_key_16 : decode cS_key 16 = .ok (.invokevirtual 172, 3) := by decide +kernel
theorem dS_key_19 : decode cS_key 19 = .ok (.ifCond .eq 7, 3) := by decide +kernel
theorem dS_key_22 : decode cS_key 22 = .ok (.iconst 1, 1) := by decide +kernel
theorem dS_key_23 : decode cS_key 23 = .ok (.goto 4, 3) := by decide +kernel
theorem dS_key_26 : decode cS_key 26 = .ok (.iconst 0, 1) := by decide +kernel
theorem dS_key_27 : decode cS_key 27 = .ok (.istore_n 2, 1) := by decide +kernel
theorem dS_key_28 : decode cS_key 28 = .ok (.iload_n 2, 1) := by decide +kernel
theorem dS_key_29 : decode cS_key 29 = .ok (.ifCond .eq 15, 3) := by decide +kernel
theorem dS_key_32 : decode cS_key 32 = .ok (.aload_n 0, 1) := by decide +kernel
theorem dS_key_33 : decode cS_key 33 = .ok (.getfield 30, 3) := by decide +kernel
theorem dS_key_36 : decode cS_key 36 = .ok (.getfield 133, 3) := by decide +kernel
theorem dS_key_39 : decode cS_key 39 = .ok (.iload_n 1, 1) := by decide +kernel
theorem dS_key_40 : decode cS_key 40 = .ok (.laload, 1) := by decide +kernel
theorem dS_key_41 : decode cS_key 41 = .ok (.goto 6, 3) := by decide +kernel
theorem dS_key_44 : decode cS_key 44 = .ok (.ldc2_w 175, 3) := by decide +kernel
theorem dS_key_47 : decode cS_key 47 = .ok (.lreturn, 1) := by decide +kernel
-- S_secret
theorem dS_secret_0 : decode cS_secret 0 = .ok (.aload_n 0, 1) := by decide +kernel
theorem dS_secret_1 : decode cS_secret 1 = .ok (.getfield 30, 3) := by decide +kernel
theorem dS_secret_4 : decode cS_secret 4 = .ok (.getfield 157, 3) := by decide +kernel
theorem dS_secret_7 : decode cS_secret 7 = .ok (.ifCond .eq 23, 3) := by decide +kernel
theorem dS_secret_10 : decode cS_secret 10 = .ok (.aload_n 0, 1) := by decide +kernel
theorem dS_secret_11 : decode cS_secret 11 = .ok (.iload_n 1, 1) := by decide +kernel
theorem dS_secret_12 : decode cS_secret 12 = .ok (.invokevirtual 172, 3) := by decide +kernel
theorem dS_secret_15 : decode cS_secret 15 = .ok (.ifCond .eq 15, 3) := by decide +kernel
theorem dS_secret_18 : decode cS_secret 18 = .ok (.aload_n 0, 1) := by decide +kernel
theorem dS_secret_19 : decode cS_secret 19 = .ok (.getfield 30, 3) := by decide +kernel
theorem dS_secret_22 : decode cS_secret 22 = .ok (.getfield 114, 3) := by decide +kernel
theorem dS_secret_25 : decode cS_secret 25 = .ok (.iload_n 1, 1) := by decide +kernel
theorem dS_secret_26 : decode cS_secret 26 = .ok (.laload, 1) := by decide +kernel
theorem dS_secret_27 : decode cS_secret 27 = .ok (.goto 6, 3) := by decide +kernel
theorem dS_secret_30 : decode cS_secret 30 = .ok (.ldc2_w 175, 3) := by decide +kernel
theorem dS_secret_33 : decode cS_secret 33 = .ok (.lreturn, 1) := by decide +kernel
-- S_commitment
theorem dS_commitment_0 : decode cS_commitment 0 = .ok (.aload_n 0, 1) := by decide +kernel
theorem dS_commitment_1 : decode cS_commitment 1 = .ok (.iload_n 1, 1) := by decide +kernel
theorem dS_commitment_2 : decode cS_commitment 2 = .ok (.invokevirtual 172, 3) := by decide +kernel
theorem dS_commitment_5 : decode cS_commitment 5 = .ok (.ifCond .eq 17, 3) := by decide +kernel
theorem dS_commitment_8 : decode cS_commitment 8 = .ok (.aload_n 0, 1) := by decide +kernel
theorem dS_commitment_9 : decode cS_commitment 9 = .ok (.getfield 39, 3) := by decide +kernel
theorem dS_commitment_12 : decode cS_commitment 12 = .ok (.getfield 177, 3) := by decide +kernel
theorem dS_commitment_15 : decode cS_commitment 15 = .ok (.iload_n 1, 1) := by decide +kernel
theorem dS_commitment_16 : decode cS_commitment 16 = .ok (.invokestatic 106, 3) := by decide +kernel
theorem dS_commitment_19 : decode cS_commitment 19 = .ok (.ifCond .ne 7, 3) := by decide +kernel
theorem dS_commitment_22 : decode cS_commitment 22 = .ok (.ldc2_w 175, 3) := by decide +kernel
theorem dS_commitment_25 : decode cS_commitment 25 = .ok (.lreturn, 1) := by decide +kernel
theorem dS_commitment_26 : decode cS_commitment 26 = .ok (.iload_n 2, 1) := by decide +kernel
theorem dS_commitment_27 : decode cS_commitment 27 = .ok (.ifCond .eq 15, 3) := by decide +kernel
theorem dS_commitment_30 : decode cS_commitment 30 = .ok (.aload_n 0, 1) := by decide +kernel
theorem dS_commitment_31 : decode cS_commitment 31 = .ok (.getfield 39, 3) := by decide +kernel
theorem dS_commitment_34 : decode cS_commitment 34 = .ok (.getfield 180, 3) := by decide +kernel
theorem dS_commitment_37 : decode cS_commitment 37 = .ok (.iload_n 1, 1) := by decide +kernel
theorem dS_commitment_38 : decode cS_commitment 38 = .ok (.laload, 1) := by decide +kernel
theorem dS_commitment_39 : decode cS_commitment 39 = .ok (.goto 12, 3) := by decide +kernel
theorem dS_commitment_42 : decode cS_commitment 42 = .ok (.aload_n 0, 1) := by decide +kernel
theorem dS_commitment_43 : decode cS_commitment 43 = .ok (.getfield 39, 3) := by decide +kernel
theorem dS_commitment_46 : decode cS_commitment 46 = .ok (.getfield 77, 3) := by decide +kernel
theorem dS_commitment_49 : decode cS_commitment 49 = .ok (.iload_n 1, 1) := by decide +kernel
theorem dS_commitment_50 : decode cS_commitment 50 = .ok (.laload, 1) := by decide +kernel
theorem dS_commitment_51 : decode cS_commitment 51 = .ok (.lreturn, 1) := by decide +kernel
-- S_factor
theorem dS_factor_0 : decode cS_factor 0 = .ok (.aload_n 0, 1) := by decide +kernel
theorem dS_factor_1 : decode cS_factor 1 = .ok (.iload_n 1, 1) := by decide +kernel
theorem dS_factor_2 : decode cS_factor 2 = .ok (.invokevirtual 183, 3) := by decide +kernel
theorem dS_factor_5 : decode cS_factor 5 = .ok (.ifCond .eq 15, 3) := by decide +kernel
theorem dS_factor_8 : decode cS_factor 8 = .ok (.aload_n 0, 1) := by decide +kernel
theorem dS_factor_9 : decode cS_factor 9 = .ok (.getfield 46, 3) := by decide +kernel
theorem dS_factor_12 : decode cS_factor 12 = .ok (.getfield 186, 3) := by decide +kernel
theorem dS_factor_15 : decode cS_factor 15 = .ok (.iload_n 1, 1) := by decide +kernel
theorem dS_factor_16 : decode cS_factor 16 = .ok (.laload, 1) := by decide +kernel
theorem dS_factor_17 : decode cS_factor 17 = .ok (.goto 6, 3) := by decide +kernel
theorem dS_factor_20 : decode cS_factor 20 = .ok (.ldc2_w 175, 3) := by decide +kernel
theorem dS_factor_23 : decode cS_factor 23 = .ok (.lreturn, 1) := by decide +kernel
-- S_weight
theorem dS_weight_0 : decode cS_weight 0 = .ok (.aload_n 0, 1) := by decide +kernel
theorem dS_weight_1 : decode cS_weight 1 = .ok (.iload_n 1, 1) := by decide +kernel
theorem dS_weight_2 : decode cS_weight 2 = .ok (.invokevirtual 183, 3) := by decide +kernel
theorem dS_weight_5 : decode cS_weight 5 = .ok (.ifCond .eq 15, 3) := by decide +kernel
theorem dS_weight_8 : decode cS_weight 8 = .ok (.aload_n 0, 1) := by decide +kernel
theorem dS_weight_9 : decode cS_weight 9 = .ok (.getfield 46, 3) := by decide +kernel
theorem dS_weight_12 : decode cS_weight 12 = .ok (.getfield 189, 3) := by decide +kernel
theorem dS_weight_15 : decode cS_weight 15 = .ok (.iload_n 1, 1) := by decide +kernel
theorem dS_weight_16 : decode cS_weight 16 = .ok (.laload, 1) := by decide +kernel
theorem dS_weight_17 : decode cS_weight 17 = .ok (.goto 6, 3) := by decide +kernel
theorem dS_weight_20 : decode cS_weight 20 = .ok (.ldc2_w 175, 3) := by decide +kernel
theorem dS_weight_23 : decode cS_weight 23 = .ok (.lreturn, 1) := by decide +kernel
-- S_challenge
theorem dS_challenge_0 : decode cS_challenge 0 = .ok (.aload_n 0, 1) := by decide +kernel
theorem dS_challenge_1 : decode cS_challenge 1 = .ok (.getfield 46, 3) := by decide +kernel
theorem dS_challenge_4 : decode cS_challenge 4 = .ok (.invokevirtual 192, 3) := by decide +kernel
theorem dS_challenge_7 : decode cS_challenge 7 = .ok (.ifCond .eq 13, 3) := by decide +kernel
theorem dS_challenge_10 : decode cS_challenge 10 = .ok (.aload_n 0, 1) := by decide +kernel
theorem dS_challenge_11 : decode cS_challenge 11 = .ok (.getfield 46, 3) := by decide +kernel
theorem dS_challenge_14 : decode cS_challenge 14 = .ok (.getfield 196, 3) := by decide +kernel
theorem dS_challenge_17 : decode cS_challenge 17 = .ok (.goto 6, 3) := by decide +kernel
theorem dS_challenge_20 : decode cS_challenge 20 = .ok (.ldc2_w 175, 3) := by decide +kernel
theorem dS_challenge_23 : decode cS_challenge 23 = .ok (.lreturn, 1) := by decide +kernel
-- S_members
theorem dS_members_0 : decode cS_members 0 = .ok (.aload_n 0, 1) := by decide +kernel
theorem dS_members_1 : decode cS_members 1 = .ok (.getfield 46, 3) := by decide +kernel
theorem dS_members_4 : decode cS_members 4 = .ok (.getfield 199, 3) := by decide +kernel
theorem dS_members_7 : decode cS_members 7 = .ok (.ireturn, 1) := by decide +kernel
-- S_taken
theorem dS_taken_0 : decode cS_taken 0 = .ok (.aload_n 0, 1) := by decide +kernel
theorem dS_taken_1 : decode cS_taken 1 = .ok (.getfield 46, 3) := by decide +kernel
theorem dS_taken_4 : decode cS_taken 4 = .ok (.getfield 202, 3) := by decide +kernel
theorem dS_taken_7 : decode cS_taken 7 = .ok (.ireturn, 1) := by decide +kernel
-- S_blamed
theorem dS_blamed_0 : decode cS_blamed 0 = .ok (.aload_n 0, 1) := by decide +kernel
theorem dS_blamed_1 : decode cS_blamed 1 = .ok (.getfield 46, 3) := by decide +kernel
theorem dS_blamed_4 : decode cS_blamed 4 = .ok (.getfield 205, 3) := by decide +kernel
theorem dS_blamed_7 : decode cS_blamed 7 = .ok (.ireturn, 1) := by decide +kernel
-- S_isSigner
theorem dS_isSigner_0 : decode cS_isSigner 0 = .ok (.iload_n 1, 1) := by decide +kernel
theorem dS_isSigner_1 : decode cS_isSigner 1 = .ok (.iconst 1, 1) := by decide +kernel
theorem dS_isSigner_2 : decode cS_isSigner 2 = .ok (.if_icmp .lt 15, 3) := by decide +kernel
theorem dS_isSigner_5 : decode cS_isSigner 5 = .ok (.iload_n 1, 1) := by decide +kernel
theorem dS_isSigner_6 : decode cS_isSigner 6 = .ok (.aload_n 0, 1) := by decide +kernel
theorem dS_isSigner_7 : decode cS_isSigner 7 = .ok (.getfield 18, 3) := by decide +kernel
theorem dS_isSigner_10 : decode cS_isSigner 10 = .ok (.if_icmp .gt 7, 3) := by decide +kernel
theorem dS_isSigner_13 : decode cS_isSigner 13 = .ok (.iconst 1, 1) := by decide +kernel
theorem dS_isSigner_14 : decode cS_isSigner 14 = .ok (.goto 4, 3) := by decide +kernel
theorem dS_isSigner_17 : decode cS_isSigner 17 = .ok (.iconst 0, 1) := by decide +kernel
theorem dS_isSigner_18 : decode cS_isSigner 18 = .ok (.ireturn, 1) := by decide +kernel
-- S_isMember
theorem dS_isMember_0 : decode cS_isMember 0 = .ok (.aload_n 0, 1) := by decide +kernel
theorem dS_isMember_1 : decode cS_isMember 1 = .ok (.iload_n 1, 1) := by decide +kernel
theorem dS_isMember_2 : decode cS_isMember 2 = .ok (.invokevirtual 172, 3) := by decide +kernel
theorem dS_isMember_5 : decode cS_isMember 5 = .ok (.ifCond .eq 21, 3) := by decide +kernel
theorem dS_isMember_8 : decode cS_isMember 8 = .ok (.aload_n 0, 1) := by decide +kernel
theorem dS_isMember_9 : decode cS_isMember 9 = .ok (.getfield 46, 3) := by decide +kernel
theorem dS_isMember_12 : decode cS_isMember 12 = .ok (.getfield 199, 3) := by decide +kernel
theorem dS_isMember_15 : decode cS_isMember 15 = .ok (.iload_n 1, 1) := by decide +kernel
theorem dS_isMember_16 : decode cS_isMember 16 = .ok (.invokestatic 106, 3) := by decide +kernel
theorem dS_isMember_19 : decode cS_isMember 19 = .ok (.ifCond .eq 7, 3) := by decide +kernel
theorem dS_isMember_22 : decode cS_isMember 22 = .ok (.iconst 1, 1) := by decide +kernel
theorem dS_isMember_23 : decode cS_isMember 23 = .ok (.goto 4, 3) := by decide +kernel
theorem dS_isMember_26 : decode cS_isMember 26 = .ok (.iconst 0, 1) := by decide +kernel
theorem dS_isMember_27 : decode cS_isMember 27 = .ok (.ireturn, 1) := by decide +kernel
-- S_sealHolds
theorem dS_sealHolds_0 : decode cS_sealHolds 0 = .ok (.lload_n 3, 1) := by decide +kernel
theorem dS_sealHolds_1 : decode cS_sealHolds 1 = .ok (.invokestatic 208, 3) := by decide +kernel
theorem dS_sealHolds_4 : decode cS_sealHolds 4 = .ok (.ifCond .eq 11, 3) := by decide +kernel
theorem dS_sealHolds_7 : decode cS_sealHolds 7 = .ok (.lload 5, 2) := by decide +kernel
theorem dS_sealHolds_9 : decode cS_sealHolds 9 = .ok (.invokestatic 214, 3) := by decide +kernel
theorem dS_sealHolds_12 : decode cS_sealHolds 12 = .ok (.ifCond .ne 5, 3) := by decide +kernel
theorem dS_sealHolds_15 : decode cS_sealHolds 15 = .ok (.iconst 0, 1) := by decide +kernel
theorem dS_sealHolds_16 : decode cS_sealHolds 16 = .ok (.ireturn, 1) := by decide +kernel
theorem dS_sealHolds_17 : decode cS_sealHolds 17 = .ok (.aload_n 0, 1) := by decide +kernel
theorem dS_sealHolds_18 : decode cS_sealHolds 18 = .ok (.getfield 30, 3) := by decide +kernel
theorem dS_sealHolds_21 : decode cS_sealHolds 21 = .ok (.invokevirtual 60, 3) := by decide +kernel
theorem dS_sealHolds_24 : decode cS_sealHolds 24 = .ok (.lstore 7, 2) := by decide +kernel
theorem dS_sealHolds_26 : decode cS_sealHolds 26 = .ok (.lload_n 3, 1) := by decide +kernel
theorem dS_sealHolds_27 : decode cS_sealHolds 27 = .ok (.lload 7, 2) := by decide +kernel
theorem dS_sealHolds_29 : decode cS_sealHolds 29 = .ok (.lload_n 1, 1) := by decide +kernel
theorem dS_sealHolds_30 : decode cS_sealHolds 30 = .ok (.invokestatic 217, 3) := by decide +kernel
theorem dS_sealHolds_33 : decode cS_sealHolds 33 = .ok (.lstore 9, 2) := by decide +kernel
theorem dS_sealHolds_35 : decode cS_sealHolds 35 = .ok (.lload 5, 2) := by decide +kernel
theorem dS_sealHolds_37 : decode cS_sealHolds 37 = .ok (.invokestatic 223, 3) := by decide +kernel
theorem dS_sealHolds_40 : decode cS_sealHolds 40 = .ok (.lload_n 3, 1) := by decide +kernel
theorem dS_sealHolds_41 : decode cS_sealHolds 41 = .ok (.lload 7, 2) := by decide +kernel
theorem dS_sealHolds_43 : decode cS_sealHolds 43 = .ok (.lload 9, 2) := by decide +kernel
theorem dS_sealHolds_45 : decode cS_sealHolds 45 = .ok (.invokestatic 227, 3) := by decide +kernel
theorem dS_sealHolds_48 : decode cS_sealHolds 48 = .ok (.invokestatic 230, 3) := by decide +kernel
theorem dS_sealHolds_51 : decode cS_sealHolds 51 = .ok (.lcmp, 1) := by decide +kernel
theorem dS_sealHolds_52 : decode cS_sealHolds 52 = .ok (.ifCond .ne 7, 3) := by decide +kernel
theorem dS_sealHolds_55 : decode cS_sealHolds 55 = .ok (.iconst 1, 1) := by decide +kernel
theorem dS_sealHolds_56 : decode cS_sealHolds 56 = .ok (.goto 4, 3) := by decide +kernel
theorem dS_sealHolds_59 : decode cS_sealHolds 59 = .ok (.iconst 0, 1) := by decide +kernel
theorem dS_sealHolds_60 : decode cS_sealHolds 60 = .ok (.ireturn, 1) := by decide +kernel
-- S_requireSigner
theorem dS_requireSigner_0 : decode cS_requireSigner 0 = .ok (.aload_n 0, 1) := by decide +kernel
theorem dS_requireSigner_1 : decode cS_requireSigner 1 = .ok (.iload_n 1, 1) := by decide +kernel
theorem dS_requireSigner_2 : decode cS_requireSigner 2 = .ok (.invokevirtual 172, 3) := by decide +kernel
theorem dS_requireSigner_5 : decode cS_requireSigner 5 = .ok (.ifCond .ne 13, 3) := by decide +kernel
theorem dS_requireSigner_8 : decode cS_requireSigner 8 = .ok (.new 231, 3) := by decide +kernel
theorem dS_requireSigner_11 : decode cS_requireSigner 11 = .ok (.dup, 1) := by decide +kernel
theorem dS_requireSigner_12 : decode cS_requireSigner 12 = .ok (.ldc 233, 2) := by decide +kernel
theorem dS_requireSigner_14 : decode cS_requireSigner 14 = .ok (.invokespecial 235, 3) := by decide +kernel
theorem dS_requireSigner_17 : decode cS_requireSigner 17 = .ok (.athrow, 1) := by decide +kernel
theorem dS_requireSigner_18 : decode cS_requireSigner 18 = .ok (.return_, 1) := by decide +kernel
-- S_requireNumber
theorem dS_requireNumber_0 : decode cS_requireNumber 0 = .ok (.lload_n 1, 1) := by decide +kernel
theorem dS_requireNumber_1 : decode cS_requireNumber 1 = .ok (.invokestatic 214, 3) := by decide +kernel
theorem dS_requireNumber_4 : decode cS_requireNumber 4 = .ok (.ifCond .ne 13, 3) := by decide +kernel
theorem dS_requireNumber_7 : decode cS_requireNumber 7 = .ok (.new 231, 3) := by decide +kernel
theorem dS_requireNumber_10 : decode cS_requireNumber 10 = .ok (.dup, 1) := by decide +kernel
theorem dS_requireNumber_11 : decode cS_requireNumber 11 = .ok (.ldc 236, 2) := by decide +kernel
theorem dS_requireNumber_13 : decode cS_requireNumber 13 = .ok (.invokespecial 235, 3) := by decide +kernel
theorem dS_requireNumber_16 : decode cS_requireNumber 16 = .ok (.athrow, 1) := by decide +kernel
theorem dS_requireNumber_17 : decode cS_requireNumber 17 = .ok (.return_, 1) := by decide +kernel
-- S_requireEnough
theorem dS_requireEnough_0 : decode cS_requireEnough 0 = .ok (.iload_n 1, 1) := by decide +kernel
theorem dS_requireEnough_1 : decode cS_requireEnough 1 = .ok (.aload_n 0, 1) := by decide +kernel
theorem dS_requireEnough_2 : decode cS_requireEnough 2 = .ok (.getfield 18, 3) := by decide +kernel
theorem dS_requireEnough_5 : decode cS_requireEnough 5 = .ok (.iushr, 1) := by decide +kernel
theorem dS_requireEnough_6 : decode cS_requireEnough 6 = .ok (.ifCond .ne 14, 3) := by decide +kernel
theorem dS_requireEnough_9 : decode cS_requireEnough 9 = .ok (.iload_n 1, 1) := by decide +kernel
theorem dS_requireEnough_10 : decode cS_requireEnough 10 = .ok (.invokestatic 238, 3) := by decide +kernel
theorem dS_requireEnough_13 : decode cS_requireEnough 13 = .ok (.aload_n 0, 1) := by decide +kernel
theorem dS_requireEnough_14 : decode cS_requireEnough 14 = .ok (.getfield 22, 3) := by decide +kernel
theorem dS_requireEnough_17 : decode cS_requireEnough 17 = .ok (.if_icmp .ge 13, 3) := by decide +kernel
theorem dS_requireEnough_20 : decode cS_requireEnough 20 = .ok (.new 231, 3) := by decide +kernel
theorem dS_requireEnough_23 : decode cS_requireEnough 23 = .ok (.dup, 1) := by decide +kernel
theorem dS_requireEnough_24 : decode cS_requireEnough 24 = .ok (.ldc 244, 2) := by decide +kernel
theorem dS_requireEnough_26 : decode cS_requireEnough 26 = .ok (.invokespecial 235, 3) := by decide +kernel
theorem dS_requireEnough_29 : decode cS_requireEnough 29 = .ok (.athrow, 1) := by decide +kernel
theorem dS_requireEnough_30 : decode cS_requireEnough 30 = .ok (.return_, 1) := by decide +kernel
-- S_requireDealt
theorem dS_requireDealt_0 : decode cS_requireDealt 0 = .ok (.aload_n 0, 1) := by decide +kernel
theorem dS_requireDealt_1 : decode cS_requireDealt 1 = .ok (.getfield 30, 3) := by decide +kernel
theorem dS_requireDealt_4 : decode cS_requireDealt 4 = .ok (.getfield 157, 3) := by decide +kernel
theorem dS_requireDealt_7 : decode cS_requireDealt 7 = .ok (.ifCond .ne 13, 3) := by decide +kernel
theorem dS_requireDealt_10 : decode cS_requireDealt 10 = .ok (.new 88, 3) := by decide +kernel
theorem dS_requireDealt_13 : decode cS_requireDealt 13 = .ok (.dup, 1) := by decide +kernel
theorem dS_requireDealt_14 : decode cS_requireDealt 14 = .ok (.ldc 246, 2) := by decide +kernel
theorem dS_requireDealt_16 : decode cS_requireDealt 16 = .ok (.invokespecial 92, 3) := by decide +kernel
theorem dS_requireDealt_19 : decode cS_requireDealt 19 = .ok (.athrow, 1) := by decide +kernel
theorem dS_requireDealt_20 : decode cS_requireDealt 20 = .ok (.return_, 1) := by decide +kernel
-- S_requireUntaken
theorem dS_requireUntaken_0 : decode cS_requireUntaken 0 = .ok (.aload_n 0, 1) := by decide +kernel
theorem dS_requireUntaken_1 : decode cS_requireUntaken 1 = .ok (.iload_n 1, 1) := by decide +kernel
theorem dS_requireUntaken_2 : decode cS_requireUntaken 2 = .ok (.invokevirtual 183, 3) := by decide +kernel
theorem dS_requireUntaken_5 : decode cS_requireUntaken 5 = .ok (.ifCond .eq 17, 3) := by decide +kernel
theorem dS_requireUntaken_8 : decode cS_requireUntaken 8 = .ok (.aload_n 0, 1) := by decide +kernel
theorem dS_requireUntaken_9 : decode cS_requireUntaken 9 = .ok (.getfield 46, 3) := by decide +kernel
theorem dS_requireUntaken_12 : decode cS_requireUntaken 12 = .ok (.getfield 202, 3) := by decide +kernel
theorem dS_requireUntaken_15 : decode cS_requireUntaken 15 = .ok (.iload_n 1, 1) := by decide +kernel
theorem dS_requireUntaken_16 : decode cS_requireUntaken 16 = .ok (.invokestatic 106, 3) := by decide +kernel
theorem dS_requireUntaken_19 : decode cS_requireUntaken 19 = .ok (.ifCond .eq 13, 3) := by decide +kernel
theorem dS_requireUntaken_22 : decode cS_requireUntaken 22 = .ok (.new 88, 3) := by decide +kernel
theorem dS_requireUntaken_25 : decode cS_requireUntaken 25 = .ok (.dup, 1) := by decide +kernel
theorem dS_requireUntaken_26 : decode cS_requireUntaken 26 = .ok (.ldc 248, 2) := by decide +kernel
theorem dS_requireUntaken_28 : decode cS_requireUntaken 28 = .ok (.invokespecial 92, 3) := by decide +kernel
theorem dS_requireUntaken_31 : decode cS_requireUntaken 31 = .ok (.athrow, 1) := by decide +kernel
theorem dS_requireUntaken_32 : decode cS_requireUntaken 32 = .ok (.return_, 1) := by decide +kernel
-- S_requireSealed
theorem dS_requireSealed_0 : decode cS_requireSealed 0 = .ok (.aload_n 0, 1) := by decide +kernel
theorem dS_requireSealed_1 : decode cS_requireSealed 1 = .ok (.getfield 46, 3) := by decide +kernel
theorem dS_requireSealed_4 : decode cS_requireSealed 4 = .ok (.invokevirtual 192, 3) := by decide +kernel
theorem dS_requireSealed_7 : decode cS_requireSealed 7 = .ok (.ifCond .eq 20, 3) := by decide +kernel
theorem dS_requireSealed_10 : decode cS_requireSealed 10 = .ok (.aload_n 0, 1) := by decide +kernel
theorem dS_requireSealed_11 : decode cS_requireSealed 11 = .ok (.getfield 46, 3) := by decide +kernel
theorem dS_requireSealed_14 : decode cS_requireSealed 14 = .ok (.getfield 202, 3) := by decide +kernel
theorem dS_requireSealed_17 : decode cS_requireSealed 17 = .ok (.aload_n 0, 1) := by decide +kernel
theorem dS_requireSealed_18 : decode cS_requireSealed 18 = .ok (.getfield 46, 3) := by decide +kernel
theorem dS_requireSealed_21 : decode cS_requireSealed 21 = .ok (.getfield 199, 3) := by decide +kernel
theorem dS_requireSealed_24 : decode cS_requireSealed 24 = .ok (.if_icmp .eq 13, 3) := by decide +kernel
theorem dS_requireSealed_27 : decode cS_requireSealed 27 = .ok (.new 88, 3) := by decide +kernel
theorem dS_requireSealed_30 : decode cS_requireSealed 30 = .ok (.dup, 1) := by decide +kernel
theorem dS_requireSealed_31 : decode cS_requireSealed 31 = .ok (.ldc 250, 2) := by decide +kernel
theorem dS_requireSealed_33 : decode cS_requireSealed 33 = .ok (.invokespecial 92, 3) := by decide +kernel
theorem dS_requireSealed_36 : decode cS_requireSealed 36 = .ok (.athrow, 1) := by decide +kernel
theorem dS_requireSealed_37 : decode cS_requireSealed 37 = .ok (.return_, 1) := by decide +kernel
-- D_init
theorem dD_init_0 : decode cD_init 0 = .ok (.aload_n 0, 1) := by decide +kernel
theorem dD_init_1 : decode cD_init 1 = .ok (.invokespecial 1, 3) := by decide +kernel
theorem dD_init_4 : decode cD_init 4 = .ok (.aload_n 0, 1) := by decide +kernel
theorem dD_init_5 : decode cD_init 5 = .ok (.iload_n 1, 1) := by decide +kernel
theorem dD_init_6 : decode cD_init 6 = .ok (.putfield 7, 3) := by decide +kernel
theorem dD_init_9 : decode cD_init 9 = .ok (.aload_n 0, 1) := by decide +kernel
theorem dD_init_10 : decode cD_init 10 = .ok (.iload_n 2, 1) := by decide +kernel
theorem dD_init_11 : decode cD_init 11 = .ok (.putfield 13, 3) := by decide +kernel
theorem dD_init_14 : decode cD_init 14 = .ok (.aload_n 0, 1) := by decide +kernel
theorem dD_init_15 : decode cD_init 15 = .ok (.iload_n 2, 1) := by decide +kernel
theorem dD_init_16 : decode cD_init 16 = .ok (.newarray .long, 2) := by decide +kernel
theorem dD_init_18 : decode cD_init 18 = .ok (.putfield 16, 3) := by decide +kernel
theorem dD_init_21 : decode cD_init 21 = .ok (.aload_n 0, 1) := by decide +kernel
theorem dD_init_22 : decode cD_init 22 = .ok (.iload_n 1, 1) := by decide +kernel
theorem dD_init_23 : decode cD_init 23 = .ok (.iconst 1, 1) := by decide +kernel
theorem dD_init_24 : decode cD_init 24 = .ok (.iadd, 1) := by decide +kernel
theorem dD_init_25 : decode cD_init 25 = .ok (.newarray .long, 2) := by decide +kernel
theorem dD_init_27 : decode cD_init 27 = .ok (.putfield 20, 3) := by decide +kernel
theorem dD_init_30 : decode cD_init 30 = .ok (.aload_n 0, 1) := by decide +kernel
theorem dD_init_31 : decode cD_init 31 = .ok (.iload_n 1, 1) := by decide +kernel
theorem dD_init_32 : decode cD_init 32 = .ok (.iconst 1, 1) := by decide +kernel
theorem dD_init_33 : decode cD_init 33 = .ok (.iadd, 1) := by decide +kernel
theorem dD_init_34 : decode cD_init 34 = .ok (.newarray .long, 2) := by decide +kernel
theorem dD_init_36 : decode cD_init 36 = .ok (.putfield 23, 3) := by decide +kernel
theorem dD_init_39 : decode cD_init 39 = .ok (.return_, 1) := by decide +kernel
-- D_make
theorem dD_make_0 : decode cD_make 0 = .ok (.iconst 0, 1) := by decide +kernel
theorem dD_make_1 : decode cD_make 1 = .ok (.istore_n 3, 1) := by decide +kernel
theorem dD_make_2 : decode cD_make 2 = .ok (.iload_n 3, 1) := by decide +kernel
theorem dD_make_3 : decode cD_make 3 = .ok (.aload_n 0, 1) := by decide +kernel
theorem dD_make_4 : decode cD_make 4 = .ok (.getfield 13, 3) := by decide +kernel
theorem dD_make_7 : decode cD_make 7 = .ok (.if_icmp .ge 22, 3) := by decide +kernel
theorem dD_make_10 : decode cD_make 10 = .ok (.aload_n 0, 1) := by decide +kernel
theorem dD_make_11 : decode cD_make 11 = .ok (.getfield 16, 3) := by decide +kernel
theorem dD_make_14 : decode cD_make 14 = .ok (.iload_n 3, 1) := by decide +kernel
theorem dD_make_15 : decode cD_make 15 = .ok (.lconst 1, 1) := by decide +kernel
theorem dD_make_16 : decode cD_make 16 = .ok (.lload_n 1, 1) := by decide +kernel
theorem dD_make_17 : decode cD_make 17 = .ok (.iload_n 3, 1) := by decide +kernel
theorem dD_make_18 : decode cD_make 18 = .ok (.i2l, 1) := by decide +kernel
theorem dD_make_19 : decode cD_make 19 = .ok (.invokestatic 26, 3) := by decide +kernel
theorem dD_make_22 : decode cD_make 22 = .ok (.lastore, 1) := by decide +kernel
theorem dD_make_23 : decode cD_make 23 = .ok (.iinc 3 1, 3) := by decide +kernel
theorem dD_make_26 : decode cD_make 26 = .ok (.goto (-24), 3) := by decide +kernel
theorem dD_make_29 : decode cD_make 29 = .ok (.iconst 0, 1) := by decide +kernel
theorem dD_make_30 : decode cD_make 30 = .ok (.istore_n 3, 1) := by decide +kernel
theorem dD_make_31 : decode cD_make 31 = .ok (.iload_n 3, 1) := by decide +kernel
theorem dD_make_32 : decode cD_make 32 = .ok (.aload_n 0, 1) := by decide +kernel
theorem dD_make_33 : decode cD_make 33 = .ok (.getfield 7, 3) := by decide +kernel
theorem dD_make_36 : decode cD_make 36 = .ok (.if_icmp .gt 35, 3) := by decide +kernel
theorem dD_make_39 : decode cD_make 39 = .ok (.aload_n 0, 1) := by decide +kernel
theorem dD_make_40 : decode cD_make 40 = .ok (.getfield 20, 3) := by decide +kernel
theorem dD_make_43 : decode cD_make 43 = .ok (.iload_n 3, 1) := by decide +kernel
theorem dD_make_44 : decode cD_make 44 = .ok (.aload_n 0, 1) := by decide +kernel
theorem dD_make_45 : decode cD_make 45 = .ok (.iload_n 3, 1) := by decide +kernel
theorem dD_make_46 : decode cD_make 46 = .ok (.invokevirtual 32, 3) := by decide +kernel
theorem dD_make_49 : decode cD_make 49 = .ok (.lastore, 1) := by decide +kernel
theorem dD_make_50 : decode cD_make 50 = .ok (.aload_n 0, 1) := by decide +kernel
theorem dD_make_51 : decode cD_make 51 = .ok (.getfield 23, 3) := by decide +kernel
theorem dD_make_54 : decode cD_make 54 = .ok (.iload_n 3, 1) := by decide +kernel
theorem dD_make_55 : decode cD_make 55 = .ok (.aload_n 0, 1) := by decide +kernel
theorem dD_make_56 : decode cD_make 56 = .ok (.getfield 20, 3) := by decide +kernel
theorem dD_make_59 : decode cD_make 59 = .ok (.iload_n 3, 1) := by decide +kernel
theorem dD_make_60 : decode cD_make 60 = .ok (.laload, 1) := by decide +kernel
theorem dD_make_61 : decode cD_make 61 = .ok (.invokestatic 36, 3) := by decide +kernel
theorem dD_make_64 : decode cD_make 64 = .ok (.lastore, 1) := by decide +kernel
theorem dD_make_65 : decode cD_make 65 = .ok (.iinc 3 1, 3) := by decide +kernel
theorem dD_make_68 : decode cD_make 68 = .ok (.goto (-37), 3) := by decide +kernel
theorem dD_make_71 : decode cD_make 71 = .ok (.aload_n 0, 1) := by decide +kernel
theorem dD_make_72 : decode cD_make 72 = .ok (.iconst 1, 1) := by decide +kernel
theorem dD_make_73 : decode cD_make 73 = .ok (.putfield 42, 3) := by decide +kernel
theorem dD_make_76 : decode cD_make 76 = .ok (.return_, 1) := by decide +kernel
-- D_keyOfAll
theorem dD_keyOfAll_0 : decode cD_keyOfAll 0 = .ok (.aload_n 0, 1) := by decide +kernel
theorem dD_keyOfAll_1 : decode cD_keyOfAll 1 = .ok (.getfield 23, 3) := by decide +kernel
theorem dD_keyOfAll_4 : decode cD_keyOfAll 4 = .ok (.iconst 0, 1) := by decide +kernel
theorem dD_keyOfAll_5 : decode cD_keyOfAll 5 = .ok (.laload, 1) := by decide +kernel
theorem dD_keyOfAll_6 : decode cD_keyOfAll 6 = .ok (.lreturn, 1) := by decide +kernel
-- D_valueAt
theorem dD_valueAt_0 : decode cD_valueAt 0 = .ok (.lconst 0, 1) := by decide +kernel
theorem dD_valueAt_1 : decode cD_valueAt 1 = .ok (.lstore_n 2, 1) := by decide +kernel
theorem dD_valueAt_2 : decode cD_valueAt 2 = .ok (.aload_n 0, 1) := by decide +kernel
theorem dD_valueAt_3 : decode cD_valueAt 3 = .ok (.getfield 13, 3) := by decide +kernel
theorem dD_valueAt_6 : decode cD_valueAt 6 = .ok (.iconst 1, 1) := by decide +kernel
theorem dD_valueAt_7 : decode cD_valueAt 7 = .ok (.isub, 1) := by decide +kernel
theorem dD_valueAt_8 : decode cD_valueAt 8 = .ok (.istore 4, 2) := by decide +kernel
theorem dD_valueAt_10 : decode cD_valueAt 10 = .ok (.iload 4, 2) := by decide +kernel
theorem dD_valueAt_12 : decode cD_valueAt 12 = .ok (.ifCond .lt 26, 3) := by decide +kernel
theorem dD_valueAt_15 : decode cD_valueAt 15 = .ok (.lload_n 2, 1) := by decide +kernel
theorem dD_valueAt_16 : decode cD_valueAt 16 = .ok (.iload_n 1, 1) := by decide +kernel
theorem dD_valueAt_17 : decode cD_valueAt 17 = .ok (.i2l, 1) := by decide +kernel
theorem dD_valueAt_18 : decode cD_valueAt 18 = .ok (.invokestatic 46, 3) := by decide +kernel
theorem dD_valueAt_21 : decode cD_valueAt 21 = .ok (.aload_n 0, 1) := by decide +kernel
theorem dD_valueAt_22 : decode cD_valueAt 22 = .ok (.getfield 16, 3) := by decide +kernel
theorem dD_valueAt_25 : decode cD_valueAt 25 = .ok (.iload 4, 2) := by decide +kernel
theorem dD_valueAt_27 : decode cD_valueAt 27 = .ok (.laload, 1) := by decide +kernel
theorem dD_valueAt_28 : decode cD_valueAt 28 = .ok (.invokestatic 52, 3) := by decide +kernel
theorem dD_valueAt_31 : decode cD_valueAt 31 = .ok (.lstore_n 2, 1) := by decide +kernel
theorem dD_valueAt_32 : decode cD_valueAt 32 = .ok (.iinc 4 (-1), 3) := by decide +kernel
theorem dD_valueAt_35 : decode cD_valueAt 35 = .ok (.goto (-25), 3) := by decide +kernel
theorem dD_valueAt_38 : decode cD_valueAt 38 = .ok (.lload_n 2, 1) := by decide +kernel
theorem dD_valueAt_39 : decode cD_valueAt 39 = .ok (.lreturn, 1) := by decide +kernel
-- G_mix
theorem dG_mix_0 : decode cG_mix 0 = .ok (.lload_n 0, 1) := by decide +kernel
theorem dG_mix_1 : decode cG_mix 1 = .ok (.lload_n 2, 1) := by decide +kernel
theorem dG_mix_2 : decode cG_mix 2 = .ok (.lxor, 1) := by decide +kernel
theorem dG_mix_3 : decode cG_mix 3 = .ok (.ldc2_w 9, 3) := by decide +kernel
theorem dG_mix_6 : decode cG_mix 6 = .ok (.lmul, 1) := by decide +kernel
theorem dG_mix_7 : decode cG_mix 7 = .ok (.lstore 4, 2) := by decide +kernel
theorem dG_mix_9 : decode cG_mix 9 = .ok (.lload 4, 2) := by decide +kernel
theorem dG_mix_11 : decode cG_mix 11 = .ok (.lload 4, 2) := by decide +kernel
theorem dG_mix_13 : decode cG_mix 13 = .ok (.bipush 31, 2) := by decide +kernel
theorem dG_mix_15 : decode cG_mix 15 = .ok (.lushr, 1) := by decide +kernel
theorem dG_mix_16 : decode cG_mix 16 = .ok (.lxor, 1) := by decide +kernel
theorem dG_mix_17 : decode cG_mix 17 = .ok (.lreturn, 1) := by decide +kernel
-- G_finish
theorem dG_finish_0 : decode cG_finish 0 = .ok (.lload_n 0, 1) := by decide +kernel
theorem dG_finish_1 : decode cG_finish 1 = .ok (.iconst 1, 1) := by decide +kernel
theorem dG_finish_2 : decode cG_finish 2 = .ok (.lushr, 1) := by decide +kernel
theorem dG_finish_3 : decode cG_finish 3 = .ok (.ldc2_w 13, 3) := by decide +kernel
theorem dG_finish_6 : decode cG_finish 6 = .ok (.lrem, 1) := by decide +kernel
theorem dG_finish_7 : decode cG_finish 7 = .ok (.lreturn, 1) := by decide +kernel
-- G_ofThree
theorem dG_ofThree_0 : decode cG_ofThree 0 = .ok (.lconst 0, 1) := by decide +kernel
theorem dG_ofThree_1 : decode cG_ofThree 1 = .ok (.lload_n 0, 1) := by decide +kernel
theorem dG_ofThree_2 : decode cG_ofThree 2 = .ok (.invokestatic 15, 3) := by decide +kernel
theorem dG_ofThree_5 : decode cG_ofThree 5 = .ok (.lload_n 2, 1) := by decide +kernel
theorem dG_ofThree_6 : decode cG_ofThree 6 = .ok (.invokestatic 15, 3) := by decide +kernel
theorem dG_ofThree_9 : decode cG_ofThree 9 = .ok (.lload 4, 2) := by decide +kernel
theorem dG_ofThree_11 : decode cG_ofThree 11 = .ok (.invokestatic 15, 3) := by decide +kernel
theorem dG_ofThree_14 : decode cG_ofThree 14 = .ok (.invokestatic 19, 3) := by decide +kernel
theorem dG_ofThree_17 : decode cG_ofThree 17 = .ok (.lreturn, 1) := by decide +kernel
-- G_ofSeal
theorem dG_ofSeal_0 : decode cG_ofSeal 0 = .ok (.lconst 0, 1) := by decide +kernel
theorem dG_ofSeal_1 : decode cG_ofSeal 1 = .ok (.ldc2_w 23, 3) := by decide +kernel
theorem dG_ofSeal_4 : decode cG_ofSeal 4 = .ok (.invokestatic 15, 3) := by decide +kernel
theorem dG_ofSeal_7 : decode cG_ofSeal 7 = .ok (.lload_n 0, 1) := by decide +kernel
theorem dG_ofSeal_8 : decode cG_ofSeal 8 = .ok (.invokestatic 15, 3) := by decide +kernel
theorem dG_ofSeal_11 : decode cG_ofSeal 11 = .ok (.lload_n 2, 1) := by decide +kernel
theorem dG_ofSeal_12 : decode cG_ofSeal 12 = .ok (.invokestatic 15, 3) := by decide +kernel
theorem dG_ofSeal_15 : decode cG_ofSeal 15 = .ok (.lload 4, 2) := by decide +kernel
theorem dG_ofSeal_17 : decode cG_ofSeal 17 = .ok (.invokestatic 15, 3) := by decide +kernel
theorem dG_ofSeal_20 : decode cG_ofSeal 20 = .ok (.invokestatic 19, 3) := by decide +kernel
theorem dG_ofSeal_23 : decode cG_ofSeal 23 = .ok (.lreturn, 1) := by decide +kernel
-- E_isElement
theorem dE_isElement_0 : decode cE_isElement 0 = .ok (.lload_n 0, 1) := by decide +kernel
theorem dE_isElement_1 : decode cE_isElement 1 = .ok (.lconst 1, 1) := by decide +kernel
theorem dE_isElement_2 : decode cE_isElement 2 = .ok (.lcmp, 1) := by decide +kernel
theorem dE_isElement_3 : decode cE_isElement 3 = .ok (.ifCond .lt 15, 3) := by decide +kernel
theorem dE_isElement_6 : decode cE_isElement 6 = .ok (.lload_n 0, 1) := by decide +kernel
theorem dE_isElement_7 : decode cE_isElement 7 = .ok (.ldc2_w 9, 3) := by decide +kernel
theorem dE_isElement_10 : decode cE_isElement 10 = .ok (.lcmp, 1) := by decide +kernel
theorem dE_isElement_11 : decode cE_isElement 11 = .ok (.ifCond .ge 7, 3) := by decide +kernel
theorem dE_isElement_14 : decode cE_isElement 14 = .ok (.iconst 1, 1) := by decide +kernel
theorem dE_isElement_15 : decode cE_isElement 15 = .ok (.goto 4, 3) := by decide +kernel
theorem dE_isElement_18 : decode cE_isElement 18 = .ok (.iconst 0, 1) := by decide +kernel
theorem dE_isElement_19 : decode cE_isElement 19 = .ok (.ireturn, 1) := by decide +kernel
-- E_times
theorem dE_times_0 : decode cE_times 0 = .ok (.lload_n 0, 1) := by decide +kernel
theorem dE_times_1 : decode cE_times 1 = .ok (.lload_n 2, 1) := by decide +kernel
theorem dE_times_2 : decode cE_times 2 = .ok (.lmul, 1) := by decide +kernel
theorem dE_times_3 : decode cE_times 3 = .ok (.ldc2_w 9, 3) := by decide +kernel
theorem dE_times_6 : decode cE_times 6 = .ok (.lrem, 1) := by decide +kernel
theorem dE_times_7 : decode cE_times 7 = .ok (.lreturn, 1) := by decide +kernel
-- E_power
theorem dE_power_0 : decode cE_power 0 = .ok (.lconst 1, 1) := by decide +kernel
theorem dE_power_1 : decode cE_power 1 = .ok (.lstore 4, 2) := by decide +kernel
theorem dE_power_3 : decode cE_power 3 = .ok (.bipush 29, 2) := by decide +kernel
theorem dE_power_5 : decode cE_power 5 = .ok (.istore 6, 2) := by decide +kernel
theorem dE_power_7 : decode cE_power 7 = .ok (.iload 6, 2) := by decide +kernel
theorem dE_power_9 : decode cE_power 9 = .ok (.ifCond .lt 37, 3) := by decide +kernel
theorem dE_power_12 : decode cE_power 12 = .ok (.lload 4, 2) := by decide +kernel
theorem dE_power_14 : decode cE_power 14 = .ok (.lload 4, 2) := by decide +kernel
theorem dE_power_16 : decode cE_power 16 = .ok (.invokestatic 13, 3) := by decide +kernel
theorem dE_power_19 : decode cE_power 19 = .ok (.lstore 4, 2) := by decide +kernel
theorem dE_power_21 : decode cE_power 21 = .ok (.lload_n 2, 1) := by decide +kernel
theorem dE_power_22 : decode cE_power 22 = .ok (.iload 6, 2) := by decide +kernel
theorem dE_power_24 : decode cE_power 24 = .ok (.lshr, 1) := by decide +kernel
theorem dE_power_25 : decode cE_power 25 = .ok (.lconst 1, 1) := by decide +kernel
theorem dE_power_26 : decode cE_power 26 = .ok (.land, 1) := by decide +kernel
theorem dE_power_27 : decode cE_power 27 = .ok (.lconst 1, 1) := by decide +kernel
theorem dE_power_28 : decode cE_power 28 = .ok (.lcmp, 1) := by decide +kernel
theorem dE_power_29 : decode cE_power 29 = .ok (.ifCond .ne 11, 3) := by decide +kernel
theorem dE_power_32 : decode cE_power 32 = .ok (.lload 4, 2) := by decide +kernel
theorem dE_power_34 : decode cE_power 34 = .ok (.lload_n 0, 1) := by decide +kernel
theorem dE_power_35 : decode cE_power 35 = .ok (.invokestatic 13, 3) := by decide +kernel
theorem dE_power_38 : decode cE_power 38 = .ok (.lstore 4, 2) := by decide +kernel
theorem dE_power_40 : decode cE_power 40 = .ok (.iinc 6 (-1), 3) := by decide +kernel
theorem dE_power_43 : decode cE_power 43 = .ok (.goto (-36), 3) := by decide +kernel
theorem dE_power_46 : decode cE_power 46 = .ok (.lload 4, 2) := by decide +kernel
theorem dE_power_48 : decode cE_power 48 = .ok (.lreturn, 1) := by decide +kernel
-- E_ofNumber
theorem dE_ofNumber_0 : decode cE_ofNumber 0 = .ok (.ldc2_w 17, 3) := by decide +kernel
theorem dE_ofNumber_3 : decode cE_ofNumber 3 = .ok (.lload_n 0, 1) := by decide +kernel
theorem dE_ofNumber_4 : decode cE_ofNumber 4 = .ok (.invokestatic 19, 3) := by decide +kernel
theorem dE_ofNumber_7 : decode cE_ofNumber 7 = .ok (.lreturn, 1) := by decide +kernel
-- N_isNumber
theorem dN_isNumber_0 : decode cN_isNumber 0 = .ok (.lload_n 0, 1) := by decide +kernel
theorem dN_isNumber_1 : decode cN_isNumber 1 = .ok (.lconst 0, 1) := by decide +kernel
theorem dN_isNumber_2 : decode cN_isNumber 2 = .ok (.lcmp, 1) := by decide +kernel
theorem dN_isNumber_3 : decode cN_isNumber 3 = .ok (.ifCond .lt 15, 3) := by decide +kernel
theorem dN_isNumber_6 : decode cN_isNumber 6 = .ok (.lload_n 0, 1) := by decide +kernel
theorem dN_isNumber_7 : decode cN_isNumber 7 = .ok (.ldc2_w 9, 3) := by decide +kernel
theorem dN_isNumber_10 : decode cN_isNumber 10 = .ok (.lcmp, 1) := by decide +kernel
theorem dN_isNumber_11 : decode cN_isNumber 11 = .ok (.ifCond .ge 7, 3) := by decide +kernel
theorem dN_isNumber_14 : decode cN_isNumber 14 = .ok (.iconst 1, 1) := by decide +kernel
theorem dN_isNumber_15 : decode cN_isNumber 15 = .ok (.goto 4, 3) := by decide +kernel
theorem dN_isNumber_18 : decode cN_isNumber 18 = .ok (.iconst 0, 1) := by decide +kernel
theorem dN_isNumber_19 : decode cN_isNumber 19 = .ok (.ireturn, 1) := by decide +kernel
-- N_plus
theorem dN_plus_0 : decode cN_plus 0 = .ok (.lload_n 0, 1) := by decide +kernel
theorem dN_plus_1 : decode cN_plus 1 = .ok (.lload_n 2, 1) := by decide +kernel
theorem dN_plus_2 : decode cN_plus 2 = .ok (.ladd, 1) := by decide +kernel
theorem dN_plus_3 : decode cN_plus 3 = .ok (.ldc2_w 9, 3) := by decide +kernel
theorem dN_plus_6 : decode cN_plus 6 = .ok (.lrem, 1) := by decide +kernel
theorem dN_plus_7 : decode cN_plus 7 = .ok (.lreturn, 1) := by decide +kernel
-- N_minus
theorem dN_minus_0 : decode cN_minus 0 = .ok (.lload_n 0, 1) := by decide +kernel
theorem dN_minus_1 : decode cN_minus 1 = .ok (.ldc2_w 9, 3) := by decide +kernel
theorem dN_minus_4 : decode cN_minus 4 = .ok (.ladd, 1) := by decide +kernel
theorem dN_minus_5 : decode cN_minus 5 = .ok (.lload_n 2, 1) := by decide +kernel
theorem dN_minus_6 : decode cN_minus 6 = .ok (.lsub, 1) := by decide +kernel
theorem dN_minus_7 : decode cN_minus 7 = .ok (.ldc2_w 9, 3) := by decide +kernel
theorem dN_minus_10 : decode cN_minus 10 = .ok (.lrem, 1) := by decide +kernel
theorem dN_minus_11 : decode cN_minus 11 = .ok (.lreturn, 1) := by decide +kernel
-- N_times
theorem dN_times_0 : decode cN_times 0 = .ok (.lload_n 0, 1) := by decide +kernel
theorem dN_times_1 : decode cN_times 1 = .ok (.lload_n 2, 1) := by decide +kernel
theorem dN_times_2 : decode cN_times 2 = .ok (.lmul, 1) := by decide +kernel
theorem dN_times_3 : decode cN_times 3 = .ok (.ldc2_w 9, 3) := by decide +kernel
theorem dN_times_6 : decode cN_times 6 = .ok (.lrem, 1) := by decide +kernel
theorem dN_times_7 : decode cN_times 7 = .ok (.lreturn, 1) := by decide +kernel
-- N_inverse
theorem dN_inverse_0 : decode cN_inverse 0 = .ok (.lconst 1, 1) := by decide +kernel
theorem dN_inverse_1 : decode cN_inverse 1 = .ok (.lstore_n 2, 1) := by decide +kernel
theorem dN_inverse_2 : decode cN_inverse 2 = .ok (.bipush 29, 2) := by decide +kernel
theorem dN_inverse_4 : decode cN_inverse 4 = .ok (.istore 4, 2) := by decide +kernel
theorem dN_inverse_6 : decode cN_inverse 6 = .ok (.iload 4, 2) := by decide +kernel
theorem dN_inverse_8 : decode cN_inverse 8 = .ok (.ifCond .lt 34, 3) := by decide +kernel
theorem dN_inverse_11 : decode cN_inverse 11 = .ok (.lload_n 2, 1) := by decide +kernel
theorem dN_inverse_12 : decode cN_inverse 12 = .ok (.lload_n 2, 1) := by decide +kernel
theorem dN_inverse_13 : decode cN_inverse 13 = .ok (.invokestatic 11, 3) := by decide +kernel
theorem dN_inverse_16 : decode cN_inverse 16 = .ok (.lstore_n 2, 1) := by decide +kernel
theorem dN_inverse_17 : decode cN_inverse 17 = .ok (.ldc2_w 15, 3) := by decide +kernel
theorem dN_inverse_20 : decode cN_inverse 20 = .ok (.iload 4, 2) := by decide +kernel
theorem dN_inverse_22 : decode cN_inverse 22 = .ok (.lshr, 1) := by decide +kernel
theorem dN_inverse_23 : decode cN_inverse 23 = .ok (.lconst 1, 1) := by decide +kernel
theorem dN_inverse_24 : decode cN_inverse 24 = .ok (.land, 1) := by decide +kernel
theorem dN_inverse_25 : decode cN_inverse 25 = .ok (.lconst 1, 1) := by decide +kernel
theorem dN_inverse_26 : decode cN_inverse 26 = .ok (.lcmp, 1) := by decide +kernel
theorem dN_inverse_27 : decode cN_inverse 27 = .ok (.ifCond .ne 9, 3) := by decide +kernel
theorem dN_inverse_30 : decode cN_inverse 30 = .ok (.lload_n 2, 1) := by decide +kernel
theorem dN_inverse_31 : decode cN_inverse 31 = .ok (.lload_n 0, 1) := by decide +kernel
theorem dN_inverse_32 : decode cN_inverse 32 = .ok (.invokestatic 11, 3) := by decide +kernel
theorem dN_inverse_35 : decode cN_inverse 35 = .ok (.lstore_n 2, 1) := by decide +kernel
theorem dN_inverse_36 : decode cN_inverse 36 = .ok (.iinc 4 (-1), 3) := by decide +kernel
theorem dN_inverse_39 : decode cN_inverse 39 = .ok (.goto (-33), 3) := by decide +kernel
theorem dN_inverse_42 : decode cN_inverse 42 = .ok (.lload_n 2, 1) := by decide +kernel
theorem dN_inverse_43 : decode cN_inverse 43 = .ok (.lreturn, 1) := by decide +kernel
-- P_init
theorem dP_init_0 : decode cP_init 0 = .ok (.aload_n 0, 1) := by decide +kernel
theorem dP_init_1 : decode cP_init 1 = .ok (.invokespecial 1, 3) := by decide +kernel
theorem dP_init_4 : decode cP_init 4 = .ok (.aload_n 0, 1) := by decide +kernel
theorem dP_init_5 : decode cP_init 5 = .ok (.iload_n 1, 1) := by decide +kernel
theorem dP_init_6 : decode cP_init 6 = .ok (.iconst 1, 1) := by decide +kernel
theorem dP_init_7 : decode cP_init 7 = .ok (.iadd, 1) := by decide +kernel
theorem dP_init_8 : decode cP_init 8 = .ok (.newarray .long, 2) := by decide +kernel
theorem dP_init_10 : decode cP_init 10 = .ok (.putfield 7, 3) := by decide +kernel
theorem dP_init_13 : decode cP_init 13 = .ok (.aload_n 0, 1) := by decide +kernel
theorem dP_init_14 : decode cP_init 14 = .ok (.iload_n 1, 1) := by decide +kernel
theorem dP_init_15 : decode cP_init 15 = .ok (.iconst 1, 1) := by decide +kernel
theorem dP_init_16 : decode cP_init 16 = .ok (.iadd, 1) := by decide +kernel
theorem dP_init_17 : decode cP_init 17 = .ok (.newarray .long, 2) := by decide +kernel
theorem dP_init_19 : decode cP_init 19 = .ok (.putfield 13, 3) := by decide +kernel
theorem dP_init_22 : decode cP_init 22 = .ok (.aload_n 0, 1) := by decide +kernel
theorem dP_init_23 : decode cP_init 23 = .ok (.iload_n 1, 1) := by decide +kernel
theorem dP_init_24 : decode cP_init 24 = .ok (.iconst 1, 1) := by decide +kernel
theorem dP_init_25 : decode cP_init 25 = .ok (.iadd, 1) := by decide +kernel
theorem dP_init_26 : decode cP_init 26 = .ok (.newarray .long, 2) := by decide +kernel
theorem dP_init_28 : decode cP_init 28 = .ok (.putfield 16, 3) := by decide +kernel
theorem dP_init_31 : decode cP_init 31 = .ok (.aload_n 0, 1) := by decide +kernel
theorem dP_init_32 : decode cP_init 32 = .ok (.iload_n 1, 1) := by decide +kernel
theorem dP_init_33 : decode cP_init 33 = .ok (.iconst 1, 1) := by decide +kernel
theorem dP_init_34 : decode cP_init 34 = .ok (.iadd, 1) := by decide +kernel
theorem dP_init_35 : decode cP_init 35 = .ok (.newarray .long, 2) := by decide +kernel
theorem dP_init_37 : decode cP_init 37 = .ok (.putfield 19, 3) := by decide +kernel
theorem dP_init_40 : decode cP_init 40 = .ok (.return_, 1) := by decide +kernel
-- P_open
theorem dP_open_0 : decode cP_open 0 = .ok (.aload_n 0, 1) := by decide +kernel
theorem dP_open_1 : decode cP_open 1 = .ok (.getfield 7, 3) := by decide +kernel
theorem dP_open_4 : decode cP_open 4 = .ok (.iload_n 1, 1) := by decide +kernel
theorem dP_open_5 : decode cP_open 5 = .ok (.ldc2_w 22, 3) := by decide +kernel
theorem dP_open_8 : decode cP_open 8 = .ok (.lload_n 2, 1) := by decide +kernel
theorem dP_open_9 : decode cP_open 9 = .ok (.iload_n 1, 1) := by decide +kernel
theorem dP_open_10 : decode cP_open 10 = .ok (.i2l, 1) := by decide +kernel
theorem dP_open_11 : decode cP_open 11 = .ok (.invokestatic 24, 3) := by decide +kernel
theorem dP_open_14 : decode cP_open 14 = .ok (.lastore, 1) := by decide +kernel
theorem dP_open_15 : decode cP_open 15 = .ok (.aload_n 0, 1) := by decide +kernel
theorem dP_open_16 : decode cP_open 16 = .ok (.getfield 13, 3) := by decide +kernel
theorem dP_open_19 : decode cP_open 19 = .ok (.iload_n 1, 1) := by decide +kernel
theorem dP_open_20 : decode cP_open 20 = .ok (.ldc2_w 30, 3) := by decide +kernel
theorem dP_open_23 : decode cP_open 23 = .ok (.lload_n 2, 1) := by decide +kernel
theorem dP_open_24 : decode cP_open 24 = .ok (.iload_n 1, 1) := by decide +kernel
theorem dP_open_25 : decode cP_open 25 = .ok (.i2l, 1) := by decide +kernel
theorem dP_open_26 : decode cP_open 26 = .ok (.invokestatic 24, 3) := by decide +kernel
theorem dP_open_29 : decode cP_open 29 = .ok (.lastore, 1) := by decide +kernel
theorem dP_open_30 : decode cP_open 30 = .ok (.aload_n 0, 1) := by decide +kernel
theorem dP_open_31 : decode cP_open 31 = .ok (.getfield 16, 3) := by decide +kernel
theorem dP_open_34 : decode cP_open 34 = .ok (.iload_n 1, 1) := by decide +kernel
theorem dP_open_35 : decode cP_open 35 = .ok (.aload_n 0, 1) := by decide +kernel
theorem dP_open_36 : decode cP_open 36 = .ok (.getfield 7, 3) := by decide +kernel
theorem dP_open_39 : decode cP_open 39 = .ok (.iload_n 1, 1) := by decide +kernel
theorem dP_open_40 : decode cP_open 40 = .ok (.laload, 1) := by decide +kernel
theorem dP_open_41 : decode cP_open 41 = .ok (.invokestatic 32, 3) := by decide +kernel
theorem dP_open_44 : decode cP_open 44 = .ok (.lastore, 1) := by decide +kernel
theorem dP_open_45 : decode cP_open 45 = .ok (.aload_n 0, 1) := by decide +kernel
theorem dP_open_46 : decode cP_open 46 = .ok (.getfield 19, 3) := by decide +kernel
theorem dP_open_49 : decode cP_open 49 = .ok (.iload_n 1, 1) := by decide +kernel
theorem dP_open_50 : decode cP_open 50 = .ok (.aload_n 0, 1) := by decide +kernel
theorem dP_open_51 : decode cP_open 51 = .ok (.getfield 13, 3) := by decide +kernel
theorem dP_open_54 : decode cP_open 54 = .ok (.iload_n 1, 1) := by decide +kernel
theorem dP_open_55 : decode cP_open 55 = .ok (.laload, 1) := by decide +kernel
theorem dP_open_56 : decode cP_open 56 = .ok (.invokestatic 32, 3) := by decide +kernel
theorem dP_open_59 : decode cP_open 59 = .ok (.lastore, 1) := by decide +kernel
theorem dP_open_60 : decode cP_open 60 = .ok (.aload_n 0, 1) := by decide +kernel
theorem dP_open_61 : decode cP_open 61 = .ok (.dup, 1) := by decide +kernel
theorem dP_open_62 : decode cP_open 62 = .ok (.getfield 38, 3) := by decide +kernel
theorem dP_open_65 : decode cP_open 65 = .ok (.iload_n 1, 1) := by decide +kernel
theorem dP_open_66 : decode cP_open 66 = .ok (.invokestatic 42, 3) := by decide +kernel
theorem dP_open_69 : decode cP_open 69 = .ok (.ior, 1) := by decide +kernel
theorem dP_open_70 : decode cP_open 70 = .ok (.putfield 38, 3) := by decide +kernel
theorem dP_open_73 : decode cP_open 73 = .ok (.return_, 1) := by decide +kernel
-- P_areOpen
theorem dP_areOpen_0 : decode cP_areOpen 0 = .ok (.iload_n 1, 1) := by decide +kernel
theorem dP_areOpen_1 : decode cP_areOpen 1 = .ok (.aload_n 0, 1) := by decide +kernel
theorem dP_areOpen_2 : decode cP_areOpen 2 = .ok (.getfield 38, 3) := by decide +kernel
theorem dP_areOpen_5 : decode cP_areOpen 5 = .ok (.iconst (-1), 1) := by decide +kernel
theorem dP_areOpen_6 : decode cP_areOpen 6 = .ok (.ixor, 1) := by decide +kernel
theorem dP_areOpen_7 : decode cP_areOpen 7 = .ok (.iand, 1) := by decide +kernel
theorem dP_areOpen_8 : decode cP_areOpen 8 = .ok (.ifCond .ne 7, 3) := by decide +kernel
theorem dP_areOpen_11 : decode cP_areOpen 11 = .ok (.iconst 1, 1) := by decide +kernel
theorem dP_areOpen_12 : decode cP_areOpen 12 = .ok (.goto 4, 3) := by decide +kernel
theorem dP_areOpen_15 : decode cP_areOpen 15 = .ok (.iconst 0, 1) := by decide +kernel
theorem dP_areOpen_16 : decode cP_areOpen 16 = .ok (.ireturn, 1) := by decide +kernel
-- P_drop
theorem dP_drop_0 : decode cP_drop 0 = .ok (.aload_n 0, 1) := by decide +kernel
theorem dP_drop_1 : decode cP_drop 1 = .ok (.dup, 1) := by decide +kernel
theorem dP_drop_2 : decode cP_drop 2 = .ok (.getfield 38, 3) := by decide +kernel
theorem dP_drop_5 : decode cP_drop 5 = .ok (.iload_n 1, 1) := by decide +kernel
theorem dP_drop_6 : decode cP_drop 6 = .ok (.invokestatic 42, 3) := by decide +kernel
theorem dP_drop_9 : decode cP_drop 9 = .ok (.iconst (-1), 1) := by decide +kernel
theorem dP_drop_10 : decode cP_drop 10 = .ok (.ixor, 1) := by decide +kernel
theorem dP_drop_11 : decode cP_drop 11 = .ok (.iand, 1) := by decide +kernel
theorem dP_drop_12 : decode cP_drop 12 = .ok (.putfield 38, 3) := by decide +kernel
theorem dP_drop_15 : decode cP_drop 15 = .ok (.return_, 1) := by decide +kernel
-- P_dropAll
theorem dP_dropAll_0 : decode cP_dropAll 0 = .ok (.aload_n 0, 1) := by decide +kernel
theorem dP_dropAll_1 : decode cP_dropAll 1 = .ok (.iconst 0, 1) := by decide +kernel
theorem dP_dropAll_2 : decode cP_dropAll 2 = .ok (.putfield 38, 3) := by decide +kernel
theorem dP_dropAll_5 : decode cP_dropAll 5 = .ok (.return_, 1) := by decide +kernel
-- X_init
theorem dX_init_0 : decode cX_init 0 = .ok (.aload_n 0, 1) := by decide +kernel
theorem dX_init_1 : decode cX_init 1 = .ok (.invokespecial 1, 3) := by decide +kernel
theorem dX_init_4 : decode cX_init 4 = .ok (.aload_n 0, 1) := by decide +kernel
theorem dX_init_5 : decode cX_init 5 = .ok (.iload_n 1, 1) := by decide +kernel
theorem dX_init_6 : decode cX_init 6 = .ok (.putfield 7, 3) := by decide +kernel
theorem dX_init_9 : decode cX_init 9 = .ok (.aload_n 0, 1) := by decide +kernel
theorem dX_init_10 : decode cX_init 10 = .ok (.iload_n 1, 1) := by decide +kernel
theorem dX_init_11 : decode cX_init 11 = .ok (.iconst 1, 1) := by decide +kernel
theorem dX_init_12 : decode cX_init 12 = .ok (.iadd, 1) := by decide +kernel
theorem dX_init_13 : decode cX_init 13 = .ok (.newarray .long, 2) := by decide +kernel
theorem dX_init_15 : decode cX_init 15 = .ok (.putfield 13, 3) := by decide +kernel
theorem dX_init_18 : decode cX_init 18 = .ok (.aload_n 0, 1) := by decide +kernel
theorem dX_init_19 : decode cX_init 19 = .ok (.iload_n 1, 1) := by decide +kernel
theorem dX_init_20 : decode cX_init 20 = .ok (.iconst 1, 1) := by decide +kernel
theorem dX_init_21 : decode cX_init 21 = .ok (.iadd, 1) := by decide +kernel
theorem dX_init_22 : decode cX_init 22 = .ok (.newarray .long, 2) := by decide +kernel
theorem dX_init_24 : decode cX_init 24 = .ok (.putfield 17, 3) := by decide +kernel
theorem dX_init_27 : decode cX_init 27 = .ok (.aload_n 0, 1) := by decide +kernel
theorem dX_init_28 : decode cX_init 28 = .ok (.iload_n 1, 1) := by decide +kernel
theorem dX_init_29 : decode cX_init 29 = .ok (.iconst 1, 1) := by decide +kernel
theorem dX_init_30 : decode cX_init 30 = .ok (.iadd, 1) := by decide +kernel
theorem dX_init_31 : decode cX_init 31 = .ok (.newarray .long, 2) := by decide +kernel
theorem dX_init_33 : decode cX_init 33 = .ok (.putfield 20, 3) := by decide +kernel
theorem dX_init_36 : decode cX_init 36 = .ok (.aload_n 0, 1) := by decide +kernel
theorem dX_init_37 : decode cX_init 37 = .ok (.iload_n 1, 1) := by decide +kernel
theorem dX_init_38 : decode cX_init 38 = .ok (.iconst 1, 1) := by decide +kernel
theorem dX_init_39 : decode cX_init 39 = .ok (.iadd, 1) := by decide +kernel
theorem dX_init_40 : decode cX_init 40 = .ok (.newarray .long, 2) := by decide +kernel
theorem dX_init_42 : decode cX_init 42 = .ok (.putfield 23, 3) := by decide +kernel
theorem dX_init_45 : decode cX_init 45 = .ok (.aload_n 0, 1) := by decide +kernel
theorem dX_init_46 : decode cX_init 46 = .ok (.iload_n 1, 1) := by decide +kernel
theorem dX_init_47 : decode cX_init 47 = .ok (.iconst 1, 1) := by decide +kernel
theorem dX_init_48 : decode cX_init 48 = .ok (.iadd, 1) := by decide +kernel
theorem dX_init_49 : decode cX_init 49 = .ok (.newarray .long, 2) := by decide +kernel
theorem dX_init_51 : decode cX_init 51 = .ok (.putfield 26, 3) := by decide +kernel
theorem dX_init_54 : decode cX_init 54 = .ok (.return_, 1) := by decide +kernel
-- X_isOn
theorem dX_isOn_0 : decode cX_isOn 0 = .ok (.aload_n 0, 1) := by decide +kernel
theorem dX_isOn_1 : decode cX_isOn 1 = .ok (.getfield 29, 3) := by decide +kernel
theorem dX_isOn_4 : decode cX_isOn 4 = .ok (.ifCond .eq 7, 3) := by decide +kernel
theorem dX_isOn_7 : decode cX_isOn 7 = .ok (.iconst 1, 1) := by decide +kernel
theorem dX_isOn_8 : decode cX_isOn 8 = .ok (.goto 4, 3) := by decide +kernel
theorem dX_isOn_11 : decode cX_isOn 11 = .ok (.iconst 0, 1) := by decide +kernel
theorem dX_isOn_12 : decode cX_isOn 12 = .ok (.ireturn, 1) := by decide +kernel
-- X_end
theorem dX_end_0 : decode cX_end 0 = .ok (.aload_n 0, 1) := by decide +kernel
theorem dX_end_1 : decode cX_end 1 = .ok (.iconst 0, 1) := by decide +kernel
theorem dX_end_2 : decode cX_end 2 = .ok (.invokevirtual 32, 3) := by decide +kernel
theorem dX_end_5 : decode cX_end 5 = .ok (.return_, 1) := by decide +kernel
-- X_start
theorem dX_start_0 : decode cX_start 0 = .ok (.aload_n 0, 1) := by decide +kernel
theorem dX_start_1 : decode cX_start 1 = .ok (.iload_n 1, 1) := by decide +kernel
theorem dX_start_2 : decode cX_start 2 = .ok (.invokevirtual 32, 3) := by decide +kernel
theorem dX_start_5 : decode cX_start 5 = .ok (.iconst 1, 1) := by decide +kernel
theorem dX_start_6 : decode cX_start 6 = .ok (.istore 7, 2) := by decide +kernel
theorem dX_start_8 : decode cX_start 8 = .ok (.iload 7, 2) := by decide +kernel
theorem dX_start_10 : decode cX_start 10 = .ok (.aload_n 0, 1) := by decide +kernel
theorem dX_start_11 : decode cX_start 11 = .ok (.getfield 7, 3) := by decide +kernel
theorem dX_start_14 : decode cX_start 14 = .ok (.if_icmp .gt 39, 3) := by decide +kernel
theorem dX_start_17 : decode cX_start 17 = .ok (.aload_n 0, 1) := by decide +kernel
theorem dX_start_18 : decode cX_start 18 = .ok (.getfield 13, 3) := by decide +kernel
theorem dX_start_21 : decode cX_start 21 = .ok (.iload 7, 2) := by decide +kernel
theorem dX_start_23 : decode cX_start 23 = .ok (.aload 6, 2) := by decide +kernel
theorem dX_start_25 : decode cX_start 25 = .ok (.getfield 36, 3) := by decide +kernel
theorem dX_start_28 : decode cX_start 28 = .ok (.iload 7, 2) := by decide +kernel
theorem dX_start_30 : decode cX_start 30 = .ok (.laload, 1) := by decide +kernel
theorem dX_start_31 : decode cX_start 31 = .ok (.lastore, 1) := by decide +kernel
theorem dX_start_32 : decode cX_start 32 = .ok (.aload_n 0, 1) := by decide +kernel
theorem dX_start_33 : decode cX_start 33 = .ok (.getfield 17, 3) := by decide +kernel
theorem dX_start_36 : decode cX_start 36 = .ok (.iload 7, 2) := by decide +kernel
theorem dX_start_38 : decode cX_start 38 = .ok (.aload 6, 2) := by decide +kernel
theorem dX_start_40 : decode cX_start 40 = .ok (.getfield 39, 3) := by decide +kernel
theorem dX_start_43 : decode cX_start 43 = .ok (.iload 7, 2) := by decide +kernel
theorem dX_start_45 : decode cX_start 45 = .ok (.laload, 1) := by decide +kernel
theorem dX_start_46 : decode cX_start 46 = .ok (.lastore, 1) := by decide +kernel
theorem dX_start_47 : decode cX_start 47 = .ok (.iinc 7 1, 3) := by decide +kernel
theorem dX_start_50 : decode cX_start 50 = .ok (.goto (-42), 3) := by decide +kernel
theorem dX_start_53 : decode cX_start 53 = .ok (.iconst 1, 1) := by decide +kernel
theorem dX_start_54 : decode cX_start 54 = .ok (.istore 7, 2) := by decide +kernel
theorem dX_start_56 : decode cX_start 56 = .ok (.iload 7, 2) := by decide +kernel
theorem dX_start_58 : decode cX_start 58 = .ok (.aload_n 0, 1) := by decide +kernel
theorem dX_start_59 : decode cX_start 59 = .ok (.getfield 7, 3) := by decide +kernel
theorem dX_start_62 : decode cX_start 62 = .ok (.if_icmp .gt 68, 3) := by decide +kernel
theorem dX_start_65 : decode cX_start 65 = .ok (.iload_n 1, 1) := by decide +kernel
theorem dX_start_66 : decode cX_start 66 = .ok (.iload 7, 2) := by decide +kernel
theorem dX_start_68 : decode cX_start 68 = .ok (.invokestatic 40, 3) := by decide +kernel
theorem dX_start_71 : decode cX_start 71 = .ok (.ifCond .eq 53, 3) := by decide +kernel
theorem dX_start_74 : decode cX_start 74 = .ok (.aload_n 0, 1) := by decide +kernel
theorem dX_start_75 : decode cX_start 75 = .ok (.getfield 20, 3) := by decide +kernel
theorem dX_start_78 : decode cX_start 78 = .ok (.iload 7, 2) := by decide +kernel
theorem dX_start_80 : decode cX_start 80 = .ok (.aload_n 0, 1) := by decide +kernel
theorem dX_start_81 : decode cX_start 81 = .ok (.iload 7, 2) := by decide +kernel
theorem dX_start_83 : decode cX_start 83 = .ok (.lload_n 2, 1) := by decide +kernel
theorem dX_start_84 : decode cX_start 84 = .ok (.lload 4, 2) := by decide +kernel
theorem dX_start_86 : decode cX_start 86 = .ok (.invokevirtual 46, 3) := by decide +kernel
theorem dX_start_89 : decode cX_start 89 = .ok (.lastore, 1) := by decide +kernel
theorem dX_start_90 : decode cX_start 90 = .ok (.aload_n 0, 1) := by decide +kernel
theorem dX_start_91 : decode cX_start 91 = .ok (.getfield 23, 3) := by decide +kernel
theorem dX_start_94 : decode cX_start 94 = .ok (.iload 7, 2) := by decide +kernel
theorem dX_start_96 : decode cX_start 96 = .ok (.iload_n 1, 1) := by decide +kernel
theorem dX_start_97 : decode cX_start 97 = .ok (.iload 7, 2) := by decide +kernel
theorem dX_start_99 : decode cX_start 99 = .ok (.aload_n 0, 1) := by decide +kernel
theorem dX_start_100 : decode cX_start 100 = .ok (.getfield 7, 3) := by decide +kernel
theorem dX_start_103 : decode cX_start 103 = .ok (.invokestatic 50, 3) := by decide +kernel
theorem dX_start_106 : decode cX_start 106 = .ok (.lastore, 1) := by decide +kernel
theorem dX_start_107 : decode cX_start 107 = .ok (.aload_n 0, 1) := by decide +kernel
theorem dX_start_108 : decode cX_start 108 = .ok (.aload_n 0, 1) := by decide +kernel
theorem dX_start_109 : decode cX_start 109 = .ok (.getfield 54, 3) := by decide +kernel
theorem dX_start_112 : decode cX_start 112 = .ok (.aload_n 0, 1) := by decide +kernel
theorem dX_start_113 : decode cX_start 113 = .ok (.iload 7, 2) := by decide +kernel
theorem dX_start_115 : decode cX_start 115 = .ok (.invokevirtual 58, 3) := by decide +kernel
theorem dX_start_118 : decode cX_start 118 = .ok (.invokestatic 62, 3) := by decide +kernel
theorem dX_start_121 : decode cX_start 121 = .ok (.putfield 54, 3) := by decide +kernel
theorem dX_start_124 : decode cX_start 124 = .ok (.iinc 7 1, 3) := by decide +kernel
theorem dX_start_127 : decode cX_start 127 = .ok (.goto (-71), 3) := by decide +kernel
theorem dX_start_130 : decode cX_start 130 = .ok (.aload_n 0, 1) := by decide +kernel
theorem dX_start_131 : decode cX_start 131 = .ok (.aload_n 0, 1) := by decide +kernel
theorem dX_start_132 : decode cX_start 132 = .ok (.getfield 54, 3) := by decide +kernel
theorem dX_start_135 : decode cX_start 135 = .ok (.lload 4, 2) := by decide +kernel
theorem dX_start_137 : decode cX_start 137 = .ok (.lload_n 2, 1) := by decide +kernel
theorem dX_start_138 : decode cX_start 138 = .ok (.invokestatic 68, 3) := by decide +kernel
theorem dX_start_141 : decode cX_start 141 = .ok (.putfield 74, 3) := by decide +kernel
theorem dX_start_144 : decode cX_start 144 = .ok (.return_, 1) := by decide +kernel
-- X_losePair
theorem dX_losePair_0 : decode cX_losePair 0 = .ok (.aload_n 0, 1) := by decide +kernel
theorem dX_losePair_1 : decode cX_losePair 1 = .ok (.dup, 1) := by decide +kernel
theorem dX_losePair_2 : decode cX_losePair 2 = .ok (.getfield 77, 3) := by decide +kernel
theorem dX_losePair_5 : decode cX_losePair 5 = .ok (.iload_n 1, 1) := by decide +kernel
theorem dX_losePair_6 : decode cX_losePair 6 = .ok (.invokestatic 80, 3) := by decide +kernel
theorem dX_losePair_9 : decode cX_losePair 9 = .ok (.iconst (-1), 1) := by decide +kernel
theorem dX_losePair_10 : decode cX_losePair 10 = .ok (.ixor, 1) := by decide +kernel
theorem dX_losePair_11 : decode cX_losePair 11 = .ok (.iand, 1) := by decide +kernel
theorem dX_losePair_12 : decode cX_losePair 12 = .ok (.putfield 77, 3) := by decide +kernel
theorem dX_losePair_15 : decode cX_losePair 15 = .ok (.return_, 1) := by decide +kernel
-- X_makeShare
theorem dX_makeShare_0 : decode cX_makeShare 0 = .ok (.aload 4, 2) := by decide +kernel
theorem dX_makeShare_2 : decode cX_makeShare 2 = .ok (.getfield 84, 3) := by decide +kernel
theorem dX_makeShare_5 : decode cX_makeShare 5 = .ok (.iload_n 1, 1) := by decide +kernel
theorem dX_makeShare_6 : decode cX_makeShare 6 = .ok (.laload, 1) := by decide +kernel
theorem dX_makeShare_7 : decode cX_makeShare 7 = .ok (.aload 4, 2) := by decide +kernel
theorem dX_makeShare_9 : decode cX_makeShare 9 = .ok (.getfield 87, 3) := by decide +kernel
theorem dX_makeShare_12 : decode cX_makeShare 12 = .ok (.iload_n 1, 1) := by decide +kernel
theorem dX_makeShare_13 : decode cX_makeShare 13 = .ok (.laload, 1) := by decide +kernel
theorem dX_makeShare_14 : decode cX_makeShare 14 = .ok (.aload_n 0, 1) := by decide +kernel
theorem dX_makeShare_15 : decode cX_makeShare 15 = .ok (.getfield 20, 3) := by decide +kernel
theorem dX_makeShare_18 : decode cX_makeShare 18 = .ok (.iload_n 1, 1) := by decide +kernel
theorem dX_makeShare_19 : decode cX_makeShare 19 = .ok (.laload, 1) := by decide +kernel
theorem dX_makeShare_20 : decode cX_makeShare 20 = .ok (.invokestatic 90, 3) := by decide +kernel
theorem dX_makeShare_23 : decode cX_makeShare 23 = .ok (.invokestatic 93, 3) := by decide +kernel
theorem dX_makeShare_26 : decode cX_makeShare 26 = .ok (.lstore 5, 2) := by decide +kernel
theorem dX_makeShare_28 : decode cX_makeShare 28 = .ok (.aload_n 0, 1) := by decide +kernel
theorem dX_makeShare_29 : decode cX_makeShare 29 = .ok (.getfield 26, 3) := by decide +kernel
theorem dX_makeShare_32 : decode cX_makeShare 32 = .ok (.iload_n 1, 1) := by decide +kernel
theorem dX_makeShare_33 : decode cX_makeShare 33 = .ok (.lload 5, 2) := by decide +kernel
theorem dX_makeShare_35 : decode cX_makeShare 35 = .ok (.aload_n 0, 1) := by decide +kernel
theorem dX_makeShare_36 : decode cX_makeShare 36 = .ok (.iload_n 1, 1) := by decide +kernel
theorem dX_makeShare_37 : decode cX_makeShare 37 = .ok (.invokevirtual 96, 3) := by decide +kernel
theorem dX_makeShare_40 : decode cX_makeShare 40 = .ok (.lload_n 2, 1) := by decide +kernel
theorem dX_makeShare_41 : decode cX_makeShare 41 = .ok (.invokestatic 90, 3) := by decide +kernel
theorem dX_makeShare_44 : decode cX_makeShare 44 = .ok (.invokestatic 93, 3) := by decide +kernel
theorem dX_makeShare_47 : decode cX_makeShare 47 = .ok (.lastore, 1) := by decide +kernel
theorem dX_makeShare_48 : decode cX_makeShare 48 = .ok (.aload_n 0, 1) := by decide +kernel
theorem dX_makeShare_49 : decode cX_makeShare 49 = .ok (.dup, 1) := by decide +kernel
theorem dX_makeShare_50 : decode cX_makeShare 50 = .ok (.getfield 99, 3) := by decide +kernel
theorem dX_makeShare_53 : decode cX_makeShare 53 = .ok (.iload_n 1, 1) := by decide +kernel
theorem dX_makeShare_54 : decode cX_makeShare 54 = .ok (.invokestatic 80, 3) := by decide +kernel
theorem dX_makeShare_57 : decode cX_makeShare 57 = .ok (.ior, 1) := by decide +kernel
theorem dX_makeShare_58 : decode cX_makeShare 58 = .ok (.putfield 99, 3) := by decide +kernel
theorem dX_makeShare_61 : decode cX_makeShare 61 = .ok (.return_, 1) := by decide +kernel
-- X_tell
theorem dX_tell_0 : decode cX_tell 0 = .ok (.aload_n 0, 1) := by decide +kernel
theorem dX_tell_1 : decode cX_tell 1 = .ok (.iload_n 1, 1) := by decide +kernel
theorem dX_tell_2 : decode cX_tell 2 = .ok (.lload_n 2, 1) := by decide +kernel
theorem dX_tell_3 : decode cX_tell 3 = .ok (.lload 4, 2) := by decide +kernel
theorem dX_tell_5 : decode cX_tell 5 = .ok (.invokevirtual 102, 3) := by decide +kernel
theorem dX_tell_8 : decode cX_tell 8 = .ok (.ifCond .ne 18, 3) := by decide +kernel
theorem dX_tell_11 : decode cX_tell 11 = .ok (.aload_n 0, 1) := by decide +kernel
theorem dX_tell_12 : decode cX_tell 12 = .ok (.dup, 1) := by decide +kernel
theorem dX_tell_13 : decode cX_tell 13 = .ok (.getfield 106, 3) := by decide +kernel
theorem dX_tell_16 : decode cX_tell 16 = .ok (.iload_n 1, 1) := by decide +kernel
theorem dX_tell_17 : decode cX_tell 17 = .ok (.invokestatic 80, 3) := by decide +kernel
theorem dX_tell_20 : decode cX_tell 20 = .ok (.ior, 1) := by decide +kernel
theorem dX_tell_21 : decode cX_tell 21 = .ok (.putfield 106, 3) := by decide +kernel
theorem dX_tell_24 : decode cX_tell 24 = .ok (.iconst 0, 1) := by decide +kernel
theorem dX_tell_25 : decode cX_tell 25 = .ok (.ireturn, 1) := by decide +kernel
theorem dX_tell_26 : decode cX_tell 26 = .ok (.aload_n 0, 1) := by decide +kernel
theorem dX_tell_27 : decode cX_tell 27 = .ok (.dup, 1) := by decide +kernel
theorem dX_tell_28 : decode cX_tell 28 = .ok (.getfield 109, 3) := by decide +kernel
theorem dX_tell_31 : decode cX_tell 31 = .ok (.iload_n 1, 1) := by decide +kernel
theorem dX_tell_32 : decode cX_tell 32 = .ok (.invokestatic 80, 3) := by decide +kernel
theorem dX_tell_35 : decode cX_tell 35 = .ok (.ior, 1) := by decide +kernel
theorem dX_tell_36 : decode cX_tell 36 = .ok (.putfield 109, 3) := by decide +kernel
theorem dX_tell_39 : decode cX_tell 39 = .ok (.aload_n 0, 1) := by decide +kernel
theorem dX_tell_40 : decode cX_tell 40 = .ok (.aload_n 0, 1) := by decide +kernel
theorem dX_tell_41 : decode cX_tell 41 = .ok (.getfield 112, 3) := by decide +kernel
theorem dX_tell_44 : decode cX_tell 44 = .ok (.lload_n 2, 1) := by decide +kernel
theorem dX_tell_45 : decode cX_tell 45 = .ok (.invokestatic 93, 3) := by decide +kernel
theorem dX_tell_48 : decode cX_tell 48 = .ok (.putfield 112, 3) := by decide +kernel
theorem dX_tell_51 : decode cX_tell 51 = .ok (.iconst 1, 1) := by decide +kernel
theorem dX_tell_52 : decode cX_tell 52 = .ok (.ireturn, 1) := by decide +kernel
-- X_reset
theorem dX_reset_0 : decode cX_reset 0 = .ok (.aload_n 0, 1) := by decide +kernel
theorem dX_reset_1 : decode cX_reset 1 = .ok (.iload_n 1, 1) := by decide +kernel
theorem dX_reset_2 : decode cX_reset 2 = .ok (.putfield 29, 3) := by decide +kernel
theorem dX_reset_5 : decode cX_reset 5 = .ok (.aload_n 0, 1) := by decide +kernel
theorem dX_reset_6 : decode cX_reset 6 = .ok (.iload_n 1, 1) := by decide +kernel
theorem dX_reset_7 : decode cX_reset 7 = .ok (.putfield 77, 3) := by decide +kernel
theorem dX_reset_10 : decode cX_reset 10 = .ok (.aload_n 0, 1) := by decide +kernel
theorem dX_reset_11 : decode cX_reset 11 = .ok (.iconst 0, 1) := by decide +kernel
theorem dX_reset_12 : decode cX_reset 12 = .ok (.putfield 99, 3) := by decide +kernel
theorem dX_reset_15 : decode cX_reset 15 = .ok (.aload_n 0, 1) := by decide +kernel
theorem dX_reset_16 : decode cX_reset 16 = .ok (.iconst 0, 1) := by decide +kernel
theorem dX_reset_17 : decode cX_reset 17 = .ok (.putfield 109, 3) := by decide +kernel
theorem dX_reset_20 : decode cX_reset 20 = .ok (.aload_n 0, 1) := by decide +kernel
theorem dX_reset_21 : decode cX_reset 21 = .ok (.iconst 0, 1) := by decide +kernel
theorem dX_reset_22 : decode cX_reset 22 = .ok (.putfield 106, 3) := by decide +kernel
theorem dX_reset_25 : decode cX_reset 25 = .ok (.aload_n 0, 1) := by decide +kernel
theorem dX_reset_26 : decode cX_reset 26 = .ok (.lconst 1, 1) := by decide +kernel
theorem dX_reset_27 : decode cX_reset 27 = .ok (.putfield 54, 3) := by decide +kernel
theorem dX_reset_30 : decode cX_reset 30 = .ok (.aload_n 0, 1) := by decide +kernel
theorem dX_reset_31 : decode cX_reset 31 = .ok (.lconst 0, 1) := by decide +kernel
theorem dX_reset_32 : decode cX_reset 32 = .ok (.putfield 112, 3) := by decide +kernel
theorem dX_reset_35 : decode cX_reset 35 = .ok (.return_, 1) := by decide +kernel
-- X_factorFor
theorem dX_factorFor_0 : decode cX_factorFor 0 = .ok (.lconst 0, 1) := by decide +kernel
theorem dX_factorFor_1 : decode cX_factorFor 1 = .ok (.ldc2_w 115, 3) := by decide +kernel
theorem dX_factorFor_4 : decode cX_factorFor 4 = .ok (.invokestatic 117, 3) := by decide +kernel
theorem dX_factorFor_7 : decode cX_factorFor 7 = .ok (.lload 4, 2) := by decide +kernel
theorem dX_factorFor_9 : decode cX_factorFor 9 = .ok (.invokestatic 117, 3) := by decide +kernel
theorem dX_factorFor_12 : decode cX_factorFor 12 = .ok (.lstore 6, 2) := by decide +kernel
theorem dX_factorFor_14 : decode cX_factorFor 14 = .ok (.lload 6, 2) := by decide +kernel
theorem dX_factorFor_16 : decode cX_factorFor 16 = .ok (.lload_n 2, 1) := by decide +kernel
theorem dX_factorFor_17 : decode cX_factorFor 17 = .ok (.invokestatic 117, 3) := by decide +kernel
theorem dX_factorFor_20 : decode cX_factorFor 20 = .ok (.iload_n 1, 1) := by decide +kernel
theorem dX_factorFor_21 : decode cX_factorFor 21 = .ok (.i2l, 1) := by decide +kernel
theorem dX_factorFor_22 : decode cX_factorFor 22 = .ok (.invokestatic 117, 3) := by decide +kernel
theorem dX_factorFor_25 : decode cX_factorFor 25 = .ok (.lstore 6, 2) := by decide +kernel
theorem dX_factorFor_27 : decode cX_factorFor 27 = .ok (.iconst 1, 1) := by decide +kernel
theorem dX_factorFor_28 : decode cX_factorFor 28 = .ok (.istore 8, 2) := by decide +kernel
theorem dX_factorFor_30 : decode cX_factorFor 30 = .ok (.iload 8, 2) := by decide +kernel
theorem dX_factorFor_32 : decode cX_factorFor 32 = .ok (.aload_n 0, 1) := by decide +kernel
theorem dX_factorFor_33 : decode cX_factorFor 33 = .ok (.getfield 7, 3) := by decide +kernel
theorem dX_factorFor_36 : decode cX_factorFor 36 = .ok (.if_icmp .gt 55, 3) := by decide +kernel
theorem dX_factorFor_39 : decode cX_factorFor 39 = .ok (.aload_n 0, 1) := by decide +kernel
theorem dX_factorFor_40 : decode cX_factorFor 40 = .ok (.getfield 29, 3) := by decide +kernel
theorem dX_factorFor_43 : decode cX_factorFor 43 = .ok (.iload 8, 2) := by decide +kernel
theorem dX_factorFor_45 : decode cX_factorFor 45 = .ok (.invokestatic 40, 3) := by decide +kernel
theorem dX_factorFor_48 : decode cX_factorFor 48 = .ok (.ifCond .eq 37, 3) := by decide +kernel
theorem dX_factorFor_51 : decode cX_factorFor 51 = .ok (.lload 6, 2) := by decide +kernel
theorem dX_factorFor_53 : decode cX_factorFor 53 = .ok (.iload 8, 2) := by decide +kernel
theorem dX_factorFor_55 : decode cX_factorFor 55 = .ok (.i2l, 1) := by decide +kernel
theorem dX_factorFor_56 : decode cX_factorFor 56 = .ok (.invokestatic 117, 3) := by decide +kernel
theorem dX_factorFor_59 : decode cX_factorFor 59 = .ok (.aload_n 0, 1) := by decide +kernel
theorem dX_factorFor_60 : decode cX_factorFor 60 = .ok (.getfield 13, 3) := by decide +kernel
theorem dX_factorFor_63 : decode cX_factorFor 63 = .ok (.iload 8, 2) := by decide +kernel
theorem dX_factorFor_65 : decode cX_factorFor 65 = .ok (.laload, 1) := by decide +kernel
theorem dX_factorFor_66 : decode cX_factorFor 66 = .ok (.invokestatic 117, 3) := by decide +kernel
theorem dX_factorFor_69 : decode cX_factorFor 69 = .ok (.lstore 6, 2) := by decide +kernel
theorem dX_factorFor_71 : decode cX_factorFor 71 = .ok (.lload 6, 2) := by decide +kernel
theorem dX_factorFor_73 : decode cX_factorFor 73 = .ok (.aload_n 0, 1) := by decide +kernel
theorem dX_factorFor_74 : decode cX_factorFor 74 = .ok (.getfield 17, 3) := by decide +kernel
theorem dX_factorFor_77 : decode cX_factorFor 77 = .ok (.iload 8, 2) := by decide +kernel
theorem dX_factorFor_79 : decode cX_factorFor 79 = .ok (.laload, 1) := by decide +kernel
theorem dX_factorFor_80 : decode cX_factorFor 80 = .ok (.invokestatic 117, 3) := by decide +kernel
theorem dX_factorFor_83 : decode cX_factorFor 83 = .ok (.lstore 6, 2) := by decide +kernel
theorem dX_factorFor_85 : decode cX_factorFor 85 = .ok (.iinc 8 1, 3) := by decide +kernel
theorem dX_factorFor_88 : decode cX_factorFor 88 = .ok (.goto (-58), 3) := by decide +kernel
theorem dX_factorFor_91 : decode cX_factorFor 91 = .ok (.lload 6, 2) := by decide +kernel
theorem dX_factorFor_93 : decode cX_factorFor 93 = .ok (.invokestatic 120, 3) := by decide +kernel
theorem dX_factorFor_96 : decode cX_factorFor 96 = .ok (.lreturn, 1) := by decide +kernel
-- X_toldPart
theorem dX_toldPart_0 : decode cX_toldPart 0 = .ok (.aload_n 0, 1) := by decide +kernel
theorem dX_toldPart_1 : decode cX_toldPart 1 = .ok (.getfield 13, 3) := by decide +kernel
theorem dX_toldPart_4 : decode cX_toldPart 4 = .ok (.iload_n 1, 1) := by decide +kernel
theorem dX_toldPart_5 : decode cX_toldPart 5 = .ok (.laload, 1) := by decide +kernel
theorem dX_toldPart_6 : decode cX_toldPart 6 = .ok (.aload_n 0, 1) := by decide +kernel
theorem dX_toldPart_7 : decode cX_toldPart 7 = .ok (.getfield 17, 3) := by decide +kernel
theorem dX_toldPart_10 : decode cX_toldPart 10 = .ok (.iload_n 1, 1) := by decide +kernel
theorem dX_toldPart_11 : decode cX_toldPart 11 = .ok (.laload, 1) := by decide +kernel
theorem dX_toldPart_12 : decode cX_toldPart 12 = .ok (.aload_n 0, 1) := by decide +kernel
theorem dX_toldPart_13 : decode cX_toldPart 13 = .ok (.getfield 20, 3) := by decide +kernel
theorem dX_toldPart_16 : decode cX_toldPart 16 = .ok (.iload_n 1, 1) := by decide +kernel
theorem dX_toldPart_17 : decode cX_toldPart 17 = .ok (.laload, 1) := by decide +kernel
theorem dX_toldPart_18 : decode cX_toldPart 18 = .ok (.invokestatic 124, 3) := by decide +kernel
theorem dX_toldPart_21 : decode cX_toldPart 21 = .ok (.invokestatic 62, 3) := by decide +kernel
theorem dX_toldPart_24 : decode cX_toldPart 24 = .ok (.lreturn, 1) := by decide +kernel
-- X_keyExponent
theorem dX_keyExponent_0 : decode cX_keyExponent 0 = .ok (.aload_n 0, 1) := by decide +kernel
theorem dX_keyExponent_1 : decode cX_keyExponent 1 = .ok (.getfield 74, 3) := by decide +kernel
theorem dX_keyExponent_4 : decode cX_keyExponent 4 = .ok (.aload_n 0, 1) := by decide +kernel
theorem dX_keyExponent_5 : decode cX_keyExponent 5 = .ok (.getfield 23, 3) := by decide +kernel
theorem dX_keyExponent_8 : decode cX_keyExponent 8 = .ok (.iload_n 1, 1) := by decide +kernel
theorem dX_keyExponent_9 : decode cX_keyExponent 9 = .ok (.laload, 1) := by decide +kernel
theorem dX_keyExponent_10 : decode cX_keyExponent 10 = .ok (.invokestatic 90, 3) := by decide +kernel
theorem dX_keyExponent_13 : decode cX_keyExponent 13 = .ok (.lreturn, 1) := by decide +kernel
-- X_isRight
theorem dX_isRight_0 : decode cX_isRight 0 = .ok (.lload 4, 2) := by decide +kernel
theorem dX_isRight_2 : decode cX_isRight 2 = .ok (.aload_n 0, 1) := by decide +kernel
theorem dX_isRight_3 : decode cX_isRight 3 = .ok (.iload_n 1, 1) := by decide +kernel
theorem dX_isRight_4 : decode cX_isRight 4 = .ok (.invokevirtual 96, 3) := by decide +kernel
theorem dX_isRight_7 : decode cX_isRight 7 = .ok (.invokestatic 124, 3) := by decide +kernel
theorem dX_isRight_10 : decode cX_isRight 10 = .ok (.lstore 6, 2) := by decide +kernel
theorem dX_isRight_12 : decode cX_isRight 12 = .ok (.lload_n 2, 1) := by decide +kernel
theorem dX_isRight_13 : decode cX_isRight 13 = .ok (.invokestatic 127, 3) := by decide +kernel
theorem dX_isRight_16 : decode cX_isRight 16 = .ok (.aload_n 0, 1) := by decide +kernel
theorem dX_isRight_17 : decode cX_isRight 17 = .ok (.iload_n 1, 1) := by decide +kernel
theorem dX_isRight_18 : decode cX_isRight 18 = .ok (.invokevirtual 58, 3) := by decide +kernel
theorem dX_isRight_21 : decode cX_isRight 21 = .ok (.lload 6, 2) := by decide +kernel
theorem dX_isRight_23 : decode cX_isRight 23 = .ok (.invokestatic 62, 3) := by decide +kernel
theorem dX_isRight_26 : decode cX_isRight 26 = .ok (.lcmp, 1) := by decide +kernel
theorem dX_isRight_27 : decode cX_isRight 27 = .ok (.ifCond .ne 7, 3) := by decide +kernel
theorem dX_isRight_30 : decode cX_isRight 30 = .ok (.iconst 1, 1) := by decide +kernel
theorem dX_isRight_31 : decode cX_isRight 31 = .ok (.goto 4, 3) := by decide +kernel
theorem dX_isRight_34 : decode cX_isRight 34 = .ok (.iconst 0, 1) := by decide +kernel
theorem dX_isRight_35 : decode cX_isRight 35 = .ok (.ireturn, 1) := by decide +kernel
-- I_only
theorem dI_only_0 : decode cI_only 0 = .ok (.iconst 1, 1) := by decide +kernel
theorem dI_only_1 : decode cI_only 1 = .ok (.iload_n 0, 1) := by decide +kernel
theorem dI_only_2 : decode cI_only 2 = .ok (.iconst 1, 1) := by decide +kernel
theorem dI_only_3 : decode cI_only 3 = .ok (.isub, 1) := by decide +kernel
theorem dI_only_4 : decode cI_only 4 = .ok (.ishl, 1) := by decide +kernel
theorem dI_only_5 : decode cI_only 5 = .ok (.ireturn, 1) := by decide +kernel
-- I_has
theorem dI_has_0 : decode cI_has 0 = .ok (.iload_n 0, 1) := by decide +kernel
theorem dI_has_1 : decode cI_has 1 = .ok (.iload_n 1, 1) := by decide +kernel
theorem dI_has_2 : decode cI_has 2 = .ok (.invokestatic 7, 3) := by decide +kernel
theorem dI_has_5 : decode cI_has 5 = .ok (.iand, 1) := by decide +kernel
theorem dI_has_6 : decode cI_has 6 = .ok (.ifCond .eq 7, 3) := by decide +kernel
theorem dI_has_9 : decode cI_has 9 = .ok (.iconst 1, 1) := by decide +kernel
theorem dI_has_10 : decode cI_has 10 = .ok (.goto 4, 3) := by decide +kernel
theorem dI_has_13 : decode cI_has 13 = .ok (.iconst 0, 1) := by decide +kernel
theorem dI_has_14 : decode cI_has 14 = .ok (.ireturn, 1) := by decide +kernel
-- I_weightIn
theorem dI_weightIn_0 : decode cI_weightIn 0 = .ok (.lconst 1, 1) := by decide +kernel
theorem dI_weightIn_1 : decode cI_weightIn 1 = .ok (.lstore_n 3, 1) := by decide +kernel
theorem dI_weightIn_2 : decode cI_weightIn 2 = .ok (.lconst 1, 1) := by decide +kernel
theorem dI_weightIn_3 : decode cI_weightIn 3 = .ok (.lstore 5, 2) := by decide +kernel
theorem dI_weightIn_5 : decode cI_weightIn 5 = .ok (.iconst 1, 1) := by decide +kernel
theorem dI_weightIn_6 : decode cI_weightIn 6 = .ok (.istore 7, 2) := by decide +kernel
theorem dI_weightIn_8 : decode cI_weightIn 8 = .ok (.iload 7, 2) := by decide +kernel
theorem dI_weightIn_10 : decode cI_weightIn 10 = .ok (.iload_n 2, 1) := by decide +kernel
theorem dI_weightIn_11 : decode cI_weightIn 11 = .ok (.if_icmp .gt 47, 3) := by decide +kernel
theorem dI_weightIn_14 : decode cI_weightIn 14 = .ok (.iload 7, 2) := by decide +kernel
theorem dI_weightIn_16 : decode cI_weightIn 16 = .ok (.iload_n 1, 1) := by decide +kernel
theorem dI_weightIn_17 : decode cI_weightIn 17 = .ok (.if_icmp .eq 35, 3) := by decide +kernel
theorem dI_weightIn_20 : decode cI_weightIn 20 = .ok (.iload_n 0, 1) := by decide +kernel
theorem dI_weightIn_21 : decode cI_weightIn 21 = .ok (.iload 7, 2) := by decide +kernel
theorem dI_weightIn_23 : decode cI_weightIn 23 = .ok (.invokestatic 13, 3) := by decide +kernel
theorem dI_weightIn_26 : decode cI_weightIn 26 = .ok (.ifCond .eq 26, 3) := by decide +kernel
theorem dI_weightIn_29 : decode cI_weightIn 29 = .ok (.lload_n 3, 1) := by decide +kernel
theorem dI_weightIn_30 : decode cI_weightIn 30 = .ok (.iload 7, 2) := by decide +kernel
theorem dI_weightIn_32 : decode cI_weightIn 32 = .ok (.i2l, 1) := by decide +kernel
theorem dI_weightIn_33 : decode cI_weightIn 33 = .ok (.invokestatic 17, 3) := by decide +kernel
theorem dI_weightIn_36 : decode cI_weightIn 36 = .ok (.lstore_n 3, 1) := by decide +kernel
theorem dI_weightIn_37 : decode cI_weightIn 37 = .ok (.lload 5, 2) := by decide +kernel
theorem dI_weightIn_39 : decode cI_weightIn 39 = .ok (.iload 7, 2) := by decide +kernel
theorem dI_weightIn_41 : decode cI_weightIn 41 = .ok (.i2l, 1) := by decide +kernel
theorem dI_weightIn_42 : decode cI_weightIn 42 = .ok (.iload_n 1, 1) := by decide +kernel
theorem dI_weightIn_43 : decode cI_weightIn 43 = .ok (.i2l, 1) := by decide +kernel
theorem dI_weightIn_44 : decode cI_weightIn 44 = .ok (.invokestatic 23, 3) := by decide +kernel
theorem dI_weightIn_47 : decode cI_weightIn 47 = .ok (.invokestatic 17, 3) := by decide +kernel
theorem dI_weightIn_50 : decode cI_weightIn 50 = .ok (.lstore 5, 2) := by decide +kernel
theorem dI_weightIn_52 : decode cI_weightIn 52 = .ok (.iinc 7 1, 3) := by decide +kernel
theorem dI_weightIn_55 : decode cI_weightIn 55 = .ok (.goto (-47), 3) := by decide +kernel
theorem dI_weightIn_58 : decode cI_weightIn 58 = .ok (.lload_n 3, 1) := by decide +kernel
theorem dI_weightIn_59 : decode cI_weightIn 59 = .ok (.lload 5, 2) := by decide +kernel
theorem dI_weightIn_61 : decode cI_weightIn 61 = .ok (.invokestatic 26, 3) := by decide +kernel
theorem dI_weightIn_64 : decode cI_weightIn 64 = .ok (.invokestatic 17, 3) := by decide +kernel
theorem dI_weightIn_67 : decode cI_weightIn 67 = .ok (.lreturn, 1) := by decide +kernel
end
section
theorem dJI_bitCount_0 : decode cJI_bitCount 0 = .ok (.iload_n 0, 1) := by decide +kernel
theorem dJI_bitCount_1 : decode cJI_bitCount 1 = .ok (.iload_n 0, 1) := by decide +kernel
theorem dJI_bitCount_2 : decode cJI_bitCount 2 = .ok (.iconst 1, 1) := by decide +kernel
theorem dJI_bitCount_3 : decode cJI_bitCount 3 = .ok (.iushr, 1) := by decide +kernel
theorem dJI_bitCount_4 : decode cJI_bitCount 4 = .ok (.ldc_w 265, 3) := by decide +kernel
theorem dJI_bitCount_7 : decode cJI_bitCount 7 = .ok (.iand, 1) := by decide +kernel
theorem dJI_bitCount_8 : decode cJI_bitCount 8 = .ok (.isub, 1) := by decide +kernel
theorem dJI_bitCount_9 : decode cJI_bitCount 9 = .ok (.istore_n 0, 1) := by decide +kernel
theorem dJI_bitCount_10 : decode cJI_bitCount 10 = .ok (.iload_n 0, 1) := by decide +kernel
theorem dJI_bitCount_11 : decode cJI_bitCount 11 = .ok (.ldc_w 266, 3) := by decide +kernel
theorem dJI_bitCount_14 : decode cJI_bitCount 14 = .ok (.iand, 1) := by decide +kernel
theorem dJI_bitCount_15 : decode cJI_bitCount 15 = .ok (.iload_n 0, 1) := by decide +kernel
theorem dJI_bitCount_16 : decode cJI_bitCount 16 = .ok (.iconst 2, 1) := by decide +kernel
theorem dJI_bitCount_17 : decode cJI_bitCount 17 = .ok (.iushr, 1) := by decide +kernel
theorem dJI_bitCount_18 : decode cJI_bitCount 18 = .ok (.ldc_w 266, 3) := by decide +kernel
theorem dJI_bitCount_21 : decode cJI_bitCount 21 = .ok (.iand, 1) := by decide +kernel
theorem dJI_bitCount_22 : decode cJI_bitCount 22 = .ok (.iadd, 1) := by decide +kernel
theorem dJI_bitCount_23 : decode cJI_bitCount 23 = .ok (.istore_n 0, 1) := by decide +kernel
theorem dJI_bitCount_24 : decode cJI_bitCount 24 = .ok (.iload_n 0, 1) := by decide +kernel
theorem dJI_bitCount_25 : decode cJI_bitCount 25 = .ok (.iload_n 0, 1) := by decide +kernel
theorem dJI_bitCount_26 : decode cJI_bitCount 26 = .ok (.iconst 4, 1) := by decide +kernel
theorem dJI_bitCount_27 : decode cJI_bitCount 27 = .ok (.iushr, 1) := by decide +kernel
theorem dJI_bitCount_28 : decode cJI_bitCount 28 = .ok (.iadd, 1) := by decide +kernel
theorem dJI_bitCount_29 : decode cJI_bitCount 29 = .ok (.ldc_w 267, 3) := by decide +kernel
theorem dJI_bitCount_32 : decode cJI_bitCount 32 = .ok (.iand, 1) := by decide +kernel
theorem dJI_bitCount_33 : decode cJI_bitCount 33 = .ok (.istore_n 0, 1) := by decide +kernel
theorem dJI_bitCount_34 : decode cJI_bitCount 34 = .ok (.iload_n 0, 1) := by decide +kernel
theorem dJI_bitCount_35 : decode cJI_bitCount 35 = .ok (.iload_n 0, 1) := by decide +kernel
theorem dJI_bitCount_36 : decode cJI_bitCount 36 = .ok (.bipush 8, 2) := by decide +kernel
theorem dJI_bitCount_38 : decode cJI_bitCount 38 = .ok (.iushr, 1) := by decide +kernel
theorem dJI_bitCount_39 : decode cJI_bitCount 39 = .ok (.iadd, 1) := by decide +kernel
theorem dJI_bitCount_40 : decode cJI_bitCount 40 = .ok (.istore_n 0, 1) := by decide +kernel
theorem dJI_bitCount_41 : decode cJI_bitCount 41 = .ok (.iload_n 0, 1) := by decide +kernel
theorem dJI_bitCount_42 : decode cJI_bitCount 42 = .ok (.iload_n 0, 1) := by decide +kernel
theorem dJI_bitCount_43 : decode cJI_bitCount 43 = .ok (.bipush 16, 2) := by decide +kernel
theorem dJI_bitCount_45 : decode cJI_bitCount 45 = .ok (.iushr, 1) := by decide +kernel
theorem dJI_bitCount_46 : decode cJI_bitCount 46 = .ok (.iadd, 1) := by decide +kernel
theorem dJI_bitCount_47 : decode cJI_bitCount 47 = .ok (.istore_n 0, 1) := by decide +kernel
theorem dJI_bitCount_48 : decode cJI_bitCount 48 = .ok (.iload_n 0, 1) := by decide +kernel
theorem dJI_bitCount_49 : decode cJI_bitCount 49 = .ok (.bipush 63, 2) := by decide +kernel
theorem dJI_bitCount_51 : decode cJI_bitCount 51 = .ok (.iand, 1) := by decide +kernel
theorem dJI_bitCount_52 : decode cJI_bitCount 52 = .ok (.ireturn, 1) := by decide +kernel
theorem dJM_max_0 : decode cJM_max 0 = .ok (.iload_n 0, 1) := by decide +kernel
theorem dJM_max_1 : decode cJM_max 1 = .ok (.iload_n 1, 1) := by decide +kernel
theorem dJM_max_2 : decode cJM_max 2 = .ok (.if_icmp .lt 7, 3) := by decide +kernel
theorem dJM_max_5 : decode cJM_max 5 = .ok (.iload_n 0, 1) := by decide +kernel
theorem dJM_max_6 : decode cJM_max 6 = .ok (.goto 4, 3) := by decide +kernel
theorem dJM_max_9 : decode cJM_max 9 = .ok (.iload_n 1, 1) := by decide +kernel
theorem dJM_max_10 : decode cJM_max 10 = .ok (.ireturn, 1) := by decide +kernel
theorem dJM_min_0 : decode cJM_min 0 = .ok (.iload_n 0, 1) := by decide +kernel
theorem dJM_min_1 : decode cJM_min 1 = .ok (.iload_n 1, 1) := by decide +kernel
theorem dJM_min_2 : decode cJM_min 2 = .ok (.if_icmp .gt 7, 3) := by decide +kernel
theorem dJM_min_5 : decode cJM_min 5 = .ok (.iload_n 0, 1) := by decide +kernel
theorem dJM_min_6 : decode cJM_min 6 = .ok (.goto 4, 3) := by decide +kernel
theorem dJM_min_9 : decode cJM_min 9 = .ok (.iload_n 1, 1) := by decide +kernel
theorem dJM_min_10 : decode cJM_min 10 = .ok (.ireturn, 1) := by decide +kernel
end
section
-- M_init
theorem dM_init_0 : decode cM_init 0 = .ok (.aload_n 0, 1) := by decide +kernel
theorem dM_init_1 : decode cM_init 1 = .ok (.invokespecial 1, 3) := by decide +kernel
theorem dM_init_4 : decode cM_init 4 = .ok (.aload_n 0, 1) := by decide +kernel
theorem dM_init_5 : decode cM_init 5 = .ok (.bipush 7, 2) := by decide +kernel
theorem dM_init_7 : decode cM_init 7 = .ok (.newarray .long, 2) := by decide +kernel
theorem dM_init_9 : decode cM_init 9 = .ok (.putfield 7, 3) := by decide +kernel
theorem dM_init_12 : decode cM_init 12 = .ok (.aload_n 0, 1) := by decide +kernel
theorem dM_init_13 : decode cM_init 13 = .ok (.bipush 7, 2) := by decide +kernel
theorem dM_init_15 : decode cM_init 15 = .ok (.newarray .long, 2) := by decide +kernel
theorem dM_init_17 : decode cM_init 17 = .ok (.putfield 13, 3) := by decide +kernel
theorem dM_init_20 : decode cM_init 20 = .ok (.aload_n 0, 1) := by decide +kernel
theorem dM_init_21 : decode cM_init 21 = .ok (.bipush 7, 2) := by decide +kernel
theorem dM_init_23 : decode cM_init 23 = .ok (.newarray .boolean, 2) := by decide +kernel
theorem dM_init_25 : decode cM_init 25 = .ok (.putfield 16, 3) := by decide +kernel
theorem dM_init_28 : decode cM_init 28 = .ok (.aload_n 0, 1) := by decide +kernel
theorem dM_init_29 : decode cM_init 29 = .ok (.bipush 7, 2) := by decide +kernel
theorem dM_init_31 : decode cM_init 31 = .ok (.newarray .long, 2) := by decide +kernel
theorem dM_init_33 : decode cM_init 33 = .ok (.putfield 20, 3) := by decide +kernel
theorem dM_init_36 : decode cM_init 36 = .ok (.aload_n 0, 1) := by decide +kernel
theorem dM_init_37 : decode cM_init 37 = .ok (.bipush 7, 2) := by decide +kernel
theorem dM_init_39 : decode cM_init 39 = .ok (.newarray .long, 2) := by decide +kernel
theorem dM_init_41 : decode cM_init 41 = .ok (.putfield 23, 3) := by decide +kernel
theorem dM_init_44 : decode cM_init 44 = .ok (.aload_n 0, 1) := by decide +kernel
theorem dM_init_45 : decode cM_init 45 = .ok (.bipush 7, 2) := by decide +kernel
theorem dM_init_47 : decode cM_init 47 = .ok (.newarray .long, 2) := by decide +kernel
theorem dM_init_49 : decode cM_init 49 = .ok (.putfield 26, 3) := by decide +kernel
theorem dM_init_52 : decode cM_init 52 = .ok (.aload_n 0, 1) := by decide +kernel
theorem dM_init_53 : decode cM_init 53 = .ok (.bipush 7, 2) := by decide +kernel
theorem dM_init_55 : decode cM_init 55 = .ok (.newarray .long, 2) := by decide +kernel
theorem dM_init_57 : decode cM_init 57 = .ok (.putfield 29, 3) := by decide +kernel
theorem dM_init_60 : decode cM_init 60 = .ok (.aload_n 0, 1) := by decide +kernel
theorem dM_init_61 : decode cM_init 61 = .ok (.bipush 7, 2) := by decide +kernel
theorem dM_init_63 : decode cM_init 63 = .ok (.newarray .long, 2) := by decide +kernel
theorem dM_init_65 : decode cM_init 65 = .ok (.putfield 32, 3) := by decide +kernel
theorem dM_init_68 : decode cM_init 68 = .ok (.aload_n 0, 1) := by decide +kernel
theorem dM_init_69 : decode cM_init 69 = .ok (.bipush 7, 2) := by decide +kernel
theorem dM_init_71 : decode cM_init 71 = .ok (.newarray .long, 2) := by decide +kernel
theorem dM_init_73 : decode cM_init 73 = .ok (.putfield 35, 3) := by decide +kernel
theorem dM_init_76 : decode cM_init 76 = .ok (.aload_n 0, 1) := by decide +kernel
theorem dM_init_77 : decode cM_init 77 = .ok (.bipush 7, 2) := by decide +kernel
theorem dM_init_79 : decode cM_init 79 = .ok (.newarray .long, 2) := by decide +kernel
theorem dM_init_81 : decode cM_init 81 = .ok (.putfield 38, 3) := by decide +kernel
theorem dM_init_84 : decode cM_init 84 = .ok (.aload_n 0, 1) := by decide +kernel
theorem dM_init_85 : decode cM_init 85 = .ok (.bipush 7, 2) := by decide +kernel
theorem dM_init_87 : decode cM_init 87 = .ok (.newarray .long, 2) := by decide +kernel
theorem dM_init_89 : decode cM_init 89 = .ok (.putfield 41, 3) := by decide +kernel
theorem dM_init_92 : decode cM_init 92 = .ok (.aload_n 0, 1) := by decide +kernel
theorem dM_init_93 : decode cM_init 93 = .ok (.bipush 7, 2) := by decide +kernel
theorem dM_init_95 : decode cM_init 95 = .ok (.newarray .boolean, 2) := by decide +kernel
theorem dM_init_97 : decode cM_init 97 = .ok (.putfield 44, 3) := by decide +kernel
theorem dM_init_100 : decode cM_init 100 = .ok (.aload_n 0, 1) := by decide +kernel
theorem dM_init_101 : decode cM_init 101 = .ok (.bipush 7, 2) := by decide +kernel
theorem dM_init_103 : decode cM_init 103 = .ok (.newarray .boolean, 2) := by decide +kernel
theorem dM_init_105 : decode cM_init 105 = .ok (.putfield 47, 3) := by decide +kernel
theorem dM_init_108 : decode cM_init 108 = .ok (.aload_n 0, 1) := by decide +kernel
theorem dM_init_109 : decode cM_init 109 = .ok (.bipush 7, 2) := by decide +kernel
theorem dM_init_111 : decode cM_init 111 = .ok (.newarray .long, 2) := by decide +kernel
theorem dM_init_113 : decode cM_init 113 = .ok (.putfield 50, 3) := by decide +kernel
theorem dM_init_116 : decode cM_init 116 = .ok (.aload_n 0, 1) := by decide +kernel
theorem dM_init_117 : decode cM_init 117 = .ok (.bipush 7, 2) := by decide +kernel
theorem dM_init_119 : decode cM_init 119 = .ok (.newarray .long, 2) := by decide +kernel
theorem dM_init_121 : decode cM_init 121 = .ok (.putfield 53, 3) := by decide +kernel
theorem dM_init_124 : decode cM_init 124 = .ok (.aload_n 0, 1) := by decide +kernel
theorem dM_init_125 : decode cM_init 125 = .ok (.iload_n 1, 1) := by decide +kernel
theorem dM_init_126 : decode cM_init 126 = .ok (.iconst 1, 1) := by decide +kernel
theorem dM_init_127 : decode cM_init 127 = .ok (.if_icmp .ge 7, 3) := by decide +kernel
theorem dM_init_130 : decode cM_init 130 = .ok (.iconst 1, 1) := by decide +kernel
theorem dM_init_131 : decode cM_init 131 = .ok (.goto 15, 3) := by decide +kernel
theorem dM_init_134 : decode cM_init 134 = .ok (.iload_n 1, 1) := by decide +kernel
theorem dM_init_135 : decode cM_init 135 = .ok (.bipush 6, 2) := by decide +kernel
theorem dM_init_137 : decode cM_init 137 = .ok (.if_icmp .le 8, 3) := by decide +kernel
theorem dM_init_140 : decode cM_init 140 = .ok (.bipush 6, 2) := by decide +kernel
theorem dM_init_142 : decode cM_init 142 = .ok (.goto 4, 3) := by decide +kernel
theorem dM_init_145 : decode cM_init 145 = .ok (.iload_n 1, 1) := by decide +kernel
theorem dM_init_146 : decode cM_init 146 = .ok (.putfield 56, 3) := by decide +kernel
theorem dM_init_149 : decode cM_init 149 = .ok (.aload_n 0, 1) := by decide +kernel
theorem dM_init_150 : decode cM_init 150 = .ok (.iload_n 2, 1) := by decide +kernel
theorem dM_init_151 : decode cM_init 151 = .ok (.iconst 1, 1) := by decide +kernel
theorem dM_init_152 : decode cM_init 152 = .ok (.if_icmp .ge 7, 3) := by decide +kernel
theorem dM_init_155 : decode cM_init 155 = .ok (.iconst 1, 1) := by decide +kernel
theorem dM_init_156 : decode cM_init 156 = .ok (.goto 19, 3) := by decide +kernel
theorem dM_init_159 : decode cM_init 159 = .ok (.iload_n 2, 1) := by decide +kernel
theorem dM_init_160 : decode cM_init 160 = .ok (.aload_n 0, 1) := by decide +kernel
theorem dM_init_161 : decode cM_init 161 = .ok (.getfield 56, 3) := by decide +kernel
theorem dM_init_164 : decode cM_init 164 = .ok (.if_icmp .le 10, 3) := by decide +kernel
theorem dM_init_167 : decode cM_init 167 = .ok (.aload_n 0, 1) := by decide +kernel
theorem dM_init_168 : decode cM_init 168 = .ok (.getfield 56, 3) := by decide +kernel
theorem dM_init_171 : decode cM_init 171 = .ok (.goto 4, 3) := by decide +kernel
theorem dM_init_174 : decode cM_init 174 = .ok (.iload_n 2, 1) := by decide +kernel
theorem dM_init_175 : decode cM_init 175 = .ok (.putfield 60, 3) := by decide +kernel
theorem dM_init_178 : decode cM_init 178 = .ok (.return_, 1) := by decide +kernel
-- M_thrown
theorem dM_thrown_0 : decode cM_thrown 0 = .ok (.aload_n 0, 1) := by decide +kernel
theorem dM_thrown_1 : decode cM_thrown 1 = .ok (.getfield 63, 3) := by decide +kernel
theorem dM_thrown_4 : decode cM_thrown 4 = .ok (.ireturn, 1) := by decide +kernel
-- M_power
theorem dM_power_0 : decode cM_power 0 = .ok (.lconst 1, 1) := by decide +kernel
theorem dM_power_1 : decode cM_power 1 = .ok (.lstore 6, 2) := by decide +kernel
theorem dM_power_3 : decode cM_power 3 = .ok (.bipush 30, 2) := by decide +kernel
theorem dM_power_5 : decode cM_power 5 = .ok (.istore 8, 2) := by decide +kernel
theorem dM_power_7 : decode cM_power 7 = .ok (.iload 8, 2) := by decide +kernel
theorem dM_power_9 : decode cM_power 9 = .ok (.ifCond .lt 64, 3) := by decide +kernel
theorem dM_power_12 : decode cM_power 12 = .ok (.lload 6, 2) := by decide +kernel
theorem dM_power_14 : decode cM_power 14 = .ok (.lload 6, 2) := by decide +kernel
theorem dM_power_16 : decode cM_power 16 = .ok (.lmul, 1) := by decide +kernel
theorem dM_power_17 : decode cM_power 17 = .ok (.lload 4, 2) := by decide +kernel
theorem dM_power_19 : decode cM_power 19 = .ok (.lrem, 1) := by decide +kernel
theorem dM_power_20 : decode cM_power 20 = .ok (.lstore 6, 2) := by decide +kernel
theorem dM_power_22 : decode cM_power 22 = .ok (.lload 6, 2) := by decide +kernel
theorem dM_power_24 : decode cM_power 24 = .ok (.lload 6, 2) := by decide +kernel
theorem dM_power_26 : decode cM_power 26 = .ok (.lmul, 1) := by decide +kernel
theorem dM_power_27 : decode cM_power 27 = .ok (.lload 4, 2) := by decide +kernel
theorem dM_power_29 : decode cM_power 29 = .ok (.lrem, 1) := by decide +kernel
theorem dM_power_30 : decode cM_power 30 = .ok (.lstore 6, 2) := by decide +kernel
theorem dM_power_32 : decode cM_power 32 = .ok (.lload_n 2, 1) := by decide +kernel
theorem dM_power_33 : decode cM_power 33 = .ok (.iload 8, 2) := by decide +kernel
theorem dM_power_35 : decode cM_power 35 = .ok (.lshr, 1) := by decide +kernel
theorem dM_power_36 : decode cM_power 36 = .ok (.ldc2_w 66, 3) := by decide +kernel
theorem dM_power_39 : decode cM_power 39 = .ok (.land, 1) := by decide +kernel
theorem dM_power_40 : decode cM_power 40 = .ok (.lstore 9, 2) := by decide +kernel
theorem dM_power_42 : decode cM_power 42 = .ok (.lload 9, 2) := by decide +kernel
theorem dM_power_44 : decode cM_power 44 = .ok (.lconst 0, 1) := by decide +kernel
theorem dM_power_45 : decode cM_power 45 = .ok (.lcmp, 1) := by decide +kernel
theorem dM_power_46 : decode cM_power 46 = .ok (.ifCond .le 21, 3) := by decide +kernel
theorem dM_power_49 : decode cM_power 49 = .ok (.lload 6, 2) := by decide +kernel
theorem dM_power_51 : decode cM_power 51 = .ok (.lload_n 0, 1) := by decide +kernel
theorem dM_power_52 : decode cM_power 52 = .ok (.lmul, 1) := by decide +kernel
theorem dM_power_53 : decode cM_power 53 = .ok (.lload 4, 2) := by decide +kernel
theorem dM_power_55 : decode cM_power 55 = .ok (.lrem, 1) := by decide +kernel
theorem dM_power_56 : decode cM_power 56 = .ok (.lstore 6, 2) := by decide +kernel
theorem dM_power_58 : decode cM_power 58 = .ok (.lload 9, 2) := by decide +kernel
theorem dM_power_60 : decode cM_power 60 = .ok (.lconst 1, 1) := by decide +kernel
theorem dM_power_61 : decode cM_power 61 = .ok (.lsub, 1) := by decide +kernel
theorem dM_power_62 : decode cM_power 62 = .ok (.lstore 9, 2) := by decide +kernel
theorem dM_power_64 : decode cM_power 64 = .ok (.goto (-22), 3) := by decide +kernel
theorem dM_power_67 : decode cM_power 67 = .ok (.iinc 8 (-2), 3) := by decide +kernel
theorem dM_power_70 : decode cM_power 70 = .ok (.goto (-63), 3) := by decide +kernel
theorem dM_power_73 : decode cM_power 73 = .ok (.lload 6, 2) := by decide +kernel
theorem dM_power_75 : decode cM_power 75 = .ok (.lreturn, 1) := by decide +kernel
-- M_isNumber
theorem dM_isNumber_0 : decode cM_isNumber 0 = .ok (.lload_n 0, 1) := by decide +kernel
theorem dM_isNumber_1 : decode cM_isNumber 1 = .ok (.lconst 0, 1) := by decide +kernel
theorem dM_isNumber_2 : decode cM_isNumber 2 = .ok (.lcmp, 1) := by decide +kernel
theorem dM_isNumber_3 : decode cM_isNumber 3 = .ok (.ifCond .lt 15, 3) := by decide +kernel
theorem dM_isNumber_6 : decode cM_isNumber 6 = .ok (.lload_n 0, 1) := by decide +kernel
theorem dM_isNumber_7 : decode cM_isNumber 7 = .ok (.ldc2_w 68, 3) := by decide +kernel
theorem dM_isNumber_10 : decode cM_isNumber 10 = .ok (.lcmp, 1) := by decide +kernel
theorem dM_isNumber_11 : decode cM_isNumber 11 = .ok (.ifCond .ge 7, 3) := by decide +kernel
theorem dM_isNumber_14 : decode cM_isNumber 14 = .ok (.iconst 1, 1) := by decide +kernel
theorem dM_isNumber_15 : decode cM_isNumber 15 = .ok (.goto 4, 3) := by decide +kernel
theorem dM_isNumber_18 : decode cM_isNumber 18 = .ok (.iconst 0, 1) := by decide +kernel
theorem dM_isNumber_19 : decode cM_isNumber 19 = .ok (.ireturn, 1) := by decide +kernel
-- M_begins
theorem dM_begins_0 : decode cM_begins 0 = .ok (.aload_n 0, 1) := by decide +kernel
theorem dM_begins_1 : decode cM_begins 1 = .ok (.lconst 0, 1) := by decide +kernel
theorem dM_begins_2 : decode cM_begins 2 = .ok (.putfield 70, 3) := by decide +kernel
theorem dM_begins_5 : decode cM_begins 5 = .ok (.aload_n 0, 1) := by decide +kernel
theorem dM_begins_6 : decode cM_begins 6 = .ok (.lload_n 1, 1) := by decide +kernel
theorem dM_begins_7 : decode cM_begins 7 = .ok (.invokevirtual 74, 3) := by decide +kernel
theorem dM_begins_10 : decode cM_begins 10 = .ok (.return_, 1) := by decide +kernel
-- M_mix
theorem dM_mix_0 : decode cM_mix 0 = .ok (.aload_n 0, 1) := by decide +kernel
theorem dM_mix_1 : decode cM_mix 1 = .ok (.getfield 70, 3) := by decide +kernel
theorem dM_mix_4 : decode cM_mix 4 = .ok (.lload_n 1, 1) := by decide +kernel
theorem dM_mix_5 : decode cM_mix 5 = .ok (.lxor, 1) := by decide +kernel
theorem dM_mix_6 : decode cM_mix 6 = .ok (.ldc2_w 78, 3) := by decide +kernel
theorem dM_mix_9 : decode cM_mix 9 = .ok (.lmul, 1) := by decide +kernel
theorem dM_mix_10 : decode cM_mix 10 = .ok (.lstore_n 3, 1) := by decide +kernel
theorem dM_mix_11 : decode cM_mix 11 = .ok (.aload_n 0, 1) := by decide +kernel
theorem dM_mix_12 : decode cM_mix 12 = .ok (.lload_n 3, 1) := by decide +kernel
theorem dM_mix_13 : decode cM_mix 13 = .ok (.lload_n 3, 1) := by decide +kernel
theorem dM_mix_14 : decode cM_mix 14 = .ok (.bipush 31, 2) := by decide +kernel
theorem dM_mix_16 : decode cM_mix 16 = .ok (.lushr, 1) := by decide +kernel
theorem dM_mix_17 : decode cM_mix 17 = .ok (.lxor, 1) := by decide +kernel
theorem dM_mix_18 : decode cM_mix 18 = .ok (.putfield 70, 3) := by decide +kernel
theorem dM_mix_21 : decode cM_mix 21 = .ok (.return_, 1) := by decide +kernel
-- M_digest
theorem dM_digest_0 : decode cM_digest 0 = .ok (.aload_n 0, 1) := by decide +kernel
theorem dM_digest_1 : decode cM_digest 1 = .ok (.getfield 70, 3) := by decide +kernel
theorem dM_digest_4 : decode cM_digest 4 = .ok (.iconst 1, 1) := by decide +kernel
theorem dM_digest_5 : decode cM_digest 5 = .ok (.lushr, 1) := by decide +kernel
theorem dM_digest_6 : decode cM_digest 6 = .ok (.ldc2_w 68, 3) := by decide +kernel
theorem dM_digest_9 : decode cM_digest 9 = .ok (.lrem, 1) := by decide +kernel
theorem dM_digest_10 : decode cM_digest 10 = .ok (.lreturn, 1) := by decide +kernel
-- M_pairNumber
theorem dM_pairNumber_0 : decode cM_pairNumber 0 = .ok (.aload_n 0, 1) := by decide +kernel
theorem dM_pairNumber_1 : decode cM_pairNumber 1 = .ok (.lload_n 1, 1) := by decide +kernel
theorem dM_pairNumber_2 : decode cM_pairNumber 2 = .ok (.invokevirtual 80, 3) := by decide +kernel
theorem dM_pairNumber_5 : decode cM_pairNumber 5 = .ok (.aload_n 0, 1) := by decide +kernel
theorem dM_pairNumber_6 : decode cM_pairNumber 6 = .ok (.lload_n 3, 1) := by decide +kernel
theorem dM_pairNumber_7 : decode cM_pairNumber 7 = .ok (.invokevirtual 74, 3) := by decide +kernel
theorem dM_pairNumber_10 : decode cM_pairNumber 10 = .ok (.aload_n 0, 1) := by decide +kernel
theorem dM_pairNumber_11 : decode cM_pairNumber 11 = .ok (.iload 5, 2) := by decide +kernel
theorem dM_pairNumber_13 : decode cM_pairNumber 13 = .ok (.i2l, 1) := by decide +kernel
theorem dM_pairNumber_14 : decode cM_pairNumber 14 = .ok (.invokevirtual 74, 3) := by decide +kernel
theorem dM_pairNumber_17 : decode cM_pairNumber 17 = .ok (.aload_n 0, 1) := by decide +kernel
theorem dM_pairNumber_18 : decode cM_pairNumber 18 = .ok (.invokevirtual 83, 3) := by decide +kernel
theorem dM_pairNumber_21 : decode cM_pairNumber 21 = .ok (.lreturn, 1) := by decide +kernel
-- M_challengeOf
theorem dM_challengeOf_0 : decode cM_challengeOf 0 = .ok (.aload_n 0, 1) := by decide +kernel
theorem dM_challengeOf_1 : decode cM_challengeOf 1 = .ok (.ldc2_w 87, 3) := by decide +kernel
theorem dM_challengeOf_4 : decode cM_challengeOf 4 = .ok (.invokevirtual 80, 3) := by decide +kernel
theorem dM_challengeOf_7 : decode cM_challengeOf 7 = .ok (.aload_n 0, 1) := by decide +kernel
theorem dM_challengeOf_8 : decode cM_challengeOf 8 = .ok (.lload_n 1, 1) := by decide +kernel
theorem dM_challengeOf_9 : decode cM_challengeOf 9 = .ok (.invokevirtual 74, 3) := by decide +kernel
theorem dM_challengeOf_12 : decode cM_challengeOf 12 = .ok (.aload_n 0, 1) := by decide +kernel
theorem dM_challengeOf_13 : decode cM_challengeOf 13 = .ok (.aload_n 0, 1) := by decide +kernel
theorem dM_challengeOf_14 : decode cM_challengeOf 14 = .ok (.getfield 13, 3) := by decide +kernel
theorem dM_challengeOf_17 : decode cM_challengeOf 17 = .ok (.iconst 0, 1) := by decide +kernel
theorem dM_challengeOf_18 : decode cM_challengeOf 18 = .ok (.laload, 1) := by decide +kernel
theorem dM_challengeOf_19 : decode cM_challengeOf 19 = .ok (.invokevirtual 74, 3) := by decide +kernel
theorem dM_challengeOf_22 : decode cM_challengeOf 22 = .ok (.aload_n 0, 1) := by decide +kernel
theorem dM_challengeOf_23 : decode cM_challengeOf 23 = .ok (.lload_n 3, 1) := by decide +kernel
theorem dM_challengeOf_24 : decode cM_challengeOf 24 = .ok (.invokevirtual 74, 3) := by decide +kernel
theorem dM_challengeOf_27 : decode cM_challengeOf 27 = .ok (.aload_n 0, 1) := by decide +kernel
theorem dM_challengeOf_28 : decode cM_challengeOf 28 = .ok (.invokevirtual 83, 3) := by decide +kernel
theorem dM_challengeOf_31 : decode cM_challengeOf 31 = .ok (.lreturn, 1) := by decide +kernel
-- M_isSigner
theorem dM_isSigner_0 : decode cM_isSigner 0 = .ok (.iload_n 1, 1) := by decide +kernel
theorem dM_isSigner_1 : decode cM_isSigner 1 = .ok (.iconst 1, 1) := by decide +kernel
theorem dM_isSigner_2 : decode cM_isSigner 2 = .ok (.if_icmp .lt 15, 3) := by decide +kernel
theorem dM_isSigner_5 : decode cM_isSigner 5 = .ok (.iload_n 1, 1) := by decide +kernel
theorem dM_isSigner_6 : decode cM_isSigner 6 = .ok (.aload_n 0, 1) := by decide +kernel
theorem dM_isSigner_7 : decode cM_isSigner 7 = .ok (.getfield 56, 3) := by decide +kernel
theorem dM_isSigner_10 : decode cM_isSigner 10 = .ok (.if_icmp .gt 7, 3) := by decide +kernel
theorem dM_isSigner_13 : decode cM_isSigner 13 = .ok (.iconst 1, 1) := by decide +kernel
theorem dM_isSigner_14 : decode cM_isSigner 14 = .ok (.goto 4, 3) := by decide +kernel
theorem dM_isSigner_17 : decode cM_isSigner 17 = .ok (.iconst 0, 1) := by decide +kernel
theorem dM_isSigner_18 : decode cM_isSigner 18 = .ok (.ireturn, 1) := by decide +kernel
-- M_in
theorem dM_in_0 : decode cM_in 0 = .ok (.iload_n 0, 1) := by decide +kernel
theorem dM_in_1 : decode cM_in 1 = .ok (.iload_n 1, 1) := by decide +kernel
theorem dM_in_2 : decode cM_in 2 = .ok (.iconst 1, 1) := by decide +kernel
theorem dM_in_3 : decode cM_in 3 = .ok (.isub, 1) := by decide +kernel
theorem dM_in_4 : decode cM_in 4 = .ok (.ishr, 1) := by decide +kernel
theorem dM_in_5 : decode cM_in 5 = .ok (.iconst 1, 1) := by decide +kernel
theorem dM_in_6 : decode cM_in 6 = .ok (.iand, 1) := by decide +kernel
theorem dM_in_7 : decode cM_in 7 = .ok (.iconst 1, 1) := by decide +kernel
theorem dM_in_8 : decode cM_in 8 = .ok (.if_icmp .ne 7, 3) := by decide +kernel
theorem dM_in_11 : decode cM_in 11 = .ok (.iconst 1, 1) := by decide +kernel
theorem dM_in_12 : decode cM_in 12 = .ok (.goto 4, 3) := by decide +kernel
theorem dM_in_15 : decode cM_in 15 = .ok (.iconst 0, 1) := by decide +kernel
theorem dM_in_16 : decode cM_in 16 = .ok (.ireturn, 1) := by decide +kernel
-- M_isSet
theorem dM_isSet_0 : decode cM_isSet 0 = .ok (.iconst 0, 1) := by decide +kernel
theorem dM_isSet_1 : decode cM_isSet 1 = .ok (.istore_n 2, 1) := by decide +kernel
theorem dM_isSet_2 : decode cM_isSet 2 = .ok (.iconst 1, 1) := by decide +kernel
theorem dM_isSet_3 : decode cM_isSet 3 = .ok (.istore_n 3, 1) := by decide +kernel
theorem dM_isSet_4 : decode cM_isSet 4 = .ok (.iload_n 3, 1) := by decide +kernel
theorem dM_isSet_5 : decode cM_isSet 5 = .ok (.aload_n 0, 1) := by decide +kernel
theorem dM_isSet_6 : decode cM_isSet 6 = .ok (.getfield 56, 3) := by decide +kernel
theorem dM_isSet_9 : decode cM_isSet 9 = .ok (.if_icmp .gt 25, 3) := by decide +kernel
theorem dM_isSet_12 : decode cM_isSet 12 = .ok (.iload_n 1, 1) := by decide +kernel
theorem dM_isSet_13 : decode cM_isSet 13 = .ok (.iload_n 3, 1) := by decide +kernel
theorem dM_isSet_14 : decode cM_isSet 14 = .ok (.invokestatic 89, 3) := by decide +kernel
theorem dM_isSet_17 : decode cM_isSet 17 = .ok (.ifCond .eq 9, 3) := by decide +kernel
theorem dM_isSet_20 : decode cM_isSet 20 = .ok (.iload_n 2, 1) := by decide +kernel
theorem dM_isSet_21 : decode cM_isSet 21 = .ok (.iconst 1, 1) := by decide +kernel
theorem dM_isSet_22 : decode cM_isSet 22 = .ok (.iadd, 1) := by decide +kernel
theorem dM_isSet_23 : decode cM_isSet 23 = .ok (.goto 4, 3) := by decide +kernel
theorem dM_isSet_26 : decode cM_isSet 26 = .ok (.iload_n 2, 1) := by decide +kernel
theorem dM_isSet_27 : decode cM_isSet 27 = .ok (.istore_n 2, 1) := by decide +kernel
theorem dM_isSet_28 : decode cM_isSet 28 = .ok (.iinc 3 1, 3) := by decide +kernel
theorem dM_isSet_31 : decode cM_isSet 31 = .ok (.goto (-27), 3) := by decide +kernel
theorem dM_isSet_34 : decode cM_isSet 34 = .ok (.iload_n 1, 1) := by decide +kernel
theorem dM_isSet_35 : decode cM_isSet 35 = .ok (.ifCond .lt 25, 3) := by decide +kernel
theorem dM_isSet_38 : decode cM_isSet 38 = .ok (.iload_n 1, 1) := by decide +kernel
theorem dM_isSet_39 : decode cM_isSet 39 = .ok (.iconst 1, 1) := by decide +kernel
theorem dM_isSet_40 : decode cM_isSet 40 = .ok (.aload_n 0, 1) := by decide +kernel
theorem dM_isSet_41 : decode cM_isSet 41 = .ok (.getfield 56, 3) := by decide +kernel
theorem dM_isSet_44 : decode cM_isSet 44 = .ok (.ishl, 1) := by decide +kernel
theorem dM_isSet_45 : decode cM_isSet 45 = .ok (.if_icmp .ge 15, 3) := by decide +kernel
theorem dM_isSet_48 : decode cM_isSet 48 = .ok (.iload_n 2, 1) := by decide +kernel
theorem dM_isSet_49 : decode cM_isSet 49 = .ok (.aload_n 0, 1) := by decide +kernel
theorem dM_isSet_50 : decode cM_isSet 50 = .ok (.getfield 60, 3) := by decide +kernel
theorem dM_isSet_53 : decode cM_isSet 53 = .ok (.if_icmp .lt 7, 3) := by decide +kernel
theorem dM_isSet_56 : decode cM_isSet 56 = .ok (.iconst 1, 1) := by decide +kernel
theorem dM_isSet_57 : decode cM_isSet 57 = .ok (.goto 4, 3) := by decide +kernel
theorem dM_isSet_60 : decode cM_isSet 60 = .ok (.iconst 0, 1) := by decide +kernel
theorem dM_isSet_61 : decode cM_isSet 61 = .ok (.ireturn, 1) := by decide +kernel
-- M_weightIn
theorem dM_weightIn_0 : decode cM_weightIn 0 = .ok (.lconst 1, 1) := by decide +kernel
theorem dM_weightIn_1 : decode cM_weightIn 1 = .ok (.lstore_n 3, 1) := by decide +kernel
theorem dM_weightIn_2 : decode cM_weightIn 2 = .ok (.lconst 1, 1) := by decide +kernel
theorem dM_weightIn_3 : decode cM_weightIn 3 = .ok (.lstore 5, 2) := by decide +kernel
theorem dM_weightIn_5 : decode cM_weightIn 5 = .ok (.iconst 1, 1) := by decide +kernel
theorem dM_weightIn_6 : decode cM_weightIn 6 = .ok (.istore 7, 2) := by decide +kernel
theorem dM_weightIn_8 : decode cM_weightIn 8 = .ok (.iload 7, 2) := by decide +kernel
theorem dM_weightIn_10 : decode cM_weightIn 10 = .ok (.aload_n 0, 1) := by decide +kernel
theorem dM_weightIn_11 : decode cM_weightIn 11 = .ok (.getfield 56, 3) := by decide +kernel
theorem dM_weightIn_14 : decode cM_weightIn 14 = .ok (.if_icmp .gt 56, 3) := by decide +kernel
theorem dM_weightIn_17 : decode cM_weightIn 17 = .ok (.iload_n 1, 1) := by decide +kernel
theorem dM_weightIn_18 : decode cM_weightIn 18 = .ok (.iload 7, 2) := by decide +kernel
theorem dM_weightIn_20 : decode cM_weightIn 20 = .ok (.invokestatic 89, 3) := by decide +kernel
theorem dM_weightIn_23 : decode cM_weightIn 23 = .ok (.ifCond .eq 41, 3) := by decide +kernel
theorem dM_weightIn_26 : decode cM_weightIn 26 = .ok (.iload 7, 2) := by decide +kernel
theorem dM_weightIn_28 : decode cM_weightIn 28 = .ok (.iload_n 2, 1) := by decide +kernel
theorem dM_weightIn_29 : decode cM_weightIn 29 = .ok (.if_icmp .eq 35, 3) := by decide +kernel
theorem dM_weightIn_32 : decode cM_weightIn 32 = .ok (.lload_n 3, 1) := by decide +kernel
theorem dM_weightIn_33 : decode cM_weightIn 33 = .ok (.iload 7, 2) := by decide +kernel
theorem dM_weightIn_35 : decode cM_weightIn 35 = .ok (.i2l, 1) := by decide +kernel
theorem dM_weightIn_36 : decode cM_weightIn 36 = .ok (.lmul, 1) := by decide +kernel
theorem dM_weightIn_37 : decode cM_weightIn 37 = .ok (.ldc2_w 68, 3) := by decide +kernel
theorem dM_weightIn_40 : decode cM_weightIn 40 = .ok (.lrem, 1) := by decide +kernel
theorem dM_weightIn_41 : decode cM_weightIn 41 = .ok (.lstore_n 3, 1) := by decide +kernel
theorem dM_weightIn_42 : decode cM_weightIn 42 = .ok (.lload 5, 2) := by decide +kernel
theorem dM_weightIn_44 : decode cM_weightIn 44 = .ok (.iload 7, 2) := by decide +kernel
theorem dM_weightIn_46 : decode cM_weightIn 46 = .ok (.iload_n 2, 1) := by decide +kernel
theorem dM_weightIn_47 : decode cM_weightIn 47 = .ok (.isub, 1) := by decide +kernel
theorem dM_weightIn_48 : decode cM_weightIn 48 = .ok (.i2l, 1) := by decide +kernel
theorem dM_weightIn_49 : decode cM_weightIn 49 = .ok (.ldc2_w 68, 3) := by decide +kernel
theorem dM_weightIn_52 : decode cM_weightIn 52 = .ok (.ladd, 1) := by decide +kernel
theorem dM_weightIn_53 : decode cM_weightIn 53 = .ok (.ldc2_w 68, 3) := by decide +kernel
theorem dM_weightIn_56 : decode cM_weightIn 56 = .ok (.lrem, 1) := by decide +kernel
theorem dM_weightIn_57 : decode cM_weightIn 57 = .ok (.lmul, 1) := by decide +kernel
theorem dM_weightIn_58 : decode cM_weightIn 58 = .ok (.ldc2_w 68, 3) := by decide +kernel
theorem dM_weightIn_61 : decode cM_weightIn 61 = .ok (.lrem, 1) := by decide +kernel
theorem dM_weightIn_62 : decode cM_weightIn 62 = .ok (.lstore 5, 2) := by decide +kernel
theorem dM_weightIn_64 : decode cM_weightIn 64 = .ok (.iinc 7 1, 3) := by decide +kernel
theorem dM_weightIn_67 : decode cM_weightIn 67 = .ok (.goto (-59), 3) := by decide +kernel
theorem dM_weightIn_70 : decode cM_weightIn 70 = .ok (.lload_n 3, 1) := by decide +kernel
theorem dM_weightIn_71 : decode cM_weightIn 71 = .ok (.lload 5, 2) := by decide +kernel
theorem dM_weightIn_73 : decode cM_weightIn 73 = .ok (.ldc2_w 93, 3) := by decide +kernel
theorem dM_weightIn_76 : decode cM_weightIn 76 = .ok (.ldc2_w 68, 3) := by decide +kernel
theorem dM_weightIn_79 : decode cM_weightIn 79 = .ok (.invokestatic 95, 3) := by decide +kernel
theorem dM_weightIn_82 : decode cM_weightIn 82 = .ok (.lmul, 1) := by decide +kernel
theorem dM_weightIn_83 : decode cM_weightIn 83 = .ok (.ldc2_w 68, 3) := by decide +kernel
theorem dM_weightIn_86 : decode cM_weightIn 86 = .ok (.lrem, 1) := by decide +kernel
theorem dM_weightIn_87 : decode cM_weightIn 87 = .ok (.lreturn, 1) := by decide +kernel
-- M_deal
theorem dM_deal_0 : decode cM_deal 0 = .ok (.aload_n 0, 1) := by decide +kernel
theorem dM_deal_1 : decode cM_deal 1 = .ok (.iconst 0, 1) := by decide +kernel
theorem dM_deal_2 : decode cM_deal 2 = .ok (.putfield 63, 3) := by decide +kernel
theorem dM_deal_5 : decode cM_deal 5 = .ok (.iconst 0, 1) := by decide +kernel
theorem dM_deal_6 : decode cM_deal 6 = .ok (.istore_n 3, 1) := by decide +kernel
theorem dM_deal_7 : decode cM_deal 7 = .ok (.iload_n 3, 1) := by decide +kernel
theorem dM_deal_8 : decode cM_deal 8 = .ok (.aload_n 0, 1) := by decide +kernel
theorem dM_deal_9 : decode cM_deal 9 = .ok (.getfield 56, 3) := by decide +kernel
theorem dM_deal_12 : decode cM_deal 12 = .ok (.if_icmp .gt 109, 3) := by decide +kernel
theorem dM_deal_15 : decode cM_deal 15 = .ok (.lconst 0, 1) := by decide +kernel
theorem dM_deal_16 : decode cM_deal 16 = .ok (.lstore 4, 2) := by decide +kernel
theorem dM_deal_18 : decode cM_deal 18 = .ok (.lconst 1, 1) := by decide +kernel
theorem dM_deal_19 : decode cM_deal 19 = .ok (.lstore 6, 2) := by decide +kernel
theorem dM_deal_21 : decode cM_deal 21 = .ok (.iconst 0, 1) := by decide +kernel
theorem dM_deal_22 : decode cM_deal 22 = .ok (.istore 8, 2) := by decide +kernel
theorem dM_deal_24 : decode cM_deal 24 = .ok (.iload 8, 2) := by decide +kernel
theorem dM_deal_26 : decode cM_deal 26 = .ok (.aload_n 0, 1) := by decide +kernel
theorem dM_deal_27 : decode cM_deal 27 = .ok (.getfield 60, 3) := by decide +kernel
theorem dM_deal_30 : decode cM_deal 30 = .ok (.if_icmp .ge 53, 3) := by decide +kernel
theorem dM_deal_33 : decode cM_deal 33 = .ok (.aload_n 0, 1) := by decide +kernel
theorem dM_deal_34 : decode cM_deal 34 = .ok (.lconst 1, 1) := by decide +kernel
theorem dM_deal_35 : decode cM_deal 35 = .ok (.invokevirtual 80, 3) := by decide +kernel
theorem dM_deal_38 : decode cM_deal 38 = .ok (.aload_n 0, 1) := by decide +kernel
theorem dM_deal_39 : decode cM_deal 39 = .ok (.lload_n 1, 1) := by decide +kernel
theorem dM_deal_40 : decode cM_deal 40 = .ok (.invokevirtual 74, 3) := by decide +kernel
theorem dM_deal_43 : decode cM_deal 43 = .ok (.aload_n 0, 1) := by decide +kernel
theorem dM_deal_44 : decode cM_deal 44 = .ok (.iload 8, 2) := by decide +kernel
theorem dM_deal_46 : decode cM_deal 46 = .ok (.i2l, 1) := by decide +kernel
theorem dM_deal_47 : decode cM_deal 47 = .ok (.invokevirtual 74, 3) := by decide +kernel
theorem dM_deal_50 : decode cM_deal 50 = .ok (.lload 4, 2) := by decide +kernel
theorem dM_deal_52 : decode cM_deal 52 = .ok (.aload_n 0, 1) := by decide +kernel
theorem dM_deal_53 : decode cM_deal 53 = .ok (.invokevirtual 83, 3) := by decide +kernel
theorem dM_deal_56 : decode cM_deal 56 = .ok (.lload 6, 2) := by decide +kernel
theorem dM_deal_58 : decode cM_deal 58 = .ok (.lmul, 1) := by decide +kernel
theorem dM_deal_59 : decode cM_deal 59 = .ok (.ladd, 1) := by decide +kernel
theorem dM_deal_60 : decode cM_deal 60 = .ok (.ldc2_w 68, 3) := by decide +kernel
theorem dM_deal_63 : decode cM_deal 63 = .ok (.lrem, 1) := by decide +kernel
theorem dM_deal_64 : decode cM_deal 64 = .ok (.lstore 4, 2) := by decide +kernel
theorem dM_deal_66 : decode cM_deal 66 = .ok (.lload 6, 2) := by decide +kernel
theorem dM_deal_68 : decode cM_deal 68 = .ok (.iload_n 3, 1) := by decide +kernel
theorem dM_deal_69 : decode cM_deal 69 = .ok (.i2l, 1) := by decide +kernel
theorem dM_deal_70 : decode cM_deal 70 = .ok (.lmul, 1) := by decide +kernel
theorem dM_deal_71 : decode cM_deal 71 = .ok (.ldc2_w 68, 3) := by decide +kernel
theorem dM_deal_74 : decode cM_deal 74 = .ok (.lrem, 1) := by decide +kernel
theorem dM_deal_75 : decode cM_deal 75 = .ok (.lstore 6, 2) := by decide +kernel
theorem dM_deal_77 : decode cM_deal 77 = .ok (.iinc 8 1, 3) := by decide +kernel
theorem dM_deal_80 : decode cM_deal 80 = .ok (.goto (-56), 3) := by decide +kernel
theorem dM_deal_83 : decode cM_deal 83 = .ok (.aload_n 0, 1) := by decide +kernel
theorem dM_deal_84 : decode cM_deal 84 = .ok (.getfield 7, 3) := by decide +kernel
theorem dM_deal_87 : decode cM_deal 87 = .ok (.iload_n 3, 1) := by decide +kernel
theorem dM_deal_88 : decode cM_deal 88 = .ok (.lload 4, 2) := by decide +kernel
theorem dM_deal_90 : decode cM_deal 90 = .ok (.lastore, 1) := by decide +kernel
theorem dM_deal_91 : decode cM_deal 91 = .ok (.aload_n 0, 1) := by decide +kernel
theorem dM_deal_92 : decode cM_deal 92 = .ok (.getfield 13, 3) := by decide +kernel
theorem dM_deal_95 : decode cM_deal 95 = .ok (.iload_n 3, 1) := by decide +kernel
theorem dM_deal_96 : decode cM_deal 96 = .ok (.ldc2_w 99, 3) := by decide +kernel
theorem dM_deal_99 : decode cM_deal 99 = .ok (.lload 4, 2) := by decide +kernel
theorem dM_deal_101 : decode cM_deal 101 = .ok (.ldc2_w 101, 3) := by decide +kernel
theorem dM_deal_104 : decode cM_deal 104 = .ok (.invokestatic 95, 3) := by decide +kernel
theorem dM_deal_107 : decode cM_deal 107 = .ok (.lastore, 1) := by decide +kernel
theorem dM_deal_108 : decode cM_deal 108 = .ok (.aload_n 0, 1) := by decide +kernel
theorem dM_deal_109 : decode cM_deal 109 = .ok (.getfield 16, 3) := by decide +kernel
theorem dM_deal_112 : decode cM_deal 112 = .ok (.iload_n 3, 1) := by decide +kernel
theorem dM_deal_113 : decode cM_deal 113 = .ok (.iconst 0, 1) := by decide +kernel
theorem dM_deal_114 : decode cM_deal 114 = .ok (.bastore, 1) := by decide +kernel
theorem dM_deal_115 : decode cM_deal 115 = .ok (.iinc 3 1, 3) := by decide +kernel
theorem dM_deal_118 : decode cM_deal 118 = .ok (.goto (-111), 3) := by decide +kernel
theorem dM_deal_121 : decode cM_deal 121 = .ok (.aload_n 0, 1) := by decide +kernel
theorem dM_deal_122 : decode cM_deal 122 = .ok (.iconst 1, 1) := by decide +kernel
theorem dM_deal_123 : decode cM_deal 123 = .ok (.putfield 103, 3) := by decide +kernel
theorem dM_deal_126 : decode cM_deal 126 = .ok (.aload_n 0, 1) := by decide +kernel
theorem dM_deal_127 : decode cM_deal 127 = .ok (.iconst 0, 1) := by decide +kernel
theorem dM_deal_128 : decode cM_deal 128 = .ok (.putfield 107, 3) := by decide +kernel
theorem dM_deal_131 : decode cM_deal 131 = .ok (.aload_n 0, 1) := by decide +kernel
theorem dM_deal_132 : decode cM_deal 132 = .ok (.iconst 0, 1) := by decide +kernel
theorem dM_deal_133 : decode cM_deal 133 = .ok (.putfield 110, 3) := by decide +kernel
theorem dM_deal_136 : decode cM_deal 136 = .ok (.aload_n 0, 1) := by decide +kernel
theorem dM_deal_137 : decode cM_deal 137 = .ok (.iconst 0, 1) := by decide +kernel
theorem dM_deal_138 : decode cM_deal 138 = .ok (.putfield 113, 3) := by decide +kernel
theorem dM_deal_141 : decode cM_deal 141 = .ok (.aload_n 0, 1) := by decide +kernel
theorem dM_deal_142 : decode cM_deal 142 = .ok (.getfield 13, 3) := by decide +kernel
theorem dM_deal_145 : decode cM_deal 145 = .ok (.iconst 0, 1) := by decide +kernel
theorem dM_deal_146 : decode cM_deal 146 = .ok (.laload, 1) := by decide +kernel
theorem dM_deal_147 : decode cM_deal 147 = .ok (.lreturn, 1) := by decide +kernel
-- M_commit
theorem dM_commit_0 : decode cM_commit 0 = .ok (.aload_n 0, 1) := by decide +kernel
theorem dM_commit_1 : decode cM_commit 1 = .ok (.aload_n 0, 1) := by decide +kernel
theorem dM_commit_2 : decode cM_commit 2 = .ok (.iload_n 1, 1) := by decide +kernel
theorem dM_commit_3 : decode cM_commit 3 = .ok (.invokevirtual 116, 3) := by decide +kernel
theorem dM_commit_6 : decode cM_commit 6 = .ok (.ifCond .ne 7, 3) := by decide +kernel
theorem dM_commit_9 : decode cM_commit 9 = .ok (.iconst 1, 1) := by decide +kernel
theorem dM_commit_10 : decode cM_commit 10 = .ok (.goto 15, 3) := by decide +kernel
theorem dM_commit_13 : decode cM_commit 13 = .ok (.aload_n 0, 1) := by decide +kernel
theorem dM_commit_14 : decode cM_commit 14 = .ok (.getfield 103, 3) := by decide +kernel
theorem dM_commit_17 : decode cM_commit 17 = .ok (.ifCond .ne 7, 3) := by decide +kernel
theorem dM_commit_20 : decode cM_commit 20 = .ok (.iconst 2, 1) := by decide +kernel
theorem dM_commit_21 : decode cM_commit 21 = .ok (.goto 4, 3) := by decide +kernel
theorem dM_commit_24 : decode cM_commit 24 = .ok (.iconst 0, 1) := by decide +kernel
theorem dM_commit_25 : decode cM_commit 25 = .ok (.putfield 63, 3) := by decide +kernel
theorem dM_commit_28 : decode cM_commit 28 = .ok (.aload_n 0, 1) := by decide +kernel
theorem dM_commit_29 : decode cM_commit 29 = .ok (.getfield 63, 3) := by decide +kernel
theorem dM_commit_32 : decode cM_commit 32 = .ok (.ifCond .eq 5, 3) := by decide +kernel
theorem dM_commit_35 : decode cM_commit 35 = .ok (.lconst 0, 1) := by decide +kernel
theorem dM_commit_36 : decode cM_commit 36 = .ok (.lreturn, 1) := by decide +kernel
theorem dM_commit_37 : decode cM_commit 37 = .ok (.aload_n 0, 1) := by decide +kernel
theorem dM_commit_38 : decode cM_commit 38 = .ok (.getfield 16, 3) := by decide +kernel
theorem dM_commit_41 : decode cM_commit 41 = .ok (.iload_n 1, 1) := by decide +kernel
theorem dM_commit_42 : decode cM_commit 42 = .ok (.iconst 1, 1) := by decide +kernel
theorem dM_commit_43 : decode cM_commit 43 = .ok (.bastore, 1) := by decide +kernel
theorem dM_commit_44 : decode cM_commit 44 = .ok (.aload_n 0, 1) := by decide +kernel
theorem dM_commit_45 : decode cM_commit 45 = .ok (.getfield 44, 3) := by decide +kernel
theorem dM_commit_48 : decode cM_commit 48 = .ok (.iload_n 1, 1) := by decide +kernel
theorem dM_commit_49 : decode cM_commit 49 = .ok (.iconst 0, 1) := by decide +kernel
theorem dM_commit_50 : decode cM_commit 50 = .ok (.bastore, 1) := by decide +kernel
theorem dM_commit_51 : decode cM_commit 51 = .ok (.aload_n 0, 1) := by decide +kernel
theorem dM_commit_52 : decode cM_commit 52 = .ok (.getfield 20, 3) := by decide +kernel
theorem dM_commit_55 : decode cM_commit 55 = .ok (.iload_n 1, 1) := by decide +kernel
theorem dM_commit_56 : decode cM_commit 56 = .ok (.aload_n 0, 1) := by decide +kernel
theorem dM_commit_57 : decode cM_commit 57 = .ok (.ldc2_w 120, 3) := by decide +kernel
theorem dM_commit_60 : decode cM_commit 60 = .ok (.lload_n 2, 1) := by decide +kernel
theorem dM_commit_61 : decode cM_commit 61 = .ok (.iload_n 1, 1) := by decide +kernel
theorem dM_commit_62 : decode cM_commit 62 = .ok (.invokevirtual 122, 3) := by decide +kernel
theorem dM_commit_65 : decode cM_commit 65 = .ok (.lastore, 1) := by decide +kernel
theorem dM_commit_66 : decode cM_commit 66 = .ok (.aload_n 0, 1) := by decide +kernel
theorem dM_commit_67 : decode cM_commit 67 = .ok (.getfield 23, 3) := by decide +kernel
theorem dM_commit_70 : decode cM_commit 70 = .ok (.iload_n 1, 1) := by decide +kernel
theorem dM_commit_71 : decode cM_commit 71 = .ok (.aload_n 0, 1) := by decide +kernel
theorem dM_commit_72 : decode cM_commit 72 = .ok (.ldc2_w 66, 3) := by decide +kernel
theorem dM_commit_75 : decode cM_commit 75 = .ok (.lload_n 2, 1) := by decide +kernel
theorem dM_commit_76 : decode cM_commit 76 = .ok (.iload_n 1, 1) := by decide +kernel
theorem dM_commit_77 : decode cM_commit 77 = .ok (.invokevirtual 122, 3) := by decide +kernel
theorem dM_commit_80 : decode cM_commit 80 = .ok (.lastore, 1) := by decide +kernel
theorem dM_commit_81 : decode cM_commit 81 = .ok (.aload_n 0, 1) := by decide +kernel
theorem dM_commit_82 : decode cM_commit 82 = .ok (.getfield 26, 3) := by decide +kernel
theorem dM_commit_85 : decode cM_commit 85 = .ok (.iload_n 1, 1) := by decide +kernel
theorem dM_commit_86 : decode cM_commit 86 = .ok (.ldc2_w 99, 3) := by decide +kernel
theorem dM_commit_89 : decode cM_commit 89 = .ok (.aload_n 0, 1) := by decide +kernel
theorem dM_commit_90 : decode cM_commit 90 = .ok (.getfield 20, 3) := by decide +kernel
theorem dM_commit_93 : decode cM_commit 93 = .ok (.iload_n 1, 1) := by decide +kernel
theorem dM_commit_94 : decode cM_commit 94 = .ok (.laload, 1) := by decide +kernel
theorem dM_commit_95 : decode cM_commit 95 = .ok (.ldc2_w 101, 3) := by decide +kernel
theorem dM_commit_98 : decode cM_commit 98 = .ok (.invokestatic 95, 3) := by decide +kernel
theorem dM_commit_101 : decode cM_commit 101 = .ok (.lastore, 1) := by decide +kernel
theorem dM_commit_102 : decode cM_commit 102 = .ok (.aload_n 0, 1) := by decide +kernel
theorem dM_commit_103 : decode cM_commit 103 = .ok (.getfield 29, 3) := by decide +kernel
theorem dM_commit_106 : decode cM_commit 106 = .ok (.iload_n 1, 1) := by decide +kernel
theorem dM_commit_107 : decode cM_commit 107 = .ok (.ldc2_w 99, 3) := by decide +kernel
theorem dM_commit_110 : decode cM_commit 110 = .ok (.aload_n 0, 1) := by decide +kernel
theorem dM_commit_111 : decode cM_commit 111 = .ok (.getfield 23, 3) := by decide +kernel
theorem dM_commit_114 : decode cM_commit 114 = .ok (.iload_n 1, 1) := by decide +kernel
theorem dM_commit_115 : decode cM_commit 115 = .ok (.laload, 1) := by decide +kernel
theorem dM_commit_116 : decode cM_commit 116 = .ok (.ldc2_w 101, 3) := by decide +kernel
theorem dM_commit_119 : decode cM_commit 119 = .ok (.invokestatic 95, 3) := by decide +kernel
theorem dM_commit_122 : decode cM_commit 122 = .ok (.lastore, 1) := by decide +kernel
theorem dM_commit_123 : decode cM_commit 123 = .ok (.aload_n 0, 1) := by decide +kernel
theorem dM_commit_124 : decode cM_commit 124 = .ok (.getfield 26, 3) := by decide +kernel
theorem dM_commit_127 : decode cM_commit 127 = .ok (.iload_n 1, 1) := by decide +kernel
theorem dM_commit_128 : decode cM_commit 128 = .ok (.laload, 1) := by decide +kernel
theorem dM_commit_129 : decode cM_commit 129 = .ok (.lreturn, 1) := by decide +kernel
-- M_allOpen
theorem dM_allOpen_0 : decode cM_allOpen 0 = .ok (.iconst 1, 1) := by decide +kernel
theorem dM_allOpen_1 : decode cM_allOpen 1 = .ok (.istore_n 2, 1) := by decide +kernel
theorem dM_allOpen_2 : decode cM_allOpen 2 = .ok (.iconst 1, 1) := by decide +kernel
theorem dM_allOpen_3 : decode cM_allOpen 3 = .ok (.istore_n 3, 1) := by decide +kernel
theorem dM_allOpen_4 : decode cM_allOpen 4 = .ok (.iload_n 3, 1) := by decide +kernel
theorem dM_allOpen_5 : decode cM_allOpen 5 = .ok (.aload_n 0, 1) := by decide +kernel
theorem dM_allOpen_6 : decode cM_allOpen 6 = .ok (.getfield 56, 3) := by decide +kernel
theorem dM_allOpen_9 : decode cM_allOpen 9 = .ok (.if_icmp .gt 36, 3) := by decide +kernel
theorem dM_allOpen_12 : decode cM_allOpen 12 = .ok (.iload_n 2, 1) := by decide +kernel
theorem dM_allOpen_13 : decode cM_allOpen 13 = .ok (.ifCond .eq 24, 3) := by decide +kernel
theorem dM_allOpen_16 : decode cM_allOpen 16 = .ok (.iload_n 1, 1) := by decide +kernel
theorem dM_allOpen_17 : decode cM_allOpen 17 = .ok (.iload_n 3, 1) := by decide +kernel
theorem dM_allOpen_18 : decode cM_allOpen 18 = .ok (.invokestatic 89, 3) := by decide +kernel
theorem dM_allOpen_21 : decode cM_allOpen 21 = .ok (.ifCond .eq 12, 3) := by decide +kernel
theorem dM_allOpen_24 : decode cM_allOpen 24 = .ok (.aload_n 0, 1) := by decide +kernel
theorem dM_allOpen_25 : decode cM_allOpen 25 = .ok (.getfield 16, 3) := by decide +kernel
theorem dM_allOpen_28 : decode cM_allOpen 28 = .ok (.iload_n 3, 1) := by decide +kernel
theorem dM_allOpen_29 : decode cM_allOpen 29 = .ok (.baload, 1) := by decide +kernel
theorem dM_allOpen_30 : decode cM_allOpen 30 = .ok (.ifCond .eq 7, 3) := by decide +kernel
theorem dM_allOpen_33 : decode cM_allOpen 33 = .ok (.iconst 1, 1) := by decide +kernel
theorem dM_allOpen_34 : decode cM_allOpen 34 = .ok (.goto 4, 3) := by decide +kernel
theorem dM_allOpen_37 : decode cM_allOpen 37 = .ok (.iconst 0, 1) := by decide +kernel
theorem dM_allOpen_38 : decode cM_allOpen 38 = .ok (.istore_n 2, 1) := by decide +kernel
theorem dM_allOpen_39 : decode cM_allOpen 39 = .ok (.iinc 3 1, 3) := by decide +kernel
theorem dM_allOpen_42 : decode cM_allOpen 42 = .ok (.goto (-38), 3) := by decide +kernel
theorem dM_allOpen_45 : decode cM_allOpen 45 = .ok (.iload_n 2, 1) := by decide +kernel
theorem dM_allOpen_46 : decode cM_allOpen 46 = .ok (.ireturn, 1) := by decide +kernel
-- M_factorOf
theorem dM_factorOf_0 : decode cM_factorOf 0 = .ok (.aload_n 0, 1) := by decide +kernel
theorem dM_factorOf_1 : decode cM_factorOf 1 = .ok (.ldc2_w 99, 3) := by decide +kernel
theorem dM_factorOf_4 : decode cM_factorOf 4 = .ok (.invokevirtual 80, 3) := by decide +kernel
theorem dM_factorOf_7 : decode cM_factorOf 7 = .ok (.aload_n 0, 1) := by decide +kernel
theorem dM_factorOf_8 : decode cM_factorOf 8 = .ok (.aload_n 0, 1) := by decide +kernel
theorem dM_factorOf_9 : decode cM_factorOf 9 = .ok (.getfield 13, 3) := by decide +kernel
theorem dM_factorOf_12 : decode cM_factorOf 12 = .ok (.iconst 0, 1) := by decide +kernel
theorem dM_factorOf_13 : decode cM_factorOf 13 = .ok (.laload, 1) := by decide +kernel
theorem dM_factorOf_14 : decode cM_factorOf 14 = .ok (.invokevirtual 74, 3) := by decide +kernel
theorem dM_factorOf_17 : decode cM_factorOf 17 = .ok (.aload_n 0, 1) := by decide +kernel
theorem dM_factorOf_18 : decode cM_factorOf 18 = .ok (.lload_n 2, 1) := by decide +kernel
theorem dM_factorOf_19 : decode cM_factorOf 19 = .ok (.invokevirtual 74, 3) := by decide +kernel
theorem dM_factorOf_22 : decode cM_factorOf 22 = .ok (.aload_n 0, 1) := by decide +kernel
theorem dM_factorOf_23 : decode cM_factorOf 23 = .ok (.iload 4, 2) := by decide +kernel
theorem dM_factorOf_25 : decode cM_factorOf 25 = .ok (.i2l, 1) := by decide +kernel
theorem dM_factorOf_26 : decode cM_factorOf 26 = .ok (.invokevirtual 74, 3) := by decide +kernel
theorem dM_factorOf_29 : decode cM_factorOf 29 = .ok (.iconst 1, 1) := by decide +kernel
theorem dM_factorOf_30 : decode cM_factorOf 30 = .ok (.istore 5, 2) := by decide +kernel
theorem dM_factorOf_32 : decode cM_factorOf 32 = .ok (.iload 5, 2) := by decide +kernel
theorem dM_factorOf_34 : decode cM_factorOf 34 = .ok (.aload_n 0, 1) := by decide +kernel
theorem dM_factorOf_35 : decode cM_factorOf 35 = .ok (.getfield 56, 3) := by decide +kernel
theorem dM_factorOf_38 : decode cM_factorOf 38 = .ok (.if_icmp .gt 47, 3) := by decide +kernel
theorem dM_factorOf_41 : decode cM_factorOf 41 = .ok (.iload_n 1, 1) := by decide +kernel
theorem dM_factorOf_42 : decode cM_factorOf 42 = .ok (.iload 5, 2) := by decide +kernel
theorem dM_factorOf_44 : decode cM_factorOf 44 = .ok (.invokestatic 89, 3) := by decide +kernel
theorem dM_factorOf_47 : decode cM_factorOf 47 = .ok (.ifCond .eq 32, 3) := by decide +kernel
theorem dM_factorOf_50 : decode cM_factorOf 50 = .ok (.aload_n 0, 1) := by decide +kernel
theorem dM_factorOf_51 : decode cM_factorOf 51 = .ok (.iload 5, 2) := by decide +kernel
theorem dM_factorOf_53 : decode cM_factorOf 53 = .ok (.i2l, 1) := by decide +kernel
theorem dM_factorOf_54 : decode cM_factorOf 54 = .ok (.invokevirtual 74, 3) := by decide +kernel
theorem dM_factorOf_57 : decode cM_factorOf 57 = .ok (.aload_n 0, 1) := by decide +kernel
theorem dM_factorOf_58 : decode cM_factorOf 58 = .ok (.aload_n 0, 1) := by decide +kernel
theorem dM_factorOf_59 : decode cM_factorOf 59 = .ok (.getfield 26, 3) := by decide +kernel
theorem dM_factorOf_62 : decode cM_factorOf 62 = .ok (.iload 5, 2) := by decide +kernel
theorem dM_factorOf_64 : decode cM_factorOf 64 = .ok (.laload, 1) := by decide +kernel
theorem dM_factorOf_65 : decode cM_factorOf 65 = .ok (.invokevirtual 74, 3) := by decide +kernel
theorem dM_factorOf_68 : decode cM_factorOf 68 = .ok (.aload_n 0, 1) := by decide +kernel
theorem dM_factorOf_69 : decode cM_factorOf 69 = .ok (.aload_n 0, 1) := by decide +kernel
theorem dM_factorOf_70 : decode cM_factorOf 70 = .ok (.getfield 29, 3) := by decide +kernel
theorem dM_factorOf_73 : decode cM_factorOf 73 = .ok (.iload 5, 2) := by decide +kernel
theorem dM_factorOf_75 : decode cM_factorOf 75 = .ok (.laload, 1) := by decide +kernel
theorem dM_factorOf_76 : decode cM_factorOf 76 = .ok (.invokevirtual 74, 3) := by decide +kernel
theorem dM_factorOf_79 : decode cM_factorOf 79 = .ok (.iinc 5 1, 3) := by decide +kernel
theorem dM_factorOf_82 : decode cM_factorOf 82 = .ok (.goto (-50), 3) := by decide +kernel
theorem dM_factorOf_85 : decode cM_factorOf 85 = .ok (.aload_n 0, 1) := by decide +kernel
theorem dM_factorOf_86 : decode cM_factorOf 86 = .ok (.invokevirtual 83, 3) := by decide +kernel
theorem dM_factorOf_89 : decode cM_factorOf 89 = .ok (.lreturn, 1) := by decide +kernel
-- M_begin
theorem dM_begin_0 : decode cM_begin 0 = .ok (.aload_n 0, 1) := by decide +kernel
theorem dM_begin_1 : decode cM_begin 1 = .ok (.aload_n 0, 1) := by decide +kernel
theorem dM_begin_2 : decode cM_begin 2 = .ok (.iload_n 1, 1) := by decide +kernel
theorem dM_begin_3 : decode cM_begin 3 = .ok (.invokevirtual 126, 3) := by decide +kernel
theorem dM_begin_6 : decode cM_begin 6 = .ok (.ifCond .ne 7, 3) := by decide +kernel
theorem dM_begin_9 : decode cM_begin 9 = .ok (.iconst 1, 1) := by decide +kernel
theorem dM_begin_10 : decode cM_begin 10 = .ok (.goto 23, 3) := by decide +kernel
theorem dM_begin_13 : decode cM_begin 13 = .ok (.aload_n 0, 1) := by decide +kernel
theorem dM_begin_14 : decode cM_begin 14 = .ok (.getfield 103, 3) := by decide +kernel
theorem dM_begin_17 : decode cM_begin 17 = .ok (.ifCond .eq 11, 3) := by decide +kernel
theorem dM_begin_20 : decode cM_begin 20 = .ok (.aload_n 0, 1) := by decide +kernel
theorem dM_begin_21 : decode cM_begin 21 = .ok (.iload_n 1, 1) := by decide +kernel
theorem dM_begin_22 : decode cM_begin 22 = .ok (.invokevirtual 129, 3) := by decide +kernel
theorem dM_begin_25 : decode cM_begin 25 = .ok (.ifCond .ne 7, 3) := by decide +kernel
theorem dM_begin_28 : decode cM_begin 28 = .ok (.iconst 2, 1) := by decide +kernel
theorem dM_begin_29 : decode cM_begin 29 = .ok (.goto 4, 3) := by decide +kernel
theorem dM_begin_32 : decode cM_begin 32 = .ok (.iconst 0, 1) := by decide +kernel
theorem dM_begin_33 : decode cM_begin 33 = .ok (.putfield 63, 3) := by decide +kernel
theorem dM_begin_36 : decode cM_begin 36 = .ok (.aload_n 0, 1) := by decide +kernel
theorem dM_begin_37 : decode cM_begin 37 = .ok (.getfield 63, 3) := by decide +kernel
theorem dM_begin_40 : decode cM_begin 40 = .ok (.ifCond .eq 5, 3) := by decide +kernel
theorem dM_begin_43 : decode cM_begin 43 = .ok (.lconst 0, 1) := by decide +kernel
theorem dM_begin_44 : decode cM_begin 44 = .ok (.lreturn, 1) := by decide +kernel
theorem dM_begin_45 : decode cM_begin 45 = .ok (.aload_n 0, 1) := by decide +kernel
theorem dM_begin_46 : decode cM_begin 46 = .ok (.iload_n 1, 1) := by decide +kernel
theorem dM_begin_47 : decode cM_begin 47 = .ok (.putfield 107, 3) := by decide +kernel
theorem dM_begin_50 : decode cM_begin 50 = .ok (.aload_n 0, 1) := by decide +kernel
theorem dM_begin_51 : decode cM_begin 51 = .ok (.iconst 0, 1) := by decide +kernel
theorem dM_begin_52 : decode cM_begin 52 = .ok (.putfield 110, 3) := by decide +kernel
theorem dM_begin_55 : decode cM_begin 55 = .ok (.aload_n 0, 1) := by decide +kernel
theorem dM_begin_56 : decode cM_begin 56 = .ok (.iconst 0, 1) := by decide +kernel
theorem dM_begin_57 : decode cM_begin 57 = .ok (.putfield 113, 3) := by decide +kernel
theorem dM_begin_60 : decode cM_begin 60 = .ok (.aload_n 0, 1) := by decide +kernel
theorem dM_begin_61 : decode cM_begin 61 = .ok (.lconst 1, 1) := by decide +kernel
theorem dM_begin_62 : decode cM_begin 62 = .ok (.putfield 132, 3) := by decide +kernel
theorem dM_begin_65 : decode cM_begin 65 = .ok (.iconst 1, 1) := by decide +kernel
theorem dM_begin_66 : decode cM_begin 66 = .ok (.istore 4, 2) := by decide +kernel
theorem dM_begin_68 : decode cM_begin 68 = .ok (.iload 4, 2) := by decide +kernel
theorem dM_begin_70 : decode cM_begin 70 = .ok (.aload_n 0, 1) := by decide +kernel
theorem dM_begin_71 : decode cM_begin 71 = .ok (.getfield 56, 3) := by decide +kernel
theorem dM_begin_74 : decode cM_begin 74 = .ok (.if_icmp .gt 136, 3) := by decide +kernel
theorem dM_begin_77 : decode cM_begin 77 = .ok (.iload_n 1, 1) := by decide +kernel
theorem dM_begin_78 : decode cM_begin 78 = .ok (.iload 4, 2) := by decide +kernel
theorem dM_begin_80 : decode cM_begin 80 = .ok (.invokestatic 89, 3) := by decide +kernel
theorem dM_begin_83 : decode cM_begin 83 = .ok (.ifCond .eq 121, 3) := by decide +kernel
theorem dM_begin_86 : decode cM_begin 86 = .ok (.aload_n 0, 1) := by decide +kernel
theorem dM_begin_87 : decode cM_begin 87 = .ok (.getfield 32, 3) := by decide +kernel
theorem dM_begin_90 : decode cM_begin 90 = .ok (.iload 4, 2) := by decide +kernel
theorem dM_begin_92 : decode cM_begin 92 = .ok (.aload_n 0, 1) := by decide +kernel
theorem dM_begin_93 : decode cM_begin 93 = .ok (.getfield 26, 3) := by decide +kernel
theorem dM_begin_96 : decode cM_begin 96 = .ok (.iload 4, 2) := by decide +kernel
theorem dM_begin_98 : decode cM_begin 98 = .ok (.laload, 1) := by decide +kernel
theorem dM_begin_99 : decode cM_begin 99 = .ok (.lastore, 1) := by decide +kernel
theorem dM_begin_100 : decode cM_begin 100 = .ok (.aload_n 0, 1) := by decide +kernel
theorem dM_begin_101 : decode cM_begin 101 = .ok (.getfield 35, 3) := by decide +kernel
theorem dM_begin_104 : decode cM_begin 104 = .ok (.iload 4, 2) := by decide +kernel
theorem dM_begin_106 : decode cM_begin 106 = .ok (.aload_n 0, 1) := by decide +kernel
theorem dM_begin_107 : decode cM_begin 107 = .ok (.getfield 29, 3) := by decide +kernel
theorem dM_begin_110 : decode cM_begin 110 = .ok (.iload 4, 2) := by decide +kernel
theorem dM_begin_112 : decode cM_begin 112 = .ok (.laload, 1) := by decide +kernel
theorem dM_begin_113 : decode cM_begin 113 = .ok (.lastore, 1) := by decide +kernel
theorem dM_begin_114 : decode cM_begin 114 = .ok (.aload_n 0, 1) := by decide +kernel
theorem dM_begin_115 : decode cM_begin 115 = .ok (.getfield 38, 3) := by decide +kernel
theorem dM_begin_118 : decode cM_begin 118 = .ok (.iload 4, 2) := by decide +kernel
theorem dM_begin_120 : decode cM_begin 120 = .ok (.aload_n 0, 1) := by decide +kernel
theorem dM_begin_121 : decode cM_begin 121 = .ok (.iload_n 1, 1) := by decide +kernel
theorem dM_begin_122 : decode cM_begin 122 = .ok (.lload_n 2, 1) := by decide +kernel
theorem dM_begin_123 : decode cM_begin 123 = .ok (.iload 4, 2) := by decide +kernel
theorem dM_begin_125 : decode cM_begin 125 = .ok (.invokevirtual 135, 3) := by decide +kernel
theorem dM_begin_128 : decode cM_begin 128 = .ok (.lastore, 1) := by decide +kernel
theorem dM_begin_129 : decode cM_begin 129 = .ok (.aload_n 0, 1) := by decide +kernel
theorem dM_begin_130 : decode cM_begin 130 = .ok (.getfield 41, 3) := by decide +kernel
theorem dM_begin_133 : decode cM_begin 133 = .ok (.iload 4, 2) := by decide +kernel
theorem dM_begin_135 : decode cM_begin 135 = .ok (.aload_n 0, 1) := by decide +kernel
theorem dM_begin_136 : decode cM_begin 136 = .ok (.iload_n 1, 1) := by decide +kernel
theorem dM_begin_137 : decode cM_begin 137 = .ok (.iload 4, 2) := by decide +kernel
theorem dM_begin_139 : decode cM_begin 139 = .ok (.invokevirtual 139, 3) := by decide +kernel
theorem dM_begin_142 : decode cM_begin 142 = .ok (.lastore, 1) := by decide +kernel
theorem dM_begin_143 : decode cM_begin 143 = .ok (.aload_n 0, 1) := by decide +kernel
theorem dM_begin_144 : decode cM_begin 144 = .ok (.getfield 44, 3) := by decide +kernel
theorem dM_begin_147 : decode cM_begin 147 = .ok (.iload 4, 2) := by decide +kernel
theorem dM_begin_149 : decode cM_begin 149 = .ok (.iconst 1, 1) := by decide +kernel
theorem dM_begin_150 : decode cM_begin 150 = .ok (.bastore, 1) := by decide +kernel
theorem dM_begin_151 : decode cM_begin 151 = .ok (.aload_n 0, 1) := by decide +kernel
theorem dM_begin_152 : decode cM_begin 152 = .ok (.getfield 47, 3) := by decide +kernel
theorem dM_begin_155 : decode cM_begin 155 = .ok (.iload 4, 2) := by decide +kernel
theorem dM_begin_157 : decode cM_begin 157 = .ok (.iconst 0, 1) := by decide +kernel
theorem dM_begin_158 : decode cM_begin 158 = .ok (.bastore, 1) := by decide +kernel
theorem dM_begin_159 : decode cM_begin 159 = .ok (.aload_n 0, 1) := by decide +kernel
theorem dM_begin_160 : decode cM_begin 160 = .ok (.aload_n 0, 1) := by decide +kernel
theorem dM_begin_161 : decode cM_begin 161 = .ok (.getfield 132, 3) := by decide +kernel
theorem dM_begin_164 : decode cM_begin 164 = .ok (.aload_n 0, 1) := by decide +kernel
theorem dM_begin_165 : decode cM_begin 165 = .ok (.getfield 32, 3) := by decide +kernel
theorem dM_begin_168 : decode cM_begin 168 = .ok (.iload 4, 2) := by decide +kernel
theorem dM_begin_170 : decode cM_begin 170 = .ok (.laload, 1) := by decide +kernel
theorem dM_begin_171 : decode cM_begin 171 = .ok (.lmul, 1) := by decide +kernel
theorem dM_begin_172 : decode cM_begin 172 = .ok (.ldc2_w 101, 3) := by decide +kernel
theorem dM_begin_175 : decode cM_begin 175 = .ok (.lrem, 1) := by decide +kernel
theorem dM_begin_176 : decode cM_begin 176 = .ok (.aload_n 0, 1) := by decide +kernel
theorem dM_begin_177 : decode cM_begin 177 = .ok (.getfield 35, 3) := by decide +kernel
theorem dM_begin_180 : decode cM_begin 180 = .ok (.iload 4, 2) := by decide +kernel
theorem dM_begin_182 : decode cM_begin 182 = .ok (.laload, 1) := by decide +kernel
theorem dM_begin_183 : decode cM_begin 183 = .ok (.aload_n 0, 1) := by decide +kernel
theorem dM_begin_184 : decode cM_begin 184 = .ok (.getfield 38, 3) := by decide +kernel
theorem dM_begin_187 : decode cM_begin 187 = .ok (.iload 4, 2) := by decide +kernel
theorem dM_begin_189 : decode cM_begin 189 = .ok (.laload, 1) := by decide +kernel
theorem dM_begin_190 : decode cM_begin 190 = .ok (.ldc2_w 101, 3) := by decide +kernel
theorem dM_begin_193 : decode cM_begin 193 = .ok (.invokestatic 95, 3) := by decide +kernel
theorem dM_begin_196 : decode cM_begin 196 = .ok (.lmul, 1) := by decide +kernel
theorem dM_begin_197 : decode cM_begin 197 = .ok (.ldc2_w 101, 3) := by decide +kernel
theorem dM_begin_200 : decode cM_begin 200 = .ok (.lrem, 1) := by decide +kernel
theorem dM_begin_201 : decode cM_begin 201 = .ok (.putfield 132, 3) := by decide +kernel
theorem dM_begin_204 : decode cM_begin 204 = .ok (.iinc 4 1, 3) := by decide +kernel
theorem dM_begin_207 : decode cM_begin 207 = .ok (.goto (-139), 3) := by decide +kernel
theorem dM_begin_210 : decode cM_begin 210 = .ok (.aload_n 0, 1) := by decide +kernel
theorem dM_begin_211 : decode cM_begin 211 = .ok (.aload_n 0, 1) := by decide +kernel
theorem dM_begin_212 : decode cM_begin 212 = .ok (.aload_n 0, 1) := by decide +kernel
theorem dM_begin_213 : decode cM_begin 213 = .ok (.getfield 132, 3) := by decide +kernel
theorem dM_begin_216 : decode cM_begin 216 = .ok (.lload_n 2, 1) := by decide +kernel
theorem dM_begin_217 : decode cM_begin 217 = .ok (.invokevirtual 143, 3) := by decide +kernel
theorem dM_begin_220 : decode cM_begin 220 = .ok (.putfield 147, 3) := by decide +kernel
theorem dM_begin_223 : decode cM_begin 223 = .ok (.aload_n 0, 1) := by decide +kernel
theorem dM_begin_224 : decode cM_begin 224 = .ok (.getfield 132, 3) := by decide +kernel
theorem dM_begin_227 : decode cM_begin 227 = .ok (.lreturn, 1) := by decide +kernel
-- M_isMember
theorem dM_isMember_0 : decode cM_isMember 0 = .ok (.aload_n 0, 1) := by decide +kernel
theorem dM_isMember_1 : decode cM_isMember 1 = .ok (.iload_n 1, 1) := by decide +kernel
theorem dM_isMember_2 : decode cM_isMember 2 = .ok (.invokevirtual 116, 3) := by decide +kernel
theorem dM_isMember_5 : decode cM_isMember 5 = .ok (.ifCond .eq 18, 3) := by decide +kernel
theorem dM_isMember_8 : decode cM_isMember 8 = .ok (.aload_n 0, 1) := by decide +kernel
theorem dM_isMember_9 : decode cM_isMember 9 = .ok (.getfield 107, 3) := by decide +kernel
theorem dM_isMember_12 : decode cM_isMember 12 = .ok (.iload_n 1, 1) := by decide +kernel
theorem dM_isMember_13 : decode cM_isMember 13 = .ok (.invokestatic 89, 3) := by decide +kernel
theorem dM_isMember_16 : decode cM_isMember 16 = .ok (.ifCond .eq 7, 3) := by decide +kernel
theorem dM_isMember_19 : decode cM_isMember 19 = .ok (.iconst 1, 1) := by decide +kernel
theorem dM_isMember_20 : decode cM_isMember 20 = .ok (.goto 4, 3) := by decide +kernel
theorem dM_isMember_23 : decode cM_isMember 23 = .ok (.iconst 0, 1) := by decide +kernel
theorem dM_isMember_24 : decode cM_isMember 24 = .ok (.ireturn, 1) := by decide +kernel
-- M_sign
theorem dM_sign_0 : decode cM_sign 0 = .ok (.aload_n 0, 1) := by decide +kernel
theorem dM_sign_1 : decode cM_sign 1 = .ok (.aload_n 0, 1) := by decide +kernel
theorem dM_sign_2 : decode cM_sign 2 = .ok (.iload_n 1, 1) := by decide +kernel
theorem dM_sign_3 : decode cM_sign 3 = .ok (.invokevirtual 116, 3) := by decide +kernel
theorem dM_sign_6 : decode cM_sign 6 = .ok (.ifCond .ne 7, 3) := by decide +kernel
theorem dM_sign_9 : decode cM_sign 9 = .ok (.iconst 1, 1) := by decide +kernel
theorem dM_sign_10 : decode cM_sign 10 = .ok (.goto 25, 3) := by decide +kernel
theorem dM_sign_13 : decode cM_sign 13 = .ok (.aload_n 0, 1) := by decide +kernel
theorem dM_sign_14 : decode cM_sign 14 = .ok (.iload_n 1, 1) := by decide +kernel
theorem dM_sign_15 : decode cM_sign 15 = .ok (.invokevirtual 150, 3) := by decide +kernel
theorem dM_sign_18 : decode cM_sign 18 = .ok (.ifCond .eq 12, 3) := by decide +kernel
theorem dM_sign_21 : decode cM_sign 21 = .ok (.aload_n 0, 1) := by decide +kernel
theorem dM_sign_22 : decode cM_sign 22 = .ok (.getfield 44, 3) := by decide +kernel
theorem dM_sign_25 : decode cM_sign 25 = .ok (.iload_n 1, 1) := by decide +kernel
theorem dM_sign_26 : decode cM_sign 26 = .ok (.baload, 1) := by decide +kernel
theorem dM_sign_27 : decode cM_sign 27 = .ok (.ifCond .ne 7, 3) := by decide +kernel
theorem dM_sign_30 : decode cM_sign 30 = .ok (.iconst 2, 1) := by decide +kernel
theorem dM_sign_31 : decode cM_sign 31 = .ok (.goto 4, 3) := by decide +kernel
theorem dM_sign_34 : decode cM_sign 34 = .ok (.iconst 0, 1) := by decide +kernel
theorem dM_sign_35 : decode cM_sign 35 = .ok (.putfield 63, 3) := by decide +kernel
theorem dM_sign_38 : decode cM_sign 38 = .ok (.aload_n 0, 1) := by decide +kernel
theorem dM_sign_39 : decode cM_sign 39 = .ok (.getfield 63, 3) := by decide +kernel
theorem dM_sign_42 : decode cM_sign 42 = .ok (.ifCond .eq 5, 3) := by decide +kernel
theorem dM_sign_45 : decode cM_sign 45 = .ok (.lconst 0, 1) := by decide +kernel
theorem dM_sign_46 : decode cM_sign 46 = .ok (.lreturn, 1) := by decide +kernel
theorem dM_sign_47 : decode cM_sign 47 = .ok (.aload_n 0, 1) := by decide +kernel
theorem dM_sign_48 : decode cM_sign 48 = .ok (.getfield 23, 3) := by decide +kernel
theorem dM_sign_51 : decode cM_sign 51 = .ok (.iload_n 1, 1) := by decide +kernel
theorem dM_sign_52 : decode cM_sign 52 = .ok (.laload, 1) := by decide +kernel
theorem dM_sign_53 : decode cM_sign 53 = .ok (.aload_n 0, 1) := by decide +kernel
theorem dM_sign_54 : decode cM_sign 54 = .ok (.getfield 38, 3) := by decide +kernel
theorem dM_sign_57 : decode cM_sign 57 = .ok (.iload_n 1, 1) := by decide +kernel
theorem dM_sign_58 : decode cM_sign 58 = .ok (.laload, 1) := by decide +kernel
theorem dM_sign_59 : decode cM_sign 59 = .ok (.lmul, 1) := by decide +kernel
theorem dM_sign_60 : decode cM_sign 60 = .ok (.ldc2_w 68, 3) := by decide +kernel
theorem dM_sign_63 : decode cM_sign 63 = .ok (.lrem, 1) := by decide +kernel
theorem dM_sign_64 : decode cM_sign 64 = .ok (.lstore_n 2, 1) := by decide +kernel
theorem dM_sign_65 : decode cM_sign 65 = .ok (.aload_n 0, 1) := by decide +kernel
theorem dM_sign_66 : decode cM_sign 66 = .ok (.getfield 147, 3) := by decide +kernel
theorem dM_sign_69 : decode cM_sign 69 = .ok (.aload_n 0, 1) := by decide +kernel
theorem dM_sign_70 : decode cM_sign 70 = .ok (.getfield 41, 3) := by decide +kernel
theorem dM_sign_73 : decode cM_sign 73 = .ok (.iload_n 1, 1) := by decide +kernel
theorem dM_sign_74 : decode cM_sign 74 = .ok (.laload, 1) := by decide +kernel
theorem dM_sign_75 : decode cM_sign 75 = .ok (.lmul, 1) := by decide +kernel
theorem dM_sign_76 : decode cM_sign 76 = .ok (.ldc2_w 68, 3) := by decide +kernel
theorem dM_sign_79 : decode cM_sign 79 = .ok (.lrem, 1) := by decide +kernel
theorem dM_sign_80 : decode cM_sign 80 = .ok (.aload_n 0, 1) := by decide +kernel
theorem dM_sign_81 : decode cM_sign 81 = .ok (.getfield 7, 3) := by decide +kernel
theorem dM_sign_84 : decode cM_sign 84 = .ok (.iload_n 1, 1) := by decide +kernel
theorem dM_sign_85 : decode cM_sign 85 = .ok (.laload, 1) := by decide +kernel
theorem dM_sign_86 : decode cM_sign 86 = .ok (.lmul, 1) := by decide +kernel
theorem dM_sign_87 : decode cM_sign 87 = .ok (.ldc2_w 68, 3) := by decide +kernel
theorem dM_sign_90 : decode cM_sign 90 = .ok (.lrem, 1) := by decide +kernel
theorem dM_sign_91 : decode cM_sign 91 = .ok (.lstore 4, 2) := by decide +kernel
theorem dM_sign_93 : decode cM_sign 93 = .ok (.aload_n 0, 1) := by decide +kernel
theorem dM_sign_94 : decode cM_sign 94 = .ok (.getfield 50, 3) := by decide +kernel
theorem dM_sign_97 : decode cM_sign 97 = .ok (.iload_n 1, 1) := by decide +kernel
theorem dM_sign_98 : decode cM_sign 98 = .ok (.aload_n 0, 1) := by decide +kernel
theorem dM_sign_99 : decode cM_sign 99 = .ok (.getfield 20, 3) := by decide +kernel
theorem dM_sign_102 : decode cM_sign 102 = .ok (.iload_n 1, 1) := by decide +kernel
theorem dM_sign_103 : decode cM_sign 103 = .ok (.laload, 1) := by decide +kernel
theorem dM_sign_104 : decode cM_sign 104 = .ok (.lload_n 2, 1) := by decide +kernel
theorem dM_sign_105 : decode cM_sign 105 = .ok (.ladd, 1) := by decide +kernel
theorem dM_sign_106 : decode cM_sign 106 = .ok (.lload 4, 2) := by decide +kernel
theorem dM_sign_108 : decode cM_sign 108 = .ok (.ladd, 1) := by decide +kernel
theorem dM_sign_109 : decode cM_sign 109 = .ok (.ldc2_w 68, 3) := by decide +kernel
theorem dM_sign_112 : decode cM_sign 112 = .ok (.lrem, 1) := by decide +kernel
theorem dM_sign_113 : decode cM_sign 113 = .ok (.lastore, 1) := by decide +kernel
theorem dM_sign_114 : decode cM_sign 114 = .ok (.aload_n 0, 1) := by decide +kernel
theorem dM_sign_115 : decode cM_sign 115 = .ok (.getfield 47, 3) := by decide +kernel
theorem dM_sign_118 : decode cM_sign 118 = .ok (.iload_n 1, 1) := by decide +kernel
theorem dM_sign_119 : decode cM_sign 119 = .ok (.iconst 1, 1) := by decide +kernel
theorem dM_sign_120 : decode cM_sign 120 = .ok (.bastore, 1) := by decide +kernel
theorem dM_sign_121 : decode cM_sign 121 = .ok (.aload_n 0, 1) := by decide +kernel
theorem dM_sign_122 : decode cM_sign 122 = .ok (.getfield 44, 3) := by decide +kernel
theorem dM_sign_125 : decode cM_sign 125 = .ok (.iload_n 1, 1) := by decide +kernel
theorem dM_sign_126 : decode cM_sign 126 = .ok (.iconst 0, 1) := by decide +kernel
theorem dM_sign_127 : decode cM_sign 127 = .ok (.bastore, 1) := by decide +kernel
theorem dM_sign_128 : decode cM_sign 128 = .ok (.aload_n 0, 1) := by decide +kernel
theorem dM_sign_129 : decode cM_sign 129 = .ok (.getfield 16, 3) := by decide +kernel
theorem dM_sign_132 : decode cM_sign 132 = .ok (.iload_n 1, 1) := by decide +kernel
theorem dM_sign_133 : decode cM_sign 133 = .ok (.iconst 0, 1) := by decide +kernel
theorem dM_sign_134 : decode cM_sign 134 = .ok (.bastore, 1) := by decide +kernel
theorem dM_sign_135 : decode cM_sign 135 = .ok (.aload_n 0, 1) := by decide +kernel
theorem dM_sign_136 : decode cM_sign 136 = .ok (.getfield 50, 3) := by decide +kernel
theorem dM_sign_139 : decode cM_sign 139 = .ok (.iload_n 1, 1) := by decide +kernel
theorem dM_sign_140 : decode cM_sign 140 = .ok (.laload, 1) := by decide +kernel
theorem dM_sign_141 : decode cM_sign 141 = .ok (.lreturn, 1) := by decide +kernel
-- M_tell
theorem dM_tell_0 : decode cM_tell 0 = .ok (.aload_n 0, 1) := by decide +kernel
theorem dM_tell_1 : decode cM_tell 1 = .ok (.getfield 32, 3) := by decide +kernel
theorem dM_tell_4 : decode cM_tell 4 = .ok (.iload_n 1, 1) := by decide +kernel
theorem dM_tell_5 : decode cM_tell 5 = .ok (.laload, 1) := by decide +kernel
theorem dM_tell_6 : decode cM_tell 6 = .ok (.aload_n 0, 1) := by decide +kernel
theorem dM_tell_7 : decode cM_tell 7 = .ok (.getfield 35, 3) := by decide +kernel
theorem dM_tell_10 : decode cM_tell 10 = .ok (.iload_n 1, 1) := by decide +kernel
theorem dM_tell_11 : decode cM_tell 11 = .ok (.laload, 1) := by decide +kernel
theorem dM_tell_12 : decode cM_tell 12 = .ok (.aload_n 0, 1) := by decide +kernel
theorem dM_tell_13 : decode cM_tell 13 = .ok (.getfield 38, 3) := by decide +kernel
theorem dM_tell_16 : decode cM_tell 16 = .ok (.iload_n 1, 1) := by decide +kernel
theorem dM_tell_17 : decode cM_tell 17 = .ok (.laload, 1) := by decide +kernel
theorem dM_tell_18 : decode cM_tell 18 = .ok (.ldc2_w 101, 3) := by decide +kernel
theorem dM_tell_21 : decode cM_tell 21 = .ok (.invokestatic 95, 3) := by decide +kernel
theorem dM_tell_24 : decode cM_tell 24 = .ok (.lmul, 1) := by decide +kernel
theorem dM_tell_25 : decode cM_tell 25 = .ok (.ldc2_w 101, 3) := by decide +kernel
theorem dM_tell_28 : decode cM_tell 28 = .ok (.lrem, 1) := by decide +kernel
theorem dM_tell_29 : decode cM_tell 29 = .ok (.lstore 4, 2) := by decide +kernel
theorem dM_tell_31 : decode cM_tell 31 = .ok (.aload_n 0, 1) := by decide +kernel
theorem dM_tell_32 : decode cM_tell 32 = .ok (.getfield 147, 3) := by decide +kernel
theorem dM_tell_35 : decode cM_tell 35 = .ok (.aload_n 0, 1) := by decide +kernel
theorem dM_tell_36 : decode cM_tell 36 = .ok (.getfield 41, 3) := by decide +kernel
theorem dM_tell_39 : decode cM_tell 39 = .ok (.iload_n 1, 1) := by decide +kernel
theorem dM_tell_40 : decode cM_tell 40 = .ok (.laload, 1) := by decide +kernel
theorem dM_tell_41 : decode cM_tell 41 = .ok (.lmul, 1) := by decide +kernel
theorem dM_tell_42 : decode cM_tell 42 = .ok (.ldc2_w 68, 3) := by decide +kernel
theorem dM_tell_45 : decode cM_tell 45 = .ok (.lrem, 1) := by decide +kernel
theorem dM_tell_46 : decode cM_tell 46 = .ok (.lstore 6, 2) := by decide +kernel
theorem dM_tell_48 : decode cM_tell 48 = .ok (.lload 4, 2) := by decide +kernel
theorem dM_tell_50 : decode cM_tell 50 = .ok (.aload_n 0, 1) := by decide +kernel
theorem dM_tell_51 : decode cM_tell 51 = .ok (.getfield 13, 3) := by decide +kernel
theorem dM_tell_54 : decode cM_tell 54 = .ok (.iload_n 1, 1) := by decide +kernel
theorem dM_tell_55 : decode cM_tell 55 = .ok (.laload, 1) := by decide +kernel
theorem dM_tell_56 : decode cM_tell 56 = .ok (.lload 6, 2) := by decide +kernel
theorem dM_tell_58 : decode cM_tell 58 = .ok (.ldc2_w 101, 3) := by decide +kernel
theorem dM_tell_61 : decode cM_tell 61 = .ok (.invokestatic 95, 3) := by decide +kernel
theorem dM_tell_64 : decode cM_tell 64 = .ok (.lmul, 1) := by decide +kernel
theorem dM_tell_65 : decode cM_tell 65 = .ok (.ldc2_w 101, 3) := by decide +kernel
theorem dM_tell_68 : decode cM_tell 68 = .ok (.lrem, 1) := by decide +kernel
theorem dM_tell_69 : decode cM_tell 69 = .ok (.lstore 4, 2) := by decide +kernel
theorem dM_tell_71 : decode cM_tell 71 = .ok (.iconst 1, 1) := by decide +kernel
theorem dM_tell_72 : decode cM_tell 72 = .ok (.iload_n 1, 1) := by decide +kernel
theorem dM_tell_73 : decode cM_tell 73 = .ok (.iconst 1, 1) := by decide +kernel
theorem dM_tell_74 : decode cM_tell 74 = .ok (.isub, 1) := by decide +kernel
theorem dM_tell_75 : decode cM_tell 75 = .ok (.ishl, 1) := by decide +kernel
theorem dM_tell_76 : decode cM_tell 76 = .ok (.istore 8, 2) := by decide +kernel
theorem dM_tell_78 : decode cM_tell 78 = .ok (.ldc2_w 99, 3) := by decide +kernel
theorem dM_tell_81 : decode cM_tell 81 = .ok (.lload_n 2, 1) := by decide +kernel
theorem dM_tell_82 : decode cM_tell 82 = .ok (.ldc2_w 101, 3) := by decide +kernel
theorem dM_tell_85 : decode cM_tell 85 = .ok (.invokestatic 95, 3) := by decide +kernel
theorem dM_tell_88 : decode cM_tell 88 = .ok (.lload 4, 2) := by decide +kernel
theorem dM_tell_90 : decode cM_tell 90 = .ok (.lcmp, 1) := by decide +kernel
theorem dM_tell_91 : decode cM_tell 91 = .ok (.ifCond .eq 16, 3) := by decide +kernel
theorem dM_tell_94 : decode cM_tell 94 = .ok (.aload_n 0, 1) := by decide +kernel
theorem dM_tell_95 : decode cM_tell 95 = .ok (.aload_n 0, 1) := by decide +kernel
theorem dM_tell_96 : decode cM_tell 96 = .ok (.getfield 113, 3) := by decide +kernel
theorem dM_tell_99 : decode cM_tell 99 = .ok (.iload 8, 2) := by decide +kernel
theorem dM_tell_101 : decode cM_tell 101 = .ok (.ior, 1) := by decide +kernel
theorem dM_tell_102 : decode cM_tell 102 = .ok (.putfield 113, 3) := by decide +kernel
theorem dM_tell_105 : decode cM_tell 105 = .ok (.iconst 0, 1) := by decide +kernel
theorem dM_tell_106 : decode cM_tell 106 = .ok (.ireturn, 1) := by decide +kernel
theorem dM_tell_107 : decode cM_tell 107 = .ok (.aload_n 0, 1) := by decide +kernel
theorem dM_tell_108 : decode cM_tell 108 = .ok (.aload_n 0, 1) := by decide +kernel
theorem dM_tell_109 : decode cM_tell 109 = .ok (.getfield 110, 3) := by decide +kernel
theorem dM_tell_112 : decode cM_tell 112 = .ok (.iload 8, 2) := by decide +kernel
theorem dM_tell_114 : decode cM_tell 114 = .ok (.ior, 1) := by decide +kernel
theorem dM_tell_115 : decode cM_tell 115 = .ok (.putfield 110, 3) := by decide +kernel
theorem dM_tell_118 : decode cM_tell 118 = .ok (.aload_n 0, 1) := by decide +kernel
theorem dM_tell_119 : decode cM_tell 119 = .ok (.getfield 53, 3) := by decide +kernel
theorem dM_tell_122 : decode cM_tell 122 = .ok (.iload_n 1, 1) := by decide +kernel
theorem dM_tell_123 : decode cM_tell 123 = .ok (.lload_n 2, 1) := by decide +kernel
theorem dM_tell_124 : decode cM_tell 124 = .ok (.lastore, 1) := by decide +kernel
theorem dM_tell_125 : decode cM_tell 125 = .ok (.iconst 1, 1) := by decide +kernel
theorem dM_tell_126 : decode cM_tell 126 = .ok (.ireturn, 1) := by decide +kernel
-- M_submit
theorem dM_submit_0 : decode cM_submit 0 = .ok (.aload_n 0, 1) := by decide +kernel
theorem dM_submit_1 : decode cM_submit 1 = .ok (.aload_n 0, 1) := by decide +kernel
theorem dM_submit_2 : decode cM_submit 2 = .ok (.iload_n 1, 1) := by decide +kernel
theorem dM_submit_3 : decode cM_submit 3 = .ok (.invokevirtual 116, 3) := by decide +kernel
theorem dM_submit_6 : decode cM_submit 6 = .ok (.ifCond .eq 10, 3) := by decide +kernel
theorem dM_submit_9 : decode cM_submit 9 = .ok (.lload_n 2, 1) := by decide +kernel
theorem dM_submit_10 : decode cM_submit 10 = .ok (.invokestatic 153, 3) := by decide +kernel
theorem dM_submit_13 : decode cM_submit 13 = .ok (.ifCond .ne 7, 3) := by decide +kernel
theorem dM_submit_16 : decode cM_submit 16 = .ok (.iconst 1, 1) := by decide +kernel
theorem dM_submit_17 : decode cM_submit 17 = .ok (.goto 27, 3) := by decide +kernel
theorem dM_submit_20 : decode cM_submit 20 = .ok (.aload_n 0, 1) := by decide +kernel
theorem dM_submit_21 : decode cM_submit 21 = .ok (.iload_n 1, 1) := by decide +kernel
theorem dM_submit_22 : decode cM_submit 22 = .ok (.invokevirtual 150, 3) := by decide +kernel
theorem dM_submit_25 : decode cM_submit 25 = .ok (.ifCond .eq 14, 3) := by decide +kernel
theorem dM_submit_28 : decode cM_submit 28 = .ok (.aload_n 0, 1) := by decide +kernel
theorem dM_submit_29 : decode cM_submit 29 = .ok (.getfield 110, 3) := by decide +kernel
theorem dM_submit_32 : decode cM_submit 32 = .ok (.iload_n 1, 1) := by decide +kernel
theorem dM_submit_33 : decode cM_submit 33 = .ok (.invokestatic 89, 3) := by decide +kernel
theorem dM_submit_36 : decode cM_submit 36 = .ok (.ifCond .eq 7, 3) := by decide +kernel
theorem dM_submit_39 : decode cM_submit 39 = .ok (.iconst 2, 1) := by decide +kernel
theorem dM_submit_40 : decode cM_submit 40 = .ok (.goto 4, 3) := by decide +kernel
theorem dM_submit_43 : decode cM_submit 43 = .ok (.iconst 0, 1) := by decide +kernel
theorem dM_submit_44 : decode cM_submit 44 = .ok (.putfield 63, 3) := by decide +kernel
theorem dM_submit_47 : decode cM_submit 47 = .ok (.aload_n 0, 1) := by decide +kernel
theorem dM_submit_48 : decode cM_submit 48 = .ok (.getfield 63, 3) := by decide +kernel
theorem dM_submit_51 : decode cM_submit 51 = .ok (.ifCond .ne 16, 3) := by decide +kernel
theorem dM_submit_54 : decode cM_submit 54 = .ok (.aload_n 0, 1) := by decide +kernel
theorem dM_submit_55 : decode cM_submit 55 = .ok (.iload_n 1, 1) := by decide +kernel
theorem dM_submit_56 : decode cM_submit 56 = .ok (.lload_n 2, 1) := by decide +kernel
theorem dM_submit_57 : decode cM_submit 57 = .ok (.invokevirtual 157, 3) := by decide +kernel
theorem dM_submit_60 : decode cM_submit 60 = .ok (.ifCond .eq 7, 3) := by decide +kernel
theorem dM_submit_63 : decode cM_submit 63 = .ok (.iconst 1, 1) := by decide +kernel
theorem dM_submit_64 : decode cM_submit 64 = .ok (.goto 4, 3) := by decide +kernel
theorem dM_submit_67 : decode cM_submit 67 = .ok (.iconst 0, 1) := by decide +kernel
theorem dM_submit_68 : decode cM_submit 68 = .ok (.ireturn, 1) := by decide +kernel
-- M_relay
theorem dM_relay_0 : decode cM_relay 0 = .ok (.aload_n 0, 1) := by decide +kernel
theorem dM_relay_1 : decode cM_relay 1 = .ok (.aload_n 0, 1) := by decide +kernel
theorem dM_relay_2 : decode cM_relay 2 = .ok (.iload_n 1, 1) := by decide +kernel
theorem dM_relay_3 : decode cM_relay 3 = .ok (.invokevirtual 116, 3) := by decide +kernel
theorem dM_relay_6 : decode cM_relay 6 = .ok (.ifCond .eq 10, 3) := by decide +kernel
theorem dM_relay_9 : decode cM_relay 9 = .ok (.lload_n 2, 1) := by decide +kernel
theorem dM_relay_10 : decode cM_relay 10 = .ok (.invokestatic 153, 3) := by decide +kernel
theorem dM_relay_13 : decode cM_relay 13 = .ok (.ifCond .ne 7, 3) := by decide +kernel
theorem dM_relay_16 : decode cM_relay 16 = .ok (.iconst 1, 1) := by decide +kernel
theorem dM_relay_17 : decode cM_relay 17 = .ok (.goto 36, 3) := by decide +kernel
theorem dM_relay_20 : decode cM_relay 20 = .ok (.aload_n 0, 1) := by decide +kernel
theorem dM_relay_21 : decode cM_relay 21 = .ok (.iload_n 1, 1) := by decide +kernel
theorem dM_relay_22 : decode cM_relay 22 = .ok (.invokevirtual 150, 3) := by decide +kernel
theorem dM_relay_25 : decode cM_relay 25 = .ok (.ifCond .eq 23, 3) := by decide +kernel
theorem dM_relay_28 : decode cM_relay 28 = .ok (.aload_n 0, 1) := by decide +kernel
theorem dM_relay_29 : decode cM_relay 29 = .ok (.getfield 47, 3) := by decide +kernel
theorem dM_relay_32 : decode cM_relay 32 = .ok (.iload_n 1, 1) := by decide +kernel
theorem dM_relay_33 : decode cM_relay 33 = .ok (.baload, 1) := by decide +kernel
theorem dM_relay_34 : decode cM_relay 34 = .ok (.ifCond .eq 14, 3) := by decide +kernel
theorem dM_relay_37 : decode cM_relay 37 = .ok (.aload_n 0, 1) := by decide +kernel
theorem dM_relay_38 : decode cM_relay 38 = .ok (.getfield 110, 3) := by decide +kernel
theorem dM_relay_41 : decode cM_relay 41 = .ok (.iload_n 1, 1) := by decide +kernel
theorem dM_relay_42 : decode cM_relay 42 = .ok (.invokestatic 89, 3) := by decide +kernel
theorem dM_relay_45 : decode cM_relay 45 = .ok (.ifCond .eq 7, 3) := by decide +kernel
theorem dM_relay_48 : decode cM_relay 48 = .ok (.iconst 2, 1) := by decide +kernel
theorem dM_relay_49 : decode cM_relay 49 = .ok (.goto 4, 3) := by decide +kernel
theorem dM_relay_52 : decode cM_relay 52 = .ok (.iconst 0, 1) := by decide +kernel
theorem dM_relay_53 : decode cM_relay 53 = .ok (.putfield 63, 3) := by decide +kernel
theorem dM_relay_56 : decode cM_relay 56 = .ok (.aload_n 0, 1) := by decide +kernel
theorem dM_relay_57 : decode cM_relay 57 = .ok (.getfield 63, 3) := by decide +kernel
theorem dM_relay_60 : decode cM_relay 60 = .ok (.ifCond .ne 27, 3) := by decide +kernel
theorem dM_relay_63 : decode cM_relay 63 = .ok (.aload_n 0, 1) := by decide +kernel
theorem dM_relay_64 : decode cM_relay 64 = .ok (.iload_n 1, 1) := by decide +kernel
theorem dM_relay_65 : decode cM_relay 65 = .ok (.aload_n 0, 1) := by decide +kernel
theorem dM_relay_66 : decode cM_relay 66 = .ok (.getfield 50, 3) := by decide +kernel
theorem dM_relay_69 : decode cM_relay 69 = .ok (.iload_n 1, 1) := by decide +kernel
theorem dM_relay_70 : decode cM_relay 70 = .ok (.laload, 1) := by decide +kernel
theorem dM_relay_71 : decode cM_relay 71 = .ok (.lload_n 2, 1) := by decide +kernel
theorem dM_relay_72 : decode cM_relay 72 = .ok (.ladd, 1) := by decide +kernel
theorem dM_relay_73 : decode cM_relay 73 = .ok (.ldc2_w 68, 3) := by decide +kernel
theorem dM_relay_76 : decode cM_relay 76 = .ok (.lrem, 1) := by decide +kernel
theorem dM_relay_77 : decode cM_relay 77 = .ok (.invokevirtual 157, 3) := by decide +kernel
theorem dM_relay_80 : decode cM_relay 80 = .ok (.ifCond .eq 7, 3) := by decide +kernel
theorem dM_relay_83 : decode cM_relay 83 = .ok (.iconst 1, 1) := by decide +kernel
theorem dM_relay_84 : decode cM_relay 84 = .ok (.goto 4, 3) := by decide +kernel
theorem dM_relay_87 : decode cM_relay 87 = .ok (.iconst 0, 1) := by decide +kernel
theorem dM_relay_88 : decode cM_relay 88 = .ok (.ireturn, 1) := by decide +kernel
-- M_isWhole
theorem dM_isWhole_0 : decode cM_isWhole 0 = .ok (.aload_n 0, 1) := by decide +kernel
theorem dM_isWhole_1 : decode cM_isWhole 1 = .ok (.getfield 107, 3) := by decide +kernel
theorem dM_isWhole_4 : decode cM_isWhole 4 = .ok (.ifCond .eq 18, 3) := by decide +kernel
theorem dM_isWhole_7 : decode cM_isWhole 7 = .ok (.aload_n 0, 1) := by decide +kernel
theorem dM_isWhole_8 : decode cM_isWhole 8 = .ok (.getfield 110, 3) := by decide +kernel
theorem dM_isWhole_11 : decode cM_isWhole 11 = .ok (.aload_n 0, 1) := by decide +kernel
theorem dM_isWhole_12 : decode cM_isWhole 12 = .ok (.getfield 107, 3) := by decide +kernel
theorem dM_isWhole_15 : decode cM_isWhole 15 = .ok (.if_icmp .ne 7, 3) := by decide +kernel
theorem dM_isWhole_18 : decode cM_isWhole 18 = .ok (.iconst 1, 1) := by decide +kernel
theorem dM_isWhole_19 : decode cM_isWhole 19 = .ok (.goto 4, 3) := by decide +kernel
theorem dM_isWhole_22 : decode cM_isWhole 22 = .ok (.iconst 0, 1) := by decide +kernel
theorem dM_isWhole_23 : decode cM_isWhole 23 = .ok (.ireturn, 1) := by decide +kernel
-- M_sum
theorem dM_sum_0 : decode cM_sum 0 = .ok (.lconst 0, 1) := by decide +kernel
theorem dM_sum_1 : decode cM_sum 1 = .ok (.lstore_n 1, 1) := by decide +kernel
theorem dM_sum_2 : decode cM_sum 2 = .ok (.iconst 1, 1) := by decide +kernel
theorem dM_sum_3 : decode cM_sum 3 = .ok (.istore_n 3, 1) := by decide +kernel
theorem dM_sum_4 : decode cM_sum 4 = .ok (.iload_n 3, 1) := by decide +kernel
theorem dM_sum_5 : decode cM_sum 5 = .ok (.aload_n 0, 1) := by decide +kernel
theorem dM_sum_6 : decode cM_sum 6 = .ok (.getfield 56, 3) := by decide +kernel
theorem dM_sum_9 : decode cM_sum 9 = .ok (.if_icmp .gt 37, 3) := by decide +kernel
theorem dM_sum_12 : decode cM_sum 12 = .ok (.aload_n 0, 1) := by decide +kernel
theorem dM_sum_13 : decode cM_sum 13 = .ok (.getfield 107, 3) := by decide +kernel
theorem dM_sum_16 : decode cM_sum 16 = .ok (.iload_n 3, 1) := by decide +kernel
theorem dM_sum_17 : decode cM_sum 17 = .ok (.invokestatic 89, 3) := by decide +kernel
theorem dM_sum_20 : decode cM_sum 20 = .ok (.ifCond .eq 18, 3) := by decide +kernel
theorem dM_sum_23 : decode cM_sum 23 = .ok (.lload_n 1, 1) := by decide +kernel
theorem dM_sum_24 : decode cM_sum 24 = .ok (.aload_n 0, 1) := by decide +kernel
theorem dM_sum_25 : decode cM_sum 25 = .ok (.getfield 53, 3) := by decide +kernel
theorem dM_sum_28 : decode cM_sum 28 = .ok (.iload_n 3, 1) := by decide +kernel
theorem dM_sum_29 : decode cM_sum 29 = .ok (.laload, 1) := by decide +kernel
theorem dM_sum_30 : decode cM_sum 30 = .ok (.ladd, 1) := by decide +kernel
theorem dM_sum_31 : decode cM_sum 31 = .ok (.ldc2_w 68, 3) := by decide +kernel
theorem dM_sum_34 : decode cM_sum 34 = .ok (.lrem, 1) := by decide +kernel
theorem dM_sum_35 : decode cM_sum 35 = .ok (.goto 4, 3) := by decide +kernel
theorem dM_sum_38 : decode cM_sum 38 = .ok (.lload_n 1, 1) := by decide +kernel
theorem dM_sum_39 : decode cM_sum 39 = .ok (.lstore_n 1, 1) := by decide +kernel
theorem dM_sum_40 : decode cM_sum 40 = .ok (.iinc 3 1, 3) := by decide +kernel
theorem dM_sum_43 : decode cM_sum 43 = .ok (.goto (-39), 3) := by decide +kernel
theorem dM_sum_46 : decode cM_sum 46 = .ok (.lload_n 1, 1) := by decide +kernel
theorem dM_sum_47 : decode cM_sum 47 = .ok (.lreturn, 1) := by decide +kernel
-- M_seal
theorem dM_seal_0 : decode cM_seal 0 = .ok (.aload_n 0, 1) := by decide +kernel
theorem dM_seal_1 : decode cM_seal 1 = .ok (.aload_n 0, 1) := by decide +kernel
theorem dM_seal_2 : decode cM_seal 2 = .ok (.invokevirtual 161, 3) := by decide +kernel
theorem dM_seal_5 : decode cM_seal 5 = .ok (.ifCond .eq 7, 3) := by decide +kernel
theorem dM_seal_8 : decode cM_seal 8 = .ok (.iconst 0, 1) := by decide +kernel
theorem dM_seal_9 : decode cM_seal 9 = .ok (.goto 4, 3) := by decide +kernel
theorem dM_seal_12 : decode cM_seal 12 = .ok (.iconst 1, 1) := by decide +kernel
theorem dM_seal_13 : decode cM_seal 13 = .ok (.putfield 63, 3) := by decide +kernel
theorem dM_seal_16 : decode cM_seal 16 = .ok (.aload_n 0, 1) := by decide +kernel
theorem dM_seal_17 : decode cM_seal 17 = .ok (.getfield 63, 3) := by decide +kernel
theorem dM_seal_20 : decode cM_seal 20 = .ok (.ifCond .ne 10, 3) := by decide +kernel
theorem dM_seal_23 : decode cM_seal 23 = .ok (.aload_n 0, 1) := by decide +kernel
theorem dM_seal_24 : decode cM_seal 24 = .ok (.invokevirtual 165, 3) := by decide +kernel
theorem dM_seal_27 : decode cM_seal 27 = .ok (.goto 4, 3) := by decide +kernel
theorem dM_seal_30 : decode cM_seal 30 = .ok (.lconst 0, 1) := by decide +kernel
theorem dM_seal_31 : decode cM_seal 31 = .ok (.lreturn, 1) := by decide +kernel
-- M_isSealOf
theorem dM_isSealOf_0 : decode cM_isSealOf 0 = .ok (.aload_n 0, 1) := by decide +kernel
theorem dM_isSealOf_1 : decode cM_isSealOf 1 = .ok (.getfield 103, 3) := by decide +kernel
theorem dM_isSealOf_4 : decode cM_isSealOf 4 = .ok (.ifCond .eq 25, 3) := by decide +kernel
theorem dM_isSealOf_7 : decode cM_isSealOf 7 = .ok (.lload_n 3, 1) := by decide +kernel
theorem dM_isSealOf_8 : decode cM_isSealOf 8 = .ok (.lconst 1, 1) := by decide +kernel
theorem dM_isSealOf_9 : decode cM_isSealOf 9 = .ok (.lcmp, 1) := by decide +kernel
theorem dM_isSealOf_10 : decode cM_isSealOf 10 = .ok (.ifCond .lt 19, 3) := by decide +kernel
theorem dM_isSealOf_13 : decode cM_isSealOf 13 = .ok (.lload_n 3, 1) := by decide +kernel
theorem dM_isSealOf_14 : decode cM_isSealOf 14 = .ok (.ldc2_w 101, 3) := by decide +kernel
theorem dM_isSealOf_17 : decode cM_isSealOf 17 = .ok (.lcmp, 1) := by decide +kernel
theorem dM_isSealOf_18 : decode cM_isSealOf 18 = .ok (.ifCond .ge 11, 3) := by decide +kernel
theorem dM_isSealOf_21 : decode cM_isSealOf 21 = .ok (.lload 5, 2) := by decide +kernel
theorem dM_isSealOf_23 : decode cM_isSealOf 23 = .ok (.invokestatic 153, 3) := by decide +kernel
theorem dM_isSealOf_26 : decode cM_isSealOf 26 = .ok (.ifCond .ne 5, 3) := by decide +kernel
theorem dM_isSealOf_29 : decode cM_isSealOf 29 = .ok (.iconst 0, 1) := by decide +kernel
theorem dM_isSealOf_30 : decode cM_isSealOf 30 = .ok (.ireturn, 1) := by decide +kernel
theorem dM_isSealOf_31 : decode cM_isSealOf 31 = .ok (.aload_n 0, 1) := by decide +kernel
theorem dM_isSealOf_32 : decode cM_isSealOf 32 = .ok (.lload_n 3, 1) := by decide +kernel
theorem dM_isSealOf_33 : decode cM_isSealOf 33 = .ok (.lload_n 1, 1) := by decide +kernel
theorem dM_isSealOf_34 : decode cM_isSealOf 34 = .ok (.invokevirtual 143, 3) := by decide +kernel
theorem dM_isSealOf_37 : decode cM_isSealOf 37 = .ok (.lstore 7, 2) := by decide +kernel
theorem dM_isSealOf_39 : decode cM_isSealOf 39 = .ok (.ldc2_w 99, 3) := by decide +kernel
theorem dM_isSealOf_42 : decode cM_isSealOf 42 = .ok (.lload 5, 2) := by decide +kernel
theorem dM_isSealOf_44 : decode cM_isSealOf 44 = .ok (.ldc2_w 101, 3) := by decide +kernel
theorem dM_isSealOf_47 : decode cM_isSealOf 47 = .ok (.invokestatic 95, 3) := by decide +kernel
theorem dM_isSealOf_50 : decode cM_isSealOf 50 = .ok (.lload_n 3, 1) := by decide +kernel
theorem dM_isSealOf_51 : decode cM_isSealOf 51 = .ok (.aload_n 0, 1) := by decide +kernel
theorem dM_isSealOf_52 : decode cM_isSealOf 52 = .ok (.getfield 13, 3) := by decide +kernel
theorem dM_isSealOf_55 : decode cM_isSealOf 55 = .ok (.iconst 0, 1) := by decide +kernel
theorem dM_isSealOf_56 : decode cM_isSealOf 56 = .ok (.laload, 1) := by decide +kernel
theorem dM_isSealOf_57 : decode cM_isSealOf 57 = .ok (.lload 7, 2) := by decide +kernel
theorem dM_isSealOf_59 : decode cM_isSealOf 59 = .ok (.ldc2_w 101, 3) := by decide +kernel
theorem dM_isSealOf_62 : decode cM_isSealOf 62 = .ok (.invokestatic 95, 3) := by decide +kernel
theorem dM_isSealOf_65 : decode cM_isSealOf 65 = .ok (.lmul, 1) := by decide +kernel
theorem dM_isSealOf_66 : decode cM_isSealOf 66 = .ok (.ldc2_w 101, 3) := by decide +kernel
theorem dM_isSealOf_69 : decode cM_isSealOf 69 = .ok (.lrem, 1) := by decide +kernel
theorem dM_isSealOf_70 : decode cM_isSealOf 70 = .ok (.lcmp, 1) := by decide +kernel
theorem dM_isSealOf_71 : decode cM_isSealOf 71 = .ok (.ifCond .ne 7, 3) := by decide +kernel
theorem dM_isSealOf_74 : decode cM_isSealOf 74 = .ok (.iconst 1, 1) := by decide +kernel
theorem dM_isSealOf_75 : decode cM_isSealOf 75 = .ok (.goto 4, 3) := by decide +kernel
theorem dM_isSealOf_78 : decode cM_isSealOf 78 = .ok (.iconst 0, 1) := by decide +kernel
theorem dM_isSealOf_79 : decode cM_isSealOf 79 = .ok (.ireturn, 1) := by decide +kernel
-- M_check
theorem dM_check_0 : decode cM_check 0 = .ok (.aload_n 0, 1) := by decide +kernel
theorem dM_check_1 : decode cM_check 1 = .ok (.iconst 0, 1) := by decide +kernel
theorem dM_check_2 : decode cM_check 2 = .ok (.putfield 63, 3) := by decide +kernel
theorem dM_check_5 : decode cM_check 5 = .ok (.aload_n 0, 1) := by decide +kernel
theorem dM_check_6 : decode cM_check 6 = .ok (.lload_n 1, 1) := by decide +kernel
theorem dM_check_7 : decode cM_check 7 = .ok (.lload_n 3, 1) := by decide +kernel
theorem dM_check_8 : decode cM_check 8 = .ok (.lload 5, 2) := by decide +kernel
theorem dM_check_10 : decode cM_check 10 = .ok (.invokevirtual 168, 3) := by decide +kernel
theorem dM_check_13 : decode cM_check 13 = .ok (.ireturn, 1) := by decide +kernel
-- M_holds
theorem dM_holds_0 : decode cM_holds 0 = .ok (.aload_n 0, 1) := by decide +kernel
theorem dM_holds_1 : decode cM_holds 1 = .ok (.lload_n 3, 1) := by decide +kernel
theorem dM_holds_2 : decode cM_holds 2 = .ok (.invokestatic 153, 3) := by decide +kernel
theorem dM_holds_5 : decode cM_holds 5 = .ok (.ifCond .ne 7, 3) := by decide +kernel
theorem dM_holds_8 : decode cM_holds 8 = .ok (.iconst 1, 1) := by decide +kernel
theorem dM_holds_9 : decode cM_holds 9 = .ok (.goto 15, 3) := by decide +kernel
theorem dM_holds_12 : decode cM_holds 12 = .ok (.aload_n 0, 1) := by decide +kernel
theorem dM_holds_13 : decode cM_holds 13 = .ok (.invokevirtual 161, 3) := by decide +kernel
theorem dM_holds_16 : decode cM_holds 16 = .ok (.ifCond .ne 7, 3) := by decide +kernel
theorem dM_holds_19 : decode cM_holds 19 = .ok (.iconst 2, 1) := by decide +kernel
theorem dM_holds_20 : decode cM_holds 20 = .ok (.goto 4, 3) := by decide +kernel
theorem dM_holds_23 : decode cM_holds 23 = .ok (.iconst 0, 1) := by decide +kernel
theorem dM_holds_24 : decode cM_holds 24 = .ok (.putfield 63, 3) := by decide +kernel
theorem dM_holds_27 : decode cM_holds 27 = .ok (.aload_n 0, 1) := by decide +kernel
theorem dM_holds_28 : decode cM_holds 28 = .ok (.getfield 63, 3) := by decide +kernel
theorem dM_holds_31 : decode cM_holds 31 = .ok (.ifCond .ne 29, 3) := by decide +kernel
theorem dM_holds_34 : decode cM_holds 34 = .ok (.aload_n 0, 1) := by decide +kernel
theorem dM_holds_35 : decode cM_holds 35 = .ok (.lload_n 1, 1) := by decide +kernel
theorem dM_holds_36 : decode cM_holds 36 = .ok (.aload_n 0, 1) := by decide +kernel
theorem dM_holds_37 : decode cM_holds 37 = .ok (.getfield 132, 3) := by decide +kernel
theorem dM_holds_40 : decode cM_holds 40 = .ok (.aload_n 0, 1) := by decide +kernel
theorem dM_holds_41 : decode cM_holds 41 = .ok (.invokevirtual 165, 3) := by decide +kernel
theorem dM_holds_44 : decode cM_holds 44 = .ok (.lload_n 3, 1) := by decide +kernel
theorem dM_holds_45 : decode cM_holds 45 = .ok (.ladd, 1) := by decide +kernel
theorem dM_holds_46 : decode cM_holds 46 = .ok (.ldc2_w 68, 3) := by decide +kernel
theorem dM_holds_49 : decode cM_holds 49 = .ok (.lrem, 1) := by decide +kernel
theorem dM_holds_50 : decode cM_holds 50 = .ok (.invokevirtual 168, 3) := by decide +kernel
theorem dM_holds_53 : decode cM_holds 53 = .ok (.ifCond .eq 7, 3) := by decide +kernel
theorem dM_holds_56 : decode cM_holds 56 = .ok (.iconst 1, 1) := by decide +kernel
theorem dM_holds_57 : decode cM_holds 57 = .ok (.goto 4, 3) := by decide +kernel
theorem dM_holds_60 : decode cM_holds 60 = .ok (.iconst 0, 1) := by decide +kernel
theorem dM_holds_61 : decode cM_holds 61 = .ok (.ireturn, 1) := by decide +kernel
-- M_recover
theorem dM_recover_0 : decode cM_recover 0 = .ok (.aload_n 0, 1) := by decide +kernel
theorem dM_recover_1 : decode cM_recover 1 = .ok (.aload_n 0, 1) := by decide +kernel
theorem dM_recover_2 : decode cM_recover 2 = .ok (.iload_n 1, 1) := by decide +kernel
theorem dM_recover_3 : decode cM_recover 3 = .ok (.invokevirtual 126, 3) := by decide +kernel
theorem dM_recover_6 : decode cM_recover 6 = .ok (.ifCond .ne 7, 3) := by decide +kernel
theorem dM_recover_9 : decode cM_recover 9 = .ok (.iconst 1, 1) := by decide +kernel
theorem dM_recover_10 : decode cM_recover 10 = .ok (.goto 15, 3) := by decide +kernel
theorem dM_recover_13 : decode cM_recover 13 = .ok (.aload_n 0, 1) := by decide +kernel
theorem dM_recover_14 : decode cM_recover 14 = .ok (.getfield 103, 3) := by decide +kernel
theorem dM_recover_17 : decode cM_recover 17 = .ok (.ifCond .ne 7, 3) := by decide +kernel
theorem dM_recover_20 : decode cM_recover 20 = .ok (.iconst 2, 1) := by decide +kernel
theorem dM_recover_21 : decode cM_recover 21 = .ok (.goto 4, 3) := by decide +kernel
theorem dM_recover_24 : decode cM_recover 24 = .ok (.iconst 0, 1) := by decide +kernel
theorem dM_recover_25 : decode cM_recover 25 = .ok (.putfield 63, 3) := by decide +kernel
theorem dM_recover_28 : decode cM_recover 28 = .ok (.aload_n 0, 1) := by decide +kernel
theorem dM_recover_29 : decode cM_recover 29 = .ok (.getfield 63, 3) := by decide +kernel
theorem dM_recover_32 : decode cM_recover 32 = .ok (.ifCond .eq 5, 3) := by decide +kernel
theorem dM_recover_35 : decode cM_recover 35 = .ok (.lconst 0, 1) := by decide +kernel
theorem dM_recover_36 : decode cM_recover 36 = .ok (.lreturn, 1) := by decide +kernel
theorem dM_recover_37 : decode cM_recover 37 = .ok (.lconst 0, 1) := by decide +kernel
theorem dM_recover_38 : decode cM_recover 38 = .ok (.lstore_n 2, 1) := by decide +kernel
theorem dM_recover_39 : decode cM_recover 39 = .ok (.iconst 1, 1) := by decide +kernel
theorem dM_recover_40 : decode cM_recover 40 = .ok (.istore 4, 2) := by decide +kernel
theorem dM_recover_42 : decode cM_recover 42 = .ok (.iload 4, 2) := by decide +kernel
theorem dM_recover_44 : decode cM_recover 44 = .ok (.aload_n 0, 1) := by decide +kernel
theorem dM_recover_45 : decode cM_recover 45 = .ok (.getfield 56, 3) := by decide +kernel
theorem dM_recover_48 : decode cM_recover 48 = .ok (.if_icmp .gt 44, 3) := by decide +kernel
theorem dM_recover_51 : decode cM_recover 51 = .ok (.iload_n 1, 1) := by decide +kernel
theorem dM_recover_52 : decode cM_recover 52 = .ok (.iload 4, 2) := by decide +kernel
theorem dM_recover_54 : decode cM_recover 54 = .ok (.invokestatic 89, 3) := by decide +kernel
theorem dM_recover_57 : decode cM_recover 57 = .ok (.ifCond .eq 29, 3) := by decide +kernel
theorem dM_recover_60 : decode cM_recover 60 = .ok (.aload_n 0, 1) := by decide +kernel
theorem dM_recover_61 : decode cM_recover 61 = .ok (.iload_n 1, 1) := by decide +kernel
theorem dM_recover_62 : decode cM_recover 62 = .ok (.iload 4, 2) := by decide +kernel
theorem dM_recover_64 : decode cM_recover 64 = .ok (.invokevirtual 139, 3) := by decide +kernel
theorem dM_recover_67 : decode cM_recover 67 = .ok (.lstore 5, 2) := by decide +kernel
theorem dM_recover_69 : decode cM_recover 69 = .ok (.lload_n 2, 1) := by decide +kernel
theorem dM_recover_70 : decode cM_recover 70 = .ok (.lload 5, 2) := by decide +kernel
theorem dM_recover_72 : decode cM_recover 72 = .ok (.aload_n 0, 1) := by decide +kernel
theorem dM_recover_73 : decode cM_recover 73 = .ok (.getfield 7, 3) := by decide +kernel
theorem dM_recover_76 : decode cM_recover 76 = .ok (.iload 4, 2) := by decide +kernel
theorem dM_recover_78 : decode cM_recover 78 = .ok (.laload, 1) := by decide +kernel
theorem dM_recover_79 : decode cM_recover 79 = .ok (.lmul, 1) := by decide +kernel
theorem dM_recover_80 : decode cM_recover 80 = .ok (.ladd, 1) := by decide +kernel
theorem dM_recover_81 : decode cM_recover 81 = .ok (.ldc2_w 68, 3) := by decide +kernel
theorem dM_recover_84 : decode cM_recover 84 = .ok (.lrem, 1) := by decide +kernel
theorem dM_recover_85 : decode cM_recover 85 = .ok (.lstore_n 2, 1) := by decide +kernel
theorem dM_recover_86 : decode cM_recover 86 = .ok (.iinc 4 1, 3) := by decide +kernel
theorem dM_recover_89 : decode cM_recover 89 = .ok (.goto (-47), 3) := by decide +kernel
theorem dM_recover_92 : decode cM_recover 92 = .ok (.lload_n 2, 1) := by decide +kernel
theorem dM_recover_93 : decode cM_recover 93 = .ok (.lreturn, 1) := by decide +kernel
-- M_key
theorem dM_key_0 : decode cM_key 0 = .ok (.aload_n 0, 1) := by decide +kernel
theorem dM_key_1 : decode cM_key 1 = .ok (.iconst 0, 1) := by decide +kernel
theorem dM_key_2 : decode cM_key 2 = .ok (.putfield 63, 3) := by decide +kernel
theorem dM_key_5 : decode cM_key 5 = .ok (.aload_n 0, 1) := by decide +kernel
theorem dM_key_6 : decode cM_key 6 = .ok (.getfield 103, 3) := by decide +kernel
theorem dM_key_9 : decode cM_key 9 = .ok (.ifCond .eq 24, 3) := by decide +kernel
theorem dM_key_12 : decode cM_key 12 = .ok (.iload_n 1, 1) := by decide +kernel
theorem dM_key_13 : decode cM_key 13 = .ok (.ifCond .eq 11, 3) := by decide +kernel
theorem dM_key_16 : decode cM_key 16 = .ok (.aload_n 0, 1) := by decide +kernel
theorem dM_key_17 : decode cM_key 17 = .ok (.iload_n 1, 1) := by decide +kernel
theorem dM_key_18 : decode cM_key 18 = .ok (.invokevirtual 116, 3) := by decide +kernel
theorem dM_key_21 : decode cM_key 21 = .ok (.ifCond .eq 12, 3) := by decide +kernel
theorem dM_key_24 : decode cM_key 24 = .ok (.aload_n 0, 1) := by decide +kernel
theorem dM_key_25 : decode cM_key 25 = .ok (.getfield 13, 3) := by decide +kernel
theorem dM_key_28 : decode cM_key 28 = .ok (.iload_n 1, 1) := by decide +kernel
theorem dM_key_29 : decode cM_key 29 = .ok (.laload, 1) := by decide +kernel
theorem dM_key_30 : decode cM_key 30 = .ok (.goto 6, 3) := by decide +kernel
theorem dM_key_33 : decode cM_key 33 = .ok (.ldc2_w 172, 3) := by decide +kernel
theorem dM_key_36 : decode cM_key 36 = .ok (.lreturn, 1) := by decide +kernel
-- M_secret
theorem dM_secret_0 : decode cM_secret 0 = .ok (.aload_n 0, 1) := by decide +kernel
theorem dM_secret_1 : decode cM_secret 1 = .ok (.iconst 0, 1) := by decide +kernel
theorem dM_secret_2 : decode cM_secret 2 = .ok (.putfield 63, 3) := by decide +kernel
theorem dM_secret_5 : decode cM_secret 5 = .ok (.aload_n 0, 1) := by decide +kernel
theorem dM_secret_6 : decode cM_secret 6 = .ok (.getfield 103, 3) := by decide +kernel
theorem dM_secret_9 : decode cM_secret 9 = .ok (.ifCond .eq 20, 3) := by decide +kernel
theorem dM_secret_12 : decode cM_secret 12 = .ok (.aload_n 0, 1) := by decide +kernel
theorem dM_secret_13 : decode cM_secret 13 = .ok (.iload_n 1, 1) := by decide +kernel
theorem dM_secret_14 : decode cM_secret 14 = .ok (.invokevirtual 116, 3) := by decide +kernel
theorem dM_secret_17 : decode cM_secret 17 = .ok (.ifCond .eq 12, 3) := by decide +kernel
theorem dM_secret_20 : decode cM_secret 20 = .ok (.aload_n 0, 1) := by decide +kernel
theorem dM_secret_21 : decode cM_secret 21 = .ok (.getfield 7, 3) := by decide +kernel
theorem dM_secret_24 : decode cM_secret 24 = .ok (.iload_n 1, 1) := by decide +kernel
theorem dM_secret_25 : decode cM_secret 25 = .ok (.laload, 1) := by decide +kernel
theorem dM_secret_26 : decode cM_secret 26 = .ok (.goto 6, 3) := by decide +kernel
theorem dM_secret_29 : decode cM_secret 29 = .ok (.ldc2_w 172, 3) := by decide +kernel
theorem dM_secret_32 : decode cM_secret 32 = .ok (.lreturn, 1) := by decide +kernel
-- M_commitment
theorem dM_commitment_0 : decode cM_commitment 0 = .ok (.aload_n 0, 1) := by decide +kernel
theorem dM_commitment_1 : decode cM_commitment 1 = .ok (.iconst 0, 1) := by decide +kernel
theorem dM_commitment_2 : decode cM_commitment 2 = .ok (.putfield 63, 3) := by decide +kernel
theorem dM_commitment_5 : decode cM_commitment 5 = .ok (.aload_n 0, 1) := by decide +kernel
theorem dM_commitment_6 : decode cM_commitment 6 = .ok (.iload_n 1, 1) := by decide +kernel
theorem dM_commitment_7 : decode cM_commitment 7 = .ok (.invokevirtual 116, 3) := by decide +kernel
theorem dM_commitment_10 : decode cM_commitment 10 = .ok (.ifCond .eq 12, 3) := by decide +kernel
theorem dM_commitment_13 : decode cM_commitment 13 = .ok (.aload_n 0, 1) := by decide +kernel
theorem dM_commitment_14 : decode cM_commitment 14 = .ok (.getfield 16, 3) := by decide +kernel
theorem dM_commitment_17 : decode cM_commitment 17 = .ok (.iload_n 1, 1) := by decide +kernel
theorem dM_commitment_18 : decode cM_commitment 18 = .ok (.baload, 1) := by decide +kernel
theorem dM_commitment_19 : decode cM_commitment 19 = .ok (.ifCond .ne 9, 3) := by decide +kernel
theorem dM_commitment_22 : decode cM_commitment 22 = .ok (.ldc2_w 172, 3) := by decide +kernel
theorem dM_commitment_25 : decode cM_commitment 25 = .ok (.goto 22, 3) := by decide +kernel
theorem dM_commitment_28 : decode cM_commitment 28 = .ok (.iload_n 2, 1) := by decide +kernel
theorem dM_commitment_29 : decode cM_commitment 29 = .ok (.ifCond .eq 12, 3) := by decide +kernel
theorem dM_commitment_32 : decode cM_commitment 32 = .ok (.aload_n 0, 1) := by decide +kernel
theorem dM_commitment_33 : decode cM_commitment 33 = .ok (.getfield 29, 3) := by decide +kernel
theorem dM_commitment_36 : decode cM_commitment 36 = .ok (.iload_n 1, 1) := by decide +kernel
theorem dM_commitment_37 : decode cM_commitment 37 = .ok (.laload, 1) := by decide +kernel
theorem dM_commitment_38 : decode cM_commitment 38 = .ok (.goto 9, 3) := by decide +kernel
theorem dM_commitment_41 : decode cM_commitment 41 = .ok (.aload_n 0, 1) := by decide +kernel
theorem dM_commitment_42 : decode cM_commitment 42 = .ok (.getfield 26, 3) := by decide +kernel
theorem dM_commitment_45 : decode cM_commitment 45 = .ok (.iload_n 1, 1) := by decide +kernel
theorem dM_commitment_46 : decode cM_commitment 46 = .ok (.laload, 1) := by decide +kernel
theorem dM_commitment_47 : decode cM_commitment 47 = .ok (.lreturn, 1) := by decide +kernel
-- M_factor
theorem dM_factor_0 : decode cM_factor 0 = .ok (.aload_n 0, 1) := by decide +kernel
theorem dM_factor_1 : decode cM_factor 1 = .ok (.iconst 0, 1) := by decide +kernel
theorem dM_factor_2 : decode cM_factor 2 = .ok (.putfield 63, 3) := by decide +kernel
theorem dM_factor_5 : decode cM_factor 5 = .ok (.aload_n 0, 1) := by decide +kernel
theorem dM_factor_6 : decode cM_factor 6 = .ok (.iload_n 1, 1) := by decide +kernel
theorem dM_factor_7 : decode cM_factor 7 = .ok (.invokevirtual 150, 3) := by decide +kernel
theorem dM_factor_10 : decode cM_factor 10 = .ok (.ifCond .eq 12, 3) := by decide +kernel
theorem dM_factor_13 : decode cM_factor 13 = .ok (.aload_n 0, 1) := by decide +kernel
theorem dM_factor_14 : decode cM_factor 14 = .ok (.getfield 38, 3) := by decide +kernel
theorem dM_factor_17 : decode cM_factor 17 = .ok (.iload_n 1, 1) := by decide +kernel
theorem dM_factor_18 : decode cM_factor 18 = .ok (.laload, 1) := by decide +kernel
theorem dM_factor_19 : decode cM_factor 19 = .ok (.goto 6, 3) := by decide +kernel
theorem dM_factor_22 : decode cM_factor 22 = .ok (.ldc2_w 172, 3) := by decide +kernel
theorem dM_factor_25 : decode cM_factor 25 = .ok (.lreturn, 1) := by decide +kernel
-- M_weight
theorem dM_weight_0 : decode cM_weight 0 = .ok (.aload_n 0, 1) := by decide +kernel
theorem dM_weight_1 : decode cM_weight 1 = .ok (.iconst 0, 1) := by decide +kernel
theorem dM_weight_2 : decode cM_weight 2 = .ok (.putfield 63, 3) := by decide +kernel
theorem dM_weight_5 : decode cM_weight 5 = .ok (.aload_n 0, 1) := by decide +kernel
theorem dM_weight_6 : decode cM_weight 6 = .ok (.iload_n 1, 1) := by decide +kernel
theorem dM_weight_7 : decode cM_weight 7 = .ok (.invokevirtual 150, 3) := by decide +kernel
theorem dM_weight_10 : decode cM_weight 10 = .ok (.ifCond .eq 12, 3) := by decide +kernel
theorem dM_weight_13 : decode cM_weight 13 = .ok (.aload_n 0, 1) := by decide +kernel
theorem dM_weight_14 : decode cM_weight 14 = .ok (.getfield 41, 3) := by decide +kernel
theorem dM_weight_17 : decode cM_weight 17 = .ok (.iload_n 1, 1) := by decide +kernel
theorem dM_weight_18 : decode cM_weight 18 = .ok (.laload, 1) := by decide +kernel
theorem dM_weight_19 : decode cM_weight 19 = .ok (.goto 6, 3) := by decide +kernel
theorem dM_weight_22 : decode cM_weight 22 = .ok (.ldc2_w 172, 3) := by decide +kernel
theorem dM_weight_25 : decode cM_weight 25 = .ok (.lreturn, 1) := by decide +kernel
-- M_challenge
theorem dM_challenge_0 : decode cM_challenge 0 = .ok (.aload_n 0, 1) := by decide +kernel
theorem dM_challenge_1 : decode cM_challenge 1 = .ok (.iconst 0, 1) := by decide +kernel
theorem dM_challenge_2 : decode cM_challenge 2 = .ok (.putfield 63, 3) := by decide +kernel
theorem dM_challenge_5 : decode cM_challenge 5 = .ok (.aload_n 0, 1) := by decide +kernel
theorem dM_challenge_6 : decode cM_challenge 6 = .ok (.getfield 107, 3) := by decide +kernel
theorem dM_challenge_9 : decode cM_challenge 9 = .ok (.ifCond .eq 10, 3) := by decide +kernel
theorem dM_challenge_12 : decode cM_challenge 12 = .ok (.aload_n 0, 1) := by decide +kernel
theorem dM_challenge_13 : decode cM_challenge 13 = .ok (.getfield 147, 3) := by decide +kernel
theorem dM_challenge_16 : decode cM_challenge 16 = .ok (.goto 6, 3) := by decide +kernel
theorem dM_challenge_19 : decode cM_challenge 19 = .ok (.ldc2_w 172, 3) := by decide +kernel
theorem dM_challenge_22 : decode cM_challenge 22 = .ok (.lreturn, 1) := by decide +kernel
-- M_members
theorem dM_members_0 : decode cM_members 0 = .ok (.aload_n 0, 1) := by decide +kernel
theorem dM_members_1 : decode cM_members 1 = .ok (.iconst 0, 1) := by decide +kernel
theorem dM_members_2 : decode cM_members 2 = .ok (.putfield 63, 3) := by decide +kernel
theorem dM_members_5 : decode cM_members 5 = .ok (.aload_n 0, 1) := by decide +kernel
theorem dM_members_6 : decode cM_members 6 = .ok (.getfield 107, 3) := by decide +kernel
theorem dM_members_9 : decode cM_members 9 = .ok (.ireturn, 1) := by decide +kernel
-- M_taken
theorem dM_taken_0 : decode cM_taken 0 = .ok (.aload_n 0, 1) := by decide +kernel
theorem dM_taken_1 : decode cM_taken 1 = .ok (.iconst 0, 1) := by decide +kernel
theorem dM_taken_2 : decode cM_taken 2 = .ok (.putfield 63, 3) := by decide +kernel
theorem dM_taken_5 : decode cM_taken 5 = .ok (.aload_n 0, 1) := by decide +kernel
theorem dM_taken_6 : decode cM_taken 6 = .ok (.getfield 110, 3) := by decide +kernel
theorem dM_taken_9 : decode cM_taken 9 = .ok (.ireturn, 1) := by decide +kernel
-- M_blamed
theorem dM_blamed_0 : decode cM_blamed 0 = .ok (.aload_n 0, 1) := by decide +kernel
theorem dM_blamed_1 : decode cM_blamed 1 = .ok (.iconst 0, 1) := by decide +kernel
theorem dM_blamed_2 : decode cM_blamed 2 = .ok (.putfield 63, 3) := by decide +kernel
theorem dM_blamed_5 : decode cM_blamed 5 = .ok (.aload_n 0, 1) := by decide +kernel
theorem dM_blamed_6 : decode cM_blamed 6 = .ok (.getfield 113, 3) := by decide +kernel
theorem dM_blamed_9 : decode cM_blamed 9 = .ok (.ireturn, 1) := by decide +kernel
end
section
/-! Numbers: the bits family of kit/laws (pasted), then powers modulo m, secrets, sums: nothing of the machine. -/
theorem wb_tb (n : Nat) : (lN n).toBitVec = BitVec.ofNat 64 n := rfl
theorem wb_inj {a b : Int64} (h : a.toBitVec = b.toBitVec) : a = b := Int64.toBitVec_inj.mp h
theorem wb_tn {n : Nat} (h : n < 2 ^ 64) : (lN n).toBitVec.toNat = n := by rw [wb_tb, BitVec.toNat_ofNat, Nat.mod_eq_of_lt h]
theorem wb_of (x : Int64) : ∃ n, n < 2 ^ 64 ∧ x = lN n := ⟨x.toBitVec.toNat, x.toBitVec.isLt, wb_inj (by rw [wb_tb]; simp)⟩
theorem wb_of32 (x : Int32) : ∃ n, n < 2 ^ 32 ∧ x = nI n := ⟨x.toBitVec.toNat, x.toBitVec.isLt, Int32.toBitVec_inj.mp (by show _ = BitVec.ofNat 32 _; simp)⟩
theorem wb_c : ∀ k, k < 64 → ((nI k).toInt64 &&& 63) = lN k := by decide +kernel
theorem wb_cu : ∀ k, k < 64 → ((nI k).toInt64.toUInt64 &&& Int64.toUInt64 63) = UInt64.ofNat k := by decide +kernel
theorem wb_sm : ∀ k, k < 64 → (BitVec.ofNat 64 k).smod 64 = BitVec.ofNat 64 k := by decide +kernel
theorem wb_pw {a b : Nat} (h : a ≤ b) : 2 ^ b = 2 ^ a * 2 ^ (b - a) := by rw [← Nat.pow_add]; congr 1; omega
theorem wb_lt2 {a b : Nat} (h : a < b) : 2 ^ a < 2 ^ b := Nat.pow_lt_pow_right (by decide) h
theorem wb_mod (n : Nat) : lN n = lN (n % 2 ^ 64) := wb_inj (by rw [wb_tb, wb_tb]; apply BitVec.eq_of_toNat_eq; rw [BitVec.toNat_ofNat, BitVec.toNat_ofNat, Nat.mod_mod])
theorem wb_shr {n k : Nat} (hn : n < 2 ^ 64) (hk : k < 64) : ((lN n).toUInt64 >>> ((nI k).toInt64.toUInt64 &&& Int64.toUInt64 63)).toInt64 = lN (n / 2 ^ k) := by
  rw [wb_cu k hk]
  apply wb_inj
  apply BitVec.eq_of_toNat_eq
  show ((lN n).toUInt64 >>> UInt64.ofNat k).toNat = (BitVec.ofNat 64 _).toNat
  have h1 : (UInt64.ofNat k).toNat = k := by
    show (BitVec.ofNat 64 k).toNat = k
    rw [BitVec.toNat_ofNat, Nat.mod_eq_of_lt (by omega)]
  have h2 : (lN n).toUInt64.toNat = n := wb_tn hn
  rw [UInt64.toNat_shiftRight, h1, h2, Nat.mod_eq_of_lt hk, Nat.shiftRight_eq_div_pow, BitVec.toNat_ofNat, Nat.mod_eq_of_lt (Nat.lt_of_le_of_lt (Nat.div_le_self _ _) hn)]
theorem wb_shl (n : Nat) {k : Nat} (hk : k < 64) : lN n <<< ((nI k).toInt64 &&& 63) = lN (n * 2 ^ k) := by
  rw [wb_c k hk]
  apply wb_inj
  rw [Int64.toBitVec_shiftLeft, wb_tb, wb_tb, wb_tb, wb_sm k hk]
  apply BitVec.eq_of_toNat_eq
  rw [BitVec.shiftLeft_eq', BitVec.toNat_shiftLeft, BitVec.toNat_ofNat, BitVec.toNat_ofNat, BitVec.toNat_ofNat, Nat.mod_eq_of_lt (show k < 2 ^ 64 by omega), Nat.shiftLeft_eq, Nat.mul_mod, Nat.mod_mod, ← Nat.mul_mod]
theorem wb_and {a b : Nat} (ha : a < 2 ^ 64) (hb : b < 2 ^ 64) : lN a &&& lN b = lN (a &&& b) := by
  apply wb_inj
  rw [Int64.toBitVec_and, wb_tb, wb_tb, wb_tb]
  apply BitVec.eq_of_toNat_eq
  rw [BitVec.toNat_and, BitVec.toNat_ofNat, BitVec.toNat_ofNat, BitVec.toNat_ofNat, Nat.mod_eq_of_lt ha, Nat.mod_eq_of_lt hb, Nat.mod_eq_of_lt (Nat.and_lt_two_pow _ hb)]
theorem wb_or {a b : Nat} (ha : a < 2 ^ 64) (hb : b < 2 ^ 64) : lN a ||| lN b = lN (a ||| b) := by
  apply wb_inj
  rw [Int64.toBitVec_or, wb_tb, wb_tb, wb_tb]
  apply BitVec.eq_of_toNat_eq
  rw [BitVec.toNat_or, BitVec.toNat_ofNat, BitVec.toNat_ofNat, BitVec.toNat_ofNat, Nat.mod_eq_of_lt ha, Nat.mod_eq_of_lt hb, Nat.mod_eq_of_lt (Nat.or_lt_two_pow ha hb)]
theorem wb_mask {n k : Nat} (hn : n < 2 ^ 64) (hk : k < 64) : lN n &&& lN (2 ^ k - 1) = lN (n % 2 ^ k) := by
  rw [wb_and hn (by have := wb_lt2 hk; omega), Nat.and_two_pow_sub_one_eq_mod]
theorem wb_a1 {n : Nat} (hn : n < 2 ^ 64) : lN n &&& 1 = lN (n % 2) := wb_mask (k := 1) hn (by decide)
theorem wb_bit {n k : Nat} (hn : n < 2 ^ 64) (hk : k < 64) : ((lN n).toUInt64 >>> ((nI k).toInt64.toUInt64 &&& Int64.toUInt64 63)).toInt64 &&& 1 = lN (n / 2 ^ k % 2) := by
  rw [wb_shr hn hk, wb_a1 (Nat.lt_of_le_of_lt (Nat.div_le_self _ _) hn)]
theorem pf_lI {a : Nat} (h : a < 2 ^ 63) : (lN a).toInt = (a : Int) := lg_ofNat_toInt h
theorem pf_shr {a d : Nat} {D : Int64} (hD : (D.toBitVec.smod 64).toNat = d) (h : a < 2 ^ 62) : lN a >>> D = lN (a / 2 ^ d) := by
  have hd : a / 2 ^ d ≤ a := Nat.div_le_self _ _
  apply Int64.toInt_inj.mp
  have e : (lN a >>> D).toInt = (lN a).toInt >>> d := by
    rw [← hD]
    exact BitVec.toInt_sshiftRight ..
  rw [e, Int.shiftRight_eq_div_pow, pf_lI (by omega), pf_lI (by omega)]
  rfl
def tm_Q : Nat := 1073741789
def tm_P : Nat := 2147483579
theorem tm_sq (x n m : Nat) : x ^ n % m * (x ^ n % m) % m = x ^ (2 * n) % m := by
  rw [← Nat.mul_mod, ← Nat.pow_add, Nat.two_mul]
theorem tm_mu (x n m : Nat) : x ^ n % m * x % m = x ^ (n + 1) % m := by
  rw [Nat.pow_succ, Nat.mul_mod, Nat.mod_mod, ← Nat.mul_mod]
theorem tm_bit (e k : Nat) : e / 2 ^ k = 2 * (e / 2 ^ (k + 1)) + e / 2 ^ k % 2 := by
  rw [Nat.pow_succ, ← Nat.div_div_eq_div_mul]; omega
theorem tm_st1 {x m e k : Nat} (h : e / 2 ^ k % 2 = 1) : x ^ (e / 2 ^ (k + 1)) % m * (x ^ (e / 2 ^ (k + 1)) % m) % m * x % m = x ^ (e / 2 ^ k) % m := by
  rw [tm_sq, tm_mu]
  have h2 := tm_bit e k
  rw [h] at h2
  rw [h2]
theorem tm_st0 {x m e k : Nat} (h : e / 2 ^ k % 2 = 0) : x ^ (e / 2 ^ (k + 1)) % m * (x ^ (e / 2 ^ (k + 1)) % m) % m = x ^ (e / 2 ^ k) % m := by
  rw [tm_sq]
  have h2 := tm_bit e k
  rw [h] at h2
  rw [h2]
  exact rfl
theorem tm_dig (e j : Nat) : e / 4 ^ j = 4 * (e / 4 ^ (j + 1)) + e / 4 ^ j % 4 := by
  rw [Nat.pow_succ, ← Nat.div_div_eq_div_mul]; omega
theorem tm_top {e : Nat} (h : e < 2 ^ 30) : e / 2 ^ 30 = 0 := Nat.div_eq_of_lt h
def tm_poly (a : Nat → Nat) (i : Nat) : Nat → Nat
  | 0 => 0
  | n + 1 => tm_poly a i n + a n * i ^ n
theorem tm_poly_shift (a : Nat → Nat) (i n : Nat) : tm_poly a i (n + 1) = a 0 + i * tm_poly (fun k => a (k + 1)) i n := by
  induction n with
  | zero => simp [tm_poly]
  | succ n ih =>
    rw [tm_poly, ih, tm_poly, Nat.mul_add, Nat.pow_succ]
    have : a (n + 1) * (i ^ n * i) = i * (a (n + 1) * i ^ n) := by
      rw [Nat.mul_comm (i ^ n) i, Nat.mul_left_comm]
    omega
def tm_sum (f : Nat → Nat) (s : Nat) : Nat → Nat
  | 0 => 0
  | n + 1 => tm_sum f s n + (if s.testBit n then f (n + 1) else 0)
theorem tm_sum_same {f g : Nat → Nat} {s t : Nat} : ∀ n, (∀ i, i < n → s.testBit i = t.testBit i ∧ (s.testBit i = true → f (i + 1) = g (i + 1))) → tm_sum f s n = tm_sum g t n
  | 0, _ => rfl
  | n + 1, h => by
    obtain ⟨h1, h2⟩ := h n (Nat.lt_succ_self n)
    rw [tm_sum, tm_sum, tm_sum_same n (fun i hi => h i (Nat.lt_succ_of_lt hi)), ← h1]
    cases hb : s.testBit n with
    | false => simp
    | true => simp [h2 hb]
theorem tm_prod (a d e p : Nat) : a * (d * e % p) % p = a * d % p * e % p := by
  rw [Nat.mul_mod_mod, Nat.mod_mul_mod, Nat.mul_assoc]
theorem tm_share (d x y q : Nat) : ((d + x) % q + y) % q = (d + x + y) % q := by
  rw [Nat.mod_add_mod]

theorem tq_rem {n : Nat} (h : n < 2 ^ 63) : lN n - lN n / 1073741789 * 1073741789 = lN (n % 1073741789) := pk_lRem (b := 1073741789) h (by decide) (by decide)
theorem tp_rem {n : Nat} (h : n < 2 ^ 63) : lN n - lN n / 2147483579 * 2147483579 = lN (n % 2147483579) := pk_lRem (b := 2147483579) h (by decide) (by decide)
theorem tm_62 {a b : Nat} (ha : a < 2 ^ 31) (hb : b < 2 ^ 31) : a * b < 2 ^ 63 := by
  have h := Nat.mul_lt_mul'' ha hb
  have e : (2 : Nat) ^ 31 * 2 ^ 31 < 2 ^ 63 := by decide
  omega
theorem tq_mul {a b : Nat} (ha : a < 2 ^ 31) (hb : b < 2 ^ 31) : lN a * lN b - lN a * lN b / 1073741789 * 1073741789 = lN (a * b % 1073741789) := by rw [lN_mul]; exact tq_rem (tm_62 ha hb)
theorem tp_mul {a b : Nat} (ha : a < 2 ^ 31) (hb : b < 2 ^ 31) : lN a * lN b - lN a * lN b / 2147483579 * 2147483579 = lN (a * b % 2147483579) := by rw [lN_mul]; exact tp_rem (tm_62 ha hb)
theorem tq_add {a b : Nat} (ha : a < 2 ^ 62) (hb : b < 2 ^ 62) : lN a + lN b - (lN a + lN b) / 1073741789 * 1073741789 = lN ((a + b) % 1073741789) := by rw [lN_add]; exact tq_rem (by omega)
theorem tb_bit {e k : Nat} (he : e < 2 ^ 62) (hk : k < 64) : (lN e >>> ((nI k).toInt64 &&& 63)) &&& 1 = lN (e / 2 ^ k % 2) := by
  rw [wb_c k hk, pf_shr (d := k) (by rw [wb_tb, wb_sm k hk, BitVec.toNat_ofNat]; exact Nat.mod_eq_of_lt (by omega)) he, wb_a1 (Nat.lt_of_le_of_lt (Nat.div_le_self _ _) (by omega))]
theorem tb_q (n : Nat) : n % 1073741789 < 2 ^ 31 := Nat.lt_trans (Nat.mod_lt n (by decide)) (by decide)
theorem tb_p (n : Nat) : n % 2147483579 < 2 ^ 31 := Nat.lt_trans (Nat.mod_lt n (by decide)) (by decide)
end
section
/-! the classes whose objects the worlds hold -/
abbrev xw_cl : List vw_C := [("ThresholdSeal", TS_, 5), ("ThresholdSeal$Dealing", TD_, 6), ("ThresholdSeal$Pairs", TP_, 5), ("ThresholdSeal$Session", TX_, 14), ("ThresholdSealModel", TM_, 25)]
end
section
/-! A pure machine over places: a reference of its values names a place; the heap is the list of the cells; the rules carry each instruction down to the kit's rows. -/
def xw_v (ad : Nat → Nat) (v : Value) : Value := match v with
  | .ref i => .ref (ad i)
  | v => v
theorem xw_cat (ad : Nat → Nat) (v : Value) : (xw_v ad v).category = v.category := by cases v <;> rfl
def xw_e (ad : Nat → Nat) (c : va_E) : va_E := match c with
  | .inl a => .inl a
  | .inr o => .inr (o.1, o.2.map (xw_v ad))
def xw_ws (ad : Nat → Nat) (hp : List va_E) : va_W := hp.mapIdx (fun i c => (ad i, xw_e ad c))
theorem xw_get {ad : Nat → Nat} {hp : List va_E} {i : Nat} {c : va_E} (h : hp[i]? = some c) : (xw_ws ad hp)[i]? = some (ad i, xw_e ad c) := by
  simp [xw_ws, h]
theorem xw_set {ad : Nat → Nat} {hp : List va_E} {i : Nat} {c : va_E} : (xw_ws ad hp).set i (ad i, xw_e ad c) = xw_ws ad (hp.set i c) := by
  apply List.ext_getElem?
  intro j
  simp only [xw_ws, List.getElem?_set, List.getElem?_mapIdx, List.length_mapIdx]
  by_cases h : i = j
  · subst h
    by_cases h2 : i < hp.length <;> simp [h2]
  · simp [h]
def xw_A (ad : Nat → Nat) (n : Nat) : Nat → Prop := fun q => ∃ i : Nat, i < n ∧ q = ad i
theorem xw_D {ad : Nat → Nat} {n : Nat} {hp : List va_E} (hi : ∀ i j : Nat, i < n → j < n → ad i = ad j → i = j) (hn : hp.length = n) : va_D (xw_A ad n) (xw_ws ad hp) := by
  have key : ∀ (k : Nat) (q : Nat × va_E), (xw_ws ad hp)[k]? = some q → k < n ∧ q.1 = ad k := by
    intro k q h
    simp only [xw_ws, List.getElem?_mapIdx, Option.map_eq_some_iff] at h
    obtain ⟨c, h1, rfl⟩ := h
    exact ⟨hn ▸ (List.getElem?_eq_some_iff.mp h1).1, rfl⟩
  refine ⟨fun i j p q h1 h2 h => ?_, fun k q h => ⟨k, (key k q h).1, (key k q h).2⟩⟩
  obtain ⟨a1, a2⟩ := key i p h1
  obtain ⟨b1, b2⟩ := key j q h2
  exact hi i j a1 b1 (a2.symm.trans (h.trans b2))
/-! locals by their places; a wide one has nothing behind it -/
def xl_w (o : Option Value) : Option Value := match o with
  | some (.long _) => none
  | some (.double _) => none
  | o => o
def xl_1 : List (Option Value) → Nat → Value → List (Option Value)
  | [], _, _ => []
  | _ :: t, 0, v => some v :: t
  | a :: t, 1, v => xl_w a :: xl_1 t 0 v
  | a :: t, n + 2, v => a :: xl_1 t (n + 1) v
def xl_n : List (Option Value) → List (Option Value)
  | [] => []
  | _ :: t => none :: t
def xl_2 : List (Option Value) → Nat → Value → List (Option Value)
  | [], _, _ => []
  | _ :: t, 0, v => some v :: xl_n t
  | a :: t, 1, v => xl_w a :: xl_2 t 0 v
  | a :: t, n + 2, v => a :: xl_2 t (n + 1) v
theorem xl_w_spec {o : Option Value} {w : Value} (h : xl_w o = some w) : o = some w ∧ ¬ w.category = 2 := by
  cases o with
  | none => cases h
  | some v => cases v <;> first | (cases h; done) | (cases h; exact ⟨rfl, by decide⟩) | (cases h; refine ⟨rfl, ?_⟩; simp [Value.category])
theorem xl_1_spec : ∀ (lv : List (Option Value)) (i : Nat) (v : Value) (j : Nat) (w : Value), (xl_1 lv i v)[j]? = some (some w) → (j = i ∧ w = v) ∨ (j ≠ i ∧ lv[j]? = some (some w) ∧ ¬ (j + 1 = i ∧ w.category = 2))
  | [], i, v, j, w, h => by simp [xl_1] at h
  | a :: t, 0, v, j, w, h => by
    cases j with
    | zero => simp [xl_1] at h; exact Or.inl ⟨rfl, h.symm⟩
    | succ j => simp [xl_1] at h; exact Or.inr ⟨by omega, by simpa using h, by omega⟩
  | a :: t, 1, v, j, w, h => by
    cases j with
    | zero =>
      simp only [xl_1, List.getElem?_cons_zero, Option.some.injEq] at h
      obtain ⟨h1, h2⟩ := xl_w_spec h
      exact Or.inr ⟨by omega, by simp [h1], fun q => h2 q.2⟩
    | succ j =>
      simp only [xl_1, List.getElem?_cons_succ] at h
      rcases xl_1_spec t 0 v j w h with ⟨h1, h2⟩ | ⟨h1, h2, h3⟩
      · exact Or.inl ⟨by omega, h2⟩
      · exact Or.inr ⟨by omega, by simpa using h2, by omega⟩
  | a :: t, n + 2, v, j, w, h => by
    cases j with
    | zero =>
      simp only [xl_1, List.getElem?_cons_zero, Option.some.injEq] at h
      exact Or.inr ⟨by omega, by simp [h], by omega⟩
    | succ j =>
      simp only [xl_1, List.getElem?_cons_succ] at h
      rcases xl_1_spec t (n + 1) v j w h with ⟨h1, h2⟩ | ⟨h1, h2, h3⟩
      · exact Or.inl ⟨by omega, h2⟩
      · exact Or.inr ⟨by omega, by simpa using h2, fun q => h3 ⟨by omega, q.2⟩⟩
theorem xl_2_spec : ∀ (lv : List (Option Value)) (i : Nat) (v : Value) (j : Nat) (w : Value), (xl_2 lv i v)[j]? = some (some w) → (j = i ∧ w = v) ∨ (j ≠ i ∧ j ≠ i + 1 ∧ lv[j]? = some (some w) ∧ ¬ (j + 1 = i ∧ w.category = 2))
  | [], i, v, j, w, h => by simp [xl_2] at h
  | a :: t, 0, v, j, w, h => by
    cases j with
    | zero => simp [xl_2] at h; exact Or.inl ⟨rfl, h.symm⟩
    | succ j =>
      cases t with
      | nil => simp [xl_2, xl_n] at h
      | cons b t =>
        cases j with
        | zero => simp [xl_2, xl_n] at h
        | succ j => simp [xl_2, xl_n] at h; exact Or.inr ⟨by omega, by omega, by simpa using h, by omega⟩
  | a :: t, 1, v, j, w, h => by
    cases j with
    | zero =>
      simp only [xl_2, List.getElem?_cons_zero, Option.some.injEq] at h
      obtain ⟨h1, h2⟩ := xl_w_spec h
      exact Or.inr ⟨by omega, by omega, by simp [h1], fun q => h2 q.2⟩
    | succ j =>
      simp only [xl_2, List.getElem?_cons_succ] at h
      rcases xl_2_spec t 0 v j w h with ⟨h1, h2⟩ | ⟨h1, h0, h2, h3⟩
      · exact Or.inl ⟨by omega, h2⟩
      · exact Or.inr ⟨by omega, by omega, by simpa using h2, by omega⟩
  | a :: t, n + 2, v, j, w, h => by
    cases j with
    | zero =>
      simp only [xl_2, List.getElem?_cons_zero, Option.some.injEq] at h
      exact Or.inr ⟨by omega, by omega, by simp [h], by omega⟩
    | succ j =>
      simp only [xl_2, List.getElem?_cons_succ] at h
      rcases xl_2_spec t (n + 1) v j w h with ⟨h1, h2⟩ | ⟨h1, h0, h2, h3⟩
      · exact Or.inl ⟨by omega, h2⟩
      · exact Or.inr ⟨by omega, by omega, by simpa using h2, fun q => h3 ⟨by omega, q.2⟩⟩
def xl_ok (ad : Nat → Nat) (ls : Array Slot) (nL : Nat) (lv : List (Option Value)) : Prop := ls.size = nL ∧ lv_wf ls ∧ ∀ (i : Nat) (v : Value), lv[i]? = some (some v) → ls[i]? = some (.val (xw_v ad v))
def xl_l (ad : Nat → Nat) (lv : List (Option Value)) : List (Nat × Value) := lv.zipIdx.filterMap (fun q => q.1.map (fun v => (q.2, xw_v ad v)))
theorem xl_mem {ad : Nat → Nat} {lv : List (Option Value)} {q : Nat × Value} : q ∈ xl_l ad lv ↔ ∃ v, lv[q.1]? = some (some v) ∧ q.2 = xw_v ad v := by
  unfold xl_l
  rw [List.mem_filterMap]
  constructor
  · rintro ⟨⟨o, i⟩, h1, h2⟩
    rw [List.mem_zipIdx_iff_getElem?] at h1
    cases o with
    | none => cases h2
    | some v => cases h2; exact ⟨v, h1, rfl⟩
  · rintro ⟨v, h1, h2⟩
    refine ⟨(some v, q.1), ?_, ?_⟩
    · rw [List.mem_zipIdx_iff_getElem?]; exact h1
    · show some (q.1, xw_v ad v) = some q
      rw [← h2]
theorem xl_has {ad : Nat → Nat} {ls : Array Slot} {nL : Nat} {lv : List (Option Value)} (h : xl_ok ad ls nL lv) : lv_has ls nL (xl_l ad lv) := by
  refine ⟨h.1, h.2.1, fun q hq => ?_⟩
  obtain ⟨v, h1, h2⟩ := xl_mem.mp hq
  rw [h2]
  exact h.2.2 q.1 v h1
theorem xl_of {ad : Nat → Nat} {ls : Array Slot} {nL : Nat} {lv : List (Option Value)} {l : List (Nat × Value)} (h : lv_has ls nL l) (hm : ∀ (i : Nat) (v : Value), lv[i]? = some (some v) → (i, xw_v ad v) ∈ l) : xl_ok ad ls nL lv :=
  ⟨h.1, h.2.1, fun i v hi => h.2.2 (i, xw_v ad v) (hm i v hi)⟩
theorem xl_st1 {ad : Nat → Nat} {ls : Array Slot} {nL : Nat} {lv : List (Option Value)} {i : Nat} {x : Value} (h : lv_has ls nL ((i, xw_v ad x) :: (xl_l ad lv).filter (fun q => !(q.1 == i) && !(q.1 + 1 == i && q.2.category == 2)))) : xl_ok ad ls nL (xl_1 lv i x) := by
  refine xl_of h fun j w hj => ?_
  rcases xl_1_spec _ _ _ _ _ hj with ⟨rfl, rfl⟩ | ⟨h1, h2, h3⟩
  · exact List.mem_cons_self
  · refine List.mem_cons_of_mem _ (List.mem_filter.mpr ⟨xl_mem.mpr ⟨w, h2, rfl⟩, ?_⟩)
    simp only [xw_cat]
    by_cases e1 : j + 1 = i <;> by_cases e2 : w.category = 2 <;> simp_all
theorem xl_st2 {ad : Nat → Nat} {ls : Array Slot} {nL : Nat} {lv : List (Option Value)} {i : Nat} {x : Value} (h : lv_has ls nL ((i, xw_v ad x) :: (xl_l ad lv).filter (fun q => !(q.1 == i) && (!(q.1 == i + 1) && !(q.1 + 1 == i && q.2.category == 2))))) : xl_ok ad ls nL (xl_2 lv i x) := by
  refine xl_of h fun j w hj => ?_
  rcases xl_2_spec _ _ _ _ _ hj with ⟨rfl, rfl⟩ | ⟨h1, h0, h2, h3⟩
  · exact List.mem_cons_self
  · refine List.mem_cons_of_mem _ (List.mem_filter.mpr ⟨xl_mem.mpr ⟨w, h2, rfl⟩, ?_⟩)
    simp only [xw_cat]
    by_cases e1 : j + 1 = i <;> by_cases e2 : w.category = 2 <;> simp_all
/-- the locals with which a method begins -/
def xl_in : List Value → List (Option Value)
  | [] => []
  | .long x :: t => some (.long x) :: none :: xl_in t
  | .double x :: t => some (.double x) :: none :: xl_in t
  | v :: t => some v :: xl_in t
theorem xl_in_mem (ad : Nat → Nat) : ∀ (av : List Value) (k i : Nat) (v : Value), (xl_in av)[i]? = some (some v) → (k + i, xw_v ad v) ∈ lv_args k (av.map (xw_v ad))
  | [], k, i, v, h => by simp [xl_in] at h
  | a :: t, k, i, v, h => by
    cases a <;> (
      simp only [List.map_cons, lv_args, xw_v, Value.category]
      cases i with
      | zero => simp [xl_in] at h; subst h; exact List.mem_cons_self
      | succ i =>
        first
          | (cases i with
             | zero => simp [xl_in] at h; done
             | succ i =>
               simp only [xl_in, List.getElem?_cons_succ] at h
               have := xl_in_mem ad t (k + 2) i v h
               rw [show k + 2 + i = k + (i + 1 + 1) by omega] at this
               exact List.mem_cons_of_mem _ this)
          | (simp only [xl_in, List.getElem?_cons_succ] at h
             have := xl_in_mem ad t (k + 1) i v h
             rw [show k + 1 + i = k + (i + 1) by omega] at this
             exact List.mem_cons_of_mem _ this))
end
section
/-! The rules of the pure machine: each takes the goal at the next instruction to the goal at this one. -/
abbrev xw_G : Type := (Nat → Nat) × Nat × va_G × ClassId × ClassId × Nat × (Nat → Int32)
abbrev xg_a (g : xw_G) : Nat → Nat := g.1
abbrev xg_n (g : xw_G) : Nat := g.2.1
abbrev xg_D (g : xw_G) : va_G := g.2.2.1
abbrev xg_J (g : xw_G) : ClassId := g.2.2.2.1
abbrev xg_Z (g : xw_G) : ClassId := g.2.2.2.2.1
abbrev xg_L (g : xw_G) : Nat := g.2.2.2.2.2.1
abbrev xg_x (g : xw_G) : Nat → Int32 := g.2.2.2.2.2.2
abbrev xg_A (g : xw_G) : Nat → Prop := xw_A g.1 g.2.1
abbrev xg_t (g : xw_G) : List (ClassId × FieldType) := [(g.2.2.2.1, .long), (g.2.2.2.2.1, .boolean)]
/-- the script's own place -/
abbrev xw_sp : Nat := 1000
def xw_tb : List Cond := lw_tbl.filter goodWord
theorem xw_tb_good : ∀ w ∈ xw_tb, goodWord w = true := fun w h => (List.mem_filter.mp h).2
theorem xw_in {w : Cond} (h : w ∈ lw_tbl) (hg : goodWord w = true) : w ∈ xw_tb := List.mem_filter.mpr ⟨h, hg⟩
/-! what the making of an exception reads: two statics of Throwable, words of the tables that are no good words, the texts -/
def xw_Z (n d : String) (A : Nat → Prop) (U : State) (H : Heap) : Prop := ∃ (cf : ClassId) (kf : Class) (fi : Nat) (f : Field) (a : Nat) (cell : Cell) (v : Value), U.vm.findClass "java/lang/Throwable" = some cf ∧ U.fieldFound? "java/lang/Throwable" n d = some (cf, kf, fi, f) ∧ f.isStatic = true ∧ kf.statics = some a ∧ kf.staticTypes[f.slot]? = some f.type ∧ H[a]? = some cell ∧ cell.vm.isStatics = true ∧ cell.cls = cf ∧ f.slot < cell.slots.size ∧ cell.slots[f.slot]? = some v ∧ v.isRef = true ∧ ¬ A a
theorem xw_Z.moved {n d : String} {A : Nat → Prop} {u U : State} {H : Heap} (hvm : u.vm.Alike U.vm) (h : xw_Z n d A u H) : xw_Z n d A U H := by
  obtain ⟨cf, kf, fi, f, a, cell, v, h0, h1, h2, h3, h4, h5⟩ := h
  obtain ⟨k', hi', he⟩ := State.fieldFound?_setVm hvm h1
  exact ⟨cf, k', fi, f, a, cell, v, by rw [hvm.findClass]; exact h0, hi', h2, by rw [he]; exact h3, by rw [he]; exact h4, h5⟩
theorem xw_Z.kept {n d : String} {A : Nat → Prop} {U : State} {H H1 : Heap} (h : xw_Z n d A U H) (hq : ∀ a : Nat, a < H.size → ¬ A a → H1[a]? = H[a]?) : xw_Z n d A U H1 := by
  obtain ⟨cf, kf, fi, f, a, cell, v, h0, h1, h2, h3, h4, h5, h6, h7, h8, h9, h10, h11⟩ := h
  exact ⟨cf, kf, fi, f, a, cell, v, h0, h1, h2, h3, h4, by rw [hq a (Array.getElem?_eq_some_iff.mp h5).1 h11]; exact h5, h6, h7, h8, h9, h10, h11⟩
theorem xw_Z.narrow {n d : String} {A B : Nat → Prop} {U : State} {H : Heap} (h : xw_Z n d A U H) (hAB : ∀ q, B q → A q) : xw_Z n d B U H := by
  obtain ⟨cf, kf, fi, f, a, cell, v, h0, h1, h2, h3, h4, h5, h6, h7, h8, h9, h10, h11⟩ := h
  exact ⟨cf, kf, fi, f, a, cell, v, h0, h1, h2, h3, h4, h5, h6, h7, h8, h9, h10, fun z => h11 (hAB a z)⟩
theorem xw_Z.lays {n d : String} {A : Nat → Prop} {args : Array Value} {U : State} (h : xw_Z n d A U U.heap) : (Cond.laysStatic "java/lang/Throwable" n d).before args U = true := by
  obtain ⟨cf, kf, fi, f, a, cell, v, h0, h1, h2, h3, h4, h5, h6, h7, h8, h9, h10, h11⟩ := h
  simp [Cond.before, Cond.holds, Cond.value, h0, h1, h2, h3, h4, h5, h6, h7, h8]
theorem xw_Z.ref {n d : String} {A : Nat → Prop} {args : Array Value} {U : State} (h : xw_Z n d A U U.heap) : (Cond.isRef (.static "java/lang/Throwable" n d)).before args U = true := by
  obtain ⟨cf, kf, fi, f, a, cell, v, h0, h1, h2, h3, h4, h5, h6, h7, h8, h9, h10, h11⟩ := h
  have e : (Term.static "java/lang/Throwable" n d).eval args U none [] U = some v := by simp [Term.eval, State.fieldNamed?, h1, h2, h3, h5, h6, h9]
  cases v <;> first | (simp [Cond.before, Cond.holds, Cond.value, e]; done) | (simp [Value.isRef] at h10; done)
def xw_fw (w : Cond) : Bool := match w with
  | .declares _ => true
  | .castable _ _ => true
  | _ => false
def xw_Tw (U : State) : Prop := (∀ w ∈ lw_tbl, xw_fw w = true → w.before #[] U = true) ∧ ∀ (o : String) (k : Nat) (tx : String), Cond.stringRef o k tx ∈ lw_tbl → (Cond.stringRef o k tx).before #[] U = true
theorem xw_fw_go {w : Cond} (hw : xw_fw w = true) {args args' : Array Value} {s t : State} (hW : s.WarmedH t.vm) (h : w.before args s = true) : w.before args' t = true := by
  have h1 : w.onTables = true := by cases w <;> first | rfl | (simp [xw_fw] at hw; done)
  have h2 : w.warmOk s := by cases w <;> first | trivial | (simp [xw_fw] at hw; done)
  have h3 := Cond.before_warmed (args := args) hW w h2 h
  rw [Cond.onTables_vm (A' := args') (U' := t) t.vm w h1, State.setVm_self] at h3
  exact h3
theorem xw_str {o tx : String} {k : Nat} {args : Array Value} {U : State} (h : (Cond.stringRef o k tx).before args U = true) : ∃ a : Nat, (Term.string o k).eval args U none [] U = some (.ref a) := by
  have h1 := h
  simp only [Cond.before, Cond.holds, Cond.value] at h1
  cases hc : U.vm.findClass o with
  | none => simp [hc] at h1
  | some cur =>
    obtain ⟨kk, cf, i, a, -, -, -, -, -, e⟩ := Cond.stringRef_spec (args := args) (first := U) (o := none) (s := U) (idx := []) hc h
    exact ⟨a, e⟩
theorem xw_Tw.go {s t : State} (hW : s.WarmedH t.vm) (h : xw_Tw s) : xw_Tw t := by
  refine ⟨fun w hw hf => xw_fw_go hf hW (h.1 w hw hf), fun o k tx hm => ?_⟩
  obtain ⟨a, ha⟩ := xw_str (h.2 o k tx hm)
  exact (vk_R.warm hW (vk_R.of (h.2 o k tx hm) ha)).1
def xw_Th (A : Nat → Prop) (U : State) : Prop := xw_Tw U ∧ xw_Z "UNASSIGNED_STACK" "[Ljava/lang/StackTraceElement;" A U U.heap ∧ xw_Z "SUPPRESSED_SENTINEL" "Ljava/util/List;" A U U.heap
/-- the world at a state: the cells hp at their places; the script; what an exception's making reads -/
def xw_Wd (g : xw_G) (hp : List va_E) (U : State) : Prop :=
  hp.length = xg_n g ∧ va_P (xg_D g) xw_cl (xw_ws (xg_a g) hp) U.heap ∧ va_K (xg_D g) xw_cl (xg_t g) U ∧ (∀ i j : Nat, i < xg_n g → j < xg_n g → xg_a g i = xg_a g j → i = j) ∧
  va_X (xg_a g xw_sp) (xg_L g) (xg_x g) U U.heap ∧ xg_a g xw_sp < U.heap.size ∧ ¬ xg_A g (xg_a g xw_sp) ∧ xw_Th (xg_A g) U
theorem xw_X_moved {b L : Nat} {xs : Nat → Int32} {u U : State} {H H1 : Heap} (hvm : u.vm.Alike U.vm) (h : va_X b L xs u H) (hq : H1[b]? = H[b]?) : va_X b L xs U H1 := by
  obtain ⟨scr, h1, h2, h3⟩ := h
  exact ⟨scr, hq.trans h1, State.isArrayOf_alike hvm h2, h3⟩
theorem xw_Wd.goes {g : xw_G} {hp0 hp : List va_E} {s t : State} {H : Heap} {locs : List Loc} (h : xw_Wd g hp0 s) (hS : va_S (xg_A g) s.heap H locs) (hP : va_P (xg_D g) xw_cl (xw_ws (xg_a g) hp) H) (hn : hp.length = xg_n g) (ht : t.heap = H) (hw : s.WarmedH t.vm) : xw_Wd g hp t := by
  obtain ⟨h1, h2, h3, h4, h5, h6, h7, h8, h9, h10⟩ := h
  subst ht
  have hvm := hw.alike
  exact ⟨hn, hP, va_K.moved hvm h3, h4, xw_X_moved hvm h5 (hS.2.1 _ h6 h7), Nat.lt_of_lt_of_le h6 hS.1, h7, h8.go hw, xw_Z.moved hvm (h9.kept hS.2.1), xw_Z.moved hvm (h10.kept hS.2.1)⟩
theorem xw_Wd.same {g : xw_G} {hp : List va_E} {s t : State} (h : xw_Wd g hp s) (ht : t.heap = s.heap) (hw : s.WarmedH t.vm) : xw_Wd g hp t :=
  h.goes (locs := []) (va_S.rf) h.2.1 h.1 ht hw
/-- what the rules need of the method that runs: the machine, its bytes, its size, its class, the tables' words, the world at its entry -/
def xw_C (g : xw_G) (cc : ByteArray) (nL : Nat) (own : String) (p : Program) (s : State) (m : MethodId) (args : Array Value) (c : Code) : Prop :=
  p.tables.exec = Jvm.exec ∧ c.code = cc ∧ c.maxLocals = nL ∧ s.vm.findClass own = some m.cls ∧ (∀ w ∈ xw_tb, w.before args s = true) ∧ ∃ hp0, xw_Wd g hp0 s
def xw_At (g : xw_G) (ro : Bool) (nL : Nat) (p : Program) (l : Launch) (e : Env) (R : Room) (s : State) (m : MethodId) (args : Array Value) (below : List Frame) (meth : Method) (c : Code) (cells slots : Nat) (Q : State → Prop) (pc : Nat) (lv : List (Option Value)) (st : List Value) (hp : List va_E) : Prop :=
  ∀ (ls : Array Slot) (H : Heap) (locs : List Loc), xl_ok (xg_a g) ls nL lv → va_P (xg_D g) xw_cl (xw_ws (xg_a g) hp) H → hp.length = xg_n g → va_S (xg_A g) s.heap H locs ∧ (ro = true → H = s.heap ∧ locs = []) →
    W p l e R s m args below meth c H locs cells slots Q (F0 m pc ls (st.map (xw_v (xg_a g))))
section XA
variable {g : xw_G} {ro : Bool} {cc : ByteArray} {nL : Nat} {own : String} {p : Program} {l : Launch} {e : Env} {R : Room} {s : State} {m : MethodId} {args : Array Value} {below : List Frame} {meth : Method} {c : Code} {cells slots : Nat} {Q : State → Prop}
variable {pc : Nat} {lv : List (Option Value)} {st : List Value} {hp : List va_E}
theorem xa_eq {lv' : List (Option Value)} {st' : List Value} {hp' : List va_E} (h1 : lv = lv') (h2 : st = st') (h3 : hp = hp') (k : xw_At g ro nL p l e R s m args below meth c cells slots Q pc lv' st' hp') : xw_At g ro nL p l e R s m args below meth c cells slots Q pc lv st hp := by
  subst h1; subst h2; subst h3; exact k

theorem xa_iconst (C : xw_C g cc nL own p s m args c) {n : Int} (hdg : decode cc pc = .ok (.iconst n, 1))  (k : xw_At g ro nL p l e R s m args below meth c cells slots Q (pc + 1) lv (.int (Int32.ofInt n) :: st) hp) : xw_At g ro nL p l e R s m args below meth c cells slots Q (pc) lv (st) hp := fun ls H locs hl hP hn hS => lv_iconst C.1 C.2.1 hdg rfl (k ls H locs hl hP hn hS)
theorem xa_bipush (C : xw_C g cc nL own p s m args c) {n : Int} (hdg : decode cc pc = .ok (.bipush n, 2))  (k : xw_At g ro nL p l e R s m args below meth c cells slots Q (pc + 2) lv (.int (Int8.ofInt n).toInt32 :: st) hp) : xw_At g ro nL p l e R s m args below meth c cells slots Q (pc) lv (st) hp := fun ls H locs hl hP hn hS => lv_bipush C.1 C.2.1 hdg rfl (k ls H locs hl hP hn hS)
theorem xa_lconst (C : xw_C g cc nL own p s m args c) {n : Fin 2} (hdg : decode cc pc = .ok (.lconst n, 1))  (k : xw_At g ro nL p l e R s m args below meth c cells slots Q (pc + 1) lv (.long (Int64.ofNat (n : Nat)) :: st) hp) : xw_At g ro nL p l e R s m args below meth c cells slots Q (pc) lv (st) hp := fun ls H locs hl hP hn hS => lv_lconst C.1 C.2.1 hdg rfl (k ls H locs hl hP hn hS)
theorem xa_ldc2 (C : xw_C g cc nL own p s m args c) {idx : Nat} {v : Int64} (hw : Cond.constantLong own idx v ∈ xw_tb) (hdg : decode cc pc = .ok (.ldc2_w idx, 3))  (k : xw_At g ro nL p l e R s m args below meth c cells slots Q (pc + 3) lv (.long v :: st) hp) : xw_At g ro nL p l e R s m args below meth c cells slots Q (pc) lv (st) hp := fun ls H locs hl hP hn hS => lv_ldc2 C.1 C.2.1 C.2.2.2.1 (C.2.2.2.2.1 _ hw) hdg (k ls H locs hl hP hn hS)
theorem xa_ldci (C : xw_C g cc nL own p s m args c) {idx : Nat} {v : Int32} (hw : Cond.constant own idx v ∈ xw_tb) (hdg : decode cc pc = .ok (.ldc idx, 2))  (k : xw_At g ro nL p l e R s m args below meth c cells slots Q (pc + 2) lv (.int v :: st) hp) : xw_At g ro nL p l e R s m args below meth c cells slots Q (pc) lv (st) hp := fun ls H locs hl hP hn hS => lv_ldc C.1 C.2.1 C.2.2.2.1 (C.2.2.2.2.1 _ hw) hdg (k ls H locs hl hP hn hS)
theorem xa_ldcw (C : xw_C g cc nL own p s m args c) {idx : Nat} {v : Int32} (hw : Cond.constant own idx v ∈ xw_tb) (hdg : decode cc pc = .ok (.ldc_w idx, 3))  (k : xw_At g ro nL p l e R s m args below meth c cells slots Q (pc + 3) lv (.int v :: st) hp) : xw_At g ro nL p l e R s m args below meth c cells slots Q (pc) lv (st) hp := fun ls H locs hl hP hn hS => lv_ldcw C.1 C.2.1 C.2.2.2.1 (C.2.2.2.2.1 _ hw) hdg (k ls H locs hl hP hn hS)
theorem xa_iload (C : xw_C g cc nL own p s m args c) {i : Nat} {x : Int32} (hdg : decode cc pc = .ok (.iload i, 2)) (hv : lv[i]? = some (some (.int x))) (k : xw_At g ro nL p l e R s m args below meth c cells slots Q (pc + 2) lv (.int x :: st) hp) : xw_At g ro nL p l e R s m args below meth c cells slots Q (pc) lv (st) hp := fun ls H locs hl hP hn hS => lv_iload C.1 C.2.1 hdg (hl.2.2 _ _ hv) (k ls H locs hl hP hn hS)
theorem xa_iload_n (C : xw_C g cc nL own p s m args c) {i : Fin 4} {x : Int32} (hdg : decode cc pc = .ok (.iload_n i, 1)) (hv : lv[(i : Nat)]? = some (some (.int x))) (k : xw_At g ro nL p l e R s m args below meth c cells slots Q (pc + 1) lv (.int x :: st) hp) : xw_At g ro nL p l e R s m args below meth c cells slots Q (pc) lv (st) hp := fun ls H locs hl hP hn hS => lv_iload_n C.1 C.2.1 hdg rfl (hl.2.2 _ _ hv) (k ls H locs hl hP hn hS)
theorem xa_istore (C : xw_C g cc nL own p s m args c) {i : Nat} {x : Int32} (hdg : decode cc pc = .ok (.istore i, 2)) (hi : (i : Nat) < nL) (k : xw_At g ro nL p l e R s m args below meth c cells slots Q (pc + 2) (xl_1 lv (i : Nat) (.int x)) (st) hp) : xw_At g ro nL p l e R s m args below meth c cells slots Q (pc) lv (.int x :: st) hp := fun ls H locs hl hP hn hS => lv_istore C.1 C.2.1 hdg (xl_has hl) hi rfl (fun ls2 h2 => k ls2 H locs (xl_st1 h2) hP hn hS)
theorem xa_istore_n (C : xw_C g cc nL own p s m args c) {i : Fin 4} {x : Int32} (hdg : decode cc pc = .ok (.istore_n i, 1)) (hi : (i : Nat) < nL) (k : xw_At g ro nL p l e R s m args below meth c cells slots Q (pc + 1) (xl_1 lv (i : Nat) (.int x)) (st) hp) : xw_At g ro nL p l e R s m args below meth c cells slots Q (pc) lv (.int x :: st) hp := fun ls H locs hl hP hn hS => lv_istore_n C.1 C.2.1 hdg rfl (xl_has hl) hi rfl (fun ls2 h2 => k ls2 H locs (xl_st1 h2) hP hn hS)
theorem xa_lload (C : xw_C g cc nL own p s m args c) {i : Nat} {x : Int64} (hdg : decode cc pc = .ok (.lload i, 2)) (hv : lv[i]? = some (some (.long x))) (k : xw_At g ro nL p l e R s m args below meth c cells slots Q (pc + 2) lv (.long x :: st) hp) : xw_At g ro nL p l e R s m args below meth c cells slots Q (pc) lv (st) hp := fun ls H locs hl hP hn hS => lv_lload C.1 C.2.1 hdg (hl.2.2 _ _ hv) (k ls H locs hl hP hn hS)
theorem xa_lload_n (C : xw_C g cc nL own p s m args c) {i : Fin 4} {x : Int64} (hdg : decode cc pc = .ok (.lload_n i, 1)) (hv : lv[(i : Nat)]? = some (some (.long x))) (k : xw_At g ro nL p l e R s m args below meth c cells slots Q (pc + 1) lv (.long x :: st) hp) : xw_At g ro nL p l e R s m args below meth c cells slots Q (pc) lv (st) hp := fun ls H locs hl hP hn hS => lv_lload_n C.1 C.2.1 hdg rfl (hl.2.2 _ _ hv) (k ls H locs hl hP hn hS)
theorem xa_lstore (C : xw_C g cc nL own p s m args c) {i : Nat} {x : Int64} (hdg : decode cc pc = .ok (.lstore i, 2)) (hi : (i : Nat) + 1 < nL) (k : xw_At g ro nL p l e R s m args below meth c cells slots Q (pc + 2) (xl_2 lv (i : Nat) (.long x)) (st) hp) : xw_At g ro nL p l e R s m args below meth c cells slots Q (pc) lv (.long x :: st) hp := fun ls H locs hl hP hn hS => lv_lstore C.1 C.2.1 hdg (xl_has hl) hi rfl (fun ls2 h2 => k ls2 H locs (xl_st2 h2) hP hn hS)
theorem xa_lstore_n (C : xw_C g cc nL own p s m args c) {i : Fin 4} {x : Int64} (hdg : decode cc pc = .ok (.lstore_n i, 1)) (hi : (i : Nat) + 1 < nL) (k : xw_At g ro nL p l e R s m args below meth c cells slots Q (pc + 1) (xl_2 lv (i : Nat) (.long x)) (st) hp) : xw_At g ro nL p l e R s m args below meth c cells slots Q (pc) lv (.long x :: st) hp := fun ls H locs hl hP hn hS => lv_lstore_n C.1 C.2.1 hdg rfl (xl_has hl) hi rfl (fun ls2 h2 => k ls2 H locs (xl_st2 h2) hP hn hS)
theorem xa_aload (C : xw_C g cc nL own p s m args c) {i : Nat} {x : Nat} (hdg : decode cc pc = .ok (.aload i, 2)) (hv : lv[i]? = some (some (.ref x))) (k : xw_At g ro nL p l e R s m args below meth c cells slots Q (pc + 2) lv (.ref x :: st) hp) : xw_At g ro nL p l e R s m args below meth c cells slots Q (pc) lv (st) hp := fun ls H locs hl hP hn hS => lv_aload C.1 C.2.1 hdg (hl.2.2 _ _ hv) (k ls H locs hl hP hn hS)
theorem xa_aload_n (C : xw_C g cc nL own p s m args c) {i : Fin 4} {x : Nat} (hdg : decode cc pc = .ok (.aload_n i, 1)) (hv : lv[(i : Nat)]? = some (some (.ref x))) (k : xw_At g ro nL p l e R s m args below meth c cells slots Q (pc + 1) lv (.ref x :: st) hp) : xw_At g ro nL p l e R s m args below meth c cells slots Q (pc) lv (st) hp := fun ls H locs hl hP hn hS => lv_aload_n C.1 C.2.1 hdg rfl (hl.2.2 _ _ hv) (k ls H locs hl hP hn hS)
theorem xa_astore (C : xw_C g cc nL own p s m args c) {i : Nat} {x : Nat} (hdg : decode cc pc = .ok (.astore i, 2)) (hi : (i : Nat) < nL) (k : xw_At g ro nL p l e R s m args below meth c cells slots Q (pc + 2) (xl_1 lv (i : Nat) (.ref x)) (st) hp) : xw_At g ro nL p l e R s m args below meth c cells slots Q (pc) lv (.ref x :: st) hp := fun ls H locs hl hP hn hS => lv_astore C.1 C.2.1 hdg (xl_has hl) hi rfl (fun ls2 h2 => k ls2 H locs (xl_st1 h2) hP hn hS)
theorem xa_astore_n (C : xw_C g cc nL own p s m args c) {i : Fin 4} {x : Nat} (hdg : decode cc pc = .ok (.astore_n i, 1)) (hi : (i : Nat) < nL) (k : xw_At g ro nL p l e R s m args below meth c cells slots Q (pc + 1) (xl_1 lv (i : Nat) (.ref x)) (st) hp) : xw_At g ro nL p l e R s m args below meth c cells slots Q (pc) lv (.ref x :: st) hp := fun ls H locs hl hP hn hS => lv_astore_n C.1 C.2.1 hdg rfl (xl_has hl) hi rfl (fun ls2 h2 => k ls2 H locs (xl_st1 h2) hP hn hS)
theorem xa_iinc (C : xw_C g cc nL own p s m args c) {i : Nat} {d : Int} {x : Int32} (hdg : decode cc pc = .ok (.iinc i d, 3)) (hv : lv[i]? = some (some (.int x))) (hi : i < nL) (k : xw_At g ro nL p l e R s m args below meth c cells slots Q (pc + 3) (xl_1 lv i (.int (x + Int32.ofInt d))) (st) hp) : xw_At g ro nL p l e R s m args below meth c cells slots Q (pc) lv (st) hp := fun ls H locs hl hP hn hS => by
  have hm : (i, Value.int x) ∈ xl_l (xg_a g) lv := xl_mem.mpr ⟨.int x, hv, rfl⟩
  obtain ⟨j, hj⟩ := List.getElem?_of_mem hm
  exact lv_iinc C.1 C.2.1 hdg (xl_has hl) hj rfl hi rfl (fun ls2 h2 => k ls2 H locs (xl_st1 h2) hP hn hS)
theorem xa_iadd (C : xw_C g cc nL own p s m args c) {x y : Int32} (hdg : decode cc pc = .ok (.iadd, 1))  (k : xw_At g ro nL p l e R s m args below meth c cells slots Q (pc + 1) lv (.int (x + y) :: st) hp) : xw_At g ro nL p l e R s m args below meth c cells slots Q (pc) lv (.int y :: .int x :: st) hp := fun ls H locs hl hP hn hS => lv_iadd C.1 C.2.1 hdg (k ls H locs hl hP hn hS)
theorem xa_isub (C : xw_C g cc nL own p s m args c) {x y : Int32} (hdg : decode cc pc = .ok (.isub, 1))  (k : xw_At g ro nL p l e R s m args below meth c cells slots Q (pc + 1) lv (.int (x - y) :: st) hp) : xw_At g ro nL p l e R s m args below meth c cells slots Q (pc) lv (.int y :: .int x :: st) hp := fun ls H locs hl hP hn hS => lv_isub C.1 C.2.1 hdg (k ls H locs hl hP hn hS)
theorem xa_imul (C : xw_C g cc nL own p s m args c) {x y : Int32} (hdg : decode cc pc = .ok (.imul, 1))  (k : xw_At g ro nL p l e R s m args below meth c cells slots Q (pc + 1) lv (.int (x * y) :: st) hp) : xw_At g ro nL p l e R s m args below meth c cells slots Q (pc) lv (.int y :: .int x :: st) hp := fun ls H locs hl hP hn hS => lv_imul C.1 C.2.1 hdg (k ls H locs hl hP hn hS)
theorem xa_iand (C : xw_C g cc nL own p s m args c) {x y : Int32} (hdg : decode cc pc = .ok (.iand, 1))  (k : xw_At g ro nL p l e R s m args below meth c cells slots Q (pc + 1) lv (.int (x &&& y) :: st) hp) : xw_At g ro nL p l e R s m args below meth c cells slots Q (pc) lv (.int y :: .int x :: st) hp := fun ls H locs hl hP hn hS => lv_iand C.1 C.2.1 hdg (k ls H locs hl hP hn hS)
theorem xa_ior (C : xw_C g cc nL own p s m args c) {x y : Int32} (hdg : decode cc pc = .ok (.ior, 1))  (k : xw_At g ro nL p l e R s m args below meth c cells slots Q (pc + 1) lv (.int (x ||| y) :: st) hp) : xw_At g ro nL p l e R s m args below meth c cells slots Q (pc) lv (.int y :: .int x :: st) hp := fun ls H locs hl hP hn hS => lv_ior C.1 C.2.1 hdg (k ls H locs hl hP hn hS)
theorem xa_ixor (C : xw_C g cc nL own p s m args c) {x y : Int32} (hdg : decode cc pc = .ok (.ixor, 1))  (k : xw_At g ro nL p l e R s m args below meth c cells slots Q (pc + 1) lv (.int (x ^^^ y) :: st) hp) : xw_At g ro nL p l e R s m args below meth c cells slots Q (pc) lv (.int y :: .int x :: st) hp := fun ls H locs hl hP hn hS => lv_ixor C.1 C.2.1 hdg (k ls H locs hl hP hn hS)
theorem xa_ishl (C : xw_C g cc nL own p s m args c) {x y : Int32} (hdg : decode cc pc = .ok (.ishl, 1))  (k : xw_At g ro nL p l e R s m args below meth c cells slots Q (pc + 1) lv (.int (x <<< (y &&& 31)) :: st) hp) : xw_At g ro nL p l e R s m args below meth c cells slots Q (pc) lv (.int y :: .int x :: st) hp := fun ls H locs hl hP hn hS => lv_ishl C.1 C.2.1 hdg (k ls H locs hl hP hn hS)
theorem xa_ishr (C : xw_C g cc nL own p s m args c) {x y : Int32} (hdg : decode cc pc = .ok (.ishr, 1))  (k : xw_At g ro nL p l e R s m args below meth c cells slots Q (pc + 1) lv (.int (x >>> (y &&& 31)) :: st) hp) : xw_At g ro nL p l e R s m args below meth c cells slots Q (pc) lv (.int y :: .int x :: st) hp := fun ls H locs hl hP hn hS => lv_ishr C.1 C.2.1 hdg (k ls H locs hl hP hn hS)
theorem xa_iushr (C : xw_C g cc nL own p s m args c) {x y : Int32} (hdg : decode cc pc = .ok (.iushr, 1))  (k : xw_At g ro nL p l e R s m args below meth c cells slots Q (pc + 1) lv (.int (x.toUInt32 >>> (y.toUInt32 &&& Int32.toUInt32 31)).toInt32 :: st) hp) : xw_At g ro nL p l e R s m args below meth c cells slots Q (pc) lv (.int y :: .int x :: st) hp := fun ls H locs hl hP hn hS => lv_iushr C.1 C.2.1 hdg rfl (k ls H locs hl hP hn hS)
theorem xa_ladd (C : xw_C g cc nL own p s m args c) {x y : Int64} (hdg : decode cc pc = .ok (.ladd, 1))  (k : xw_At g ro nL p l e R s m args below meth c cells slots Q (pc + 1) lv (.long (x + y) :: st) hp) : xw_At g ro nL p l e R s m args below meth c cells slots Q (pc) lv (.long y :: .long x :: st) hp := fun ls H locs hl hP hn hS => lv_ladd C.1 C.2.1 hdg (k ls H locs hl hP hn hS)
theorem xa_lsub (C : xw_C g cc nL own p s m args c) {x y : Int64} (hdg : decode cc pc = .ok (.lsub, 1))  (k : xw_At g ro nL p l e R s m args below meth c cells slots Q (pc + 1) lv (.long (x - y) :: st) hp) : xw_At g ro nL p l e R s m args below meth c cells slots Q (pc) lv (.long y :: .long x :: st) hp := fun ls H locs hl hP hn hS => lv_lsub C.1 C.2.1 hdg (k ls H locs hl hP hn hS)
theorem xa_lmul (C : xw_C g cc nL own p s m args c) {x y : Int64} (hdg : decode cc pc = .ok (.lmul, 1))  (k : xw_At g ro nL p l e R s m args below meth c cells slots Q (pc + 1) lv (.long (x * y) :: st) hp) : xw_At g ro nL p l e R s m args below meth c cells slots Q (pc) lv (.long y :: .long x :: st) hp := fun ls H locs hl hP hn hS => lv_lmul C.1 C.2.1 hdg (k ls H locs hl hP hn hS)
theorem xa_land (C : xw_C g cc nL own p s m args c) {x y : Int64} (hdg : decode cc pc = .ok (.land, 1))  (k : xw_At g ro nL p l e R s m args below meth c cells slots Q (pc + 1) lv (.long (x &&& y) :: st) hp) : xw_At g ro nL p l e R s m args below meth c cells slots Q (pc) lv (.long y :: .long x :: st) hp := fun ls H locs hl hP hn hS => lv_land C.1 C.2.1 hdg (k ls H locs hl hP hn hS)
theorem xa_lor (C : xw_C g cc nL own p s m args c) {x y : Int64} (hdg : decode cc pc = .ok (.lor, 1))  (k : xw_At g ro nL p l e R s m args below meth c cells slots Q (pc + 1) lv (.long (x ||| y) :: st) hp) : xw_At g ro nL p l e R s m args below meth c cells slots Q (pc) lv (.long y :: .long x :: st) hp := fun ls H locs hl hP hn hS => lv_lor C.1 C.2.1 hdg (k ls H locs hl hP hn hS)
theorem xa_lxor (C : xw_C g cc nL own p s m args c) {x y : Int64} (hdg : decode cc pc = .ok (.lxor, 1))  (k : xw_At g ro nL p l e R s m args below meth c cells slots Q (pc + 1) lv (.long (x ^^^ y) :: st) hp) : xw_At g ro nL p l e R s m args below meth c cells slots Q (pc) lv (.long y :: .long x :: st) hp := fun ls H locs hl hP hn hS => lv_lxor C.1 C.2.1 hdg (k ls H locs hl hP hn hS)
theorem xa_lrem (C : xw_C g cc nL own p s m args c) {x y : Int64} (hdg : decode cc pc = .ok (.lrem, 1)) (hy : ¬ y = 0) (k : xw_At g ro nL p l e R s m args below meth c cells slots Q (pc + 1) lv (.long (x - x / y * y) :: st) hp) : xw_At g ro nL p l e R s m args below meth c cells slots Q (pc) lv (.long y :: .long x :: st) hp := fun ls H locs hl hP hn hS => lv_lrem C.1 C.2.1 hdg hy (k ls H locs hl hP hn hS)
theorem xa_lshl (C : xw_C g cc nL own p s m args c) {x : Int64} {y : Int32} (hdg : decode cc pc = .ok (.lshl, 1))  (k : xw_At g ro nL p l e R s m args below meth c cells slots Q (pc + 1) lv (.long (x <<< (y.toInt64 &&& 63)) :: st) hp) : xw_At g ro nL p l e R s m args below meth c cells slots Q (pc) lv (.int y :: .long x :: st) hp := fun ls H locs hl hP hn hS => lv_lshl C.1 C.2.1 hdg rfl (k ls H locs hl hP hn hS)
theorem xa_lshr (C : xw_C g cc nL own p s m args c) {x : Int64} {y : Int32} (hdg : decode cc pc = .ok (.lshr, 1))  (k : xw_At g ro nL p l e R s m args below meth c cells slots Q (pc + 1) lv (.long (x >>> (y.toInt64 &&& 63)) :: st) hp) : xw_At g ro nL p l e R s m args below meth c cells slots Q (pc) lv (.int y :: .long x :: st) hp := fun ls H locs hl hP hn hS => lv_lshr C.1 C.2.1 hdg rfl (k ls H locs hl hP hn hS)
theorem xa_lushr (C : xw_C g cc nL own p s m args c) {x : Int64} {y : Int32} (hdg : decode cc pc = .ok (.lushr, 1))  (k : xw_At g ro nL p l e R s m args below meth c cells slots Q (pc + 1) lv (.long (x.toUInt64 >>> (y.toInt64.toUInt64 &&& Int64.toUInt64 63)).toInt64 :: st) hp) : xw_At g ro nL p l e R s m args below meth c cells slots Q (pc) lv (.int y :: .long x :: st) hp := fun ls H locs hl hP hn hS => lv_lushr C.1 C.2.1 hdg rfl (k ls H locs hl hP hn hS)
theorem xa_i2l (C : xw_C g cc nL own p s m args c) {x : Int32} (hdg : decode cc pc = .ok (.i2l, 1))  (k : xw_At g ro nL p l e R s m args below meth c cells slots Q (pc + 1) lv (.long x.toInt64 :: st) hp) : xw_At g ro nL p l e R s m args below meth c cells slots Q (pc) lv (.int x :: st) hp := fun ls H locs hl hP hn hS => lv_i2l C.1 C.2.1 hdg rfl (k ls H locs hl hP hn hS)
theorem xa_lcmp (C : xw_C g cc nL own p s m args c) {x y : Int64} (hdg : decode cc pc = .ok (.lcmp, 1))  (k : xw_At g ro nL p l e R s m args below meth c cells slots Q (pc + 1) lv (.int (lg_cmp x y) :: st) hp) : xw_At g ro nL p l e R s m args below meth c cells slots Q (pc) lv (.long y :: .long x :: st) hp := fun ls H locs hl hP hn hS => W.lcmp C.1 C.2.1 hdg (k ls H locs hl hP hn hS)
theorem xa_dup (C : xw_C g cc nL own p s m args c) {v : Value} (hdg : decode cc pc = .ok (.dup, 1)) (hv : v.category = 1) (k : xw_At g ro nL p l e R s m args below meth c cells slots Q (pc + 1) lv (v :: v :: st) hp) : xw_At g ro nL p l e R s m args below meth c cells slots Q (pc) lv (v :: st) hp := fun ls H locs hl hP hn hS => lv_dup C.1 C.2.1 hdg ((xw_cat _ _).trans hv) (k ls H locs hl hP hn hS)
theorem xa_goto (C : xw_C g cc nL own p s m args c) {off : Int} {tgt : Nat} (hdg : decode cc pc = .ok (.goto off, 3)) (ht : (pc : Int) + off = (tgt : Int)) (k : xw_At g ro nL p l e R s m args below meth c cells slots Q (tgt) lv (st) hp) : xw_At g ro nL p l e R s m args below meth c cells slots Q (pc) lv (st) hp := fun ls H locs hl hP hn hS => lv_goto C.1 C.2.1 hdg ht (k ls H locs hl hP hn hS)
theorem xa_if_eq (C : xw_C g cc nL own p s m args c) {x : Int32} {off : Int} {tgt : Nat} (hdg : decode cc pc = .ok (.ifCond .eq off, 3)) (ht : (pc : Int) + off = (tgt : Int)) (kt : x = 0 → xw_At g ro nL p l e R s m args below meth c cells slots Q (tgt) lv (st) hp) (kf : ¬ x = 0 → xw_At g ro nL p l e R s m args below meth c cells slots Q (pc + 3) lv (st) hp) : xw_At g ro nL p l e R s m args below meth c cells slots Q (pc) lv (.int x :: st) hp := fun ls H locs hl hP hn hS => lv_if_eq C.1 C.2.1 hdg ht (fun q => kt q ls H locs hl hP hn hS) (fun q => kf q ls H locs hl hP hn hS)
theorem xa_icmp_eq (C : xw_C g cc nL own p s m args c) {x y : Int32} {off : Int} {tgt : Nat} (hdg : decode cc pc = .ok (.if_icmp .eq off, 3)) (ht : (pc : Int) + off = (tgt : Int)) (kt : x = y → xw_At g ro nL p l e R s m args below meth c cells slots Q (tgt) lv (st) hp) (kf : ¬ x = y → xw_At g ro nL p l e R s m args below meth c cells slots Q (pc + 3) lv (st) hp) : xw_At g ro nL p l e R s m args below meth c cells slots Q (pc) lv (.int y :: .int x :: st) hp := fun ls H locs hl hP hn hS => lv_icmp_eq C.1 C.2.1 hdg ht (fun q => kt q ls H locs hl hP hn hS) (fun q => kf q ls H locs hl hP hn hS)
theorem xa_if_ne (C : xw_C g cc nL own p s m args c) {x : Int32} {off : Int} {tgt : Nat} (hdg : decode cc pc = .ok (.ifCond .ne off, 3)) (ht : (pc : Int) + off = (tgt : Int)) (kt : ¬ x = 0 → xw_At g ro nL p l e R s m args below meth c cells slots Q (tgt) lv (st) hp) (kf : x = 0 → xw_At g ro nL p l e R s m args below meth c cells slots Q (pc + 3) lv (st) hp) : xw_At g ro nL p l e R s m args below meth c cells slots Q (pc) lv (.int x :: st) hp := fun ls H locs hl hP hn hS => lv_if_ne C.1 C.2.1 hdg ht (fun q => kt q ls H locs hl hP hn hS) (fun q => kf q ls H locs hl hP hn hS)
theorem xa_icmp_ne (C : xw_C g cc nL own p s m args c) {x y : Int32} {off : Int} {tgt : Nat} (hdg : decode cc pc = .ok (.if_icmp .ne off, 3)) (ht : (pc : Int) + off = (tgt : Int)) (kt : ¬ x = y → xw_At g ro nL p l e R s m args below meth c cells slots Q (tgt) lv (st) hp) (kf : x = y → xw_At g ro nL p l e R s m args below meth c cells slots Q (pc + 3) lv (st) hp) : xw_At g ro nL p l e R s m args below meth c cells slots Q (pc) lv (.int y :: .int x :: st) hp := fun ls H locs hl hP hn hS => lv_icmp_ne C.1 C.2.1 hdg ht (fun q => kt q ls H locs hl hP hn hS) (fun q => kf q ls H locs hl hP hn hS)
theorem xa_if_lt (C : xw_C g cc nL own p s m args c) {x : Int32} {off : Int} {tgt : Nat} (hdg : decode cc pc = .ok (.ifCond .lt off, 3)) (ht : (pc : Int) + off = (tgt : Int)) (kt : x < 0 → xw_At g ro nL p l e R s m args below meth c cells slots Q (tgt) lv (st) hp) (kf : ¬ x < 0 → xw_At g ro nL p l e R s m args below meth c cells slots Q (pc + 3) lv (st) hp) : xw_At g ro nL p l e R s m args below meth c cells slots Q (pc) lv (.int x :: st) hp := fun ls H locs hl hP hn hS => lv_if_lt C.1 C.2.1 hdg ht (fun q => kt q ls H locs hl hP hn hS) (fun q => kf q ls H locs hl hP hn hS)
theorem xa_icmp_lt (C : xw_C g cc nL own p s m args c) {x y : Int32} {off : Int} {tgt : Nat} (hdg : decode cc pc = .ok (.if_icmp .lt off, 3)) (ht : (pc : Int) + off = (tgt : Int)) (kt : x < y → xw_At g ro nL p l e R s m args below meth c cells slots Q (tgt) lv (st) hp) (kf : ¬ x < y → xw_At g ro nL p l e R s m args below meth c cells slots Q (pc + 3) lv (st) hp) : xw_At g ro nL p l e R s m args below meth c cells slots Q (pc) lv (.int y :: .int x :: st) hp := fun ls H locs hl hP hn hS => lv_icmp_lt C.1 C.2.1 hdg ht (fun q => kt q ls H locs hl hP hn hS) (fun q => kf q ls H locs hl hP hn hS)
theorem xa_if_ge (C : xw_C g cc nL own p s m args c) {x : Int32} {off : Int} {tgt : Nat} (hdg : decode cc pc = .ok (.ifCond .ge off, 3)) (ht : (pc : Int) + off = (tgt : Int)) (kt : 0 ≤ x → xw_At g ro nL p l e R s m args below meth c cells slots Q (tgt) lv (st) hp) (kf : ¬ 0 ≤ x → xw_At g ro nL p l e R s m args below meth c cells slots Q (pc + 3) lv (st) hp) : xw_At g ro nL p l e R s m args below meth c cells slots Q (pc) lv (.int x :: st) hp := fun ls H locs hl hP hn hS => lv_if_ge C.1 C.2.1 hdg ht (fun q => kt q ls H locs hl hP hn hS) (fun q => kf q ls H locs hl hP hn hS)
theorem xa_icmp_ge (C : xw_C g cc nL own p s m args c) {x y : Int32} {off : Int} {tgt : Nat} (hdg : decode cc pc = .ok (.if_icmp .ge off, 3)) (ht : (pc : Int) + off = (tgt : Int)) (kt : y ≤ x → xw_At g ro nL p l e R s m args below meth c cells slots Q (tgt) lv (st) hp) (kf : ¬ y ≤ x → xw_At g ro nL p l e R s m args below meth c cells slots Q (pc + 3) lv (st) hp) : xw_At g ro nL p l e R s m args below meth c cells slots Q (pc) lv (.int y :: .int x :: st) hp := fun ls H locs hl hP hn hS => lv_icmp_ge C.1 C.2.1 hdg ht (fun q => kt q ls H locs hl hP hn hS) (fun q => kf q ls H locs hl hP hn hS)
theorem xa_if_gt (C : xw_C g cc nL own p s m args c) {x : Int32} {off : Int} {tgt : Nat} (hdg : decode cc pc = .ok (.ifCond .gt off, 3)) (ht : (pc : Int) + off = (tgt : Int)) (kt : 0 < x → xw_At g ro nL p l e R s m args below meth c cells slots Q (tgt) lv (st) hp) (kf : ¬ 0 < x → xw_At g ro nL p l e R s m args below meth c cells slots Q (pc + 3) lv (st) hp) : xw_At g ro nL p l e R s m args below meth c cells slots Q (pc) lv (.int x :: st) hp := fun ls H locs hl hP hn hS => lv_if_gt C.1 C.2.1 hdg ht (fun q => kt q ls H locs hl hP hn hS) (fun q => kf q ls H locs hl hP hn hS)
theorem xa_icmp_gt (C : xw_C g cc nL own p s m args c) {x y : Int32} {off : Int} {tgt : Nat} (hdg : decode cc pc = .ok (.if_icmp .gt off, 3)) (ht : (pc : Int) + off = (tgt : Int)) (kt : y < x → xw_At g ro nL p l e R s m args below meth c cells slots Q (tgt) lv (st) hp) (kf : ¬ y < x → xw_At g ro nL p l e R s m args below meth c cells slots Q (pc + 3) lv (st) hp) : xw_At g ro nL p l e R s m args below meth c cells slots Q (pc) lv (.int y :: .int x :: st) hp := fun ls H locs hl hP hn hS => lv_icmp_gt C.1 C.2.1 hdg ht (fun q => kt q ls H locs hl hP hn hS) (fun q => kf q ls H locs hl hP hn hS)
theorem xa_if_le (C : xw_C g cc nL own p s m args c) {x : Int32} {off : Int} {tgt : Nat} (hdg : decode cc pc = .ok (.ifCond .le off, 3)) (ht : (pc : Int) + off = (tgt : Int)) (kt : x ≤ 0 → xw_At g ro nL p l e R s m args below meth c cells slots Q (tgt) lv (st) hp) (kf : ¬ x ≤ 0 → xw_At g ro nL p l e R s m args below meth c cells slots Q (pc + 3) lv (st) hp) : xw_At g ro nL p l e R s m args below meth c cells slots Q (pc) lv (.int x :: st) hp := fun ls H locs hl hP hn hS => lv_if_le C.1 C.2.1 hdg ht (fun q => kt q ls H locs hl hP hn hS) (fun q => kf q ls H locs hl hP hn hS)
theorem xa_icmp_le (C : xw_C g cc nL own p s m args c) {x y : Int32} {off : Int} {tgt : Nat} (hdg : decode cc pc = .ok (.if_icmp .le off, 3)) (ht : (pc : Int) + off = (tgt : Int)) (kt : x ≤ y → xw_At g ro nL p l e R s m args below meth c cells slots Q (tgt) lv (st) hp) (kf : ¬ x ≤ y → xw_At g ro nL p l e R s m args below meth c cells slots Q (pc + 3) lv (st) hp) : xw_At g ro nL p l e R s m args below meth c cells slots Q (pc) lv (.int y :: .int x :: st) hp := fun ls H locs hl hP hn hS => lv_icmp_le C.1 C.2.1 hdg ht (fun q => kt q ls H locs hl hP hn hS) (fun q => kf q ls H locs hl hP hn hS)
theorem xa_tabIn (C : xw_C g cc nL own p s m args c) {dflt lo hi : Int} {offs : Array Int} {len : Nat} {x : Int32} {off : Int} {tgt : Nat} (hdg : decode cc pc = .ok (.tableswitch dflt lo hi offs, len)) (h1 : ¬ x.toInt < lo) (h2 : ¬ hi < x.toInt) (ho : offs[(x.toInt - lo).toNat]? = some off) (ht : (pc : Int) + off = (tgt : Int)) (k : xw_At g ro nL p l e R s m args below meth c cells slots Q (tgt) lv (st) hp) : xw_At g ro nL p l e R s m args below meth c cells slots Q (pc) lv (.int x :: st) hp := fun ls H locs hl hP hn hS => lv_tableIn C.1 C.2.1 hdg h1 h2 ho ht (k ls H locs hl hP hn hS)
theorem xa_tabOut (C : xw_C g cc nL own p s m args c) {dflt lo hi : Int} {offs : Array Int} {len : Nat} {x : Int32} {tgt : Nat} (hdg : decode cc pc = .ok (.tableswitch dflt lo hi offs, len)) (h : x.toInt < lo ∨ hi < x.toInt) (ht : (pc : Int) + dflt = (tgt : Int)) (k : xw_At g ro nL p l e R s m args below meth c cells slots Q (tgt) lv (st) hp) : xw_At g ro nL p l e R s m args below meth c cells slots Q (pc) lv (.int x :: st) hp := fun ls H locs hl hP hn hS => lv_tableOut C.1 C.2.1 hdg h ht (k ls H locs hl hP hn hS)
/-- a field by its link: own class and index; the class's number and the field's own -/
def xf_ok (own : String) (idx ci k : Nat) : Prop := ∃ q : vw_C, xw_cl[ci]? = some q ∧ (∀ w ∈ u_ws q.1 q.2.1 q.2.2, w ∈ xw_tb) ∧ k < q.2.2 ∧ Cond.fieldLink own idx (q.2.1 k).1 (q.2.1 k).2.1 (q.2.1 k).2.2.1 ∈ xw_tb
def xf_put (ci k : Nat) (ty : FieldType) : Prop := ∃ q : vw_C, xw_cl[ci]? = some q ∧ (∃ ty0 : Nat → FieldType, ∀ k, k < q.2.2 → parseFieldDescriptor (q.2.1 k).2.2.1 = some (ty0 k)) ∧ (∀ a, a < q.2.2 → ∀ b, b < q.2.2 → a ≠ b → (q.2.1 a).2.1 ≠ (q.2.1 b).2.1) ∧ (q.2.1 k).2.2.2 = false ∧ parseFieldDescriptor (q.2.1 k).2.2.1 = some ty
theorem xa_get (C : xw_C g cc nL own p s m args c) {idx ci k i : Nat} {fs : List Value} {v : Value} (hf : xf_ok own idx ci k) (hdg : decode cc pc = .ok (.getfield idx, 3)) (ho : hp[i]? = some (.inr (ci, fs))) (hv : fs[k]? = some v) (kk : xw_At g ro nL p l e R s m args below meth c cells slots Q (pc + 3) lv (v :: st) hp) : xw_At g ro nL p l e R s m args below meth c cells slots Q (pc) lv (.ref i :: st) hp := fun ls H locs hl hP hn hS => by
  obtain ⟨⟨Cn, T, N⟩, h1, h2, h3, h4⟩ := hf
  obtain ⟨hx, hb, -, hown, hts, hp0, hW⟩ := C
  exact va_get (D := xg_D g) (v := xw_v (xg_a g) v) hx hb hts h2 hown hW.2.2.1 hP i (xw_get ho) h1 k h3 (hts _ h4) (fun _ h9 => h9) (by simp [hv]) hdg (kk ls H locs hl hP hn hS)
theorem xa_put (C : xw_C g cc nL own p s m args c) {idx ci k i : Nat} {fs : List Value} {v : Value} {ty : FieldType} (hf : xf_ok own idx ci k) (hu : xf_put ci k ty) (hdg : decode cc pc = .ok (.putfield idx, 3)) (ho : hp[i]? = some (.inr (ci, fs))) (hk : k < fs.length) (hna : narrow ty v = v) (hft : fits ty v = true) (hr : ∀ a, v ≠ .ref a) (kk : xw_At g false nL p l e R s m args below meth c cells slots Q (pc + 3) lv (st) (hp.set i (.inr (ci, fs.set k v)))) : xw_At g ro nL p l e R s m args below meth c cells slots Q (pc) lv (v :: .ref i :: st) hp := fun ls H locs hl hP hn hS => by
  obtain ⟨⟨Cn, T, N⟩, h1, h2, h3, h4⟩ := hf
  obtain ⟨q2, k1, ⟨ty0, k2⟩, k3, k4, k5⟩ := hu
  cases h1.symm.trans k1
  obtain ⟨hx, hb, -, hown, hts, hp0, hW⟩ := C
  have hvv : xw_v (xg_a g) v = v := by cases v <;> first | rfl | exact absurd rfl (hr _)
  refine va_put (D := xg_D g) (v := xw_v (xg_a g) v) (ty := ty) hx hb hts h2 ty0 k2 k3 hown hW.2.2.1 hP (xw_D hW.2.2.2.1 hn) hS.1 i (xw_get ho) h1 k h3 (hts _ h4) (fun _ h9 => h9) k4 k5 (by rw [hvv]; exact hna) (by rw [hvv]; exact hft) (by simpa using hk) hdg (fun H1 locs1 hP1 hD1 hS1 => ?_)
  refine kk ls H1 locs1 hl ?_ (by simpa using hn) ⟨hS1, fun h => by cases h⟩
  rw [← xw_set]
  show va_P _ _ ((xw_ws (xg_a g) hp).set i (xg_a g i, .inr (ci, (fs.set k v).map (xw_v (xg_a g))))) H1
  rw [List.map_set]
  exact hP1
theorem xa_laload (C : xw_C g cc nL own p s m args c) {i N : Nat} {f : Nat → Int64} {x : Int32} (hdg : decode cc pc = .ok (.laload, 1)) (ho : hp[i]? = some (.inl (xg_J g, N, .inr (.inl f)))) (hin : vp_in x N) (k : xw_At g ro nL p l e R s m args below meth c cells slots Q (pc + 1) lv (.long (f x.toNatClampNeg) :: st) hp) : xw_At g ro nL p l e R s m args below meth c cells slots Q (pc) lv (.int x :: .ref i :: st) hp := fun ls H locs hl hP hn hS => va_lald C.1 C.2.1 C.2.2.2.2.2.choose_spec.2.2.1 hP i 0 (xw_get ho) rfl hin hdg (k ls H locs hl hP hn hS)
theorem xa_baload (C : xw_C g cc nL own p s m args c) {i N : Nat} {f : Nat → Int32} {x : Int32} (hdg : decode cc pc = .ok (.baload, 1)) (ho : hp[i]? = some (.inl (xg_Z g, N, .inl f))) (hin : vp_in x N) (k : xw_At g ro nL p l e R s m args below meth c cells slots Q (pc + 1) lv (.int (f x.toNatClampNeg) :: st) hp) : xw_At g ro nL p l e R s m args below meth c cells slots Q (pc) lv (.int x :: .ref i :: st) hp := fun ls H locs hl hP hn hS => va_zald C.1 C.2.1 C.2.2.2.2.2.choose_spec.2.2.1 hP i 1 (xw_get ho) rfl hin hdg (k ls H locs hl hP hn hS)
theorem xa_lastore (C : xw_C g cc nL own p s m args c) {i N : Nat} {f : Nat → Int64} {x : Int32} {v : Int64} (hdg : decode cc pc = .ok (.lastore, 1)) (ho : hp[i]? = some (.inl (xg_J g, N, .inr (.inl f)))) (hin : vp_in x N) (k : xw_At g false nL p l e R s m args below meth c cells slots Q (pc + 1) lv (st) (hp.set i (.inl (xg_J g, N, .inr (.inl (vp_updL f x.toNatClampNeg v)))))) : xw_At g ro nL p l e R s m args below meth c cells slots Q (pc) lv (.long v :: .int x :: .ref i :: st) hp := fun ls H locs hl hP hn hS => va_last C.1 C.2.1 C.2.2.2.2.2.choose_spec.2.2.1 hP (xw_D C.2.2.2.2.2.choose_spec.2.2.2.1 hn) hS.1 i 0 (xw_get ho) rfl hin hdg (fun H1 locs1 hP1 hD1 hS1 => k ls H1 locs1 hl (by rw [← xw_set]; exact hP1) (by simpa using hn) ⟨hS1, fun h => by cases h⟩)
theorem xa_bastore (C : xw_C g cc nL own p s m args c) {i N : Nat} {f : Nat → Int32} {x v : Int32} (hdg : decode cc pc = .ok (.bastore, 1)) (ho : hp[i]? = some (.inl (xg_Z g, N, .inl f))) (hin : vp_in x N) (k : xw_At g false nL p l e R s m args below meth c cells slots Q (pc + 1) lv (st) (hp.set i (.inl (xg_Z g, N, .inl (upd f x.toNatClampNeg (vp_nar .boolean v)))))) : xw_At g ro nL p l e R s m args below meth c cells slots Q (pc) lv (.int v :: .int x :: .ref i :: st) hp := fun ls H locs hl hP hn hS => va_zast C.1 C.2.1 C.2.2.2.2.2.choose_spec.2.2.1 hP (xw_D C.2.2.2.2.2.choose_spec.2.2.2.1 hn) hS.1 i 1 (xw_get ho) rfl hin hdg (fun H1 locs1 hP1 hD1 hS1 => k ls H1 locs1 hl (by rw [← xw_set]; exact hP1) (by simpa using hn) ⟨hS1, fun h => by cases h⟩)
theorem xa_iaload (C : xw_C g cc nL own p s m args c) {x : Int32} (hdg : decode cc pc = .ok (.iaload, 1)) (hin : vp_in x (xg_L g)) (k : xw_At g ro nL p l e R s m args below meth c cells slots Q (pc + 1) lv (.int (xg_x g x.toNatClampNeg) :: st) hp) : xw_At g ro nL p l e R s m args below meth c cells slots Q (pc) lv (.int x :: .ref xw_sp :: st) hp := fun ls H locs hl hP hn hS => by
  obtain ⟨-, -, -, -, hX, hlt, hA, -⟩ := C.2.2.2.2.2.choose_spec
  exact va_sld C.1 C.2.1 hX hlt hA hS.1 hin hdg (k ls H locs hl hP hn hS)
theorem xa_alen (C : xw_C g cc nL own p s m args c) (hdg : decode cc pc = .ok (.arraylength, 1)) (k : xw_At g ro nL p l e R s m args below meth c cells slots Q (pc + 1) lv (.int (Int32.ofNat (xg_L g)) :: st) hp) : xw_At g ro nL p l e R s m args below meth c cells slots Q (pc) lv (.ref xw_sp :: st) hp := fun ls H locs hl hP hn hS => by
  obtain ⟨-, -, -, -, hX, hlt, hA, -⟩ := C.2.2.2.2.2.choose_spec
  exact va_slen C.1 C.2.1 hX hlt hA hS.1 hdg (k ls H locs hl hP hn hS)
theorem xa_i2lN (C : xw_C g cc nL own p s m args c) {q : Nat} (hdg : decode cc pc = .ok (.i2l, 1)) (hq : q < 2 ^ 31) (k : xw_At g ro nL p l e R s m args below meth c cells slots Q (pc + 1) lv (.long (lN q) :: st) hp) : xw_At g ro nL p l e R s m args below meth c cells slots Q (pc) lv (.int (nI q) :: st) hp := xa_i2l C hdg (by rw [nI_l hq]; exact k)
theorem xa_icN (C : xw_C g cc nL own p s m args c) (q : Nat) (hdg : decode cc pc = .ok (.iconst (q : Int), 1))  (k : xw_At g ro nL p l e R s m args below meth c cells slots Q (pc + 1) lv (.int (nI q) :: st) hp) : xw_At g ro nL p l e R s m args below meth c cells slots Q (pc) lv (st) hp := fun ls H locs hl hP hn hS => lv_iconst C.1 C.2.1 hdg (by first | exact Int32.ofInt_eq_ofNat | (apply Int32.toBitVec_inj.mp; simp [nI])) (k ls H locs hl hP hn hS)
theorem xa_lcN (C : xw_C g cc nL own p s m args c) (q : Fin 2) (hdg : decode cc pc = .ok (.lconst q, 1)) (k : xw_At g ro nL p l e R s m args below meth c cells slots Q (pc + 1) lv (.long (lN (q : Nat)) :: st) hp) : xw_At g ro nL p l e R s m args below meth c cells slots Q (pc) lv (st) hp := xa_lconst C hdg k
theorem xa_bpN (C : xw_C g cc nL own p s m args c) (q : Nat) (hdg : decode cc pc = .ok (.bipush (q : Int), 2)) (hq : (Int8.ofInt (q : Int)).toInt32 = nI q) (k : xw_At g ro nL p l e R s m args below meth c cells slots Q (pc + 2) lv (.int (nI q) :: st) hp) : xw_At g ro nL p l e R s m args below meth c cells slots Q (pc) lv (st) hp := fun ls H locs hl hP hn hS => lv_bipush C.1 C.2.1 hdg hq (k ls H locs hl hP hn hS)
theorem xa_incN (C : xw_C g cc nL own p s m args c) {i q : Nat} (hdg : decode cc pc = .ok (.iinc i 1, 3)) (hv : lv[i]? = some (some (.int (nI q)))) (hi : i < nL) (k : xw_At g ro nL p l e R s m args below meth c cells slots Q (pc + 3) (xl_1 lv i (.int (nI (q + 1)))) (st) hp) : xw_At g ro nL p l e R s m args below meth c cells slots Q (pc) lv (st) hp := xa_iinc C hdg hv hi (by rw [show (nI q + Int32.ofInt 1) = nI (q + 1) from nI_1 q]; exact k)
end XA
end
section
/-! Contracts over the pure machine, returns and calls. A method: name, bytes, locals, answer's type, frames and words of locals below it. -/
abbrev xw_M : Type := MethodName × ByteArray × Nat × Option FieldType × Nat × Nat
abbrev xm_ws (M : xw_M) : List Cond := Cond.code M.1 M.2.1 M.2.2.1 M.2.2.2.1 :: xw_tb
abbrev xm_rm (M : xw_M) (k : Nat) : Room := { frames := M.2.2.2.2.1, cells := k, slots := 6 * k, locals := M.2.2.2.2.2 }
def xm_fr (g : xw_G) (ro : Bool) : Nat → Prop := fun q => ro = false ∧ xg_A g q
def xm_Q (g : xw_G) (ro : Bool) (v : Option Value) (hp : List va_E) : Array Value → State → Outcome → State → Prop := fun _ st oc t => oc = .returned (v.map (xw_v (xg_a g))) ∧ xw_Wd g hp t ∧ va_F (xg_A g) st t ∧ (ro = true → t.heap = st.heap)
/-- it returns v, and leaves the heap hp' -/
def xm_R (g : xw_G) (l : Launch) (ro : Bool) (M : xw_M) (av : List Value) (hp : List va_E) (v : Option Value) (hp' : List va_E) : Prop :=
  Met l M.1 (xm_ws M) (xm_rm M 0) (va_Pc (av.map (xw_v (xg_a g))) (xw_Wd g hp)) (xm_Q g ro v hp') 0 0 (xm_fr g ro)
theorem xm_blind (g : xw_G) (av : List Value) (hp : List va_E) : FrameBlind (va_Pc av (xw_Wd g hp)) := fun a U f mk q => ⟨q.1, q.2.same (t := U.calling f mk a) rfl (State.WarmedH.refl U)⟩
theorem xl_pad {ad : Nat → Nat} {av : List Value} {nL : Nat} {lv : List (Option Value)} (hlen : (lg_sl (av.map (xw_v ad))).length ≤ nL) (hlv : lv = xl_in av ++ List.replicate (nL - (xl_in av).length) none) :
    xl_ok ad ((lg_sl (av.map (xw_v ad)) ++ List.replicate (nL - (lg_sl (av.map (xw_v ad))).length) Slot.unset).toArray) nL lv := by
  refine xl_of (lv_entry (av.map (xw_v ad)) hlen) fun i v h => ?_
  rw [hlv] at h
  by_cases hi : i < (xl_in av).length
  · rw [List.getElem?_append_left hi] at h
    have := xl_in_mem ad av 0 i v h
    rwa [Nat.zero_add] at this
  · rw [List.getElem?_append_right (by omega)] at h
    have := List.eq_of_mem_replicate (List.mem_of_getElem? h)
    cases this
theorem xm_of {g : xw_G} {l : Launch} {ro : Bool} {M : xw_M} {av : List Value} {hp : List va_E} {v : Option Value} {hp' : List va_E} (lv : List (Option Value)) (hy : plainName M.1.cls = true)
    (hlen : (lg_sl (av.map (xw_v (xg_a g)))).length ≤ M.2.2.1) (hlv : lv = xl_in av ++ List.replicate (M.2.2.1 - (xl_in av).length) none)
    (body : ∀ (p : Program) (e : Env) (s : State) (m : MethodId) (args : Array Value) (below : List Frame) (meth : Method) (c : Code), xw_C g M.2.1 M.2.2.1 M.1.cls p s m args c → meth.sig.returnType = M.2.2.2.1 → meth.locks = false →
      xw_At g ro M.2.2.1 p l e (xm_rm M 0) s m args below meth c 0 0 (MQ below (xm_Q g ro v hp') args s 0 0 (xm_fr g ro)) 0 lv [] hp) : xm_R g l ro M av hp v hp' := by
  refine Met.ofW (cc := M.2.1) (maxL := M.2.2.1) (ret := M.2.2.2.1) hy rfl ?_
  intro p e s m args below meth c s₁ B hml hv
  obtain ⟨rfl, hw⟩ := hv
  rw [lg_entry_eq]
  have hts := atoms_spec (ws := xm_ws M) B.pre
  exact body p e s m _ below meth c ⟨B.exec, B.bytes, hml, findClass_of_methodNamed B.named, fun w h => hts w (List.mem_cons_of_mem _ h), hp, hw⟩ B.returns B.notSynchronized _ s.heap [] (xl_pad hlen hlv) hw.2.1 hw.1 ⟨va_S.rf, fun _ => ⟨rfl, rfl⟩⟩
section XC
variable {g : xw_G} {ro : Bool} {cc : ByteArray} {nL : Nat} {own : String} {p : Program} {l : Launch} {e : Env} {R : Room} {s : State} {m : MethodId} {args : Array Value} {below : List Frame} {meth : Method} {c : Code} {cells slots : Nat} {Q : State → Prop}
variable {pc : Nat} {lv : List (Option Value)} {st : List Value} {hp : List va_E}
theorem xm_end (C : xw_C g cc nL own p s m args c) {H : Heap} {locs : List Loc} {v : Option Value} (hP : va_P (xg_D g) xw_cl (xw_ws (xg_a g) hp) H) (hn : hp.length = xg_n g) (hS : va_S (xg_A g) s.heap H locs ∧ (ro = true → H = s.heap ∧ locs = [])) :
    (∀ t : State, t.heap = H → s.WarmedH t.vm → xm_Q g ro v hp args s (.returned (v.map (xw_v (xg_a g)))) t) ∧ ∀ q ∈ locs, xm_fr g ro q.base := by
  obtain ⟨-, -, -, -, -, hp0, hW⟩ := C
  refine ⟨fun t ht hw => ⟨rfl, hW.goes hS.1 hP hn ht hw, hS.1.F ht, fun h => by rw [ht]; exact (hS.2 h).1⟩, fun q hq => ?_⟩
  cases ro with
  | true => rw [(hS.2 rfl).2] at hq; cases hq
  | false => exact ⟨rfl, hS.1.2.2 q hq⟩
theorem xa_lret (C : xw_C g cc nL own p s m args c) (hr : meth.sig.returnType = some .long) (hk : meth.locks = false) {x : Int64} (hdg : decode cc pc = .ok (.lreturn, 1)) :
    xw_At g ro nL p l e R s m args below meth c cells slots (MQ below (xm_Q g ro (some (.long x)) hp) args s cells slots (xm_fr g ro)) pc lv [.long x] hp := fun ls H locs hl hP hn hS =>
  W.lret C.1 C.2.1 hr (xm_end (v := some (.long x)) C hP hn hS).1 (xm_end (v := some (.long x)) C hP hn hS).2 hdg hk
theorem xa_iret (C : xw_C g cc nL own p s m args c) (hr : meth.sig.returnType = some .int) (hk : meth.locks = false) {x : Int32} (hdg : decode cc pc = .ok (.ireturn, 1)) :
    xw_At g ro nL p l e R s m args below meth c cells slots (MQ below (xm_Q g ro (some (.int x)) hp) args s cells slots (xm_fr g ro)) pc lv [.int x] hp := fun ls H locs hl hP hn hS =>
  W.iret C.1 C.2.1 hr (xm_end (v := some (.int x)) C hP hn hS).1 (xm_end (v := some (.int x)) C hP hn hS).2 hdg hk
theorem xa_zret (C : xw_C g cc nL own p s m args c) (hr : meth.sig.returnType = some .boolean) (hk : meth.locks = false) {x : Int32} (hx : narrow .boolean (.int x) = .int x) (hdg : decode cc pc = .ok (.ireturn, 1)) :
    xw_At g ro nL p l e R s m args below meth c cells slots (MQ below (xm_Q g ro (some (.int x)) hp) args s cells slots (xm_fr g ro)) pc lv [.int x] hp := fun ls H locs hl hP hn hS =>
  W.zret C.1 C.2.1 hr hx (xm_end (v := some (.int x)) C hP hn hS).1 (xm_end (v := some (.int x)) C hP hn hS).2 hdg hk
theorem xa_vret (C : xw_C g cc nL own p s m args c) (hr : meth.sig.returnType = none) (hk : meth.locks = false) (hdg : decode cc pc = .ok (.return_, 1)) :
    xw_At g ro nL p l e R s m args below meth c cells slots (MQ below (xm_Q g ro none hp) args s cells slots (xm_fr g ro)) pc lv [] hp := fun ls H locs hl hP hn hS =>
  W.vret C.1 C.2.1 hr (xm_end (v := none) C hP hn hS).1 (xm_end (v := none) C hP hn hS).2 hdg hk
/-- behind a call -/
theorem xa_after {ro1 : Bool} {a : Array Value} {v : Option Value} {hp' : List va_E} {rest st0 : List Value} {ls : Array Slot} {H : Heap} {locs : List Loc}
    (run : va_Run p l e R s m args below meth c H locs cells slots 0 0 (F0 m pc ls st0) (rest.map (xw_v (xg_a g))) (xm_Q g ro1 v hp' a) (xm_fr g ro1)) (hl : xl_ok (xg_a g) ls nL lv)
    (hS : va_S (xg_A g) s.heap H locs ∧ (ro = true → H = s.heap ∧ locs = []))
    (k : xw_At g (ro && ro1) nL p l e R s m args below meth c cells slots Q (pc + 3) lv (v.toList ++ rest) hp') : W p l e R s m args below meth c H locs cells slots Q (F0 m pc ls st0) := by
  intro T hT X
  obtain ⟨v', st₀, t, T', L, h0, X', hL, e1, e2, ⟨hv, hWd, hF, hro⟩, go⟩ := run T hT X
  cases hv
  have hS' : va_S (xg_A g) s.heap T'.heap (locs ++ L) := by
    rw [e1]
    refine ⟨Nat.le_trans hS.1.1 (by rw [← h0]; exact hF.1), fun q h1 h2 => ?_, fun q hq => ?_⟩
    · rw [hF.2 q (by rw [h0]; exact Nat.lt_of_lt_of_le h1 hS.1.1) h2, h0]
      exact hS.1.2.1 q h1 h2
    · rcases List.mem_append.mp hq with h | h
      · exact hS.1.2.2 q h
      · exact (hL q h).2
  obtain ⟨t2, a1, b1⟩ := k ls T'.heap (locs ++ L) hl (by rw [e1]; exact hWd.2.1) hWd.1 ⟨hS', fun h => by
    simp only [Bool.and_eq_true] at h
    obtain ⟨r1, r2⟩ := hS.2 h.1
    refine ⟨by rw [e1, hro h.2, h0]; exact r1, ?_⟩
    rw [r2, List.nil_append]
    cases L with
    | nil => rfl
    | cons q L => have := (hL q List.mem_cons_self).1; rw [h.2] at this; cases this⟩ T' rfl X'
  refine ⟨t2, go t2 ?_, b1⟩
  have e3 : (v.toList ++ rest).map (xw_v (xg_a g)) = (v.map (xw_v (xg_a g))).toList ++ rest.map (xw_v (xg_a g)) := by cases v <;> simp
  rw [e3] at a1
  exact a1
def xm_B (own : String) (idx : Nat) (M : xw_M) (n : Nat) : Prop := Cond.code M.1 M.2.1 M.2.2.1 M.2.2.2.1 ∈ xw_tb ∧ Cond.initialized M.1.cls ∈ xw_tb ∧ Cond.methodLink own idx M.1 ∈ xw_tb ∧
  (M.1.cls ≠ "java/lang/invoke/MethodHandle" ∧ M.1.cls ≠ "java/lang/invoke/VarHandle" ∧ (parseMethodDescriptor M.1.desc).map (fun d => d.parameters.length) = some n)
theorem xm_good {M : xw_M} (w1 : Cond.code M.1 M.2.1 M.2.2.1 M.2.2.2.1 ∈ xw_tb) : GoodIn xw_tb (xm_ws M) := fun w h => by
  rcases List.mem_cons.mp h with rfl | h
  · exact ⟨w1, good_of_word (xw_tb_good _ w1)⟩
  · exact ⟨h, good_of_word (xw_tb_good _ h)⟩
theorem xm_cats (ad : Nat → Nat) (rest : List Value) : ((rest.map (xw_v ad)).map fun v => v.category).sum = (rest.map fun v => v.category).sum := by
  rw [List.map_map]
  congr 1
  apply List.map_congr_left
  intro v _
  exact xw_cat ad v
theorem xa_callS (C : xw_C g cc nL own p s m args c) {ro1 : Bool} {M : xw_M} {idx : Nat} {av rest : List Value} {v : Option Value} {hp' : List va_E} (hM : xm_R g l ro1 M av hp v hp') (hw : xm_B own idx M av.length) (hst : Cond.static M.1 ∈ xw_tb)
    (hdg : decode cc pc = .ok (.invokestatic idx, 3)) (hs : st = av.reverse ++ rest) (hwt : (rest.map fun v => v.category).sum ≤ 8) (hR : M.2.2.2.2.1 + 1 ≤ R.frames ∧ 8 + (M.2.2.1 + 11) + M.2.2.2.2.2 ≤ R.locals) (hcl : cells ≤ R.cells ∧ slots ≤ R.slots)
    (k : xw_At g (ro && ro1) nL p l e R s m args below meth c cells slots Q (pc + 3) lv (v.toList ++ rest) hp') : xw_At g ro nL p l e R s m args below meth c cells slots Q pc lv st hp := by
  intro ls H locs hl hP hn hS
  subst hs
  have hC := C
  obtain ⟨hx, hb, hml, hown, hts, hp0, hW⟩ := C
  obtain ⟨w1, w2, w3, w5⟩ := hw
  have cb := callB_of (Ts := xw_tb) (R := R) (args := args) (s := s) (own := own) (index := idx) (y := M.1) (bytes := M.2.1) (maxL := M.2.2.1) (ret := M.2.2.2.1) (ws := xm_ws M) (ws' := xw_tb) (rm := xm_rm M 0) (mc := 0) (ms := 0) av.length hts (xm_good w1) rfl rfl rfl (hts _ w2) (hts _ w3) w5 hR
  refine xa_after (rest := rest) (va_runS (Ts := xw_tb) (As := av.map (xw_v (xg_a g))) ⟨hx, hb, hml, hown, hts⟩ hM ⟨cb, hts _ hst⟩ ⟨xm_blind _ _ _, fun U hU hWU => ⟨rfl, hW.goes hS.1 hP hn hU hWU⟩⟩ rfl (by simp) hl.1 ?_ ?_ hdg hcl) hl hS k
  · simp [List.map_append, List.map_reverse]
  · exact lv_room (by rw [xm_cats]; exact hwt)
theorem xa_callV (C : xw_C g cc nL own p s m args c) {ro1 : Bool} {M : xw_M} {idx i ci : Nat} {q : vw_C} {fs : List Value} {av rest : List Value} {v : Option Value} {hp' : List va_E} (hM : xm_R g l ro1 M (.ref i :: av) hp v hp') (hw : xm_B own idx M av.length) (hin : Cond.instanceMethod M.1 ∈ xw_tb) (hse : Cond.selects M.1.cls M.1 M.1 ∈ xw_tb)
    (hdg : decode cc pc = .ok (.invokevirtual idx, 3)) (hs : st = av.reverse ++ .ref i :: rest) (ho : hp[i]? = some (.inr (ci, fs))) (hci : xw_cl[ci]? = some q) (hq : q.1 = M.1.cls) (hwt : (rest.map fun v => v.category).sum ≤ 8) (hR : M.2.2.2.2.1 + 1 ≤ R.frames ∧ 8 + (M.2.2.1 + 11) + M.2.2.2.2.2 ≤ R.locals) (hcl : cells ≤ R.cells ∧ slots ≤ R.slots)
    (k : xw_At g (ro && ro1) nL p l e R s m args below meth c cells slots Q (pc + 3) lv (v.toList ++ rest) hp') : xw_At g ro nL p l e R s m args below meth c cells slots Q pc lv st hp := by
  intro ls H locs hl hP hn hS
  subst hs
  have hC := C
  obtain ⟨hx, hb, hml, hown, hts, hp0, hW⟩ := C
  obtain ⟨w1, w2, w3, w5⟩ := hw
  have cb := callB_of (Ts := xw_tb) (R := R) (args := args) (s := s) (own := own) (index := idx) (y := M.1) (bytes := M.2.1) (maxL := M.2.2.1) (ret := M.2.2.2.1) (ws := xm_ws M) (ws' := xw_tb) (rm := xm_rm M 0) (mc := 0) (ms := 0) av.length hts (xm_good w1) rfl rfl rfl (hts _ w2) (hts _ w3) w5 hR
  have hrec := va_recv hW.2.2.1 hP hci (xw_get ho)
  rw [hq] at hrec
  refine xa_after (rest := rest) (va_runV (Ts := xw_tb) (C := M.1.cls) (b := xg_a g i) (As := av.map (xw_v (xg_a g))) ⟨hx, hb, hml, hown, hts⟩ hM ⟨cb, hts _ hin, hts _ hse⟩ ⟨xm_blind _ _ _, hrec, fun U hU hWU => ⟨rfl, hW.goes hS.1 hP hn hU hWU⟩⟩ rfl (by simp) hl.1 ?_ ?_ hdg hcl) hl hS k
  · simp [List.map_append, List.map_reverse, xw_v]
  · exact lv_room (by rw [xm_cats]; exact hwt)
/-- the call's answer on the stack -/
theorem xa_callS1 (C : xw_C g cc nL own p s m args c) {ro1 : Bool} {M : xw_M} {idx : Nat} {av rest : List Value} {x : Value} {hp' : List va_E} (hM : xm_R g l ro1 M av hp (some x) hp') (hw : xm_B own idx M av.length) (hst : Cond.static M.1 ∈ xw_tb)
    (hdg : decode cc pc = .ok (.invokestatic idx, 3)) (hs : st = av.reverse ++ rest) (hwt : (rest.map fun v => v.category).sum ≤ 8) (hR : M.2.2.2.2.1 + 1 ≤ R.frames ∧ 8 + (M.2.2.1 + 11) + M.2.2.2.2.2 ≤ R.locals) (hcl : cells ≤ R.cells ∧ slots ≤ R.slots)
    (k : xw_At g (ro && ro1) nL p l e R s m args below meth c cells slots Q (pc + 3) lv (x :: rest) hp') : xw_At g ro nL p l e R s m args below meth c cells slots Q pc lv st hp := xa_callS C hM hw hst hdg hs hwt hR hcl k
theorem xa_callV1 (C : xw_C g cc nL own p s m args c) {ro1 : Bool} {M : xw_M} {idx i ci : Nat} {q : vw_C} {fs : List Value} {av rest : List Value} {x : Value} {hp' : List va_E} (hM : xm_R g l ro1 M (.ref i :: av) hp (some x) hp') (hw : xm_B own idx M av.length) (hin : Cond.instanceMethod M.1 ∈ xw_tb) (hse : Cond.selects M.1.cls M.1 M.1 ∈ xw_tb)
    (hdg : decode cc pc = .ok (.invokevirtual idx, 3)) (hs : st = av.reverse ++ .ref i :: rest) (ho : hp[i]? = some (.inr (ci, fs))) (hci : xw_cl[ci]? = some q) (hq : q.1 = M.1.cls) (hwt : (rest.map fun v => v.category).sum ≤ 8) (hR : M.2.2.2.2.1 + 1 ≤ R.frames ∧ 8 + (M.2.2.1 + 11) + M.2.2.2.2.2 ≤ R.locals) (hcl : cells ≤ R.cells ∧ slots ≤ R.slots)
    (k : xw_At g (ro && ro1) nL p l e R s m args below meth c cells slots Q (pc + 3) lv (x :: rest) hp') : xw_At g ro nL p l e R s m args below meth c cells slots Q pc lv st hp := xa_callV C hM hw hin hse hdg hs ho hci hq hwt hR hcl k
theorem xa_callVv (C : xw_C g cc nL own p s m args c) {ro1 : Bool} {M : xw_M} {idx i ci : Nat} {q : vw_C} {fs : List Value} {av rest : List Value} {hp' : List va_E} (hM : xm_R g l ro1 M (.ref i :: av) hp none hp') (hw : xm_B own idx M av.length) (hin : Cond.instanceMethod M.1 ∈ xw_tb) (hse : Cond.selects M.1.cls M.1 M.1 ∈ xw_tb)
    (hdg : decode cc pc = .ok (.invokevirtual idx, 3)) (hs : st = av.reverse ++ .ref i :: rest) (ho : hp[i]? = some (.inr (ci, fs))) (hci : xw_cl[ci]? = some q) (hq : q.1 = M.1.cls) (hwt : (rest.map fun v => v.category).sum ≤ 8) (hR : M.2.2.2.2.1 + 1 ≤ R.frames ∧ 8 + (M.2.2.1 + 11) + M.2.2.2.2.2 ≤ R.locals) (hcl : cells ≤ R.cells ∧ slots ≤ R.slots)
    (k : xw_At g (ro && ro1) nL p l e R s m args below meth c cells slots Q (pc + 3) lv rest hp') : xw_At g ro nL p l e R s m args below meth c cells slots Q pc lv st hp := xa_callV C hM hw hin hse hdg hs ho hci hq hwt hR hcl k
end XC
end
section
/-! Throws: a contract that ends in 'threw', the throw itself, a callee that throws. -/
def xt_Q (g : xw_G) (X : String) (hp : List va_E) : Array Value → State → Outcome → State → Prop := fun _ st oc t => ∃ (x : Nat) (Lo : List Loc), oc = .threw x ∧ st.WarmedH t.vm ∧ st.sameButNew ({ t with vm := st.vm } : State) Lo 1 6 ∧ (∀ q ∈ Lo, xg_A g q.base) ∧
  (∃ ce : Cell, t.heap[x]? = some ce ∧ ce.vm = .none ∧ st.vm.findClass X = some ce.cls) ∧ xw_Wd g hp t ∧ va_F (xg_A g) st t
def xt_E (g : xw_G) (X : String) (hp : List va_E) (below : List Frame) (args : Array Value) (s : State) : State → Prop := fun t => ∃ o, t.status = .running ∧ Ended t below o ∧ xt_Q g X hp args s o t
/-- it throws a new X, and leaves the heap hp as it was -/
def xt_R (g : xw_G) (l : Launch) (M : xw_M) (av : List Value) (hp : List va_E) (X : String) : Prop :=
  MetFree l M.1 (headSpec (xm_ws M) (xm_rm M 1)) (va_Pc (av.map (xw_v (xg_a g))) (xw_Wd g hp)) (fun _ _ _ _ _ => True) (xt_Q g X hp)
theorem xt_of {g : xw_G} {l : Launch} {M : xw_M} {av : List Value} {hp : List va_E} {X : String} (lv : List (Option Value)) (hy : plainName M.1.cls = true)
    (hlen : (lg_sl (av.map (xw_v (xg_a g)))).length ≤ M.2.2.1) (hlv : lv = xl_in av ++ List.replicate (M.2.2.1 - (xl_in av).length) none)
    (body : ∀ (p : Program) (e : Env) (s : State) (m : MethodId) (args : Array Value) (below : List Frame) (meth : Method) (c : Code), xw_C g M.2.1 M.2.2.1 M.1.cls p s m args c → c.exceptionTable.isEmpty = true → meth.locks = false →
      xw_At g true M.2.2.1 p l e (xm_rm M 1) s m args below meth c 0 0 (xt_E g X hp below args s) 0 lv [] hp) : xt_R g l M av hp X := by
  refine MetFree.of_bodyS (code := M.2.1) (maxLocals := M.2.2.1) (ret := M.2.2.2.1) hy ?_ ?_
  · intro args s m h hn
    obtain ⟨meth, c, h1, h2, h3, h4, h5, h6, -, -⟩ := Cond.code_spec hn (atoms_spec (ws := xm_ws M) h _ List.mem_cons_self)
    exact ⟨meth, c, h1, h2, h3, h4, h5, h6⟩
  · intro p e s m args below meth c s₁ B hml hP _
    have hh0 : s₁.heap = s.heap := by rw [B.state]; rfl
    obtain ⟨rfl, hw⟩ := hP
    have X0 := Stand.of_body B
    have hts := atoms_spec (ws := xm_ws M) B.pre
    have hE : c.exceptionTable.isEmpty = true := by
      obtain ⟨meth', c', h1, h2, h3, h4, h5, h6, h7, -⟩ := Cond.code_spec B.named (hts _ List.mem_cons_self)
      cases B.method.symm.trans h1
      cases X0.code.symm.trans h2
      exact h7
    obtain ⟨t, a1, o, b1, b2, b3⟩ := body p e s m _ below meth c ⟨B.exec, B.bytes, hml, findClass_of_methodNamed B.named, fun w h => hts w (List.mem_cons_of_mem _ h), hp, hw⟩ hE B.notSynchronized _ s.heap [] (xl_pad hlen hlv) hw.2.1 hw.1 ⟨va_S.rf, fun _ => ⟨rfl, rfl⟩⟩ s₁ hh0 X0
    exact ⟨t, o, by rw [lg_entry_eq]; exact a1, b1, b2, b3⟩
theorem xt_heap {s U : State} {k n : Nat} (h : s.sameButNew ({ U with vm := s.vm } : State) [] k n) : s.heap.size ≤ U.heap.size ∧ ∀ a : Nat, a < s.heap.size → U.heap[a]? = s.heap[a]? := by
  obtain ⟨-, h2, -, -, -, h6⟩ := h
  refine ⟨h2, fun a ha => ?_⟩
  have hc : s.heap[a]? = some s.heap[a] := Array.getElem?_eq_getElem ha
  obtain ⟨c', h7, h8, h9, h10⟩ := h6 a _ hc
  have e : c'.slots = s.heap[a].slots := Array.ext_getElem? (fun i => h10 i (by simp))
  have e2 : c' = s.heap[a] := by rw [h8, e]
  rw [hc, ← e2]
  exact h7
/-- the words of a throw: the class's link, the text, what the making of the exception reads -/
def xt_w (w : Cond) : Bool := decide (w ∈ xw_tb) || (xw_fw w && decide (w ∈ lw_tbl)) || decide (w = .laysStatic "java/lang/Throwable" "UNASSIGNED_STACK" "[Ljava/lang/StackTraceElement;") || decide (w = .laysStatic "java/lang/Throwable" "SUPPRESSED_SENTINEL" "Ljava/util/List;") ||
  decide (w = .isRef (.static "java/lang/Throwable" "UNASSIGNED_STACK" "[Ljava/lang/StackTraceElement;")) || decide (w = .isRef (.static "java/lang/Throwable" "SUPPRESSED_SENTINEL" "Ljava/util/List;"))
def xt_ok (own : String) (idx ix ic : Nat) (X tx : String) (names : List String) : Prop := Cond.classLink own idx X ∈ xw_tb ∧ Cond.instantiable X 6 ∈ xw_tb ∧ Cond.initialized X ∈ xw_tb ∧ Cond.stringRef own ix tx ∈ lw_tbl ∧ (∀ w ∈ Bundle.ownAtoms own ic X names, xt_w w = true) ∧ Bundle.fit X = true ∧ ∀ n ∈ names, Bundle.fit n = true
section XT
variable {g : xw_G} {ro : Bool} {cc : ByteArray} {nL : Nat} {own : String} {p : Program} {l : Launch} {e : Env} {R : Room} {s : State} {m : MethodId} {args : Array Value} {below : List Frame} {meth : Method} {c : Code} {cells slots : Nat} {Q : State → Prop}
variable {pc : Nat} {lv : List (Option Value)} {st : List Value} {hp : List va_E}
theorem xt_word (C : xw_C g cc nL own p s m args c) {w : Cond} (h : xt_w w = true) : w.before args s = true := by
  obtain ⟨-, -, -, -, hts, hp0, hW⟩ := C
  obtain ⟨⟨hT1, -⟩, hZ1, hZ2⟩ := hW.2.2.2.2.2.2.2
  simp only [xt_w, Bool.or_eq_true, Bool.and_eq_true, decide_eq_true_eq] at h
  rcases h with ((((h | h) | h) | h) | h) | h
  · exact hts w h
  · exact xw_fw_go h.1 (State.WarmedH.refl s) (hT1 w h.2 h.1)
  · rw [h]; exact hZ1.lays
  · rw [h]; exact hZ2.lays
  · rw [h]; exact hZ1.ref
  · rw [h]; exact hZ2.ref
/-- new X, dup, ldc text, invokespecial, athrow -/
theorem xa_throw (C : xw_C g cc nL own p s m args c) (htr : ∀ e : Env, l.admits e → e.platform.stackTraces = false) (hE : c.exceptionTable.isEmpty = true) (hk : meth.locks = false) {idx ix ic : Nat} {X tx : String} {names : List String} (hw : xt_ok own idx ix ic X tx names)
    (d0 : decode cc pc = .ok (.new idx, 3)) (d1 : decode cc (pc + 3) = .ok (.dup, 1)) (d2 : decode cc (pc + 3 + 1) = .ok (.ldc ix, 2)) (d3 : decode cc (pc + 3 + 1 + 2) = .ok (.invokespecial ic, 3)) (d4 : decode cc (pc + 3 + 1 + 2 + 3) = .ok (.athrow, 1))
    (hcl : 1 ≤ R.cells ∧ 6 ≤ R.slots) (hR : names.length + 3 < R.frames ∧ 1 + (13 * (names.length + 1) + 42) ≤ R.locals) :
    xw_At g true nL p l e R s m args below meth c 0 0 (xt_E g X hp below args s) pc lv [] hp := by
  intro ls H locs hl hP hn hS
  obtain ⟨rfl, rfl⟩ := hS.2 rfl
  have hC := C
  obtain ⟨hx, hb, hml, hown, hts, hp0, hW⟩ := C
  obtain ⟨w1, w2, w3, w4, w5, w6, w7⟩ := hw
  have hst := hW.2.2.2.2.2.2.2.1.2 _ _ _ w4
  obtain ⟨q, hq⟩ := xw_str hst
  refine W.newc hx hb hown (hts _ w1) (hts _ w2) (hts _ w3) rfl d0 hcl.1 hcl.2 (fun cC kC h1 h2 h3 h4 => ?_)
  show W p l e R s m args below meth c _ [] 1 6 _ (F0 m (pc + 3) ls [.ref s.heap.size])
  refine lv_dup hx hb d1 rfl ?_
  refine va_ldcS hx hb hown (vk_R.of hst hq) d2 ?_
  intro T hT X0
  have hcell : T.heap[s.heap.size]? = some (freshCell cC kC) := by rw [hT]; simp
  obtain ⟨U, hsteps, hrun, hend, hwarm, hsame, ce, hce, hown2⟩ := X0.ctorThrowS hx (htr e X0.admits) (own := own) (cls := X) (names := names) (ic := ic) hown w6 w7 (fun a ha => xt_word hC (w5 a ha)) (fun x hx => by cases hx) h1 h2 hcell (Nat.le_refl _) (msg := .ref q) rfl
    (g := F0 m (pc + 3 + 1 + 2) ls [.ref q, .ref s.heap.size, .ref s.heap.size]) rfl (hl.1.trans hml.symm) rfl rfl (rest := []) rfl (by rw [hb]; exact d3) (by rw [hb]; exact d4) (fun x hx => by
      have : c.exceptionTable.toList = [] := by simpa using hE
      rw [this] at hx; cases hx) hR.1 (by simpa [JFrame.monitorRoom, Value.category] using hR.2) hk
  obtain ⟨hz, hq2⟩ := xt_heap hsame
  have hS2 : va_S (xg_A g) s.heap U.heap [] := ⟨hz, fun a ha _ => hq2 a ha, fun _ h => by cases h⟩
  refine ⟨U, hsteps, .threw s.heap.size, hrun, hend, s.heap.size, [], rfl, hwarm, hsame, (fun _ h => by cases h), ⟨ce, hce, hown2.vm, hown2.cls⟩, hW.goes hS2 ?_ hn rfl hwarm, hS2.F rfl⟩
  exact hP.kept (fun k q2 hk2 => hq2 _ (hP k q2 hk2).lt)
/-- a call whose callee throws: up to the note over the caller's frame -/
theorem xt_call (C : xw_C g cc nL own p s m args c) {M : xw_M} {idx i ci : Nat} {q : vw_C} {fs : List Value} {av rest : List Value} {X : String} (hM : xt_R g l M (.ref i :: av) hp X) (hw : xm_B own idx M av.length) (hin : Cond.instanceMethod M.1 ∈ xw_tb) (hse : Cond.selects M.1.cls M.1 M.1 ∈ xw_tb)
    (hdg : decode cc pc = .ok (.invokevirtual idx, 3)) (hs : st = av.reverse ++ .ref i :: rest) (ho : hp[i]? = some (.inr (ci, fs))) (hci : xw_cl[ci]? = some q) (hq : q.1 = M.1.cls) (hwt : (rest.map fun v => v.category).sum ≤ 8) (hR : M.2.2.2.2.1 + 1 ≤ R.frames ∧ 8 + (M.2.2.1 + 11) + M.2.2.2.2.2 ≤ R.locals) (hcl : cells + 1 ≤ R.cells ∧ slots + 6 ≤ R.slots)
    {ls : Array Slot} {H : Heap} {locs : List Loc} (hl : xl_ok (xg_a g) ls nL lv) (hP : va_P (xg_D g) xw_cl (xw_ws (xg_a g) hp) H) (hn : hp.length = xg_n g) (hS : va_S (xg_A g) s.heap H locs) {T : State} (hT : T.heap = H) (X0 : Stand p l e R s m args below meth c T locs cells slots) :
    ∃ (x : Nat) (T' : State) (L : List Loc), Stand p l e R s m args below meth c T' (locs ++ L) (cells + 1) (slots + 6) ∧ (∀ q ∈ L, xg_A g q.base) ∧ (∃ ce : Cell, T'.heap[x]? = some ce ∧ ce.vm = .none ∧ s.vm.findClass X = some ce.cls) ∧ xw_Wd g hp T' ∧ va_S (xg_A g) s.heap T'.heap (locs ++ L) ∧
      Steps p.tables e below (T.setTop (F0 m pc ls (st.map (xw_v (xg_a g))))) ((T'.setTop (F0 m pc ls (rest.map (xw_v (xg_a g))))).pushFrame (.throwing x)) := by
  subst hs
  obtain ⟨hx, hb, hml, hown, hts, hp0, hW⟩ := C
  obtain ⟨w1, w2, w3, hy1, hy2, hlen⟩ := hw
  have hrec := va_recv hW.2.2.1 hP hci (xw_get ho)
  rw [hq] at hrec
  obtain ⟨cellB, hcB, hoB, hclB⟩ := hrec
  obtain ⟨mk, methM, hnamed, hmethM, hstM, habM⟩ := Cond.instanceMethod_spec (hts _ hin)
  obtain ⟨methM', cM, hmethM', -, -, -, -, -, -, hsigM⟩ := Cond.code_spec hnamed (hts _ w1)
  cases hmethM.symm.trans hmethM'
  obtain ⟨c2, r2, m2, q1, q2, q3, q4, kP, hkP, hkPi⟩ := Cond.selects_spec (hts _ hse)
  cases hclB.symm.trans q1
  cases (State.methodFound?_of_named hnamed ⟨hy1, hy2⟩).symm.trans q2
  cases hnamed.symm.trans q3
  have hselP : selectMethod e.platform s.vm cellB.cls mk = .method mk := by rw [Launch.admits_selectMethod X0.admits]; exact q4
  have hpar : (av.map (xw_v (xg_a g))).length = methM.sig.parameters.length := by
    rw [hsigM] at hlen
    rw [List.length_map]
    exact (Option.some.inj hlen).symm
  obtain ⟨vm₁, X₁, hstep₁⟩ := X0.invokevirtual hx hown (hts _ w3) hnamed hmethM hstM hkP hkPi ⟨hy1, hy2⟩ (a := xg_a g i) (cell := cellB) (by rw [hT]; exact hcB)
    (fun z h => by rw [h] at hoB; cases hoB) hselP hmethM habM hkP hkPi (g := F0 m pc ls ((av.reverse ++ .ref i :: rest).map (xw_v (xg_a g)))) rfl (argsL := av.map (xw_v (xg_a g))) (rest := rest.map (xw_v (xg_a g))) hpar (by simp [xw_v]) (by rw [hb]; exact hdg)
  generalize hU : T.setVm vm₁ = U at X₁ hstep₁
  have hUh : U.heap = H := by rw [← hU]; exact hT
  have hn₁ := X₁.named hnamed
  have hcode₁ : (Cond.code M.1 M.2.1 M.2.2.1 M.2.2.2.1).before #[] U = true := word_at X₁.warmed (good_of_word (xw_tb_good _ w1)) (hts _ w1)
  have hini₁ : (Cond.initialized M.1.cls).before #[] U = true := word_at X₁.warmed (good_of_word (xw_tb_good _ w2)) (hts _ w2)
  obtain ⟨methY, cY, hmY, hcY, -, hlY, -, -, -, -⟩ := Cond.code_spec hn₁ hcode₁
  obtain ⟨kY, hkY, -⟩ := className_of_methodNamed hn₁
  have hinitY : kY.init = .initialized := Cond.initialized_spec (findClass_of_methodNamed hn₁) hkY hini₁
  have hWU : xw_Wd g hp U := hW.goes hS hP hn hUh X₁.warmed
  have hdg' : decode c.code (F0 m pc ls (rest.map (xw_v (xg_a g)))).pc = .ok (.invokevirtual idx, 3) := by rw [hb]; exact hdg
  have happ : (headSpec (xm_ws M) (xm_rm M 1)).appliesLoose M.1 e.platform (U.calling (F0 m pc ls (rest.map (xw_v (xg_a g)))) mk (.ref (xg_a g i) :: av.map (xw_v (xg_a g))).toArray) = true := by
    refine Spec.appliesLoose_calling (g := F0 m pc ls (rest.map (xw_v (xg_a g)))) X₁.here hdg' hn₁ hkY hinitY
      (X₁.room_calling (g := F0 m pc ls (rest.map (xw_v (xg_a g)))) (R' := xm_rm M 1) (hl.1.trans hml.symm) hmY hcY hR.1 ?_ hcl.1 hcl.2) ?_
    · rw [hlY]
      have h8 := lv_room (m := m) (pc := pc) (ls := ls) (rest := rest.map (xw_v (xg_a g))) (st := rest.map (xw_v (xg_a g))) (by rw [xm_cats]; exact hwt)
      have h9 := hR.2
      show 2 * (F0 m pc ls (rest.map (xw_v (xg_a g)))).monitorRoom + ((rest.map (xw_v (xg_a g))).map fun v => v.category).sum + (M.2.2.1 + 11) + M.2.2.2.2.2 ≤ R.locals
      omega
    · exact atoms_intro fun w hw => by
        rcases List.mem_cons.mp hw with rfl | hw
        · exact word_at X₁.warmed (good_of_word (xw_tb_good _ w1)) (hts _ w1)
        · exact word_at X₁.warmed (good_of_word (xw_tb_good _ hw)) (hts _ hw)
  obtain ⟨mid, hmid⟩ := X₁.here.above
  have hfr : (U.setTop (F0 m pc ls (rest.map (xw_v (xg_a g))))).frames = (.java (F0 m pc ls (rest.map (xw_v (xg_a g)))) :: mid) ++ below := by rw [State.frames_setTop' _ X₁.here.top, hmid]; rfl
  obtain ⟨o, s₂, hsteps, -, hend, hq⟩ := Steps.callFree hM p X₁.admits X₁.cas X₁.clock (acts := []) hfr happ ⟨rfl, hWU.same rfl (State.WarmedH.refl U)⟩ trivial
  obtain ⟨x, Lo, rfl, hW2, hsame, hLo, hce, hWd, hF⟩ := hq
  rw [State.frames_setTop' _ X₁.here.top, X₁.tail] at hend
  obtain ⟨T', X', hTW, hTs, ht⟩ := X₁.outOfThrown (g := F0 m pc ls (rest.map (xw_v (xg_a g)))) rfl (mk := mk) (a := (Value.ref (xg_a g i) :: av.map (xw_v (xg_a g))).toArray) (t := s₂) (x := x) (L := Lo) (k := 1) (n := 6) hend hW2 hsame
  have e1 : s₂.heap = T'.heap := by rw [ht]; exact Stand.throwing_heap _ _ _
  have e2 : s₂.vm = T'.vm := by rw [ht]; exact Stand.throwing_vm _ _ _
  refine ⟨x, T', Lo, X', hLo, ?_, hWd.same e1.symm (by rw [← e2]; exact State.WarmedH.refl s₂), ?_, ?_⟩
  · obtain ⟨ce, r1, r2, r3⟩ := hce
    refine ⟨ce, by rw [← e1]; exact r1, r2, ?_⟩
    have r4 : U.vm.findClass X = some ce.cls := r3
    rwa [X₁.warmed.alike.findClass] at r4
  · rw [← e1]
    have hF1 : H.size ≤ s₂.heap.size := by have := hF.1; rw [← hUh]; exact this
    refine ⟨Nat.le_trans hS.1 hF1, fun a h1 h2 => ?_, fun a ha => ?_⟩
    · have := hF.2 a (by show a < U.heap.size; rw [hUh]; exact Nat.lt_of_lt_of_le h1 hS.1) h2
      rw [this]
      show U.heap[a]? = _
      rw [hUh]
      exact hS.2.1 a h1 h2
    · rcases List.mem_append.mp ha with h | h
      · exact hS.2.2 a h
      · exact hLo a h
  · rw [← ht]
    exact hstep₁ _ fun acts => by rw [doInvoke_state]; exact hsteps
/-- it goes out of this method -/
theorem xa_throwV (C : xw_C g cc nL own p s m args c) (hE : c.exceptionTable.isEmpty = true) (hk : meth.locks = false) {M : xw_M} {idx i ci : Nat} {q : vw_C} {fs : List Value} {av rest : List Value} {X : String} (hM : xt_R g l M (.ref i :: av) hp X) (hw : xm_B own idx M av.length) (hin : Cond.instanceMethod M.1 ∈ xw_tb) (hse : Cond.selects M.1.cls M.1 M.1 ∈ xw_tb)
    (hdg : decode cc pc = .ok (.invokevirtual idx, 3)) (hs : st = av.reverse ++ .ref i :: rest) (ho : hp[i]? = some (.inr (ci, fs))) (hci : xw_cl[ci]? = some q) (hq : q.1 = M.1.cls) (hwt : (rest.map fun v => v.category).sum ≤ 8) (hR : M.2.2.2.2.1 + 1 ≤ R.frames ∧ 8 + (M.2.2.1 + 11) + M.2.2.2.2.2 ≤ R.locals) (hcl : 1 ≤ R.cells ∧ 6 ≤ R.slots) :
    xw_At g ro nL p l e R s m args below meth c 0 0 (xt_E g X hp below args s) pc lv st hp := by
  intro ls H locs hl hP hn hS T hT X0
  obtain ⟨x, T', L, X', hL, ⟨ce, r1, r2, r3⟩, hWd, hS', hst⟩ := xt_call C hM hw hin hse hdg hs ho hci hq hwt hR ⟨by simpa using hcl.1, by simpa using hcl.2⟩ hl hP hn hS.1 hT X0
  obtain ⟨b1, b2, b3, b4, b5⟩ := X'.leaveThrown x (g := F0 m pc ls (rest.map (xw_v (xg_a g)))) rfl rfl rfl (fun y hy => by
      have : c.exceptionTable.toList = [] := by simpa using hE
      rw [this] at hy; cases hy) hk
  refine ⟨_, hst.trans b1, .threw x, b2, b3, x, locs ++ L, rfl, b4, ?_, hS'.2.2, ⟨ce, r1, r2, r3⟩, hWd.same rfl (State.WarmedH.refl T'), hS'.F rfl⟩
  simpa using b5
end XT
end
section
/-! Catch: the search resolves the catch type (cold or warm), the handler stores the exception and answers a number. -/
section XK
variable {e : Env} {s : State} {f : JFrame} {a : Addr} {vm' : Vm}
theorem xc_cold {Q : Handler → Pre} {E : CtlPost} {d : Bool} {acts : List Action} {x : ExceptionTableEntry} {t : List ExceptionTableEntry} {cE : ClassId} (hx : covers x f.pc = true) (h0 : x.catchType ≠ 0)
    (hg : (Jvm.resolveClass f.method.cls x.catchType).Gives e.toSetting s.vm (.ok cE) vm') (hr : vm'.classReady f.method.cls x.catchType cE) (hsz : vm'.classes.size ≤ s.vm.classes.size) :
    wp (findHandler.go f a (x :: t)) Q E e d acts s ↔ wp (findHandler.go f a (x :: t)) Q E e d acts (s.setVm vm') := by
  obtain ⟨ha, ht⟩ := hg.op (op := VmOp.resolveClass f.method.cls x.catchType) rfl
  simp only [covers] at hx
  obtain ⟨k, hkd, hres⟩ := hr
  simp [findHandler.go, hx, h0, ha, ht, hsz, resolveClass_memo e hkd hres]
  exact Iff.rfl
theorem xc_step {r : List Frame} {pc : Nat} (hfind : ∀ (Q : Handler → Pre) (E : CtlPost) (d : Bool) (acts : List Action), wp (findHandler f a) Q E e d acts s ↔ Q (.found pc) d acts (s.setVm vm')) :
    (stepThrowing e s a (.java f :: r)).Is ((s.setVm vm').setFrames (.java { f with pc := pc, stack := [.ref a] } :: r)) [] := by
  simp only [stepThrowing, searchFrame, vmDo]
  generalize hr : Sem.go _ e false [] s = res
  obtain ⟨as, rfl, ha⟩ := Sem.eq_ok_of hr (a := Handler.found pc) (s' := s.setVm vm') (acts' := []) (by simp [hfind _ _ _ _])
  exact ⟨rfl, ha⟩
theorem xc_caught {tb : Tables} {g : JFrame} {c : Code} {below : List Frame} {target : State} (h : At s g.method c below) {pc : Nat}
    (hfind : ∀ (Q : Handler → Pre) (E : CtlPost) (d : Bool) (acts : List Action), wp (findHandler g a) Q E e d acts ((s.setTop g).pushFrame (.throwing a)) ↔ Q (.found pc) d acts (((s.setTop g).pushFrame (.throwing a)).setVm vm'))
    (hrest : Steps tb e below ((s.setVm vm').setTop { g with pc := pc, stack := [.ref a] }) target) :
    Steps tb e below ((s.setTop g).pushFrame (.throwing a)) target := by
  obtain ⟨hgo, hw⟩ := h.throwing a
  refine Steps.head hgo hw ?_
  rw [stepThread_throwing (frames_entered h.top _), (xc_step (s := (s.setTop g).pushFrame (.throwing a)) hfind).1]
  obtain ⟨g₀, hg⟩ := Option.isSome_iff_exists.mp h.top
  obtain ⟨r, hr⟩ := State.topJava?_eq_some.mp hg
  have hr' : (s.setVm vm').frames = .java g₀ :: r := hr
  rw [State.setTop_of_frames _ hr'] at hrest
  have e9 : ∀ F, (s.setFrames F).setVm vm' = (s.setVm vm').setFrames F := fun _ => rfl
  rw [State.pushFrame, State.setTop_of_frames _ hr, State.setFrames_setFrames, hr, e9, State.setFrames_setFrames]
  exact hrest
end XK
end
section
/-! words by name: fields, methods, call sites (printed by mk25.py) -/
theorem u_S : ∀ w ∈ u_ws "ThresholdSeal" TS_ 5, w ∈ xw_tb := by decide +kernel
theorem u_D : ∀ w ∈ u_ws "ThresholdSeal$Dealing" TD_ 6, w ∈ xw_tb := by decide +kernel
theorem u_P : ∀ w ∈ u_ws "ThresholdSeal$Pairs" TP_ 5, w ∈ xw_tb := by decide +kernel
theorem u_X : ∀ w ∈ u_ws "ThresholdSeal$Session" TX_ 14, w ∈ xw_tb := by decide +kernel
theorem u_M : ∀ w ∈ u_ws "ThresholdSealModel" TM_ 25, w ∈ xw_tb := by decide +kernel
abbrev m_D_keyOfAll : xw_M := (yD_keyOfAll, cD_keyOfAll, 1, (Option.some ClassFile.FieldType.long), 0, 0)
abbrev m_D_make : xw_M := (yD_make, cD_make, 4, (Option.none : Option ClassFile.FieldType), 3, 70)
abbrev m_D_valueAt : xw_M := (yD_valueAt, cD_valueAt, 5, (Option.some ClassFile.FieldType.long), 1, 23)
abbrev m_E_isElement : xw_M := (yE_isElement, cE_isElement, 2, (Option.some ClassFile.FieldType.boolean), 0, 0)
abbrev m_E_ofNumber : xw_M := (yE_ofNumber, cE_ofNumber, 2, (Option.some ClassFile.FieldType.long), 2, 49)
abbrev m_E_power : xw_M := (yE_power, cE_power, 7, (Option.some ClassFile.FieldType.long), 1, 23)
abbrev m_E_times : xw_M := (yE_times, cE_times, 4, (Option.some ClassFile.FieldType.long), 0, 0)
abbrev m_G_finish : xw_M := (yG_finish, cG_finish, 2, (Option.some ClassFile.FieldType.long), 0, 0)
abbrev m_G_mix : xw_M := (yG_mix, cG_mix, 6, (Option.some ClassFile.FieldType.long), 0, 0)
abbrev m_G_ofSeal : xw_M := (yG_ofSeal, cG_ofSeal, 6, (Option.some ClassFile.FieldType.long), 1, 25)
abbrev m_G_ofThree : xw_M := (yG_ofThree, cG_ofThree, 6, (Option.some ClassFile.FieldType.long), 1, 25)
abbrev m_I_has : xw_M := (yI_has, cI_has, 2, (Option.some ClassFile.FieldType.boolean), 1, 20)
abbrev m_I_only : xw_M := (yI_only, cI_only, 1, (Option.some ClassFile.FieldType.int), 0, 0)
abbrev m_I_weightIn : xw_M := (yI_weightIn, cI_weightIn, 8, (Option.some ClassFile.FieldType.long), 2, 47)
abbrev m_JI_bitCount : xw_M := (yJI_bitCount, cJI_bitCount, 1, (Option.some ClassFile.FieldType.int), 0, 0)
abbrev m_JM_max : xw_M := (yJM_max, cJM_max, 2, (Option.some ClassFile.FieldType.int), 0, 0)
abbrev m_JM_min : xw_M := (yJM_min, cJM_min, 2, (Option.some ClassFile.FieldType.int), 0, 0)
abbrev m_L_cell : xw_M := (yL_cell, cL_cell, 2, (Option.some ClassFile.FieldType.int), 0, 0)
abbrev m_M_allOpen : xw_M := (yM_allOpen, cM_allOpen, 4, (Option.some ClassFile.FieldType.boolean), 1, 21)
abbrev m_M_begin : xw_M := (yM_begin, cM_begin, 5, (Option.some ClassFile.FieldType.long), 3, 71)
abbrev m_M_begins : xw_M := (yM_begins, cM_begins, 3, (Option.none : Option ClassFile.FieldType), 1, 24)
abbrev m_M_blamed : xw_M := (yM_blamed, cM_blamed, 1, (Option.some ClassFile.FieldType.int), 0, 0)
abbrev m_M_challenge : xw_M := (yM_challenge, cM_challenge, 1, (Option.some ClassFile.FieldType.long), 0, 0)
abbrev m_M_challengeOf : xw_M := (yM_challengeOf, cM_challengeOf, 5, (Option.some ClassFile.FieldType.long), 2, 46)
abbrev m_M_check : xw_M := (yM_check, cM_check, 7, (Option.some ClassFile.FieldType.boolean), 4, 98)
abbrev m_M_commit : xw_M := (yM_commit, cM_commit, 4, (Option.some ClassFile.FieldType.long), 3, 71)
abbrev m_M_commitment : xw_M := (yM_commitment, cM_commitment, 3, (Option.some ClassFile.FieldType.long), 1, 21)
abbrev m_M_deal : xw_M := (yM_deal, cM_deal, 9, (Option.some ClassFile.FieldType.long), 2, 46)
abbrev m_M_digest : xw_M := (yM_digest, cM_digest, 1, (Option.some ClassFile.FieldType.long), 0, 0)
abbrev m_M_factor : xw_M := (yM_factor, cM_factor, 2, (Option.some ClassFile.FieldType.long), 2, 42)
abbrev m_M_factorOf : xw_M := (yM_factorOf, cM_factorOf, 6, (Option.some ClassFile.FieldType.long), 2, 46)
abbrev m_M_holds : xw_M := (yM_holds, cM_holds, 5, (Option.some ClassFile.FieldType.boolean), 4, 98)
abbrev m_M_in : xw_M := (yM_in, cM_in, 2, (Option.some ClassFile.FieldType.boolean), 0, 0)
abbrev m_M_isMember : xw_M := (yM_isMember, cM_isMember, 2, (Option.some ClassFile.FieldType.boolean), 1, 21)
abbrev m_M_isNumber : xw_M := (yM_isNumber, cM_isNumber, 2, (Option.some ClassFile.FieldType.boolean), 0, 0)
abbrev m_M_isSealOf : xw_M := (yM_isSealOf, cM_isSealOf, 9, (Option.some ClassFile.FieldType.boolean), 3, 70)
abbrev m_M_isSet : xw_M := (yM_isSet, cM_isSet, 4, (Option.some ClassFile.FieldType.boolean), 1, 21)
abbrev m_M_isSigner : xw_M := (yM_isSigner, cM_isSigner, 2, (Option.some ClassFile.FieldType.boolean), 0, 0)
abbrev m_M_isWhole : xw_M := (yM_isWhole, cM_isWhole, 1, (Option.some ClassFile.FieldType.boolean), 0, 0)
abbrev m_M_key : xw_M := (yM_key, cM_key, 2, (Option.some ClassFile.FieldType.long), 1, 21)
abbrev m_M_members : xw_M := (yM_members, cM_members, 1, (Option.some ClassFile.FieldType.int), 0, 0)
abbrev m_M_mix : xw_M := (yM_mix, cM_mix, 5, (Option.none : Option ClassFile.FieldType), 0, 0)
abbrev m_M_pairNumber : xw_M := (yM_pairNumber, cM_pairNumber, 6, (Option.some ClassFile.FieldType.long), 2, 46)
abbrev m_M_power : xw_M := (yM_power, cM_power, 11, (Option.some ClassFile.FieldType.long), 0, 0)
abbrev m_M_recover : xw_M := (yM_recover, cM_recover, 7, (Option.some ClassFile.FieldType.long), 2, 57)
abbrev m_M_relay : xw_M := (yM_relay, cM_relay, 4, (Option.some ClassFile.FieldType.boolean), 2, 58)
abbrev m_M_seal : xw_M := (yM_seal, cM_seal, 1, (Option.some ClassFile.FieldType.long), 2, 44)
abbrev m_M_secret : xw_M := (yM_secret, cM_secret, 2, (Option.some ClassFile.FieldType.long), 1, 21)
abbrev m_M_sign : xw_M := (yM_sign, cM_sign, 6, (Option.some ClassFile.FieldType.long), 2, 42)
abbrev m_M_submit : xw_M := (yM_submit, cM_submit, 4, (Option.some ClassFile.FieldType.boolean), 2, 58)
abbrev m_M_sum : xw_M := (yM_sum, cM_sum, 4, (Option.some ClassFile.FieldType.long), 1, 21)
abbrev m_M_taken : xw_M := (yM_taken, cM_taken, 1, (Option.some ClassFile.FieldType.int), 0, 0)
abbrev m_M_tell : xw_M := (yM_tell, cM_tell, 9, (Option.some ClassFile.FieldType.boolean), 1, 30)
abbrev m_M_thrown : xw_M := (yM_thrown, cM_thrown, 1, (Option.some ClassFile.FieldType.int), 0, 0)
abbrev m_M_weight : xw_M := (yM_weight, cM_weight, 2, (Option.some ClassFile.FieldType.long), 2, 42)
abbrev m_M_weightIn : xw_M := (yM_weightIn, cM_weightIn, 8, (Option.some ClassFile.FieldType.long), 1, 30)
abbrev m_N_inverse : xw_M := (yN_inverse, cN_inverse, 5, (Option.some ClassFile.FieldType.long), 1, 23)
abbrev m_N_isNumber : xw_M := (yN_isNumber, cN_isNumber, 2, (Option.some ClassFile.FieldType.boolean), 0, 0)
abbrev m_N_minus : xw_M := (yN_minus, cN_minus, 4, (Option.some ClassFile.FieldType.long), 0, 0)
abbrev m_N_plus : xw_M := (yN_plus, cN_plus, 4, (Option.some ClassFile.FieldType.long), 0, 0)
abbrev m_N_times : xw_M := (yN_times, cN_times, 4, (Option.some ClassFile.FieldType.long), 0, 0)
abbrev m_P_areOpen : xw_M := (yP_areOpen, cP_areOpen, 2, (Option.some ClassFile.FieldType.boolean), 0, 0)
abbrev m_P_drop : xw_M := (yP_drop, cP_drop, 2, (Option.none : Option ClassFile.FieldType), 1, 20)
abbrev m_P_dropAll : xw_M := (yP_dropAll, cP_dropAll, 1, (Option.none : Option ClassFile.FieldType), 0, 0)
abbrev m_P_open : xw_M := (yP_open, cP_open, 4, (Option.none : Option ClassFile.FieldType), 3, 70)
abbrev m_S_begin : xw_M := (yS_begin, cS_begin, 4, (Option.some ClassFile.FieldType.long), 7, 111)
abbrev m_S_blamed : xw_M := (yS_blamed, cS_blamed, 1, (Option.some ClassFile.FieldType.int), 0, 0)
abbrev m_S_challenge : xw_M := (yS_challenge, cS_challenge, 1, (Option.some ClassFile.FieldType.long), 1, 20)
abbrev m_S_check : xw_M := (yS_check, cS_check, 7, (Option.some ClassFile.FieldType.boolean), 4, 100)
abbrev m_S_commit : xw_M := (yS_commit, cS_commit, 4, (Option.some ClassFile.FieldType.long), 7, 111)
abbrev m_S_commitment : xw_M := (yS_commitment, cS_commitment, 3, (Option.some ClassFile.FieldType.long), 2, 41)
abbrev m_S_deal : xw_M := (yS_deal, cS_deal, 3, (Option.some ClassFile.FieldType.long), 4, 93)
abbrev m_S_factor : xw_M := (yS_factor, cS_factor, 2, (Option.some ClassFile.FieldType.long), 3, 62)
abbrev m_S_holds : xw_M := (yS_holds, cS_holds, 5, (Option.some ClassFile.FieldType.boolean), 7, 112)
abbrev m_S_isMember : xw_M := (yS_isMember, cS_isMember, 2, (Option.some ClassFile.FieldType.boolean), 2, 41)
abbrev m_S_isSigner : xw_M := (yS_isSigner, cS_isSigner, 2, (Option.some ClassFile.FieldType.boolean), 0, 0)
abbrev m_S_key : xw_M := (yS_key, cS_key, 3, (Option.some ClassFile.FieldType.long), 1, 21)
abbrev m_S_members : xw_M := (yS_members, cS_members, 1, (Option.some ClassFile.FieldType.int), 0, 0)
abbrev m_S_recover : xw_M := (yS_recover, cS_recover, 7, (Option.some ClassFile.FieldType.long), 7, 111)
abbrev m_S_relay : xw_M := (yS_relay, cS_relay, 4, (Option.some ClassFile.FieldType.boolean), 7, 122)
abbrev m_S_requireDealt : xw_M := (yS_requireDealt, cS_requireDealt, 1, (Option.none : Option ClassFile.FieldType), 6, 90)
abbrev m_S_requireEnough : xw_M := (yS_requireEnough, cS_requireEnough, 2, (Option.none : Option ClassFile.FieldType), 6, 90)
abbrev m_S_requireNumber : xw_M := (yS_requireNumber, cS_requireNumber, 3, (Option.none : Option ClassFile.FieldType), 6, 90)
abbrev m_S_requireSealed : xw_M := (yS_requireSealed, cS_requireSealed, 1, (Option.none : Option ClassFile.FieldType), 6, 90)
abbrev m_S_requireSigner : xw_M := (yS_requireSigner, cS_requireSigner, 2, (Option.none : Option ClassFile.FieldType), 6, 90)
abbrev m_S_requireUntaken : xw_M := (yS_requireUntaken, cS_requireUntaken, 2, (Option.none : Option ClassFile.FieldType), 6, 90)
abbrev m_S_seal : xw_M := (yS_seal, cS_seal, 1, (Option.some ClassFile.FieldType.long), 7, 110)
abbrev m_S_sealHolds : xw_M := (yS_sealHolds, cS_sealHolds, 11, (Option.some ClassFile.FieldType.boolean), 3, 70)
abbrev m_S_secret : xw_M := (yS_secret, cS_secret, 2, (Option.some ClassFile.FieldType.long), 1, 21)
abbrev m_S_sign : xw_M := (yS_sign, cS_sign, 2, (Option.some ClassFile.FieldType.long), 7, 111)
abbrev m_S_submit : xw_M := (yS_submit, cS_submit, 4, (Option.some ClassFile.FieldType.boolean), 7, 122)
abbrev m_S_taken : xw_M := (yS_taken, cS_taken, 1, (Option.some ClassFile.FieldType.int), 0, 0)
abbrev m_S_weight : xw_M := (yS_weight, cS_weight, 2, (Option.some ClassFile.FieldType.long), 3, 62)
abbrev m_X_end : xw_M := (yX_end, cX_end, 1, (Option.none : Option ClassFile.FieldType), 1, 21)
abbrev m_X_factorFor : xw_M := (yX_factorFor, cX_factorFor, 9, (Option.some ClassFile.FieldType.long), 2, 41)
abbrev m_X_isOn : xw_M := (yX_isOn, cX_isOn, 1, (Option.some ClassFile.FieldType.boolean), 0, 0)
abbrev m_X_isRight : xw_M := (yX_isRight, cX_isRight, 8, (Option.some ClassFile.FieldType.boolean), 3, 70)
abbrev m_X_keyExponent : xw_M := (yX_keyExponent, cX_keyExponent, 2, (Option.some ClassFile.FieldType.long), 1, 23)
abbrev m_X_losePair : xw_M := (yX_losePair, cX_losePair, 2, (Option.none : Option ClassFile.FieldType), 1, 20)
abbrev m_X_makeShare : xw_M := (yX_makeShare, cX_makeShare, 7, (Option.none : Option ClassFile.FieldType), 2, 44)
abbrev m_X_reset : xw_M := (yX_reset, cX_reset, 2, (Option.none : Option ClassFile.FieldType), 0, 0)
abbrev m_X_start : xw_M := (yX_start, cX_start, 8, (Option.none : Option ClassFile.FieldType), 3, 74)
abbrev m_X_tell : xw_M := (yX_tell, cX_tell, 6, (Option.some ClassFile.FieldType.boolean), 4, 97)
abbrev m_X_toldPart : xw_M := (yX_toldPart, cX_toldPart, 2, (Option.some ClassFile.FieldType.long), 2, 49)
theorem f_D_7 : xf_ok "ThresholdSeal$Dealing" 7 1 0 := ⟨_, rfl, u_D, Nat.le_of_ble_eq_true rfl, xw_in wf_D_7 rfl⟩
theorem f_D_13 : xf_ok "ThresholdSeal$Dealing" 13 1 1 := ⟨_, rfl, u_D, Nat.le_of_ble_eq_true rfl, xw_in wf_D_13 rfl⟩
theorem f_D_16 : xf_ok "ThresholdSeal$Dealing" 16 1 2 := ⟨_, rfl, u_D, Nat.le_of_ble_eq_true rfl, xw_in wf_D_16 rfl⟩
theorem f_D_20 : xf_ok "ThresholdSeal$Dealing" 20 1 3 := ⟨_, rfl, u_D, Nat.le_of_ble_eq_true rfl, xw_in wf_D_20 rfl⟩
theorem f_D_23 : xf_ok "ThresholdSeal$Dealing" 23 1 4 := ⟨_, rfl, u_D, Nat.le_of_ble_eq_true rfl, xw_in wf_D_23 rfl⟩
theorem f_D_42 : xf_ok "ThresholdSeal$Dealing" 42 1 5 := ⟨_, rfl, u_D, Nat.le_of_ble_eq_true rfl, xw_in wf_D_42 rfl⟩
theorem f_M_7 : xf_ok "ThresholdSealModel" 7 4 4 := ⟨_, rfl, u_M, Nat.le_of_ble_eq_true rfl, xw_in wf_M_7 rfl⟩
theorem f_M_13 : xf_ok "ThresholdSealModel" 13 4 5 := ⟨_, rfl, u_M, Nat.le_of_ble_eq_true rfl, xw_in wf_M_13 rfl⟩
theorem f_M_16 : xf_ok "ThresholdSealModel" 16 4 6 := ⟨_, rfl, u_M, Nat.le_of_ble_eq_true rfl, xw_in wf_M_16 rfl⟩
theorem f_M_20 : xf_ok "ThresholdSealModel" 20 4 7 := ⟨_, rfl, u_M, Nat.le_of_ble_eq_true rfl, xw_in wf_M_20 rfl⟩
theorem f_M_23 : xf_ok "ThresholdSealModel" 23 4 8 := ⟨_, rfl, u_M, Nat.le_of_ble_eq_true rfl, xw_in wf_M_23 rfl⟩
theorem f_M_26 : xf_ok "ThresholdSealModel" 26 4 9 := ⟨_, rfl, u_M, Nat.le_of_ble_eq_true rfl, xw_in wf_M_26 rfl⟩
theorem f_M_29 : xf_ok "ThresholdSealModel" 29 4 10 := ⟨_, rfl, u_M, Nat.le_of_ble_eq_true rfl, xw_in wf_M_29 rfl⟩
theorem f_M_32 : xf_ok "ThresholdSealModel" 32 4 14 := ⟨_, rfl, u_M, Nat.le_of_ble_eq_true rfl, xw_in wf_M_32 rfl⟩
theorem f_M_35 : xf_ok "ThresholdSealModel" 35 4 15 := ⟨_, rfl, u_M, Nat.le_of_ble_eq_true rfl, xw_in wf_M_35 rfl⟩
theorem f_M_38 : xf_ok "ThresholdSealModel" 38 4 16 := ⟨_, rfl, u_M, Nat.le_of_ble_eq_true rfl, xw_in wf_M_38 rfl⟩
theorem f_M_41 : xf_ok "ThresholdSealModel" 41 4 17 := ⟨_, rfl, u_M, Nat.le_of_ble_eq_true rfl, xw_in wf_M_41 rfl⟩
theorem f_M_44 : xf_ok "ThresholdSealModel" 44 4 18 := ⟨_, rfl, u_M, Nat.le_of_ble_eq_true rfl, xw_in wf_M_44 rfl⟩
theorem f_M_47 : xf_ok "ThresholdSealModel" 47 4 19 := ⟨_, rfl, u_M, Nat.le_of_ble_eq_true rfl, xw_in wf_M_47 rfl⟩
theorem f_M_50 : xf_ok "ThresholdSealModel" 50 4 20 := ⟨_, rfl, u_M, Nat.le_of_ble_eq_true rfl, xw_in wf_M_50 rfl⟩
theorem f_M_53 : xf_ok "ThresholdSealModel" 53 4 21 := ⟨_, rfl, u_M, Nat.le_of_ble_eq_true rfl, xw_in wf_M_53 rfl⟩
theorem f_M_56 : xf_ok "ThresholdSealModel" 56 4 1 := ⟨_, rfl, u_M, Nat.le_of_ble_eq_true rfl, xw_in wf_M_56 rfl⟩
theorem f_M_60 : xf_ok "ThresholdSealModel" 60 4 2 := ⟨_, rfl, u_M, Nat.le_of_ble_eq_true rfl, xw_in wf_M_60 rfl⟩
theorem f_M_63 : xf_ok "ThresholdSealModel" 63 4 0 := ⟨_, rfl, u_M, Nat.le_of_ble_eq_true rfl, xw_in wf_M_63 rfl⟩
theorem f_M_70 : xf_ok "ThresholdSealModel" 70 4 24 := ⟨_, rfl, u_M, Nat.le_of_ble_eq_true rfl, xw_in wf_M_70 rfl⟩
theorem f_M_103 : xf_ok "ThresholdSealModel" 103 4 3 := ⟨_, rfl, u_M, Nat.le_of_ble_eq_true rfl, xw_in wf_M_103 rfl⟩
theorem f_M_107 : xf_ok "ThresholdSealModel" 107 4 11 := ⟨_, rfl, u_M, Nat.le_of_ble_eq_true rfl, xw_in wf_M_107 rfl⟩
theorem f_M_110 : xf_ok "ThresholdSealModel" 110 4 22 := ⟨_, rfl, u_M, Nat.le_of_ble_eq_true rfl, xw_in wf_M_110 rfl⟩
theorem f_M_113 : xf_ok "ThresholdSealModel" 113 4 23 := ⟨_, rfl, u_M, Nat.le_of_ble_eq_true rfl, xw_in wf_M_113 rfl⟩
theorem f_M_132 : xf_ok "ThresholdSealModel" 132 4 12 := ⟨_, rfl, u_M, Nat.le_of_ble_eq_true rfl, xw_in wf_M_132 rfl⟩
theorem f_M_147 : xf_ok "ThresholdSealModel" 147 4 13 := ⟨_, rfl, u_M, Nat.le_of_ble_eq_true rfl, xw_in wf_M_147 rfl⟩
theorem f_P_7 : xf_ok "ThresholdSeal$Pairs" 7 2 0 := ⟨_, rfl, u_P, Nat.le_of_ble_eq_true rfl, xw_in wf_P_7 rfl⟩
theorem f_P_13 : xf_ok "ThresholdSeal$Pairs" 13 2 1 := ⟨_, rfl, u_P, Nat.le_of_ble_eq_true rfl, xw_in wf_P_13 rfl⟩
theorem f_P_16 : xf_ok "ThresholdSeal$Pairs" 16 2 2 := ⟨_, rfl, u_P, Nat.le_of_ble_eq_true rfl, xw_in wf_P_16 rfl⟩
theorem f_P_19 : xf_ok "ThresholdSeal$Pairs" 19 2 3 := ⟨_, rfl, u_P, Nat.le_of_ble_eq_true rfl, xw_in wf_P_19 rfl⟩
theorem f_P_38 : xf_ok "ThresholdSeal$Pairs" 38 2 4 := ⟨_, rfl, u_P, Nat.le_of_ble_eq_true rfl, xw_in wf_P_38 rfl⟩
theorem f_S_18 : xf_ok "ThresholdSeal" 18 0 0 := ⟨_, rfl, u_S, Nat.le_of_ble_eq_true rfl, xw_in wf_S_18 rfl⟩
theorem f_S_22 : xf_ok "ThresholdSeal" 22 0 1 := ⟨_, rfl, u_S, Nat.le_of_ble_eq_true rfl, xw_in wf_S_22 rfl⟩
theorem f_S_30 : xf_ok "ThresholdSeal" 30 0 2 := ⟨_, rfl, u_S, Nat.le_of_ble_eq_true rfl, xw_in wf_S_30 rfl⟩
theorem f_S_39 : xf_ok "ThresholdSeal" 39 0 3 := ⟨_, rfl, u_S, Nat.le_of_ble_eq_true rfl, xw_in wf_S_39 rfl⟩
theorem f_S_46 : xf_ok "ThresholdSeal" 46 0 4 := ⟨_, rfl, u_S, Nat.le_of_ble_eq_true rfl, xw_in wf_S_46 rfl⟩
theorem f_S_77 : xf_ok "ThresholdSeal" 77 2 2 := ⟨_, rfl, u_P, Nat.le_of_ble_eq_true rfl, xw_in wf_S_77 rfl⟩
theorem f_S_99 : xf_ok "ThresholdSeal" 99 3 11 := ⟨_, rfl, u_X, Nat.le_of_ble_eq_true rfl, xw_in wf_S_99 rfl⟩
theorem f_S_103 : xf_ok "ThresholdSeal" 103 3 7 := ⟨_, rfl, u_X, Nat.le_of_ble_eq_true rfl, xw_in wf_S_103 rfl⟩
theorem f_S_114 : xf_ok "ThresholdSeal" 114 1 3 := ⟨_, rfl, u_D, Nat.le_of_ble_eq_true rfl, xw_in wf_S_114 rfl⟩
theorem f_S_124 : xf_ok "ThresholdSeal" 124 3 5 := ⟨_, rfl, u_X, Nat.le_of_ble_eq_true rfl, xw_in wf_S_124 rfl⟩
theorem f_S_133 : xf_ok "ThresholdSeal" 133 1 4 := ⟨_, rfl, u_D, Nat.le_of_ble_eq_true rfl, xw_in wf_S_133 rfl⟩
theorem f_S_140 : xf_ok "ThresholdSeal" 140 3 8 := ⟨_, rfl, u_X, Nat.le_of_ble_eq_true rfl, xw_in wf_S_140 rfl⟩
theorem f_S_154 : xf_ok "ThresholdSeal" 154 3 13 := ⟨_, rfl, u_X, Nat.le_of_ble_eq_true rfl, xw_in wf_S_154 rfl⟩
theorem f_S_157 : xf_ok "ThresholdSeal" 157 1 5 := ⟨_, rfl, u_D, Nat.le_of_ble_eq_true rfl, xw_in wf_S_157 rfl⟩
theorem f_S_177 : xf_ok "ThresholdSeal" 177 2 4 := ⟨_, rfl, u_P, Nat.le_of_ble_eq_true rfl, xw_in wf_S_177 rfl⟩
theorem f_S_180 : xf_ok "ThresholdSeal" 180 2 3 := ⟨_, rfl, u_P, Nat.le_of_ble_eq_true rfl, xw_in wf_S_180 rfl⟩
theorem f_S_186 : xf_ok "ThresholdSeal" 186 3 3 := ⟨_, rfl, u_X, Nat.le_of_ble_eq_true rfl, xw_in wf_S_186 rfl⟩
theorem f_S_189 : xf_ok "ThresholdSeal" 189 3 4 := ⟨_, rfl, u_X, Nat.le_of_ble_eq_true rfl, xw_in wf_S_189 rfl⟩
theorem f_S_196 : xf_ok "ThresholdSeal" 196 3 12 := ⟨_, rfl, u_X, Nat.le_of_ble_eq_true rfl, xw_in wf_S_196 rfl⟩
theorem f_S_199 : xf_ok "ThresholdSeal" 199 3 6 := ⟨_, rfl, u_X, Nat.le_of_ble_eq_true rfl, xw_in wf_S_199 rfl⟩
theorem f_S_202 : xf_ok "ThresholdSeal" 202 3 9 := ⟨_, rfl, u_X, Nat.le_of_ble_eq_true rfl, xw_in wf_S_202 rfl⟩
theorem f_S_205 : xf_ok "ThresholdSeal" 205 3 10 := ⟨_, rfl, u_X, Nat.le_of_ble_eq_true rfl, xw_in wf_S_205 rfl⟩
theorem f_X_7 : xf_ok "ThresholdSeal$Session" 7 3 0 := ⟨_, rfl, u_X, Nat.le_of_ble_eq_true rfl, xw_in wf_X_7 rfl⟩
theorem f_X_13 : xf_ok "ThresholdSeal$Session" 13 3 1 := ⟨_, rfl, u_X, Nat.le_of_ble_eq_true rfl, xw_in wf_X_13 rfl⟩
theorem f_X_17 : xf_ok "ThresholdSeal$Session" 17 3 2 := ⟨_, rfl, u_X, Nat.le_of_ble_eq_true rfl, xw_in wf_X_17 rfl⟩
theorem f_X_20 : xf_ok "ThresholdSeal$Session" 20 3 3 := ⟨_, rfl, u_X, Nat.le_of_ble_eq_true rfl, xw_in wf_X_20 rfl⟩
theorem f_X_23 : xf_ok "ThresholdSeal$Session" 23 3 4 := ⟨_, rfl, u_X, Nat.le_of_ble_eq_true rfl, xw_in wf_X_23 rfl⟩
theorem f_X_26 : xf_ok "ThresholdSeal$Session" 26 3 5 := ⟨_, rfl, u_X, Nat.le_of_ble_eq_true rfl, xw_in wf_X_26 rfl⟩
theorem f_X_29 : xf_ok "ThresholdSeal$Session" 29 3 6 := ⟨_, rfl, u_X, Nat.le_of_ble_eq_true rfl, xw_in wf_X_29 rfl⟩
theorem f_X_36 : xf_ok "ThresholdSeal$Session" 36 2 2 := ⟨_, rfl, u_P, Nat.le_of_ble_eq_true rfl, xw_in wf_X_36 rfl⟩
theorem f_X_39 : xf_ok "ThresholdSeal$Session" 39 2 3 := ⟨_, rfl, u_P, Nat.le_of_ble_eq_true rfl, xw_in wf_X_39 rfl⟩
theorem f_X_54 : xf_ok "ThresholdSeal$Session" 54 3 11 := ⟨_, rfl, u_X, Nat.le_of_ble_eq_true rfl, xw_in wf_X_54 rfl⟩
theorem f_X_74 : xf_ok "ThresholdSeal$Session" 74 3 12 := ⟨_, rfl, u_X, Nat.le_of_ble_eq_true rfl, xw_in wf_X_74 rfl⟩
theorem f_X_77 : xf_ok "ThresholdSeal$Session" 77 3 7 := ⟨_, rfl, u_X, Nat.le_of_ble_eq_true rfl, xw_in wf_X_77 rfl⟩
theorem f_X_84 : xf_ok "ThresholdSeal$Session" 84 2 0 := ⟨_, rfl, u_P, Nat.le_of_ble_eq_true rfl, xw_in wf_X_84 rfl⟩
theorem f_X_87 : xf_ok "ThresholdSeal$Session" 87 2 1 := ⟨_, rfl, u_P, Nat.le_of_ble_eq_true rfl, xw_in wf_X_87 rfl⟩
theorem f_X_99 : xf_ok "ThresholdSeal$Session" 99 3 8 := ⟨_, rfl, u_X, Nat.le_of_ble_eq_true rfl, xw_in wf_X_99 rfl⟩
theorem f_X_106 : xf_ok "ThresholdSeal$Session" 106 3 10 := ⟨_, rfl, u_X, Nat.le_of_ble_eq_true rfl, xw_in wf_X_106 rfl⟩
theorem f_X_109 : xf_ok "ThresholdSeal$Session" 109 3 9 := ⟨_, rfl, u_X, Nat.le_of_ble_eq_true rfl, xw_in wf_X_109 rfl⟩
theorem f_X_112 : xf_ok "ThresholdSeal$Session" 112 3 13 := ⟨_, rfl, u_X, Nat.le_of_ble_eq_true rfl, xw_in wf_X_112 rfl⟩
theorem u_D_5 : xf_put 1 5 .boolean := ⟨_, rfl, ⟨tD_, tD_ok⟩, nD_, rfl, by decide +kernel⟩
theorem u_P_4 : xf_put 2 4 .int := ⟨_, rfl, ⟨tP_, tP_ok⟩, nP_, rfl, by decide +kernel⟩
theorem u_X_6 : xf_put 3 6 .int := ⟨_, rfl, ⟨tX_, tX_ok⟩, nX_, rfl, by decide +kernel⟩
theorem u_X_7 : xf_put 3 7 .int := ⟨_, rfl, ⟨tX_, tX_ok⟩, nX_, rfl, by decide +kernel⟩
theorem u_X_8 : xf_put 3 8 .int := ⟨_, rfl, ⟨tX_, tX_ok⟩, nX_, rfl, by decide +kernel⟩
theorem u_X_9 : xf_put 3 9 .int := ⟨_, rfl, ⟨tX_, tX_ok⟩, nX_, rfl, by decide +kernel⟩
theorem u_X_10 : xf_put 3 10 .int := ⟨_, rfl, ⟨tX_, tX_ok⟩, nX_, rfl, by decide +kernel⟩
theorem u_X_11 : xf_put 3 11 .long := ⟨_, rfl, ⟨tX_, tX_ok⟩, nX_, rfl, by decide +kernel⟩
theorem u_X_12 : xf_put 3 12 .long := ⟨_, rfl, ⟨tX_, tX_ok⟩, nX_, rfl, by decide +kernel⟩
theorem u_X_13 : xf_put 3 13 .long := ⟨_, rfl, ⟨tX_, tX_ok⟩, nX_, rfl, by decide +kernel⟩
theorem u_M_0 : xf_put 4 0 .int := ⟨_, rfl, ⟨tM_, tM_ok⟩, nM_, rfl, by decide +kernel⟩
theorem u_M_3 : xf_put 4 3 .boolean := ⟨_, rfl, ⟨tM_, tM_ok⟩, nM_, rfl, by decide +kernel⟩
theorem u_M_11 : xf_put 4 11 .int := ⟨_, rfl, ⟨tM_, tM_ok⟩, nM_, rfl, by decide +kernel⟩
theorem u_M_12 : xf_put 4 12 .long := ⟨_, rfl, ⟨tM_, tM_ok⟩, nM_, rfl, by decide +kernel⟩
theorem u_M_13 : xf_put 4 13 .long := ⟨_, rfl, ⟨tM_, tM_ok⟩, nM_, rfl, by decide +kernel⟩
theorem u_M_22 : xf_put 4 22 .int := ⟨_, rfl, ⟨tM_, tM_ok⟩, nM_, rfl, by decide +kernel⟩
theorem u_M_23 : xf_put 4 23 .int := ⟨_, rfl, ⟨tM_, tM_ok⟩, nM_, rfl, by decide +kernel⟩
theorem u_M_24 : xf_put 4 24 .long := ⟨_, rfl, ⟨tM_, tM_ok⟩, nM_, rfl, by decide +kernel⟩
theorem b_D_26 : xm_B "ThresholdSeal$Dealing" 26 m_G_ofThree 3 := ⟨xw_in wc_G_ofThree rfl, xw_in wn_G rfl, xw_in wm_D_26 rfl, by decide, by decide, by decide +kernel⟩
theorem b_D_32 : xm_B "ThresholdSeal$Dealing" 32 m_D_valueAt 1 := ⟨xw_in wc_D_valueAt rfl, xw_in wn_D rfl, xw_in wm_D_32 rfl, by decide, by decide, by decide +kernel⟩
theorem b_D_36 : xm_B "ThresholdSeal$Dealing" 36 m_E_ofNumber 1 := ⟨xw_in wc_E_ofNumber rfl, xw_in wn_E rfl, xw_in wm_D_36 rfl, by decide, by decide, by decide +kernel⟩
theorem b_D_46 : xm_B "ThresholdSeal$Dealing" 46 m_N_times 2 := ⟨xw_in wc_N_times rfl, xw_in wn_N rfl, xw_in wm_D_46 rfl, by decide, by decide, by decide +kernel⟩
theorem b_D_52 : xm_B "ThresholdSeal$Dealing" 52 m_N_plus 2 := ⟨xw_in wc_N_plus rfl, xw_in wn_N rfl, xw_in wm_D_52 rfl, by decide, by decide, by decide +kernel⟩
theorem b_E_13 : xm_B "ThresholdSeal$Elements" 13 m_E_times 2 := ⟨xw_in wc_E_times rfl, xw_in wn_E rfl, xw_in wm_E_13 rfl, by decide, by decide, by decide +kernel⟩
theorem b_E_19 : xm_B "ThresholdSeal$Elements" 19 m_E_power 2 := ⟨xw_in wc_E_power rfl, xw_in wn_E rfl, xw_in wm_E_19 rfl, by decide, by decide, by decide +kernel⟩
theorem b_G_15 : xm_B "ThresholdSeal$Digest" 15 m_G_mix 2 := ⟨xw_in wc_G_mix rfl, xw_in wn_G rfl, xw_in wm_G_15 rfl, by decide, by decide, by decide +kernel⟩
theorem b_G_19 : xm_B "ThresholdSeal$Digest" 19 m_G_finish 1 := ⟨xw_in wc_G_finish rfl, xw_in wn_G rfl, xw_in wm_G_19 rfl, by decide, by decide, by decide +kernel⟩
theorem b_I_7 : xm_B "ThresholdSeal$Signers" 7 m_I_only 1 := ⟨xw_in wc_I_only rfl, xw_in wn_I rfl, xw_in wm_I_7 rfl, by decide, by decide, by decide +kernel⟩
theorem b_I_13 : xm_B "ThresholdSeal$Signers" 13 m_I_has 2 := ⟨xw_in wc_I_has rfl, xw_in wn_I rfl, xw_in wm_I_13 rfl, by decide, by decide, by decide +kernel⟩
theorem b_I_17 : xm_B "ThresholdSeal$Signers" 17 m_N_times 2 := ⟨xw_in wc_N_times rfl, xw_in wn_N rfl, xw_in wm_I_17 rfl, by decide, by decide, by decide +kernel⟩
theorem b_I_23 : xm_B "ThresholdSeal$Signers" 23 m_N_minus 2 := ⟨xw_in wc_N_minus rfl, xw_in wn_N rfl, xw_in wm_I_23 rfl, by decide, by decide, by decide +kernel⟩
theorem b_I_26 : xm_B "ThresholdSeal$Signers" 26 m_N_inverse 1 := ⟨xw_in wc_N_inverse rfl, xw_in wn_N rfl, xw_in wm_I_26 rfl, by decide, by decide, by decide +kernel⟩
theorem b_L_7 : xm_B "ThresholdSealLaw" 7 m_S_commit 2 := ⟨xw_in wc_S_commit rfl, xw_in wn_S rfl, xw_in wm_L_7 rfl, by decide, by decide, by decide +kernel⟩
theorem b_L_17 : xm_B "ThresholdSealLaw" 17 m_S_begin 2 := ⟨xw_in wc_S_begin rfl, xw_in wn_S rfl, xw_in wm_L_17 rfl, by decide, by decide, by decide +kernel⟩
theorem b_L_20 : xm_B "ThresholdSealLaw" 20 m_S_sign 1 := ⟨xw_in wc_S_sign rfl, xw_in wn_S rfl, xw_in wm_L_20 rfl, by decide, by decide, by decide +kernel⟩
theorem b_L_24 : xm_B "ThresholdSealLaw" 24 m_S_submit 2 := ⟨xw_in wc_S_submit rfl, xw_in wn_S rfl, xw_in wm_L_24 rfl, by decide, by decide, by decide +kernel⟩
theorem b_L_28 : xm_B "ThresholdSealLaw" 28 m_S_relay 2 := ⟨xw_in wc_S_relay rfl, xw_in wn_S rfl, xw_in wm_L_28 rfl, by decide, by decide, by decide +kernel⟩
theorem b_L_31 : xm_B "ThresholdSealLaw" 31 m_S_seal 0 := ⟨xw_in wc_S_seal rfl, xw_in wn_S rfl, xw_in wm_L_31 rfl, by decide, by decide, by decide +kernel⟩
theorem b_L_35 : xm_B "ThresholdSealLaw" 35 m_S_holds 2 := ⟨xw_in wc_S_holds rfl, xw_in wn_S rfl, xw_in wm_L_35 rfl, by decide, by decide, by decide +kernel⟩
theorem b_L_39 : xm_B "ThresholdSealLaw" 39 m_S_recover 1 := ⟨xw_in wc_S_recover rfl, xw_in wn_S rfl, xw_in wm_L_39 rfl, by decide, by decide, by decide +kernel⟩
theorem b_L_42 : xm_B "ThresholdSealLaw" 42 m_L_cell 2 := ⟨xw_in wc_L_cell rfl, xw_in wn_L rfl, xw_in wm_L_42 rfl, by decide, by decide, by decide +kernel⟩
theorem b_L_56 : xm_B "ThresholdSealLaw" 56 m_S_deal 1 := ⟨xw_in wc_S_deal rfl, xw_in wn_S rfl, xw_in wm_L_56 rfl, by decide, by decide, by decide +kernel⟩
theorem b_L_60 : xm_B "ThresholdSealLaw" 60 m_M_deal 1 := ⟨xw_in wc_M_deal rfl, xw_in wn_M rfl, xw_in wm_L_60 rfl, by decide, by decide, by decide +kernel⟩
theorem b_L_64 : xm_B "ThresholdSealLaw" 64 m_M_commit 2 := ⟨xw_in wc_M_commit rfl, xw_in wn_M rfl, xw_in wm_L_64 rfl, by decide, by decide, by decide +kernel⟩
theorem b_L_65 : xm_B "ThresholdSealLaw" 65 m_M_thrown 0 := ⟨xw_in wc_M_thrown rfl, xw_in wn_M rfl, xw_in wm_L_65 rfl, by decide, by decide, by decide +kernel⟩
theorem b_L_71 : xm_B "ThresholdSealLaw" 71 m_M_begin 2 := ⟨xw_in wc_M_begin rfl, xw_in wn_M rfl, xw_in wm_L_71 rfl, by decide, by decide, by decide +kernel⟩
theorem b_L_75 : xm_B "ThresholdSealLaw" 75 m_M_sign 1 := ⟨xw_in wc_M_sign rfl, xw_in wn_M rfl, xw_in wm_L_75 rfl, by decide, by decide, by decide +kernel⟩
theorem b_L_78 : xm_B "ThresholdSealLaw" 78 m_M_submit 2 := ⟨xw_in wc_M_submit rfl, xw_in wn_M rfl, xw_in wm_L_78 rfl, by decide, by decide, by decide +kernel⟩
theorem b_L_81 : xm_B "ThresholdSealLaw" 81 m_M_relay 2 := ⟨xw_in wc_M_relay rfl, xw_in wn_M rfl, xw_in wm_L_81 rfl, by decide, by decide, by decide +kernel⟩
theorem b_L_85 : xm_B "ThresholdSealLaw" 85 m_M_seal 0 := ⟨xw_in wc_M_seal rfl, xw_in wn_M rfl, xw_in wm_L_85 rfl, by decide, by decide, by decide +kernel⟩
theorem b_L_86 : xm_B "ThresholdSealLaw" 86 m_S_check 3 := ⟨xw_in wc_S_check rfl, xw_in wn_S rfl, xw_in wm_L_86 rfl, by decide, by decide, by decide +kernel⟩
theorem b_L_90 : xm_B "ThresholdSealLaw" 90 m_M_check 3 := ⟨xw_in wc_M_check rfl, xw_in wn_M rfl, xw_in wm_L_90 rfl, by decide, by decide, by decide +kernel⟩
theorem b_L_94 : xm_B "ThresholdSealLaw" 94 m_M_holds 2 := ⟨xw_in wc_M_holds rfl, xw_in wn_M rfl, xw_in wm_L_94 rfl, by decide, by decide, by decide +kernel⟩
theorem b_L_97 : xm_B "ThresholdSealLaw" 97 m_M_recover 1 := ⟨xw_in wc_M_recover rfl, xw_in wn_M rfl, xw_in wm_L_97 rfl, by decide, by decide, by decide +kernel⟩
theorem b_L_98 : xm_B "ThresholdSealLaw" 98 m_S_key 1 := ⟨xw_in wc_S_key rfl, xw_in wn_S rfl, xw_in wm_L_98 rfl, by decide, by decide, by decide +kernel⟩
theorem b_L_101 : xm_B "ThresholdSealLaw" 101 m_M_key 1 := ⟨xw_in wc_M_key rfl, xw_in wn_M rfl, xw_in wm_L_101 rfl, by decide, by decide, by decide +kernel⟩
theorem b_L_102 : xm_B "ThresholdSealLaw" 102 m_S_secret 1 := ⟨xw_in wc_S_secret rfl, xw_in wn_S rfl, xw_in wm_L_102 rfl, by decide, by decide, by decide +kernel⟩
theorem b_L_105 : xm_B "ThresholdSealLaw" 105 m_M_secret 1 := ⟨xw_in wc_M_secret rfl, xw_in wn_M rfl, xw_in wm_L_105 rfl, by decide, by decide, by decide +kernel⟩
theorem b_L_106 : xm_B "ThresholdSealLaw" 106 m_S_commitment 2 := ⟨xw_in wc_S_commitment rfl, xw_in wn_S rfl, xw_in wm_L_106 rfl, by decide, by decide, by decide +kernel⟩
theorem b_L_110 : xm_B "ThresholdSealLaw" 110 m_M_commitment 2 := ⟨xw_in wc_M_commitment rfl, xw_in wn_M rfl, xw_in wm_L_110 rfl, by decide, by decide, by decide +kernel⟩
theorem b_L_111 : xm_B "ThresholdSealLaw" 111 m_S_factor 1 := ⟨xw_in wc_S_factor rfl, xw_in wn_S rfl, xw_in wm_L_111 rfl, by decide, by decide, by decide +kernel⟩
theorem b_L_114 : xm_B "ThresholdSealLaw" 114 m_M_factor 1 := ⟨xw_in wc_M_factor rfl, xw_in wn_M rfl, xw_in wm_L_114 rfl, by decide, by decide, by decide +kernel⟩
theorem b_L_115 : xm_B "ThresholdSealLaw" 115 m_S_weight 1 := ⟨xw_in wc_S_weight rfl, xw_in wn_S rfl, xw_in wm_L_115 rfl, by decide, by decide, by decide +kernel⟩
theorem b_L_118 : xm_B "ThresholdSealLaw" 118 m_M_weight 1 := ⟨xw_in wc_M_weight rfl, xw_in wn_M rfl, xw_in wm_L_118 rfl, by decide, by decide, by decide +kernel⟩
theorem b_L_119 : xm_B "ThresholdSealLaw" 119 m_S_challenge 0 := ⟨xw_in wc_S_challenge rfl, xw_in wn_S rfl, xw_in wm_L_119 rfl, by decide, by decide, by decide +kernel⟩
theorem b_L_122 : xm_B "ThresholdSealLaw" 122 m_M_challenge 0 := ⟨xw_in wc_M_challenge rfl, xw_in wn_M rfl, xw_in wm_L_122 rfl, by decide, by decide, by decide +kernel⟩
theorem b_L_123 : xm_B "ThresholdSealLaw" 123 m_S_members 0 := ⟨xw_in wc_S_members rfl, xw_in wn_S rfl, xw_in wm_L_123 rfl, by decide, by decide, by decide +kernel⟩
theorem b_L_126 : xm_B "ThresholdSealLaw" 126 m_M_members 0 := ⟨xw_in wc_M_members rfl, xw_in wn_M rfl, xw_in wm_L_126 rfl, by decide, by decide, by decide +kernel⟩
theorem b_L_127 : xm_B "ThresholdSealLaw" 127 m_S_taken 0 := ⟨xw_in wc_S_taken rfl, xw_in wn_S rfl, xw_in wm_L_127 rfl, by decide, by decide, by decide +kernel⟩
theorem b_L_130 : xm_B "ThresholdSealLaw" 130 m_M_taken 0 := ⟨xw_in wc_M_taken rfl, xw_in wn_M rfl, xw_in wm_L_130 rfl, by decide, by decide, by decide +kernel⟩
theorem b_L_131 : xm_B "ThresholdSealLaw" 131 m_S_blamed 0 := ⟨xw_in wc_S_blamed rfl, xw_in wn_S rfl, xw_in wm_L_131 rfl, by decide, by decide, by decide +kernel⟩
theorem b_L_134 : xm_B "ThresholdSealLaw" 134 m_M_blamed 0 := ⟨xw_in wc_M_blamed rfl, xw_in wn_M rfl, xw_in wm_L_134 rfl, by decide, by decide, by decide +kernel⟩
theorem b_M_74 : xm_B "ThresholdSealModel" 74 m_M_mix 1 := ⟨xw_in wc_M_mix rfl, xw_in wn_M rfl, xw_in wm_M_74 rfl, by decide, by decide, by decide +kernel⟩
theorem b_M_80 : xm_B "ThresholdSealModel" 80 m_M_begins 1 := ⟨xw_in wc_M_begins rfl, xw_in wn_M rfl, xw_in wm_M_80 rfl, by decide, by decide, by decide +kernel⟩
theorem b_M_83 : xm_B "ThresholdSealModel" 83 m_M_digest 0 := ⟨xw_in wc_M_digest rfl, xw_in wn_M rfl, xw_in wm_M_83 rfl, by decide, by decide, by decide +kernel⟩
theorem b_M_89 : xm_B "ThresholdSealModel" 89 m_M_in 2 := ⟨xw_in wc_M_in rfl, xw_in wn_M rfl, xw_in wm_M_89 rfl, by decide, by decide, by decide +kernel⟩
theorem b_M_95 : xm_B "ThresholdSealModel" 95 m_M_power 3 := ⟨xw_in wc_M_power rfl, xw_in wn_M rfl, xw_in wm_M_95 rfl, by decide, by decide, by decide +kernel⟩
theorem b_M_116 : xm_B "ThresholdSealModel" 116 m_M_isSigner 1 := ⟨xw_in wc_M_isSigner rfl, xw_in wn_M rfl, xw_in wm_M_116 rfl, by decide, by decide, by decide +kernel⟩
theorem b_M_122 : xm_B "ThresholdSealModel" 122 m_M_pairNumber 3 := ⟨xw_in wc_M_pairNumber rfl, xw_in wn_M rfl, xw_in wm_M_122 rfl, by decide, by decide, by decide +kernel⟩
theorem b_M_126 : xm_B "ThresholdSealModel" 126 m_M_isSet 1 := ⟨xw_in wc_M_isSet rfl, xw_in wn_M rfl, xw_in wm_M_126 rfl, by decide, by decide, by decide +kernel⟩
theorem b_M_129 : xm_B "ThresholdSealModel" 129 m_M_allOpen 1 := ⟨xw_in wc_M_allOpen rfl, xw_in wn_M rfl, xw_in wm_M_129 rfl, by decide, by decide, by decide +kernel⟩
theorem b_M_135 : xm_B "ThresholdSealModel" 135 m_M_factorOf 3 := ⟨xw_in wc_M_factorOf rfl, xw_in wn_M rfl, xw_in wm_M_135 rfl, by decide, by decide, by decide +kernel⟩
theorem b_M_139 : xm_B "ThresholdSealModel" 139 m_M_weightIn 2 := ⟨xw_in wc_M_weightIn rfl, xw_in wn_M rfl, xw_in wm_M_139 rfl, by decide, by decide, by decide +kernel⟩
theorem b_M_143 : xm_B "ThresholdSealModel" 143 m_M_challengeOf 2 := ⟨xw_in wc_M_challengeOf rfl, xw_in wn_M rfl, xw_in wm_M_143 rfl, by decide, by decide, by decide +kernel⟩
theorem b_M_150 : xm_B "ThresholdSealModel" 150 m_M_isMember 1 := ⟨xw_in wc_M_isMember rfl, xw_in wn_M rfl, xw_in wm_M_150 rfl, by decide, by decide, by decide +kernel⟩
theorem b_M_153 : xm_B "ThresholdSealModel" 153 m_M_isNumber 1 := ⟨xw_in wc_M_isNumber rfl, xw_in wn_M rfl, xw_in wm_M_153 rfl, by decide, by decide, by decide +kernel⟩
theorem b_M_157 : xm_B "ThresholdSealModel" 157 m_M_tell 2 := ⟨xw_in wc_M_tell rfl, xw_in wn_M rfl, xw_in wm_M_157 rfl, by decide, by decide, by decide +kernel⟩
theorem b_M_161 : xm_B "ThresholdSealModel" 161 m_M_isWhole 0 := ⟨xw_in wc_M_isWhole rfl, xw_in wn_M rfl, xw_in wm_M_161 rfl, by decide, by decide, by decide +kernel⟩
theorem b_M_165 : xm_B "ThresholdSealModel" 165 m_M_sum 0 := ⟨xw_in wc_M_sum rfl, xw_in wn_M rfl, xw_in wm_M_165 rfl, by decide, by decide, by decide +kernel⟩
theorem b_M_168 : xm_B "ThresholdSealModel" 168 m_M_isSealOf 3 := ⟨xw_in wc_M_isSealOf rfl, xw_in wn_M rfl, xw_in wm_M_168 rfl, by decide, by decide, by decide +kernel⟩
theorem b_N_11 : xm_B "ThresholdSeal$Numbers" 11 m_N_times 2 := ⟨xw_in wc_N_times rfl, xw_in wn_N rfl, xw_in wm_N_11 rfl, by decide, by decide, by decide +kernel⟩
theorem b_P_24 : xm_B "ThresholdSeal$Pairs" 24 m_G_ofThree 3 := ⟨xw_in wc_G_ofThree rfl, xw_in wn_G rfl, xw_in wm_P_24 rfl, by decide, by decide, by decide +kernel⟩
theorem b_P_32 : xm_B "ThresholdSeal$Pairs" 32 m_E_ofNumber 1 := ⟨xw_in wc_E_ofNumber rfl, xw_in wn_E rfl, xw_in wm_P_32 rfl, by decide, by decide, by decide +kernel⟩
theorem b_P_42 : xm_B "ThresholdSeal$Pairs" 42 m_I_only 1 := ⟨xw_in wc_I_only rfl, xw_in wn_I rfl, xw_in wm_P_42 rfl, by decide, by decide, by decide +kernel⟩
theorem b_S_7 : xm_B "ThresholdSeal" 7 m_JM_max 2 := ⟨xw_in wc_JM_max rfl, xw_in wn_JM rfl, xw_in wm_S_7 rfl, by decide, by decide, by decide +kernel⟩
theorem b_S_15 : xm_B "ThresholdSeal" 15 m_JM_min 2 := ⟨xw_in wc_JM_min rfl, xw_in wn_JM rfl, xw_in wm_S_15 rfl, by decide, by decide, by decide +kernel⟩
theorem b_S_50 : xm_B "ThresholdSeal" 50 m_D_make 1 := ⟨xw_in wc_D_make rfl, xw_in wn_D rfl, xw_in wm_S_50 rfl, by decide, by decide, by decide +kernel⟩
theorem b_S_54 : xm_B "ThresholdSeal" 54 m_P_dropAll 0 := ⟨xw_in wc_P_dropAll rfl, xw_in wn_P rfl, xw_in wm_S_54 rfl, by decide, by decide, by decide +kernel⟩
theorem b_S_57 : xm_B "ThresholdSeal" 57 m_X_end 0 := ⟨xw_in wc_X_end rfl, xw_in wn_X rfl, xw_in wm_S_57 rfl, by decide, by decide, by decide +kernel⟩
theorem b_S_60 : xm_B "ThresholdSeal" 60 m_D_keyOfAll 0 := ⟨xw_in wc_D_keyOfAll rfl, xw_in wn_D rfl, xw_in wm_S_60 rfl, by decide, by decide, by decide +kernel⟩
theorem b_S_64 : xm_B "ThresholdSeal" 64 m_S_requireSigner 1 := ⟨xw_in wc_S_requireSigner rfl, xw_in wn_S rfl, xw_in wm_S_64 rfl, by decide, by decide, by decide +kernel⟩
theorem b_S_67 : xm_B "ThresholdSeal" 67 m_S_requireDealt 0 := ⟨xw_in wc_S_requireDealt rfl, xw_in wn_S rfl, xw_in wm_S_67 rfl, by decide, by decide, by decide +kernel⟩
theorem b_S_70 : xm_B "ThresholdSeal" 70 m_P_open 2 := ⟨xw_in wc_P_open rfl, xw_in wn_P rfl, xw_in wm_S_70 rfl, by decide, by decide, by decide +kernel⟩
theorem b_S_74 : xm_B "ThresholdSeal" 74 m_X_losePair 1 := ⟨xw_in wc_X_losePair rfl, xw_in wn_X rfl, xw_in wm_S_74 rfl, by decide, by decide, by decide +kernel⟩
theorem b_S_81 : xm_B "ThresholdSeal" 81 m_S_requireEnough 1 := ⟨xw_in wc_S_requireEnough rfl, xw_in wn_S rfl, xw_in wm_S_81 rfl, by decide, by decide, by decide +kernel⟩
theorem b_S_84 : xm_B "ThresholdSeal" 84 m_P_areOpen 1 := ⟨xw_in wc_P_areOpen rfl, xw_in wn_P rfl, xw_in wm_S_84 rfl, by decide, by decide, by decide +kernel⟩
theorem b_S_95 : xm_B "ThresholdSeal" 95 m_X_start 4 := ⟨xw_in wc_X_start rfl, xw_in wn_X rfl, xw_in wm_S_95 rfl, by decide, by decide, by decide +kernel⟩
theorem b_S_106 : xm_B "ThresholdSeal" 106 m_I_has 2 := ⟨xw_in wc_I_has rfl, xw_in wn_I rfl, xw_in wm_S_106 rfl, by decide, by decide, by decide +kernel⟩
theorem b_S_117 : xm_B "ThresholdSeal" 117 m_X_makeShare 3 := ⟨xw_in wc_X_makeShare rfl, xw_in wn_X rfl, xw_in wm_S_117 rfl, by decide, by decide, by decide +kernel⟩
theorem b_S_121 : xm_B "ThresholdSeal" 121 m_P_drop 1 := ⟨xw_in wc_P_drop rfl, xw_in wn_P rfl, xw_in wm_S_121 rfl, by decide, by decide, by decide +kernel⟩
theorem b_S_127 : xm_B "ThresholdSeal" 127 m_S_requireNumber 1 := ⟨xw_in wc_S_requireNumber rfl, xw_in wn_S rfl, xw_in wm_S_127 rfl, by decide, by decide, by decide +kernel⟩
theorem b_S_130 : xm_B "ThresholdSeal" 130 m_S_requireUntaken 1 := ⟨xw_in wc_S_requireUntaken rfl, xw_in wn_S rfl, xw_in wm_S_130 rfl, by decide, by decide, by decide +kernel⟩
theorem b_S_136 : xm_B "ThresholdSeal" 136 m_X_tell 3 := ⟨xw_in wc_X_tell rfl, xw_in wn_X rfl, xw_in wm_S_136 rfl, by decide, by decide, by decide +kernel⟩
theorem b_S_145 : xm_B "ThresholdSeal" 145 m_N_plus 2 := ⟨xw_in wc_N_plus rfl, xw_in wn_N rfl, xw_in wm_S_145 rfl, by decide, by decide, by decide +kernel⟩
theorem b_S_151 : xm_B "ThresholdSeal" 151 m_S_requireSealed 0 := ⟨xw_in wc_S_requireSealed rfl, xw_in wn_S rfl, xw_in wm_S_151 rfl, by decide, by decide, by decide +kernel⟩
theorem b_S_161 : xm_B "ThresholdSeal" 161 m_S_sealHolds 3 := ⟨xw_in wc_S_sealHolds rfl, xw_in wn_S rfl, xw_in wm_S_161 rfl, by decide, by decide, by decide +kernel⟩
theorem b_S_165 : xm_B "ThresholdSeal" 165 m_I_weightIn 3 := ⟨xw_in wc_I_weightIn rfl, xw_in wn_I rfl, xw_in wm_S_165 rfl, by decide, by decide, by decide +kernel⟩
theorem b_S_169 : xm_B "ThresholdSeal" 169 m_N_times 2 := ⟨xw_in wc_N_times rfl, xw_in wn_N rfl, xw_in wm_S_169 rfl, by decide, by decide, by decide +kernel⟩
theorem b_S_172 : xm_B "ThresholdSeal" 172 m_S_isSigner 1 := ⟨xw_in wc_S_isSigner rfl, xw_in wn_S rfl, xw_in wm_S_172 rfl, by decide, by decide, by decide +kernel⟩
theorem b_S_183 : xm_B "ThresholdSeal" 183 m_S_isMember 1 := ⟨xw_in wc_S_isMember rfl, xw_in wn_S rfl, xw_in wm_S_183 rfl, by decide, by decide, by decide +kernel⟩
theorem b_S_192 : xm_B "ThresholdSeal" 192 m_X_isOn 0 := ⟨xw_in wc_X_isOn rfl, xw_in wn_X rfl, xw_in wm_S_192 rfl, by decide, by decide, by decide +kernel⟩
theorem b_S_208 : xm_B "ThresholdSeal" 208 m_E_isElement 1 := ⟨xw_in wc_E_isElement rfl, xw_in wn_E rfl, xw_in wm_S_208 rfl, by decide, by decide, by decide +kernel⟩
theorem b_S_214 : xm_B "ThresholdSeal" 214 m_N_isNumber 1 := ⟨xw_in wc_N_isNumber rfl, xw_in wn_N rfl, xw_in wm_S_214 rfl, by decide, by decide, by decide +kernel⟩
theorem b_S_217 : xm_B "ThresholdSeal" 217 m_G_ofSeal 3 := ⟨xw_in wc_G_ofSeal rfl, xw_in wn_G rfl, xw_in wm_S_217 rfl, by decide, by decide, by decide +kernel⟩
theorem b_S_223 : xm_B "ThresholdSeal" 223 m_E_ofNumber 1 := ⟨xw_in wc_E_ofNumber rfl, xw_in wn_E rfl, xw_in wm_S_223 rfl, by decide, by decide, by decide +kernel⟩
theorem b_S_227 : xm_B "ThresholdSeal" 227 m_E_power 2 := ⟨xw_in wc_E_power rfl, xw_in wn_E rfl, xw_in wm_S_227 rfl, by decide, by decide, by decide +kernel⟩
theorem b_S_230 : xm_B "ThresholdSeal" 230 m_E_times 2 := ⟨xw_in wc_E_times rfl, xw_in wn_E rfl, xw_in wm_S_230 rfl, by decide, by decide, by decide +kernel⟩
theorem b_S_238 : xm_B "ThresholdSeal" 238 m_JI_bitCount 1 := ⟨xw_in wc_JI_bitCount rfl, xw_in wn_JI rfl, xw_in wm_S_238 rfl, by decide, by decide, by decide +kernel⟩
theorem b_X_32 : xm_B "ThresholdSeal$Session" 32 m_X_reset 1 := ⟨xw_in wc_X_reset rfl, xw_in wn_X rfl, xw_in wm_X_32 rfl, by decide, by decide, by decide +kernel⟩
theorem b_X_40 : xm_B "ThresholdSeal$Session" 40 m_I_has 2 := ⟨xw_in wc_I_has rfl, xw_in wn_I rfl, xw_in wm_X_40 rfl, by decide, by decide, by decide +kernel⟩
theorem b_X_46 : xm_B "ThresholdSeal$Session" 46 m_X_factorFor 3 := ⟨xw_in wc_X_factorFor rfl, xw_in wn_X rfl, xw_in wm_X_46 rfl, by decide, by decide, by decide +kernel⟩
theorem b_X_50 : xm_B "ThresholdSeal$Session" 50 m_I_weightIn 3 := ⟨xw_in wc_I_weightIn rfl, xw_in wn_I rfl, xw_in wm_X_50 rfl, by decide, by decide, by decide +kernel⟩
theorem b_X_58 : xm_B "ThresholdSeal$Session" 58 m_X_toldPart 1 := ⟨xw_in wc_X_toldPart rfl, xw_in wn_X rfl, xw_in wm_X_58 rfl, by decide, by decide, by decide +kernel⟩
theorem b_X_62 : xm_B "ThresholdSeal$Session" 62 m_E_times 2 := ⟨xw_in wc_E_times rfl, xw_in wn_E rfl, xw_in wm_X_62 rfl, by decide, by decide, by decide +kernel⟩
theorem b_X_68 : xm_B "ThresholdSeal$Session" 68 m_G_ofSeal 3 := ⟨xw_in wc_G_ofSeal rfl, xw_in wn_G rfl, xw_in wm_X_68 rfl, by decide, by decide, by decide +kernel⟩
theorem b_X_80 : xm_B "ThresholdSeal$Session" 80 m_I_only 1 := ⟨xw_in wc_I_only rfl, xw_in wn_I rfl, xw_in wm_X_80 rfl, by decide, by decide, by decide +kernel⟩
theorem b_X_90 : xm_B "ThresholdSeal$Session" 90 m_N_times 2 := ⟨xw_in wc_N_times rfl, xw_in wn_N rfl, xw_in wm_X_90 rfl, by decide, by decide, by decide +kernel⟩
theorem b_X_93 : xm_B "ThresholdSeal$Session" 93 m_N_plus 2 := ⟨xw_in wc_N_plus rfl, xw_in wn_N rfl, xw_in wm_X_93 rfl, by decide, by decide, by decide +kernel⟩
theorem b_X_96 : xm_B "ThresholdSeal$Session" 96 m_X_keyExponent 1 := ⟨xw_in wc_X_keyExponent rfl, xw_in wn_X rfl, xw_in wm_X_96 rfl, by decide, by decide, by decide +kernel⟩
theorem b_X_102 : xm_B "ThresholdSeal$Session" 102 m_X_isRight 3 := ⟨xw_in wc_X_isRight rfl, xw_in wn_X rfl, xw_in wm_X_102 rfl, by decide, by decide, by decide +kernel⟩
theorem b_X_117 : xm_B "ThresholdSeal$Session" 117 m_G_mix 2 := ⟨xw_in wc_G_mix rfl, xw_in wn_G rfl, xw_in wm_X_117 rfl, by decide, by decide, by decide +kernel⟩
theorem b_X_120 : xm_B "ThresholdSeal$Session" 120 m_G_finish 1 := ⟨xw_in wc_G_finish rfl, xw_in wn_G rfl, xw_in wm_X_120 rfl, by decide, by decide, by decide +kernel⟩
theorem b_X_124 : xm_B "ThresholdSeal$Session" 124 m_E_power 2 := ⟨xw_in wc_E_power rfl, xw_in wn_E rfl, xw_in wm_X_124 rfl, by decide, by decide, by decide +kernel⟩
theorem b_X_127 : xm_B "ThresholdSeal$Session" 127 m_E_ofNumber 1 := ⟨xw_in wc_E_ofNumber rfl, xw_in wn_E rfl, xw_in wm_X_127 rfl, by decide, by decide, by decide +kernel⟩
theorem e_D_keyOfAll : Cond.selects yD_keyOfAll.cls yD_keyOfAll yD_keyOfAll ∈ xw_tb := xw_in (by decide +kernel) rfl
theorem e_D_make : Cond.selects yD_make.cls yD_make yD_make ∈ xw_tb := xw_in (by decide +kernel) rfl
theorem e_D_valueAt : Cond.selects yD_valueAt.cls yD_valueAt yD_valueAt ∈ xw_tb := xw_in (by decide +kernel) rfl
theorem e_M_allOpen : Cond.selects yM_allOpen.cls yM_allOpen yM_allOpen ∈ xw_tb := xw_in (by decide +kernel) rfl
theorem e_M_begin : Cond.selects yM_begin.cls yM_begin yM_begin ∈ xw_tb := xw_in (by decide +kernel) rfl
theorem e_M_begins : Cond.selects yM_begins.cls yM_begins yM_begins ∈ xw_tb := xw_in (by decide +kernel) rfl
theorem e_M_blamed : Cond.selects yM_blamed.cls yM_blamed yM_blamed ∈ xw_tb := xw_in (by decide +kernel) rfl
theorem e_M_challenge : Cond.selects yM_challenge.cls yM_challenge yM_challenge ∈ xw_tb := xw_in (by decide +kernel) rfl
theorem e_M_challengeOf : Cond.selects yM_challengeOf.cls yM_challengeOf yM_challengeOf ∈ xw_tb := xw_in (by decide +kernel) rfl
theorem e_M_check : Cond.selects yM_check.cls yM_check yM_check ∈ xw_tb := xw_in (by decide +kernel) rfl
theorem e_M_commit : Cond.selects yM_commit.cls yM_commit yM_commit ∈ xw_tb := xw_in (by decide +kernel) rfl
theorem e_M_commitment : Cond.selects yM_commitment.cls yM_commitment yM_commitment ∈ xw_tb := xw_in (by decide +kernel) rfl
theorem e_M_deal : Cond.selects yM_deal.cls yM_deal yM_deal ∈ xw_tb := xw_in (by decide +kernel) rfl
theorem e_M_digest : Cond.selects yM_digest.cls yM_digest yM_digest ∈ xw_tb := xw_in (by decide +kernel) rfl
theorem e_M_factor : Cond.selects yM_factor.cls yM_factor yM_factor ∈ xw_tb := xw_in (by decide +kernel) rfl
theorem e_M_factorOf : Cond.selects yM_factorOf.cls yM_factorOf yM_factorOf ∈ xw_tb := xw_in (by decide +kernel) rfl
theorem e_M_holds : Cond.selects yM_holds.cls yM_holds yM_holds ∈ xw_tb := xw_in (by decide +kernel) rfl
theorem e_M_isMember : Cond.selects yM_isMember.cls yM_isMember yM_isMember ∈ xw_tb := xw_in (by decide +kernel) rfl
theorem e_M_isSealOf : Cond.selects yM_isSealOf.cls yM_isSealOf yM_isSealOf ∈ xw_tb := xw_in (by decide +kernel) rfl
theorem e_M_isSet : Cond.selects yM_isSet.cls yM_isSet yM_isSet ∈ xw_tb := xw_in (by decide +kernel) rfl
theorem e_M_isSigner : Cond.selects yM_isSigner.cls yM_isSigner yM_isSigner ∈ xw_tb := xw_in (by decide +kernel) rfl
theorem e_M_isWhole : Cond.selects yM_isWhole.cls yM_isWhole yM_isWhole ∈ xw_tb := xw_in (by decide +kernel) rfl
theorem e_M_key : Cond.selects yM_key.cls yM_key yM_key ∈ xw_tb := xw_in (by decide +kernel) rfl
theorem e_M_members : Cond.selects yM_members.cls yM_members yM_members ∈ xw_tb := xw_in (by decide +kernel) rfl
theorem e_M_mix : Cond.selects yM_mix.cls yM_mix yM_mix ∈ xw_tb := xw_in (by decide +kernel) rfl
theorem e_M_pairNumber : Cond.selects yM_pairNumber.cls yM_pairNumber yM_pairNumber ∈ xw_tb := xw_in (by decide +kernel) rfl
theorem e_M_recover : Cond.selects yM_recover.cls yM_recover yM_recover ∈ xw_tb := xw_in (by decide +kernel) rfl
theorem e_M_relay : Cond.selects yM_relay.cls yM_relay yM_relay ∈ xw_tb := xw_in (by decide +kernel) rfl
theorem e_M_seal : Cond.selects yM_seal.cls yM_seal yM_seal ∈ xw_tb := xw_in (by decide +kernel) rfl
theorem e_M_secret : Cond.selects yM_secret.cls yM_secret yM_secret ∈ xw_tb := xw_in (by decide +kernel) rfl
theorem e_M_sign : Cond.selects yM_sign.cls yM_sign yM_sign ∈ xw_tb := xw_in (by decide +kernel) rfl
theorem e_M_submit : Cond.selects yM_submit.cls yM_submit yM_submit ∈ xw_tb := xw_in (by decide +kernel) rfl
theorem e_M_sum : Cond.selects yM_sum.cls yM_sum yM_sum ∈ xw_tb := xw_in (by decide +kernel) rfl
theorem e_M_taken : Cond.selects yM_taken.cls yM_taken yM_taken ∈ xw_tb := xw_in (by decide +kernel) rfl
theorem e_M_tell : Cond.selects yM_tell.cls yM_tell yM_tell ∈ xw_tb := xw_in (by decide +kernel) rfl
theorem e_M_thrown : Cond.selects yM_thrown.cls yM_thrown yM_thrown ∈ xw_tb := xw_in (by decide +kernel) rfl
theorem e_M_weight : Cond.selects yM_weight.cls yM_weight yM_weight ∈ xw_tb := xw_in (by decide +kernel) rfl
theorem e_M_weightIn : Cond.selects yM_weightIn.cls yM_weightIn yM_weightIn ∈ xw_tb := xw_in (by decide +kernel) rfl
theorem e_P_areOpen : Cond.selects yP_areOpen.cls yP_areOpen yP_areOpen ∈ xw_tb := xw_in (by decide +kernel) rfl
theorem e_P_drop : Cond.selects yP_drop.cls yP_drop yP_drop ∈ xw_tb := xw_in (by decide +kernel) rfl
theorem e_P_dropAll : Cond.selects yP_dropAll.cls yP_dropAll yP_dropAll ∈ xw_tb := xw_in (by decide +kernel) rfl
theorem e_P_open : Cond.selects yP_open.cls yP_open yP_open ∈ xw_tb := xw_in (by decide +kernel) rfl
theorem e_S_begin : Cond.selects yS_begin.cls yS_begin yS_begin ∈ xw_tb := xw_in (by decide +kernel) rfl
theorem e_S_blamed : Cond.selects yS_blamed.cls yS_blamed yS_blamed ∈ xw_tb := xw_in (by decide +kernel) rfl
theorem e_S_challenge : Cond.selects yS_challenge.cls yS_challenge yS_challenge ∈ xw_tb := xw_in (by decide +kernel) rfl
theorem e_S_check : Cond.selects yS_check.cls yS_check yS_check ∈ xw_tb := xw_in (by decide +kernel) rfl
theorem e_S_commit : Cond.selects yS_commit.cls yS_commit yS_commit ∈ xw_tb := xw_in (by decide +kernel) rfl
theorem e_S_commitment : Cond.selects yS_commitment.cls yS_commitment yS_commitment ∈ xw_tb := xw_in (by decide +kernel) rfl
theorem e_S_deal : Cond.selects yS_deal.cls yS_deal yS_deal ∈ xw_tb := xw_in (by decide +kernel) rfl
theorem e_S_factor : Cond.selects yS_factor.cls yS_factor yS_factor ∈ xw_tb := xw_in (by decide +kernel) rfl
theorem e_S_holds : Cond.selects yS_holds.cls yS_holds yS_holds ∈ xw_tb := xw_in (by decide +kernel) rfl
theorem e_S_isMember : Cond.selects yS_isMember.cls yS_isMember yS_isMember ∈ xw_tb := xw_in (by decide +kernel) rfl
theorem e_S_isSigner : Cond.selects yS_isSigner.cls yS_isSigner yS_isSigner ∈ xw_tb := xw_in (by decide +kernel) rfl
theorem e_S_key : Cond.selects yS_key.cls yS_key yS_key ∈ xw_tb := xw_in (by decide +kernel) rfl
theorem e_S_members : Cond.selects yS_members.cls yS_members yS_members ∈ xw_tb := xw_in (by decide +kernel) rfl
theorem e_S_recover : Cond.selects yS_recover.cls yS_recover yS_recover ∈ xw_tb := xw_in (by decide +kernel) rfl
theorem e_S_relay : Cond.selects yS_relay.cls yS_relay yS_relay ∈ xw_tb := xw_in (by decide +kernel) rfl
theorem e_S_requireDealt : Cond.selects yS_requireDealt.cls yS_requireDealt yS_requireDealt ∈ xw_tb := xw_in (by decide +kernel) rfl
theorem e_S_requireEnough : Cond.selects yS_requireEnough.cls yS_requireEnough yS_requireEnough ∈ xw_tb := xw_in (by decide +kernel) rfl
theorem e_S_requireNumber : Cond.selects yS_requireNumber.cls yS_requireNumber yS_requireNumber ∈ xw_tb := xw_in (by decide +kernel) rfl
theorem e_S_requireSealed : Cond.selects yS_requireSealed.cls yS_requireSealed yS_requireSealed ∈ xw_tb := xw_in (by decide +kernel) rfl
theorem e_S_requireSigner : Cond.selects yS_requireSigner.cls yS_requireSigner yS_requireSigner ∈ xw_tb := xw_in (by decide +kernel) rfl
theorem e_S_requireUntaken : Cond.selects yS_requireUntaken.cls yS_requireUntaken yS_requireUntaken ∈ xw_tb := xw_in (by decide +kernel) rfl
theorem e_S_seal : Cond.selects yS_seal.cls yS_seal yS_seal ∈ xw_tb := xw_in (by decide +kernel) rfl
theorem e_S_sealHolds : Cond.selects yS_sealHolds.cls yS_sealHolds yS_sealHolds ∈ xw_tb := xw_in (by decide +kernel) rfl
theorem e_S_secret : Cond.selects yS_secret.cls yS_secret yS_secret ∈ xw_tb := xw_in (by decide +kernel) rfl
theorem e_S_sign : Cond.selects yS_sign.cls yS_sign yS_sign ∈ xw_tb := xw_in (by decide +kernel) rfl
theorem e_S_submit : Cond.selects yS_submit.cls yS_submit yS_submit ∈ xw_tb := xw_in (by decide +kernel) rfl
theorem e_S_taken : Cond.selects yS_taken.cls yS_taken yS_taken ∈ xw_tb := xw_in (by decide +kernel) rfl
theorem e_S_weight : Cond.selects yS_weight.cls yS_weight yS_weight ∈ xw_tb := xw_in (by decide +kernel) rfl
theorem e_X_end : Cond.selects yX_end.cls yX_end yX_end ∈ xw_tb := xw_in (by decide +kernel) rfl
theorem e_X_factorFor : Cond.selects yX_factorFor.cls yX_factorFor yX_factorFor ∈ xw_tb := xw_in (by decide +kernel) rfl
theorem e_X_isOn : Cond.selects yX_isOn.cls yX_isOn yX_isOn ∈ xw_tb := xw_in (by decide +kernel) rfl
theorem e_X_isRight : Cond.selects yX_isRight.cls yX_isRight yX_isRight ∈ xw_tb := xw_in (by decide +kernel) rfl
theorem e_X_keyExponent : Cond.selects yX_keyExponent.cls yX_keyExponent yX_keyExponent ∈ xw_tb := xw_in (by decide +kernel) rfl
theorem e_X_losePair : Cond.selects yX_losePair.cls yX_losePair yX_losePair ∈ xw_tb := xw_in (by decide +kernel) rfl
theorem e_X_makeShare : Cond.selects yX_makeShare.cls yX_makeShare yX_makeShare ∈ xw_tb := xw_in (by decide +kernel) rfl
theorem e_X_reset : Cond.selects yX_reset.cls yX_reset yX_reset ∈ xw_tb := xw_in (by decide +kernel) rfl
theorem e_X_start : Cond.selects yX_start.cls yX_start yX_start ∈ xw_tb := xw_in (by decide +kernel) rfl
theorem e_X_tell : Cond.selects yX_tell.cls yX_tell yX_tell ∈ xw_tb := xw_in (by decide +kernel) rfl
theorem e_X_toldPart : Cond.selects yX_toldPart.cls yX_toldPart yX_toldPart ∈ xw_tb := xw_in (by decide +kernel) rfl
end
section
/-! leaves: numbers, elements, digests, sets of signers -/
def xb (P : Prop) [Decidable P] : Int32 := if P then 1 else 0
theorem xb_t {P : Prop} [Decidable P] (h : P) : xb P = 1 := if_pos h
theorem xb_f {P : Prop} [Decidable P] (h : ¬ P) : xb P = 0 := if_neg h
theorem xb_eq0 {P : Prop} [Decidable P] : xb P = 0 ↔ ¬ P := by unfold xb; by_cases h : P <;> simp [h]
theorem xb_nar (P : Prop) [Decidable P] : narrow .boolean (.int (xb P)) = .int (xb P) := by unfold xb; by_cases h : P <;> simp [h] <;> decide
/-- a digest: one long more -/
def dg_m (h x : Int64) : Int64 := ((h ^^^ x) * (-7046029254386353131)) ^^^ (((h ^^^ x) * (-7046029254386353131)).toUInt64 >>> ((nI 31).toInt64.toUInt64 &&& Int64.toUInt64 63)).toInt64
def dg_f (h : Int64) : Nat := h.toBitVec.toNat / 2 % 1073741789
theorem dg_fin (h : Int64) : (h.toUInt64 >>> ((nI 1).toInt64.toUInt64 &&& Int64.toUInt64 63)).toInt64 - (h.toUInt64 >>> ((nI 1).toInt64.toUInt64 &&& Int64.toUInt64 63)).toInt64 / 1073741789 * 1073741789 = lN (dg_f h) := by
  obtain ⟨n, hn, rfl⟩ := wb_of h
  rw [wb_shr (k := 1) hn (by decide), tq_rem (by omega)]
  unfold dg_f
  rw [wb_tn hn]
theorem dg_f_lt (h : Int64) : dg_f h < 1073741789 := Nat.mod_lt _ (by decide)
set_option maxHeartbeats 4000000 in
set_option maxRecDepth 100000 in
theorem p_N_times (g : xw_G) (l : Launch) {a b : Nat} (ha : a < 2 ^ 31) (hb : b < 2 ^ 31) (hp : List va_E) : xm_R g l true m_N_times [.long (lN a), .long (lN b)] hp (some (.long (lN (a * b % 1073741789)))) hp := by
  refine xm_of [some (.long (lN a)), none, some (.long (lN b)), none] rfl (Nat.le_of_ble_eq_true rfl) rfl ?_
  intro p e s m args below meth c C hr hk
  refine xa_lload_n C dN_times_0 rfl ?_
  refine xa_lload_n C dN_times_1 rfl ?_
  refine xa_lmul C dN_times_2 ?_
  refine xa_ldc2 C (xw_in wk_N_9 rfl) dN_times_3 ?_
  refine xa_lrem C dN_times_6 (by decide) ?_
  rw [tq_mul ha hb]; exact xa_lret C hr hk dN_times_7
set_option maxHeartbeats 4000000 in
set_option maxRecDepth 100000 in
theorem p_N_plus (g : xw_G) (l : Launch) {a b : Nat} (ha : a < 2 ^ 31) (hb : b < 2 ^ 31) (hp : List va_E) : xm_R g l true m_N_plus [.long (lN a), .long (lN b)] hp (some (.long (lN ((a + b) % 1073741789)))) hp := by
  refine xm_of [some (.long (lN a)), none, some (.long (lN b)), none] rfl (Nat.le_of_ble_eq_true rfl) rfl ?_
  intro p e s m args below meth c C hr hk
  refine xa_lload_n C dN_plus_0 rfl ?_
  refine xa_lload_n C dN_plus_1 rfl ?_
  refine xa_ladd C dN_plus_2 ?_
  refine xa_ldc2 C (xw_in wk_N_9 rfl) dN_plus_3 ?_
  refine xa_lrem C dN_plus_6 (by decide) ?_
  rw [tq_add (a := a) (b := b) (by omega) (by omega)]; exact xa_lret C hr hk dN_plus_7
set_option maxHeartbeats 4000000 in
set_option maxRecDepth 100000 in
theorem p_N_minus (g : xw_G) (l : Launch) {a b : Nat} (ha : a < 2 ^ 31) (hb : b ≤ 1073741789) (hp : List va_E) : xm_R g l true m_N_minus [.long (lN a), .long (lN b)] hp (some (.long (lN ((a + 1073741789 - b) % 1073741789)))) hp := by
  refine xm_of [some (.long (lN a)), none, some (.long (lN b)), none] rfl (Nat.le_of_ble_eq_true rfl) rfl ?_
  intro p e s m args below meth c C hr hk
  refine xa_lload_n C dN_minus_0 rfl ?_
  refine xa_ldc2 C (xw_in wk_N_9 rfl) dN_minus_1 ?_
  refine xa_ladd C dN_minus_4 ?_
  refine xa_lload_n C dN_minus_5 rfl ?_
  refine xa_lsub C dN_minus_6 ?_
  refine xa_ldc2 C (xw_in wk_N_9 rfl) dN_minus_7 ?_
  refine xa_lrem C dN_minus_10 (by decide) ?_
  rw [show (1073741789 : Int64) = lN 1073741789 from rfl, lN_add, lN_sub (a := a + 1073741789) (b := b) (by omega), pk_lRem (a := a + 1073741789 - b) (b := 1073741789) (by omega) (by decide) (by decide)]; exact xa_lret C hr hk dN_minus_11
set_option maxHeartbeats 4000000 in
set_option maxRecDepth 100000 in
theorem p_E_times (g : xw_G) (l : Launch) {a b : Nat} (ha : a < 2 ^ 31) (hb : b < 2 ^ 31) (hp : List va_E) : xm_R g l true m_E_times [.long (lN a), .long (lN b)] hp (some (.long (lN (a * b % 2147483579)))) hp := by
  refine xm_of [some (.long (lN a)), none, some (.long (lN b)), none] rfl (Nat.le_of_ble_eq_true rfl) rfl ?_
  intro p e s m args below meth c C hr hk
  refine xa_lload_n C dE_times_0 rfl ?_
  refine xa_lload_n C dE_times_1 rfl ?_
  refine xa_lmul C dE_times_2 ?_
  refine xa_ldc2 C (xw_in wk_E_9 rfl) dE_times_3 ?_
  refine xa_lrem C dE_times_6 (by decide) ?_
  rw [tp_mul ha hb]; exact xa_lret C hr hk dE_times_7
set_option maxHeartbeats 4000000 in
set_option maxRecDepth 100000 in
theorem p_G_mix (g : xw_G) (l : Launch) (x y : Int64) (hp : List va_E) : xm_R g l true m_G_mix [.long x, .long y] hp (some (.long (dg_m x y))) hp := by
  refine xm_of [some (.long x), none, some (.long y), none, none, none] rfl (Nat.le_of_ble_eq_true rfl) rfl ?_
  intro p e s m args below meth c C hr hk
  refine xa_lload_n C dG_mix_0 rfl ?_
  refine xa_lload_n C dG_mix_1 rfl ?_
  refine xa_lxor C dG_mix_2 ?_
  refine xa_ldc2 C (xw_in wk_G_9 rfl) dG_mix_3 ?_
  refine xa_lmul C dG_mix_6 ?_
  refine xa_lstore C dG_mix_7 (Nat.le_of_ble_eq_true rfl) ?_
  refine xa_lload C dG_mix_9 rfl ?_
  refine xa_lload C dG_mix_11 rfl ?_
  refine xa_bpN C 31 dG_mix_13 (by decide) ?_
  refine xa_lushr C dG_mix_15 ?_
  refine xa_lxor C dG_mix_16 ?_
  exact xa_lret C hr hk dG_mix_17
set_option maxHeartbeats 4000000 in
set_option maxRecDepth 100000 in
theorem p_G_finish (g : xw_G) (l : Launch) (x : Int64) (hp : List va_E) : xm_R g l true m_G_finish [.long x] hp (some (.long (lN (dg_f x)))) hp := by
  refine xm_of [some (.long x), none] rfl (Nat.le_of_ble_eq_true rfl) rfl ?_
  intro p e s m args below meth c C hr hk
  refine xa_lload_n C dG_finish_0 rfl ?_
  refine xa_icN C 1 dG_finish_1 ?_
  refine xa_lushr C dG_finish_2 ?_
  refine xa_ldc2 C (xw_in wk_G_13 rfl) dG_finish_3 ?_
  refine xa_lrem C dG_finish_6 (by decide) ?_
  rw [dg_fin]; exact xa_lret C hr hk dG_finish_7
set_option maxHeartbeats 4000000 in
set_option maxRecDepth 100000 in
theorem p_G_ofThree (g : xw_G) (l : Launch) (x y z : Int64) (hp : List va_E) : xm_R g l true m_G_ofThree [.long x, .long y, .long z] hp (some (.long (lN (dg_f (dg_m (dg_m (dg_m 0 x) y) z))))) hp := by
  refine xm_of [some (.long x), none, some (.long y), none, some (.long z), none] rfl (Nat.le_of_ble_eq_true rfl) rfl ?_
  intro p e s m args below meth c C hr hk
  refine xa_lcN C 0 dG_ofThree_0 ?_
  refine xa_lload_n C dG_ofThree_1 rfl ?_
  refine xa_callS1 C (p_G_mix g l _ _ _) b_G_15 (xw_in wt_G_mix rfl) dG_ofThree_2 rfl (Nat.le_of_ble_eq_true rfl) ⟨Nat.le_of_ble_eq_true rfl, Nat.le_of_ble_eq_true rfl⟩ ⟨Nat.zero_le _, Nat.zero_le _⟩ ?_
  refine xa_lload_n C dG_ofThree_5 rfl ?_
  refine xa_callS1 C (p_G_mix g l _ _ _) b_G_15 (xw_in wt_G_mix rfl) dG_ofThree_6 rfl (Nat.le_of_ble_eq_true rfl) ⟨Nat.le_of_ble_eq_true rfl, Nat.le_of_ble_eq_true rfl⟩ ⟨Nat.zero_le _, Nat.zero_le _⟩ ?_
  refine xa_lload C dG_ofThree_9 rfl ?_
  refine xa_callS1 C (p_G_mix g l _ _ _) b_G_15 (xw_in wt_G_mix rfl) dG_ofThree_11 rfl (Nat.le_of_ble_eq_true rfl) ⟨Nat.le_of_ble_eq_true rfl, Nat.le_of_ble_eq_true rfl⟩ ⟨Nat.zero_le _, Nat.zero_le _⟩ ?_
  refine xa_callS1 C (p_G_finish g l _ _) b_G_19 (xw_in wt_G_finish rfl) dG_ofThree_14 rfl (Nat.le_of_ble_eq_true rfl) ⟨Nat.le_of_ble_eq_true rfl, Nat.le_of_ble_eq_true rfl⟩ ⟨Nat.zero_le _, Nat.zero_le _⟩ ?_
  exact xa_lret C hr hk dG_ofThree_17
set_option maxHeartbeats 4000000 in
set_option maxRecDepth 100000 in
theorem p_G_ofSeal (g : xw_G) (l : Launch) (x y z : Int64) (hp : List va_E) : xm_R g l true m_G_ofSeal [.long x, .long y, .long z] hp (some (.long (lN (dg_f (dg_m (dg_m (dg_m (dg_m 0 5) x) y) z))))) hp := by
  refine xm_of [some (.long x), none, some (.long y), none, some (.long z), none] rfl (Nat.le_of_ble_eq_true rfl) rfl ?_
  intro p e s m args below meth c C hr hk
  refine xa_lcN C 0 dG_ofSeal_0 ?_
  refine xa_ldc2 C (xw_in wk_G_23 rfl) dG_ofSeal_1 ?_
  refine xa_callS1 C (p_G_mix g l _ _ _) b_G_15 (xw_in wt_G_mix rfl) dG_ofSeal_4 rfl (Nat.le_of_ble_eq_true rfl) ⟨Nat.le_of_ble_eq_true rfl, Nat.le_of_ble_eq_true rfl⟩ ⟨Nat.zero_le _, Nat.zero_le _⟩ ?_
  refine xa_lload_n C dG_ofSeal_7 rfl ?_
  refine xa_callS1 C (p_G_mix g l _ _ _) b_G_15 (xw_in wt_G_mix rfl) dG_ofSeal_8 rfl (Nat.le_of_ble_eq_true rfl) ⟨Nat.le_of_ble_eq_true rfl, Nat.le_of_ble_eq_true rfl⟩ ⟨Nat.zero_le _, Nat.zero_le _⟩ ?_
  refine xa_lload_n C dG_ofSeal_11 rfl ?_
  refine xa_callS1 C (p_G_mix g l _ _ _) b_G_15 (xw_in wt_G_mix rfl) dG_ofSeal_12 rfl (Nat.le_of_ble_eq_true rfl) ⟨Nat.le_of_ble_eq_true rfl, Nat.le_of_ble_eq_true rfl⟩ ⟨Nat.zero_le _, Nat.zero_le _⟩ ?_
  refine xa_lload C dG_ofSeal_15 rfl ?_
  refine xa_callS1 C (p_G_mix g l _ _ _) b_G_15 (xw_in wt_G_mix rfl) dG_ofSeal_17 rfl (Nat.le_of_ble_eq_true rfl) ⟨Nat.le_of_ble_eq_true rfl, Nat.le_of_ble_eq_true rfl⟩ ⟨Nat.zero_le _, Nat.zero_le _⟩ ?_
  refine xa_callS1 C (p_G_finish g l _ _) b_G_19 (xw_in wt_G_finish rfl) dG_ofSeal_20 rfl (Nat.le_of_ble_eq_true rfl) ⟨Nat.le_of_ble_eq_true rfl, Nat.le_of_ble_eq_true rfl⟩ ⟨Nat.zero_le _, Nat.zero_le _⟩ ?_
  exact xa_lret C hr hk dG_ofSeal_23
set_option maxHeartbeats 4000000 in
set_option maxRecDepth 100000 in
theorem p_I_only (g : xw_G) (l : Launch) (i : Int32) (hp : List va_E) : xm_R g l true m_I_only [.int i] hp (some (.int (nI 1 <<< ((i - nI 1) &&& 31)))) hp := by
  refine xm_of [some (.int i)] rfl (Nat.le_of_ble_eq_true rfl) rfl ?_
  intro p e s m args below meth c C hr hk
  refine xa_icN C 1 dI_only_0 ?_
  refine xa_iload_n C dI_only_1 rfl ?_
  refine xa_icN C 1 dI_only_2 ?_
  refine xa_isub C dI_only_3 ?_
  refine xa_ishl C dI_only_4 ?_
  exact xa_iret C hr hk dI_only_5
set_option maxHeartbeats 4000000 in
set_option maxRecDepth 100000 in
theorem p_N_isNumber (g : xw_G) (l : Launch) (x : Int64) (hp : List va_E) : xm_R g l true m_N_isNumber [.long x] hp (some (.int (xb (0 ≤ x ∧ x < 1073741789)))) hp := by
  refine xm_of [some (.long x), none] rfl (Nat.le_of_ble_eq_true rfl) rfl ?_
  intro p e s m args below meth c C hr hk
  refine xa_lload_n C dN_isNumber_0 rfl ?_
  refine xa_lcN C 0 dN_isNumber_1 ?_
  refine xa_lcmp C dN_isNumber_2 ?_
  refine xa_if_lt C dN_isNumber_3 (tgt := 18) rfl (fun h3 => ?_) (fun h3 => ?_)
  · refine xa_icN C 0 dN_isNumber_18 ?_
    exact xa_eq rfl (congrArg (fun z => [Value.int z]) (xb_f (P := 0 ≤ x ∧ x < 1073741789) (by simp only [lg_cmp_lt, lg_cmp_ge, Int64.not_lt, Int64.not_le] at *; intro q; first | exact absurd q.1 (Int64.not_le.mpr (by assumption)) | exact absurd q.2 (Int64.not_lt.mpr (by assumption)))).symm) rfl (xa_zret C hr hk (xb_nar _) dN_isNumber_19)
  · refine xa_lload_n C dN_isNumber_6 rfl ?_
    refine xa_ldc2 C (xw_in wk_N_9 rfl) dN_isNumber_7 ?_
    refine xa_lcmp C dN_isNumber_10 ?_
    refine xa_if_ge C dN_isNumber_11 (tgt := 18) rfl (fun h11 => ?_) (fun h11 => ?_)
    · refine xa_icN C 0 dN_isNumber_18 ?_
      exact xa_eq rfl (congrArg (fun z => [Value.int z]) (xb_f (P := 0 ≤ x ∧ x < 1073741789) (by simp only [lg_cmp_lt, lg_cmp_ge, Int64.not_lt, Int64.not_le] at *; intro q; first | exact absurd q.1 (Int64.not_le.mpr (by assumption)) | exact absurd q.2 (Int64.not_lt.mpr (by assumption)))).symm) rfl (xa_zret C hr hk (xb_nar _) dN_isNumber_19)
    · refine xa_icN C 1 dN_isNumber_14 ?_
      refine xa_goto C dN_isNumber_15 (tgt := 19) rfl ?_
      exact xa_eq rfl (congrArg (fun z => [Value.int z]) (xb_t (P := 0 ≤ x ∧ x < 1073741789) (by simp only [lg_cmp_lt, lg_cmp_ge, Int64.not_lt, Int64.not_le] at *; exact ⟨by assumption, by assumption⟩)).symm) rfl (xa_zret C hr hk (xb_nar _) dN_isNumber_19)
set_option maxHeartbeats 4000000 in
set_option maxRecDepth 100000 in
theorem p_E_isElement (g : xw_G) (l : Launch) (x : Int64) (hp : List va_E) : xm_R g l true m_E_isElement [.long x] hp (some (.int (xb (1 ≤ x ∧ x < 2147483579)))) hp := by
  refine xm_of [some (.long x), none] rfl (Nat.le_of_ble_eq_true rfl) rfl ?_
  intro p e s m args below meth c C hr hk
  refine xa_lload_n C dE_isElement_0 rfl ?_
  refine xa_lcN C 1 dE_isElement_1 ?_
  refine xa_lcmp C dE_isElement_2 ?_
  refine xa_if_lt C dE_isElement_3 (tgt := 18) rfl (fun h3 => ?_) (fun h3 => ?_)
  · refine xa_icN C 0 dE_isElement_18 ?_
    exact xa_eq rfl (congrArg (fun z => [Value.int z]) (xb_f (P := 1 ≤ x ∧ x < 2147483579) (by simp only [lg_cmp_lt, lg_cmp_ge, Int64.not_lt, Int64.not_le] at *; intro q; first | exact absurd q.1 (Int64.not_le.mpr (by assumption)) | exact absurd q.2 (Int64.not_lt.mpr (by assumption)))).symm) rfl (xa_zret C hr hk (xb_nar _) dE_isElement_19)
  · refine xa_lload_n C dE_isElement_6 rfl ?_
    refine xa_ldc2 C (xw_in wk_E_9 rfl) dE_isElement_7 ?_
    refine xa_lcmp C dE_isElement_10 ?_
    refine xa_if_ge C dE_isElement_11 (tgt := 18) rfl (fun h11 => ?_) (fun h11 => ?_)
    · refine xa_icN C 0 dE_isElement_18 ?_
      exact xa_eq rfl (congrArg (fun z => [Value.int z]) (xb_f (P := 1 ≤ x ∧ x < 2147483579) (by simp only [lg_cmp_lt, lg_cmp_ge, Int64.not_lt, Int64.not_le] at *; intro q; first | exact absurd q.1 (Int64.not_le.mpr (by assumption)) | exact absurd q.2 (Int64.not_lt.mpr (by assumption)))).symm) rfl (xa_zret C hr hk (xb_nar _) dE_isElement_19)
    · refine xa_icN C 1 dE_isElement_14 ?_
      refine xa_goto C dE_isElement_15 (tgt := 19) rfl ?_
      exact xa_eq rfl (congrArg (fun z => [Value.int z]) (xb_t (P := 1 ≤ x ∧ x < 2147483579) (by simp only [lg_cmp_lt, lg_cmp_ge, Int64.not_lt, Int64.not_le] at *; exact ⟨by assumption, by assumption⟩)).symm) rfl (xa_zret C hr hk (xb_nar _) dE_isElement_19)
set_option maxHeartbeats 4000000 in
set_option maxRecDepth 100000 in
theorem p_I_has (g : xw_G) (l : Launch) (x i : Int32) (hp : List va_E) : xm_R g l true m_I_has [.int x, .int i] hp (some (.int (xb (¬ x &&& (nI 1 <<< ((i - nI 1) &&& 31)) = 0)))) hp := by
  refine xm_of [some (.int x), some (.int i)] rfl (Nat.le_of_ble_eq_true rfl) rfl ?_
  intro p e s m args below meth c C hr hk
  refine xa_iload_n C dI_has_0 rfl ?_
  refine xa_iload_n C dI_has_1 rfl ?_
  refine xa_callS1 C (p_I_only g l _ _) b_I_7 (xw_in wt_I_only rfl) dI_has_2 rfl (Nat.le_of_ble_eq_true rfl) ⟨Nat.le_of_ble_eq_true rfl, Nat.le_of_ble_eq_true rfl⟩ ⟨Nat.zero_le _, Nat.zero_le _⟩ ?_
  refine xa_iand C dI_has_5 ?_
  refine xa_if_eq C dI_has_6 (tgt := 13) rfl (fun h6 => ?_) (fun h6 => ?_)
  · refine xa_icN C 0 dI_has_13 ?_
    exact xa_eq rfl (congrArg (fun z => [Value.int z]) (xb_f (P := ¬ x &&& (nI 1 <<< ((i - nI 1) &&& 31)) = 0) (fun q => q h6)).symm) rfl (xa_zret C hr hk (xb_nar _) dI_has_14)
  · refine xa_icN C 1 dI_has_9 ?_
    refine xa_goto C dI_has_10 (tgt := 14) rfl ?_
    exact xa_eq rfl (congrArg (fun z => [Value.int z]) (xb_t (P := ¬ x &&& (nI 1 <<< ((i - nI 1) &&& 31)) = 0) (h6)).symm) rfl (xa_zret C hr hk (xb_nar _) dI_has_14)
end
section
/-! the two powers of the class -/
theorem xi_m1 (x : Int32) : x + Int32.ofInt (-1) = x - 1 := by rw [Int32.sub_eq_add_neg]; rfl
set_option maxHeartbeats 4000000 in
set_option maxRecDepth 100000 in
theorem p_E_power (g : xw_G) (l : Launch) {x n : Nat} (hx : x < 2 ^ 31) (hn : n < 2 ^ 30) (hp : List va_E) : xm_R g l true m_E_power [.long (lN x), .long (lN n)] hp (some (.long (lN (x ^ n % 2147483579)))) hp := by
  refine xm_of [some (.long (lN x)), none, some (.long (lN n)), none, none, none, none] rfl (Nat.le_of_ble_eq_true rfl) rfl ?_
  intro p e s m args below meth c C hr hk
  have loop : ∀ k : Nat, k ≤ 30 → xw_At g true 7 p l e (xm_rm m_E_power 0) s m args below meth c 0 0 (MQ below (xm_Q g true (some (.long (lN (x ^ n % 2147483579)))) hp) args s 0 0 (xm_fr g true)) 7 [some (.long (lN x)), none, some (.long (lN n)), none, some (.long (lN (x ^ (n / 2 ^ k) % 2147483579))), none, some (.int (nI k - 1))] [] hp := by
    intro k
    induction k with
    | zero =>
      intro _
      refine xa_iload C dE_power_7 rfl ?_
      refine xa_if_lt C dE_power_9 (tgt := 46) rfl (fun h9 => ?_) (fun h9 => ?_)
      · refine xa_lload C dE_power_46 rfl ?_
        rw [Nat.pow_zero, Nat.div_one]
        exact xa_lret C hr hk dE_power_48
      · exact absurd (by decide) h9
    | succ k ih =>
      intro hk30
      rw [nI_pred k]
      refine xa_iload C dE_power_7 rfl ?_
      refine xa_if_lt C dE_power_9 (tgt := 46) rfl (fun h9 => ?_) (fun h9 => ?_)
      · exact absurd h9 (nI_pos (by omega))
      · refine xa_lload C dE_power_12 rfl ?_
        refine xa_lload C dE_power_14 rfl ?_
        refine xa_callS1 C (p_E_times g l (tb_p _) (by first | exact tb_p _ | exact hx) hp) b_E_13 (xw_in wt_E_times rfl) dE_power_16 rfl (Nat.le_of_ble_eq_true rfl) ⟨Nat.le_of_ble_eq_true rfl, Nat.le_of_ble_eq_true rfl⟩ ⟨Nat.zero_le _, Nat.zero_le _⟩ ?_
        refine xa_lstore C dE_power_19 (Nat.le_of_ble_eq_true rfl) ?_
        refine xa_lload_n C dE_power_21 rfl ?_
        refine xa_iload C dE_power_22 rfl ?_
        refine xa_lshr C dE_power_24 ?_
        refine xa_lcN C 1 dE_power_25 ?_
        refine xa_land C dE_power_26 ?_
        rw [show (lN ((1 : Fin 2) : Nat)) = 1 from rfl, tb_bit (e := n) (k := k) (by omega) (by omega)]
        refine xa_lcN C 1 dE_power_27 ?_
        refine xa_lcmp C dE_power_28 ?_
        refine xa_if_ne C dE_power_29 (tgt := 40) rfl (fun h29 => ?_) (fun h29 => ?_)
        · have hb : n / 2 ^ k % 2 = 0 := by
            rcases Nat.mod_two_eq_zero_or_one (n / 2 ^ k) with h | h
            · exact h
            · rw [h] at h29; exact absurd ((lg_cmp_eq _ _).mpr rfl) h29
          rw [tm_st0 hb]
          refine xa_iinc C dE_power_40 rfl (Nat.le_of_ble_eq_true rfl) ?_
          refine xa_goto C dE_power_43 (tgt := 7) rfl ?_
          rw [xi_m1]
          exact ih (by omega)
        · have hb : n / 2 ^ k % 2 = 1 := by
            rcases Nat.mod_two_eq_zero_or_one (n / 2 ^ k) with h | h
            · rw [h] at h29; exact absurd ((lg_cmp_eq _ _).mp h29) (by decide)
            · exact h
          refine xa_lload C dE_power_32 rfl ?_
          refine xa_lload_n C dE_power_34 rfl ?_
          refine xa_callS1 C (p_E_times g l (tb_p _) (by first | exact tb_p _ | exact hx) hp) b_E_13 (xw_in wt_E_times rfl) dE_power_35 rfl (Nat.le_of_ble_eq_true rfl) ⟨Nat.le_of_ble_eq_true rfl, Nat.le_of_ble_eq_true rfl⟩ ⟨Nat.zero_le _, Nat.zero_le _⟩ ?_
          rw [tm_st1 hb]
          refine xa_lstore C dE_power_38 (Nat.le_of_ble_eq_true rfl) ?_
          refine xa_iinc C dE_power_40 rfl (Nat.le_of_ble_eq_true rfl) ?_
          refine xa_goto C dE_power_43 (tgt := 7) rfl ?_
          rw [xi_m1]
          exact ih (by omega)
  refine xa_lcN C 1 dE_power_0 ?_
  refine xa_lstore C dE_power_1 (Nat.le_of_ble_eq_true rfl) ?_
  refine xa_bpN C 29 dE_power_3 (by decide) ?_
  refine xa_istore C dE_power_5 (Nat.le_of_ble_eq_true rfl) ?_
  have h := loop 30 (Nat.le_refl _)
  rw [tm_top hn, show nI 30 - 1 = nI 29 from nI_pred 29] at h
  exact h

set_option maxHeartbeats 4000000 in
set_option maxRecDepth 100000 in
theorem p_N_inverse (g : xw_G) (l : Launch) {x : Nat} (hx : x < 2 ^ 31) (hp : List va_E) : xm_R g l true m_N_inverse [.long (lN x)] hp (some (.long (lN (x ^ 1073741787 % 1073741789)))) hp := by
  refine xm_of [some (.long (lN x)), none, none, none, none] rfl (Nat.le_of_ble_eq_true rfl) rfl ?_
  intro p e s m args below meth c C hr hk
  have loop : ∀ k : Nat, k ≤ 30 → xw_At g true 5 p l e (xm_rm m_N_inverse 0) s m args below meth c 0 0 (MQ below (xm_Q g true (some (.long (lN (x ^ 1073741787 % 1073741789)))) hp) args s 0 0 (xm_fr g true)) 6 [some (.long (lN x)), none, some (.long (lN (x ^ (1073741787 / 2 ^ k) % 1073741789))), none, some (.int (nI k - 1))] [] hp := by
    intro k
    induction k with
    | zero =>
      intro _
      refine xa_iload C dN_inverse_6 rfl ?_
      refine xa_if_lt C dN_inverse_8 (tgt := 42) rfl (fun h8 => ?_) (fun h8 => ?_)
      · refine xa_lload_n C dN_inverse_42 rfl ?_
        rw [Nat.pow_zero, Nat.div_one]
        exact xa_lret C hr hk dN_inverse_43
      · exact absurd (by decide) h8
    | succ k ih =>
      intro hk30
      rw [nI_pred k]
      refine xa_iload C dN_inverse_6 rfl ?_
      refine xa_if_lt C dN_inverse_8 (tgt := 42) rfl (fun h8 => ?_) (fun h8 => ?_)
      · exact absurd h8 (nI_pos (by omega))
      · refine xa_lload_n C dN_inverse_11 rfl ?_
        refine xa_lload_n C dN_inverse_12 rfl ?_
        refine xa_callS1 C (p_N_times g l (tb_q _) (by first | exact tb_q _ | exact hx) hp) b_N_11 (xw_in wt_N_times rfl) dN_inverse_13 rfl (Nat.le_of_ble_eq_true rfl) ⟨Nat.le_of_ble_eq_true rfl, Nat.le_of_ble_eq_true rfl⟩ ⟨Nat.zero_le _, Nat.zero_le _⟩ ?_
        refine xa_lstore_n C dN_inverse_16 (Nat.le_of_ble_eq_true rfl) ?_
        refine xa_ldc2 C (xw_in wk_N_15 rfl) dN_inverse_17 ?_
        refine xa_iload C dN_inverse_20 rfl ?_
        refine xa_lshr C dN_inverse_22 ?_
        refine xa_lcN C 1 dN_inverse_23 ?_
        refine xa_land C dN_inverse_24 ?_
        rw [show (1073741787 : Int64) = lN 1073741787 from rfl]
        rw [show (lN ((1 : Fin 2) : Nat)) = 1 from rfl, tb_bit (e := 1073741787) (k := k) (by omega) (by omega)]
        refine xa_lcN C 1 dN_inverse_25 ?_
        refine xa_lcmp C dN_inverse_26 ?_
        refine xa_if_ne C dN_inverse_27 (tgt := 36) rfl (fun h27 => ?_) (fun h27 => ?_)
        · have hb : 1073741787 / 2 ^ k % 2 = 0 := by
            rcases Nat.mod_two_eq_zero_or_one (1073741787 / 2 ^ k) with h | h
            · exact h
            · rw [h] at h27; exact absurd ((lg_cmp_eq _ _).mpr rfl) h27
          rw [tm_st0 hb]
          refine xa_iinc C dN_inverse_36 rfl (Nat.le_of_ble_eq_true rfl) ?_
          refine xa_goto C dN_inverse_39 (tgt := 6) rfl ?_
          rw [xi_m1]
          exact ih (by omega)
        · have hb : 1073741787 / 2 ^ k % 2 = 1 := by
            rcases Nat.mod_two_eq_zero_or_one (1073741787 / 2 ^ k) with h | h
            · rw [h] at h27; exact absurd ((lg_cmp_eq _ _).mp h27) (by decide)
            · exact h
          refine xa_lload_n C dN_inverse_30 rfl ?_
          refine xa_lload_n C dN_inverse_31 rfl ?_
          refine xa_callS1 C (p_N_times g l (tb_q _) (by first | exact tb_q _ | exact hx) hp) b_N_11 (xw_in wt_N_times rfl) dN_inverse_32 rfl (Nat.le_of_ble_eq_true rfl) ⟨Nat.le_of_ble_eq_true rfl, Nat.le_of_ble_eq_true rfl⟩ ⟨Nat.zero_le _, Nat.zero_le _⟩ ?_
          rw [tm_st1 hb]
          refine xa_lstore_n C dN_inverse_35 (Nat.le_of_ble_eq_true rfl) ?_
          refine xa_iinc C dN_inverse_36 rfl (Nat.le_of_ble_eq_true rfl) ?_
          refine xa_goto C dN_inverse_39 (tgt := 6) rfl ?_
          rw [xi_m1]
          exact ih (by omega)
  refine xa_lcN C 1 dN_inverse_0 ?_
  refine xa_lstore_n C dN_inverse_1 (Nat.le_of_ble_eq_true rfl) ?_
  refine xa_bpN C 29 dN_inverse_2 (by decide) ?_
  refine xa_istore C dN_inverse_4 (Nat.le_of_ble_eq_true rfl) ?_
  have h := loop 30 (Nat.le_refl _)
  rw [tm_top (by decide), show nI 30 - 1 = nI 29 from nI_pred 29] at h
  exact h

set_option maxHeartbeats 4000000 in
set_option maxRecDepth 100000 in
theorem p_E_ofNumber (g : xw_G) (l : Launch) {n : Nat} (hn : n < 2 ^ 30) (hp : List va_E) : xm_R g l true m_E_ofNumber [.long (lN n)] hp (some (.long (lN (4 ^ n % 2147483579)))) hp := by
  refine xm_of [some (.long (lN n)), none] rfl (Nat.le_of_ble_eq_true rfl) rfl ?_
  intro p e s m args below meth c C hr hk
  refine xa_ldc2 C (xw_in wk_E_17 rfl) dE_ofNumber_0 ?_
  refine xa_lload_n C dE_ofNumber_3 rfl ?_
  refine xa_callS1 C (p_E_power g l (x := 4) (by decide) hn _) b_E_19 (xw_in wt_E_power rfl) dE_ofNumber_4 rfl (Nat.le_of_ble_eq_true rfl) ⟨Nat.le_of_ble_eq_true rfl, Nat.le_of_ble_eq_true rfl⟩ ⟨Nat.zero_le _, Nat.zero_le _⟩ ?_
  exact xa_lret C hr hk dE_ofNumber_7
end
section
/-! Sets of signers by their bits (the bt family of kit/laws, pasted; then our own) -/
def bt (x : Int32) (i : Nat) : Bool := x.toBitVec.getLsbD i
theorem b_ext {x y : Int32} (h : ∀ i, i < 32 → bt x i = bt y i) : x = y := Int32.toBitVec_inj.mp (BitVec.eq_of_getLsbD_eq (fun i hi => h i hi))
theorem b_or (x y : Int32) (i : Nat) : bt (x ||| y) i = (bt x i || bt y i) := by unfold bt; rw [Int32.toBitVec_or, BitVec.getLsbD_or]
theorem b_and (x y : Int32) (i : Nat) : bt (x &&& y) i = (bt x i && bt y i) := by unfold bt; rw [Int32.toBitVec_and, BitVec.getLsbD_and]
theorem b_xor (x y : Int32) (i : Nat) : bt (x ^^^ y) i = (bt x i ^^ bt y i) := by unfold bt; rw [Int32.toBitVec_xor, BitVec.getLsbD_xor]
theorem b_big {x : Int32} {i : Nat} (h : 32 ≤ i) : bt x i = false := BitVec.getLsbD_of_ge _ _ h
theorem b_m1 : ∀ i, i < 32 → bt (-1) i = true := by decide +kernel
theorem b_0 (i : Nat) : bt 0 i = false := BitVec.getLsbD_zero
theorem s_l : ∀ n, n < 32 → ((nI n &&& 31).toBitVec.smod 32).toNat = n := by decide +kernel
theorem s_u : ∀ n, n < 32 → (((nI n).toUInt32 &&& Int32.toUInt32 31).toBitVec % 32).toNat = n := by decide +kernel
theorem b_shl (n : Nat) (hn : n < 32) (x : Int32) {i : Nat} (hi : i < 32) : bt (x <<< (nI n &&& 31)) i = (decide (n ≤ i) && bt x (i - n)) := by
  unfold bt
  rw [Int32.toBitVec_shiftLeft]
  show (x.toBitVec <<< ((nI n &&& 31).toBitVec.smod 32).toNat).getLsbD i = _
  rw [s_l n hn, BitVec.getLsbD_shiftLeft]
  rcases Nat.lt_or_ge i n with h | h
  · simp [h, Nat.not_le.mpr h]
  · simp [hi, h, Nat.not_lt.mpr h]
theorem b_ushr (n : Nat) (hn : n < 32) (x : Int32) (i : Nat) : bt ((x.toUInt32 >>> ((nI n).toUInt32 &&& Int32.toUInt32 31)).toInt32) i = bt x (n + i) := by
  show (x.toUInt32 >>> ((nI n).toUInt32 &&& Int32.toUInt32 31)).toBitVec.getLsbD i = x.toUInt32.toBitVec.getLsbD (n + i)
  rw [UInt32.toBitVec_shiftRight]
  show (x.toUInt32.toBitVec >>> (((nI n).toUInt32 &&& Int32.toUInt32 31).toBitVec % 32).toNat).getLsbD i = _
  rw [s_u n hn, BitVec.getLsbD_ushiftRight]
theorem b_sshr (n : Nat) (hn : n < 32) (x : Int32) {i : Nat} (hi : i < 32) : bt (x >>> (nI n &&& 31)) i = if n + i < 32 then bt x (n + i) else bt x 31 := by
  unfold bt
  rw [Int32.toBitVec_shiftRight]
  show (x.toBitVec.sshiftRight ((nI n &&& 31).toBitVec.smod 32).toNat).getLsbD i = _
  rw [s_l n hn, BitVec.getLsbD_sshiftRight, BitVec.msb_eq_getLsbD_last]
  simp [hi]
/-- signer j (1 ..) is in the set -/
def hs (s : Int32) (j : Nat) : Bool := bt s (j - 1)
abbrev on_ (j : Nat) : Int32 := nI 1 <<< ((nI j - nI 1) &&& 31)
theorem on_eq {j : Nat} (h : 1 ≤ j) : on_ j = nI 1 <<< (nI (j - 1) &&& 31) := by
  unfold on_
  rw [pk_sub h]
theorem on_bt {j : Nat} (h : 1 ≤ j) (h6 : j ≤ 6) {i : Nat} (hi : i < 32) : bt (on_ j) i = decide (i = j - 1) := by
  rw [on_eq h, b_shl (j - 1) (by omega) _ hi]
  by_cases e : i = j - 1
  · subst e
    simp
    decide
  · by_cases h3 : j - 1 ≤ i
    · have h4 : bt (nI 1) (i - (j - 1)) = false := (by decide +kernel : ∀ q, q < 32 → 0 < q → bt (nI 1) q = false) (i - (j - 1)) (by omega) (by omega)
      simp [h3, h4, e]
    · simp [h3, e]
theorem hs_or {s : Int32} {j i : Nat} (h : 1 ≤ j) (h6 : j ≤ 6) (hi : 1 ≤ i) (hi6 : i ≤ 6) : hs (s ||| on_ j) i = (hs s i || decide (i = j)) := by
  unfold hs
  rw [b_or, on_bt h h6 (by omega)]
  congr 1
  exact decide_eq_decide.mpr ⟨fun _ => by omega, fun _ => by omega⟩
theorem hs_del {s : Int32} {j i : Nat} (h : 1 ≤ j) (h6 : j ≤ 6) (hi : 1 ≤ i) (hi6 : i ≤ 6) : hs (s &&& (on_ j ^^^ (-1))) i = (hs s i && !decide (i = j)) := by
  unfold hs
  rw [b_and, b_xor, on_bt h h6 (by omega), b_m1 _ (by omega), Bool.xor_true]
  congr 2
  exact decide_eq_decide.mpr ⟨fun _ => by omega, fun _ => by omega⟩
theorem hs_0 (i : Nat) : hs 0 i = false := b_0 _
theorem hs_has {s : Int32} {j : Nat} (h : 1 ≤ j) (h6 : j ≤ 6) : (¬ s &&& on_ j = 0) ↔ hs s j = true := by
  constructor
  · intro q
    cases hb : hs s j with
    | true => rfl
    | false =>
      refine absurd (b_ext fun i hi => ?_) q
      rw [b_and, on_bt h h6 hi, b_0]
      by_cases e : i = j - 1
      · subst e
        have : bt s (j - 1) = false := hb
        rw [this, Bool.false_and]
      · simp [e]
  · intro q e
    have h1 : bt (s &&& on_ j) (j - 1) = true := by
      rw [b_and, on_bt h h6 (by omega)]
      have : bt s (j - 1) = true := q
      simp [this]
    rw [e, b_0] at h1
    cases h1
theorem hs_in {s : Int32} {j : Nat} (h : 1 ≤ j) (h6 : j ≤ 6) : (s >>> ((nI j - nI 1) &&& 31)) &&& nI 1 = nI 1 ↔ hs s j = true := by
  rw [pk_sub h]
  have h1 : ∀ q, q < 32 → bt (nI 1) q = decide (q = 0) := by decide +kernel
  constructor
  · intro q
    have e := congrArg (fun z => bt z 0) q
    rw [b_and, b_sshr (j - 1) (by omega) s (by omega), h1 0 (by omega), if_pos (by omega)] at e
    simpa [hs] using e
  · intro q
    refine b_ext fun i hi => ?_
    rw [b_and, b_sshr (j - 1) (by omega) s hi, h1 i hi]
    by_cases e : i = 0
    · subst e
      rw [if_pos (by omega)]
      simpa [hs] using q
    · simp [e]
end
section
/-! the class's cells by its state: rows of longs as rows of natural numbers -/
abbrev xj (g : xw_G) (N : Nat) (f : Nat → Nat) : va_E := .inl (xg_J g, N, .inr (.inl (fun j => lN (f j))))
def hC (g : xw_G) (n t : Nat) (co se ke : Nat → Nat) (dn : Int32) (f1 f2 e1 e2 : Nat → Nat) (op : Int32) (x1 x2 fa we sh : Nat → Nat) (ms ps md tk bl : Int32) (pr ch sm : Nat) : List va_E :=
  [.inr (0, [.int (nI n), .int (nI t), .ref 1, .ref 5, .ref 10]),
   .inr (1, [.int (nI n), .int (nI t), .ref 2, .ref 3, .ref 4, .int dn]), xj g t co, xj g (n + 1) se, xj g (n + 1) ke,
   .inr (2, [.ref 6, .ref 7, .ref 8, .ref 9, .int op]), xj g (n + 1) f1, xj g (n + 1) f2, xj g (n + 1) e1, xj g (n + 1) e2,
   .inr (3, [.int (nI n), .ref 11, .ref 12, .ref 13, .ref 14, .ref 15, .int ms, .int ps, .int md, .int tk, .int bl, .long (lN pr), .long (lN ch), .long (lN sm)]),
   xj g (n + 1) x1, xj g (n + 1) x2, xj g (n + 1) fa, xj g (n + 1) we, xj g (n + 1) sh]
theorem lN_up (f : Nat → Nat) (k v : Nat) : vp_updL (fun j => lN (f j)) k (lN v) = fun j => lN (va_up f k v j) := by
  funext j
  unfold vp_updL va_up
  by_cases h : j = k <;> simp [h]
section XN
variable {g : xw_G} {ro : Bool} {cc : ByteArray} {nL : Nat} {own : String} {p : Program} {l : Launch} {e : Env} {R : Room} {s : State} {m : MethodId} {args : Array Value} {below : List Frame} {meth : Method} {c : Code} {cells slots : Nat} {Q : State → Prop}
variable {pc : Nat} {lv : List (Option Value)} {st : List Value} {hp : List va_E}
theorem xa_laloadN (C : xw_C g cc nL own p s m args c) {i N j : Nat} {f : Nat → Nat} (hdg : decode cc pc = .ok (.laload, 1)) (ho : hp[i]? = some (xj g N f)) (hj : j < N) (hN : N < 2 ^ 31) (k : xw_At g ro nL p l e R s m args below meth c cells slots Q (pc + 1) lv (.long (lN (f j)) :: st) hp) :
    xw_At g ro nL p l e R s m args below meth c cells slots Q pc lv (.int (nI j) :: .ref i :: st) hp := by
  refine xa_laload C hdg ho (vp_in_nI hj hN) ?_
  rw [nI_clamp (Nat.lt_trans hj hN)]
  exact k
theorem xa_lastoreN (C : xw_C g cc nL own p s m args c) {i N j v : Nat} {f : Nat → Nat} (hdg : decode cc pc = .ok (.lastore, 1)) (ho : hp[i]? = some (xj g N f)) (hj : j < N) (hN : N < 2 ^ 31) (k : xw_At g false nL p l e R s m args below meth c cells slots Q (pc + 1) lv st (hp.set i (xj g N (va_up f j v)))) :
    xw_At g ro nL p l e R s m args below meth c cells slots Q pc lv (.long (lN v) :: .int (nI j) :: .ref i :: st) hp := by
  refine xa_lastore C hdg ho (vp_in_nI hj hN) ?_
  rw [nI_clamp (Nat.lt_trans hj hN), lN_up]
  exact k
end XN
theorem xi_in {j n : Nat} (h : j ≤ n) (hn : n ≤ 6) : vp_in (nI j) (n + 1) := vp_in_nI (by omega) (by omega)
theorem xi_cl {j n : Nat} (h : j ≤ n) (hn : n ≤ 6) : (nI j).toNatClampNeg = j := nI_clamp (by omega)
end
section
/-! the dealing -/
set_option maxHeartbeats 4000000 in
set_option maxRecDepth 100000 in
theorem p_D_keyOfAll (g : xw_G) (l : Launch) {n t : Nat} {co se ke f1 f2 e1 e2 x1 x2 fa we sh : Nat → Nat} {dn op ms ps md tk bl : Int32} {pr ch sm : Nat} {rest : List va_E} (hn : n ≤ 6) (ht : t ≤ 6) : xm_R g l true m_D_keyOfAll [.ref 1] (hC g n t co se ke dn f1 f2 e1 e2 op x1 x2 fa we sh ms ps md tk bl pr ch sm ++ rest) (some (.long (lN (ke 0)))) (hC g n t co se ke dn f1 f2 e1 e2 op x1 x2 fa we sh ms ps md tk bl pr ch sm ++ rest) := by
  refine xm_of [some (.ref 1)] rfl (Nat.le_of_ble_eq_true rfl) rfl ?_
  intro p e s m args below meth c C hr hk
  refine xa_aload_n C dD_keyOfAll_0 rfl ?_
  refine xa_get C f_D_23 dD_keyOfAll_1 rfl rfl ?_
  refine xa_icN C 0 dD_keyOfAll_4 ?_
  refine xa_laloadN C dD_keyOfAll_5 rfl ?_ (by omega) ?_
  · omega
  exact xa_lret C hr hk dD_keyOfAll_6
def hv_ (co : Nat → Nat) (i t : Nat) : Nat → Nat
  | 0 => 0
  | m + 1 => (hv_ co i t m * i % 1073741789 + co (t - 1 - m)) % 1073741789
theorem hv_lt (co : Nat → Nat) (i t m : Nat) : hv_ co i t m < 2 ^ 31 := by
  cases m with
  | zero => exact (by decide : 0 < 2 ^ 31)
  | succ m => exact tb_q _
theorem hv_step {co : Nat → Nat} {i t k : Nat} (h : k + 1 ≤ t) : (hv_ co i t (t - (k + 1)) * i % 1073741789 + co k) % 1073741789 = hv_ co i t (t - k) := by
  rw [show t - k = (t - (k + 1)) + 1 by omega]
  show _ = (hv_ co i t (t - (k + 1)) * i % 1073741789 + co (t - 1 - (t - (k + 1)))) % 1073741789
  rw [show t - 1 - (t - (k + 1)) = k by omega]
theorem hv_poly (co : Nat → Nat) (i t : Nat) : ∀ m, m ≤ t → hv_ co i t m = tm_poly (fun k => co (t - m + k)) i m % 1073741789
  | 0, _ => rfl
  | m + 1, h => by
    show (hv_ co i t m * i % 1073741789 + co (t - 1 - m)) % 1073741789 = _
    rw [hv_poly co i t m (by omega), tm_poly_shift, Nat.mod_mul_mod]
    have e : (fun k => co (t - (m + 1) + (k + 1))) = (fun k => co (t - m + k)) := by
      funext k
      rw [show t - (m + 1) + (k + 1) = t - m + k by omega]
    rw [e, Nat.mod_add_mod, show t - (m + 1) + 0 = t - 1 - m by omega, Nat.mul_comm, Nat.add_comm]
theorem hv_all (co : Nat → Nat) (i t : Nat) : hv_ co i t t = tm_poly co i t % 1073741789 := by
  rw [hv_poly co i t t (Nat.le_refl t)]
  congr 1
  congr 1
  funext k
  rw [Nat.sub_self, Nat.zero_add]
set_option maxHeartbeats 4000000 in
set_option maxRecDepth 100000 in
theorem p_D_valueAt (g : xw_G) (l : Launch) {n t : Nat} {co se ke f1 f2 e1 e2 x1 x2 fa we sh : Nat → Nat} {dn op ms ps md tk bl : Int32} {pr ch sm : Nat} {rest : List va_E} (hn : n ≤ 6) (ht : t ≤ 6) (hco : ∀ j, co j < 2 ^ 31) {i : Nat} (hi : i ≤ 6) : xm_R g l true m_D_valueAt [.ref 1, .int (nI i)] (hC g n t co se ke dn f1 f2 e1 e2 op x1 x2 fa we sh ms ps md tk bl pr ch sm ++ rest) (some (.long (lN (hv_ co i t t)))) (hC g n t co se ke dn f1 f2 e1 e2 op x1 x2 fa we sh ms ps md tk bl pr ch sm ++ rest) := by
  refine xm_of [some (.ref 1), some (.int (nI i)), none, none, none] rfl (Nat.le_of_ble_eq_true rfl) rfl ?_
  intro p e s m args below meth c C hr hk
  have loop : ∀ k : Nat, k ≤ t → xw_At g true 5 p l e (xm_rm m_D_valueAt 0) s m args below meth c 0 0 (MQ below (xm_Q g true (some (.long (lN (hv_ co i t t)))) (hC g n t co se ke dn f1 f2 e1 e2 op x1 x2 fa we sh ms ps md tk bl pr ch sm ++ rest)) args s 0 0 (xm_fr g true)) 10 [some (.ref 1), some (.int (nI i)), some (.long (lN (hv_ co i t (t - k)))), none, some (.int (nI k - 1))] [] (hC g n t co se ke dn f1 f2 e1 e2 op x1 x2 fa we sh ms ps md tk bl pr ch sm ++ rest) := by
    intro k
    induction k with
    | zero =>
      intro _
      refine xa_iload C dD_valueAt_10 rfl ?_
      refine xa_if_lt C dD_valueAt_12 (tgt := 38) rfl (fun h12 => ?_) (fun h12 => ?_)
      · refine xa_lload_n C dD_valueAt_38 rfl ?_
        rw [Nat.sub_zero]
        exact xa_lret C hr hk dD_valueAt_39
      · exact absurd (by decide) h12
    | succ k ih =>
      intro hkt
      rw [nI_pred k]
      refine xa_iload C dD_valueAt_10 rfl ?_
      refine xa_if_lt C dD_valueAt_12 (tgt := 38) rfl (fun h12 => ?_) (fun h12 => ?_)
      · exact absurd h12 (nI_pos (by omega))
      · refine xa_lload_n C dD_valueAt_15 rfl ?_
        refine xa_iload_n C dD_valueAt_16 rfl ?_
        refine xa_i2lN C dD_valueAt_17 (by omega) ?_
        refine xa_callS1 C (p_N_times g l (by first | exact hv_lt _ _ _ _ | omega) (by omega) _) b_D_46 (xw_in wt_N_times rfl) dD_valueAt_18 rfl (Nat.le_of_ble_eq_true rfl) ⟨Nat.le_of_ble_eq_true rfl, Nat.le_of_ble_eq_true rfl⟩ ⟨Nat.zero_le _, Nat.zero_le _⟩ ?_
        refine xa_aload_n C dD_valueAt_21 rfl ?_
        refine xa_get C f_D_16 dD_valueAt_22 rfl rfl ?_
        refine xa_iload C dD_valueAt_25 rfl ?_
        refine xa_laloadN C dD_valueAt_27 rfl ?_ (by omega) ?_
        · omega
        refine xa_callS1 C (p_N_plus g l (by first | exact tb_q _ | omega) (by first | exact hco _ | omega) _) b_D_52 (xw_in wt_N_plus rfl) dD_valueAt_28 rfl (Nat.le_of_ble_eq_true rfl) ⟨Nat.le_of_ble_eq_true rfl, Nat.le_of_ble_eq_true rfl⟩ ⟨Nat.zero_le _, Nat.zero_le _⟩ ?_
        rw [hv_step hkt]
        refine xa_lstore_n C dD_valueAt_31 (Nat.le_of_ble_eq_true rfl) ?_
        refine xa_iinc C dD_valueAt_32 rfl (Nat.le_of_ble_eq_true rfl) ?_
        refine xa_goto C dD_valueAt_35 (tgt := 10) rfl ?_
        rw [xi_m1]
        exact ih (by omega)
  refine xa_lcN C 0 dD_valueAt_0 ?_
  refine xa_lstore_n C dD_valueAt_1 (Nat.le_of_ble_eq_true rfl) ?_
  refine xa_aload_n C dD_valueAt_2 rfl ?_
  refine xa_get C f_D_13 dD_valueAt_3 rfl rfl ?_
  refine xa_icN C 1 dD_valueAt_6 ?_
  refine xa_isub C dD_valueAt_7 ?_
  refine xa_istore C dD_valueAt_8 (Nat.le_of_ble_eq_true rfl) ?_
  have h := loop t (Nat.le_refl _)
  rw [Nat.sub_self] at h
  exact h
end
section
/-! dealing: make -/
theorem up_lt (v f : Nat → Nat) (k : Nat) : va_up (fun j => if j < k then v j else f j) k (v k) = fun j => if j < k + 1 then v j else f j := by
  funext j
  unfold va_up
  by_cases h : j = k
  · subst h; simp
  · by_cases h2 : j < k
    · simp [h, h2, show j < k + 1 by omega]
    · simp [h, h2, show ¬ j < k + 1 by omega]
theorem up_0 (v f : Nat → Nat) : (fun j => if j < 0 then v j else f j) = f := by
  funext j
  simp
theorem tm_poly_same {a b : Nat → Nat} (i : Nat) : ∀ n, (∀ k, k < n → a k = b k) → tm_poly a i n = tm_poly b i n
  | 0, _ => rfl
  | n + 1, h => by
    show tm_poly a i n + a n * i ^ n = tm_poly b i n + b n * i ^ n
    rw [tm_poly_same i n (fun k hk => h k (by omega)), h n (by omega)]
/-- a coefficient, a secret, a key -/
def cd_ (w : Int64) (k : Nat) : Nat := dg_f (dg_m (dg_m (dg_m 0 1) w) (lN k))
def sd_ (w : Int64) (t i : Nat) : Nat := tm_poly (cd_ w) i t % 1073741789
def kd_ (w : Int64) (t i : Nat) : Nat := 4 ^ sd_ w t i % 2147483579
theorem sd_hv (w : Int64) (t i : Nat) (co : Nat → Nat) : hv_ (fun j => if j < t then cd_ w j else co j) i t t = sd_ w t i := by
  rw [hv_all]
  unfold sd_
  rw [tm_poly_same (b := cd_ w) i t (fun k hk => by simp [hk])]
set_option maxHeartbeats 4000000 in
set_option maxRecDepth 100000 in
theorem p_D_make (g : xw_G) (l : Launch) {n t : Nat} {co se ke f1 f2 e1 e2 x1 x2 fa we sh : Nat → Nat} {dn op ms ps md tk bl : Int32} {pr ch sm : Nat} {rest : List va_E} (hn : n ≤ 6) (ht : t ≤ 6) (hco : ∀ j, co j < 2 ^ 31) (w : Int64) : xm_R g l false m_D_make [.ref 1, .long w] (hC g n t co se ke dn f1 f2 e1 e2 op x1 x2 fa we sh ms ps md tk bl pr ch sm ++ rest) none (hC g n t (fun j => if j < t then cd_ w j else co j) (fun j => if j < (n + 1) then sd_ w t j else se j) (fun j => if j < (n + 1) then kd_ w t j else ke j) (nI 1) f1 f2 e1 e2 op x1 x2 fa we sh ms ps md tk bl pr ch sm ++ rest) := by
  refine xm_of [some (.ref 1), some (.long w), none, none] rfl (Nat.le_of_ble_eq_true rfl) rfl ?_
  intro p e s m args below meth c C hr hk
  have hcu : ∀ j, (fun j => if j < t then cd_ w j else co j) j < 2 ^ 31 := fun j => by
    show (if j < t then cd_ w j else co j) < 2 ^ 31
    by_cases h : j < t
    · rw [if_pos h]; exact Nat.lt_trans (dg_f_lt _) (by decide)
    · rw [if_neg h]; exact hco j
  have hsd : ∀ j, sd_ w t j < 2 ^ 30 := fun j => Nat.lt_trans (Nat.mod_lt _ (by decide)) (by decide)
  have loop2 : ∀ d k : Nat, k + d = n + 1 → xw_At g false 4 p l e (xm_rm m_D_make 0) s m args below meth c 0 0 (MQ below (xm_Q g false none (hC g n t (fun j => if j < t then cd_ w j else co j) (fun j => if j < (n + 1) then sd_ w t j else se j) (fun j => if j < (n + 1) then kd_ w t j else ke j) (nI 1) f1 f2 e1 e2 op x1 x2 fa we sh ms ps md tk bl pr ch sm ++ rest)) args s 0 0 (xm_fr g false)) 31 [some (.ref 1), some (.long w), none, some (.int (nI k))] [] (hC g n t (fun j => if j < t then cd_ w j else co j) (fun j => if j < k then sd_ w t j else se j) (fun j => if j < k then kd_ w t j else ke j) dn f1 f2 e1 e2 op x1 x2 fa we sh ms ps md tk bl pr ch sm ++ rest) := by
    intro d
    induction d with
    | zero =>
      intro k hk9
      obtain rfl : k = n + 1 := by omega
      refine xa_iload_n C dD_make_31 rfl ?_
      refine xa_aload_n C dD_make_32 rfl ?_
      refine xa_get C f_D_7 dD_make_33 rfl rfl ?_
      refine xa_icmp_gt C dD_make_36 (tgt := 71) rfl (fun h36 => ?_) (fun h36 => ?_)
      · refine xa_aload_n C dD_make_71 rfl ?_
        refine xa_icN C 1 dD_make_72 ?_
        refine xa_put C f_D_42 u_D_5 dD_make_73 rfl (Nat.le_of_ble_eq_true rfl) rfl rfl (fun _ h => by cases h) ?_
        exact xa_eq rfl rfl rfl (xa_vret C hr hk dD_make_76)
      · exact absurd (nI_lt (by omega) (by omega)) h36
    | succ d ih =>
      intro k hk9
      refine xa_iload_n C dD_make_31 rfl ?_
      refine xa_aload_n C dD_make_32 rfl ?_
      refine xa_get C f_D_7 dD_make_33 rfl rfl ?_
      refine xa_icmp_gt C dD_make_36 (tgt := 71) rfl (fun h36 => ?_) (fun h36 => ?_)
      · exact absurd h36 (nI_nlt (by omega) (by omega))
      · refine xa_aload_n C dD_make_39 rfl ?_
        refine xa_get C f_D_20 dD_make_40 rfl rfl ?_
        refine xa_iload_n C dD_make_43 rfl ?_
        refine xa_aload_n C dD_make_44 rfl ?_
        refine xa_iload_n C dD_make_45 rfl ?_
        refine xa_callV1 C (p_D_valueAt g l hn ht hcu (by omega)) b_D_32 (xw_in wi_D_valueAt rfl) e_D_valueAt dD_make_46 rfl rfl rfl rfl (Nat.le_of_ble_eq_true rfl) ⟨Nat.le_of_ble_eq_true rfl, Nat.le_of_ble_eq_true rfl⟩ ⟨Nat.zero_le _, Nat.zero_le _⟩ ?_
        rw [sd_hv]
        refine xa_lastoreN C dD_make_49 rfl ?_ (by omega) ?_
        · omega
        rw [up_lt (sd_ w t) se k]
        refine xa_eq rfl rfl (hp' := (hC g n t (fun j => if j < t then cd_ w j else co j) (fun j => if j < (k + 1) then sd_ w t j else se j) (fun j => if j < k then kd_ w t j else ke j) dn f1 f2 e1 e2 op x1 x2 fa we sh ms ps md tk bl pr ch sm ++ rest)) rfl ?_
        refine xa_aload_n C dD_make_50 rfl ?_
        refine xa_get C f_D_23 dD_make_51 rfl rfl ?_
        refine xa_iload_n C dD_make_54 rfl ?_
        refine xa_aload_n C dD_make_55 rfl ?_
        refine xa_get C f_D_20 dD_make_56 rfl rfl ?_
        refine xa_iload_n C dD_make_59 rfl ?_
        refine xa_laloadN C dD_make_60 rfl ?_ (by omega) ?_
        · omega
        rw [if_pos (by omega : k < k + 1)]
        refine xa_callS1 C (p_E_ofNumber g l (by first | exact hsd _ | omega) _) b_D_36 (xw_in wt_E_ofNumber rfl) dD_make_61 rfl (Nat.le_of_ble_eq_true rfl) ⟨Nat.le_of_ble_eq_true rfl, Nat.le_of_ble_eq_true rfl⟩ ⟨Nat.zero_le _, Nat.zero_le _⟩ ?_
        rw [show (4 ^ sd_ w t k % 2147483579) = kd_ w t k from rfl]
        refine xa_lastoreN C dD_make_64 rfl ?_ (by omega) ?_
        · omega
        rw [up_lt (kd_ w t) ke k]
        refine xa_eq rfl rfl (hp' := (hC g n t (fun j => if j < t then cd_ w j else co j) (fun j => if j < (k + 1) then sd_ w t j else se j) (fun j => if j < (k + 1) then kd_ w t j else ke j) dn f1 f2 e1 e2 op x1 x2 fa we sh ms ps md tk bl pr ch sm ++ rest)) rfl ?_
        refine xa_incN C dD_make_65 rfl (Nat.le_of_ble_eq_true rfl) ?_
        refine xa_goto C dD_make_68 (tgt := 31) rfl ?_
        exact ih (k + 1) (by omega)
  have loop1 : ∀ d k : Nat, k + d = t → xw_At g false 4 p l e (xm_rm m_D_make 0) s m args below meth c 0 0 (MQ below (xm_Q g false none (hC g n t (fun j => if j < t then cd_ w j else co j) (fun j => if j < (n + 1) then sd_ w t j else se j) (fun j => if j < (n + 1) then kd_ w t j else ke j) (nI 1) f1 f2 e1 e2 op x1 x2 fa we sh ms ps md tk bl pr ch sm ++ rest)) args s 0 0 (xm_fr g false)) 2 [some (.ref 1), some (.long w), none, some (.int (nI k))] [] (hC g n t (fun j => if j < k then cd_ w j else co j) se ke dn f1 f2 e1 e2 op x1 x2 fa we sh ms ps md tk bl pr ch sm ++ rest) := by
    intro d
    induction d with
    | zero =>
      intro k hk9
      obtain rfl : k = t := by omega
      refine xa_iload_n C dD_make_2 rfl ?_
      refine xa_aload_n C dD_make_3 rfl ?_
      refine xa_get C f_D_13 dD_make_4 rfl rfl ?_
      refine xa_icmp_ge C dD_make_7 (tgt := 29) rfl (fun h7 => ?_) (fun h7 => ?_)
      · refine xa_icN C 0 dD_make_29 ?_
        refine xa_istore_n C dD_make_30 (Nat.le_of_ble_eq_true rfl) ?_
        have h := loop2 (n + 1) 0 (by omega)
        rw [up_0 (sd_ w k) se, up_0 (kd_ w k) ke] at h
        exact h
      · exact absurd (nI_le (Nat.le_refl _) (by omega)) h7
    | succ d ih =>
      intro k hk9
      refine xa_iload_n C dD_make_2 rfl ?_
      refine xa_aload_n C dD_make_3 rfl ?_
      refine xa_get C f_D_13 dD_make_4 rfl rfl ?_
      refine xa_icmp_ge C dD_make_7 (tgt := 29) rfl (fun h7 => ?_) (fun h7 => ?_)
      · exact absurd h7 (nI_ge (by omega) (by omega))
      · refine xa_aload_n C dD_make_10 rfl ?_
        refine xa_get C f_D_16 dD_make_11 rfl rfl ?_
        refine xa_iload_n C dD_make_14 rfl ?_
        refine xa_lcN C 1 dD_make_15 ?_
        refine xa_lload_n C dD_make_16 rfl ?_
        refine xa_iload_n C dD_make_17 rfl ?_
        refine xa_i2lN C dD_make_18 (by omega) ?_
        refine xa_callS1 C (p_G_ofThree g l _ _ _ _) b_D_26 (xw_in wt_G_ofThree rfl) dD_make_19 rfl (Nat.le_of_ble_eq_true rfl) ⟨Nat.le_of_ble_eq_true rfl, Nat.le_of_ble_eq_true rfl⟩ ⟨Nat.zero_le _, Nat.zero_le _⟩ ?_
        rw [show dg_f (dg_m (dg_m (dg_m 0 (lN ((1 : Fin 2) : Nat))) w) (lN k)) = cd_ w k from rfl]
        refine xa_lastoreN C dD_make_22 rfl ?_ (by omega) ?_
        · omega
        rw [up_lt (cd_ w) co k]
        refine xa_eq rfl rfl (hp' := (hC g n t (fun j => if j < (k + 1) then cd_ w j else co j) se ke dn f1 f2 e1 e2 op x1 x2 fa we sh ms ps md tk bl pr ch sm ++ rest)) rfl ?_
        refine xa_incN C dD_make_23 rfl (Nat.le_of_ble_eq_true rfl) ?_
        refine xa_goto C dD_make_26 (tgt := 2) rfl ?_
        exact ih (k + 1) (by omega)
  refine xa_icN C 0 dD_make_0 ?_
  refine xa_istore_n C dD_make_1 (Nat.le_of_ble_eq_true rfl) ?_
  have h := loop1 t 0 (by omega)
  rw [up_0 (cd_ w) co] at h
  exact h
end
section
/-! pairs -/
def pd_ (k w : Int64) (i : Nat) : Nat := dg_f (dg_m (dg_m (dg_m 0 k) w) (lN i))
theorem pd_lt (k w : Int64) (i : Nat) : pd_ k w i < 2 ^ 30 := Nat.lt_trans (dg_f_lt _) (by decide)
theorem va_up_s (f : Nat → Nat) (k v : Nat) : va_up f k v k = v := if_pos rfl
set_option maxHeartbeats 4000000 in
set_option maxRecDepth 100000 in
theorem p_P_open (g : xw_G) (l : Launch) {n t : Nat} {co se ke f1 f2 e1 e2 x1 x2 fa we sh : Nat → Nat} {dn op ms ps md tk bl : Int32} {pr ch sm : Nat} {rest : List va_E} (hn : n ≤ 6) (ht : t ≤ 6) {i : Nat} (h1 : 1 ≤ i) (hi : i ≤ n) (w : Int64) : xm_R g l false m_P_open [.ref 5, .int (nI i), .long w] (hC g n t co se ke dn f1 f2 e1 e2 op x1 x2 fa we sh ms ps md tk bl pr ch sm ++ rest) none (hC g n t co se ke dn (va_up f1 i (pd_ 2 w i)) (va_up f2 i (pd_ 3 w i)) (va_up e1 i (4 ^ pd_ 2 w i % 2147483579)) (va_up e2 i (4 ^ pd_ 3 w i % 2147483579)) (op ||| on_ i) x1 x2 fa we sh ms ps md tk bl pr ch sm ++ rest) := by
  refine xm_of [some (.ref 5), some (.int (nI i)), some (.long w), none] rfl (Nat.le_of_ble_eq_true rfl) rfl ?_
  intro p e s m args below meth c C hr hk
  refine xa_aload_n C dP_open_0 rfl ?_
  refine xa_get C f_P_7 dP_open_1 rfl rfl ?_
  refine xa_iload_n C dP_open_4 rfl ?_
  refine xa_ldc2 C (xw_in wk_P_22 rfl) dP_open_5 ?_
  refine xa_lload_n C dP_open_8 rfl ?_
  refine xa_iload_n C dP_open_9 rfl ?_
  refine xa_i2lN C dP_open_10 (by omega) ?_
  refine xa_callS1 C (p_G_ofThree g l _ _ _ _) b_P_24 (xw_in wt_G_ofThree rfl) dP_open_11 rfl (Nat.le_of_ble_eq_true rfl) ⟨Nat.le_of_ble_eq_true rfl, Nat.le_of_ble_eq_true rfl⟩ ⟨Nat.zero_le _, Nat.zero_le _⟩ ?_
  rw [show dg_f (dg_m (dg_m (dg_m 0 2) w) (lN i)) = pd_ 2 w i from rfl]
  refine xa_lastoreN C dP_open_14 rfl ?_ (by omega) ?_
  · omega
  refine xa_eq rfl rfl (hp' := (hC g n t co se ke dn (va_up f1 i (pd_ 2 w i)) f2 e1 e2 op x1 x2 fa we sh ms ps md tk bl pr ch sm ++ rest)) rfl ?_
  refine xa_aload_n C dP_open_15 rfl ?_
  refine xa_get C f_P_13 dP_open_16 rfl rfl ?_
  refine xa_iload_n C dP_open_19 rfl ?_
  refine xa_ldc2 C (xw_in wk_P_30 rfl) dP_open_20 ?_
  refine xa_lload_n C dP_open_23 rfl ?_
  refine xa_iload_n C dP_open_24 rfl ?_
  refine xa_i2lN C dP_open_25 (by omega) ?_
  refine xa_callS1 C (p_G_ofThree g l _ _ _ _) b_P_24 (xw_in wt_G_ofThree rfl) dP_open_26 rfl (Nat.le_of_ble_eq_true rfl) ⟨Nat.le_of_ble_eq_true rfl, Nat.le_of_ble_eq_true rfl⟩ ⟨Nat.zero_le _, Nat.zero_le _⟩ ?_
  rw [show dg_f (dg_m (dg_m (dg_m 0 3) w) (lN i)) = pd_ 3 w i from rfl]
  refine xa_lastoreN C dP_open_29 rfl ?_ (by omega) ?_
  · omega
  refine xa_eq rfl rfl (hp' := (hC g n t co se ke dn (va_up f1 i (pd_ 2 w i)) (va_up f2 i (pd_ 3 w i)) e1 e2 op x1 x2 fa we sh ms ps md tk bl pr ch sm ++ rest)) rfl ?_
  refine xa_aload_n C dP_open_30 rfl ?_
  refine xa_get C f_P_16 dP_open_31 rfl rfl ?_
  refine xa_iload_n C dP_open_34 rfl ?_
  refine xa_aload_n C dP_open_35 rfl ?_
  refine xa_get C f_P_7 dP_open_36 rfl rfl ?_
  refine xa_iload_n C dP_open_39 rfl ?_
  refine xa_laloadN C dP_open_40 rfl ?_ (by omega) ?_
  · omega
  rw [va_up_s]
  refine xa_callS1 C (p_E_ofNumber g l (pd_lt _ _ _) _) b_P_32 (xw_in wt_E_ofNumber rfl) dP_open_41 rfl (Nat.le_of_ble_eq_true rfl) ⟨Nat.le_of_ble_eq_true rfl, Nat.le_of_ble_eq_true rfl⟩ ⟨Nat.zero_le _, Nat.zero_le _⟩ ?_
  refine xa_lastoreN C dP_open_44 rfl ?_ (by omega) ?_
  · omega
  refine xa_eq rfl rfl (hp' := (hC g n t co se ke dn (va_up f1 i (pd_ 2 w i)) (va_up f2 i (pd_ 3 w i)) (va_up e1 i (4 ^ pd_ 2 w i % 2147483579)) e2 op x1 x2 fa we sh ms ps md tk bl pr ch sm ++ rest)) rfl ?_
  refine xa_aload_n C dP_open_45 rfl ?_
  refine xa_get C f_P_19 dP_open_46 rfl rfl ?_
  refine xa_iload_n C dP_open_49 rfl ?_
  refine xa_aload_n C dP_open_50 rfl ?_
  refine xa_get C f_P_13 dP_open_51 rfl rfl ?_
  refine xa_iload_n C dP_open_54 rfl ?_
  refine xa_laloadN C dP_open_55 rfl ?_ (by omega) ?_
  · omega
  rw [va_up_s]
  refine xa_callS1 C (p_E_ofNumber g l (pd_lt _ _ _) _) b_P_32 (xw_in wt_E_ofNumber rfl) dP_open_56 rfl (Nat.le_of_ble_eq_true rfl) ⟨Nat.le_of_ble_eq_true rfl, Nat.le_of_ble_eq_true rfl⟩ ⟨Nat.zero_le _, Nat.zero_le _⟩ ?_
  refine xa_lastoreN C dP_open_59 rfl ?_ (by omega) ?_
  · omega
  refine xa_eq rfl rfl (hp' := (hC g n t co se ke dn (va_up f1 i (pd_ 2 w i)) (va_up f2 i (pd_ 3 w i)) (va_up e1 i (4 ^ pd_ 2 w i % 2147483579)) (va_up e2 i (4 ^ pd_ 3 w i % 2147483579)) op x1 x2 fa we sh ms ps md tk bl pr ch sm ++ rest)) rfl ?_
  refine xa_aload_n C dP_open_60 rfl ?_
  refine xa_dup C dP_open_61 rfl ?_
  refine xa_get C f_P_38 dP_open_62 rfl rfl ?_
  refine xa_iload_n C dP_open_65 rfl ?_
  refine xa_callS1 C (p_I_only g l _ _) b_P_42 (xw_in wt_I_only rfl) dP_open_66 rfl (Nat.le_of_ble_eq_true rfl) ⟨Nat.le_of_ble_eq_true rfl, Nat.le_of_ble_eq_true rfl⟩ ⟨Nat.zero_le _, Nat.zero_le _⟩ ?_
  refine xa_ior C dP_open_69 ?_
  refine xa_put C f_P_38 u_P_4 dP_open_70 rfl (Nat.le_of_ble_eq_true rfl) rfl rfl (fun _ h => by cases h) ?_
  exact xa_eq rfl rfl rfl (xa_vret C hr hk dP_open_73)
set_option maxHeartbeats 4000000 in
set_option maxRecDepth 100000 in
theorem p_P_drop (g : xw_G) (l : Launch) {n t : Nat} {co se ke f1 f2 e1 e2 x1 x2 fa we sh : Nat → Nat} {dn op ms ps md tk bl : Int32} {pr ch sm : Nat} {rest : List va_E} (hn : n ≤ 6) (ht : t ≤ 6) {i : Nat} (h1 : 1 ≤ i) (hi : i ≤ n) : xm_R g l false m_P_drop [.ref 5, .int (nI i)] (hC g n t co se ke dn f1 f2 e1 e2 op x1 x2 fa we sh ms ps md tk bl pr ch sm ++ rest) none (hC g n t co se ke dn f1 f2 e1 e2 (op &&& (on_ i ^^^ (-1))) x1 x2 fa we sh ms ps md tk bl pr ch sm ++ rest) := by
  refine xm_of [some (.ref 5), some (.int (nI i))] rfl (Nat.le_of_ble_eq_true rfl) rfl ?_
  intro p e s m args below meth c C hr hk
  refine xa_aload_n C dP_drop_0 rfl ?_
  refine xa_dup C dP_drop_1 rfl ?_
  refine xa_get C f_P_38 dP_drop_2 rfl rfl ?_
  refine xa_iload_n C dP_drop_5 rfl ?_
  refine xa_callS1 C (p_I_only g l _ _) b_P_42 (xw_in wt_I_only rfl) dP_drop_6 rfl (Nat.le_of_ble_eq_true rfl) ⟨Nat.le_of_ble_eq_true rfl, Nat.le_of_ble_eq_true rfl⟩ ⟨Nat.zero_le _, Nat.zero_le _⟩ ?_
  refine xa_iconst C dP_drop_9 ?_
  refine xa_ixor C dP_drop_10 ?_
  refine xa_iand C dP_drop_11 ?_
  refine xa_put C f_P_38 u_P_4 dP_drop_12 rfl (Nat.le_of_ble_eq_true rfl) rfl rfl (fun _ h => by cases h) ?_
  exact xa_eq rfl rfl rfl (xa_vret C hr hk dP_drop_15)
set_option maxHeartbeats 4000000 in
set_option maxRecDepth 100000 in
theorem p_P_dropAll (g : xw_G) (l : Launch) {n t : Nat} {co se ke f1 f2 e1 e2 x1 x2 fa we sh : Nat → Nat} {dn op ms ps md tk bl : Int32} {pr ch sm : Nat} {rest : List va_E} (hn : n ≤ 6) (ht : t ≤ 6) : xm_R g l false m_P_dropAll [.ref 5] (hC g n t co se ke dn f1 f2 e1 e2 op x1 x2 fa we sh ms ps md tk bl pr ch sm ++ rest) none (hC g n t co se ke dn f1 f2 e1 e2 0 x1 x2 fa we sh ms ps md tk bl pr ch sm ++ rest) := by
  refine xm_of [some (.ref 5)] rfl (Nat.le_of_ble_eq_true rfl) rfl ?_
  intro p e s m args below meth c C hr hk
  refine xa_aload_n C dP_dropAll_0 rfl ?_
  refine xa_icN C 0 dP_dropAll_1 ?_
  refine xa_put C f_P_38 u_P_4 dP_dropAll_2 rfl (Nat.le_of_ble_eq_true rfl) rfl rfl (fun _ h => by cases h) ?_
  exact xa_eq rfl rfl rfl (xa_vret C hr hk dP_dropAll_5)
set_option maxHeartbeats 4000000 in
set_option maxRecDepth 100000 in
theorem p_P_areOpen (g : xw_G) (l : Launch) {n t : Nat} {co se ke f1 f2 e1 e2 x1 x2 fa we sh : Nat → Nat} {dn op ms ps md tk bl : Int32} {pr ch sm : Nat} {rest : List va_E} (hn : n ≤ 6) (ht : t ≤ 6) (x : Int32) : xm_R g l true m_P_areOpen [.ref 5, .int x] (hC g n t co se ke dn f1 f2 e1 e2 op x1 x2 fa we sh ms ps md tk bl pr ch sm ++ rest) (some (.int (xb (x &&& (op ^^^ (-1)) = 0)))) (hC g n t co se ke dn f1 f2 e1 e2 op x1 x2 fa we sh ms ps md tk bl pr ch sm ++ rest) := by
  refine xm_of [some (.ref 5), some (.int x)] rfl (Nat.le_of_ble_eq_true rfl) rfl ?_
  intro p e s m args below meth c C hr hk
  refine xa_iload_n C dP_areOpen_0 rfl ?_
  refine xa_aload_n C dP_areOpen_1 rfl ?_
  refine xa_get C f_P_38 dP_areOpen_2 rfl rfl ?_
  refine xa_iconst C dP_areOpen_5 ?_
  refine xa_ixor C dP_areOpen_6 ?_
  refine xa_iand C dP_areOpen_7 ?_
  refine xa_if_ne C dP_areOpen_8 (tgt := 15) rfl (fun h8 => ?_) (fun h8 => ?_)
  · refine xa_icN C 0 dP_areOpen_15 ?_
    exact xa_eq rfl (congrArg (fun z => [Value.int z]) (xb_f (P := x &&& (op ^^^ (-1)) = 0) (h8)).symm) rfl (xa_zret C hr hk (xb_nar _) dP_areOpen_16)
  · refine xa_icN C 1 dP_areOpen_11 ?_
    refine xa_goto C dP_areOpen_12 (tgt := 16) rfl ?_
    exact xa_eq rfl (congrArg (fun z => [Value.int z]) (xb_t (P := x &&& (op ^^^ (-1)) = 0) (h8)).symm) rfl (xa_zret C hr hk (xb_nar _) dP_areOpen_16)
set_option maxHeartbeats 4000000 in
set_option maxRecDepth 100000 in
theorem p_X_isOn (g : xw_G) (l : Launch) {n t : Nat} {co se ke f1 f2 e1 e2 x1 x2 fa we sh : Nat → Nat} {dn op ms ps md tk bl : Int32} {pr ch sm : Nat} {rest : List va_E}  : xm_R g l true m_X_isOn [.ref 10] (hC g n t co se ke dn f1 f2 e1 e2 op x1 x2 fa we sh ms ps md tk bl pr ch sm ++ rest) (some (.int (xb (¬ ms = 0)))) (hC g n t co se ke dn f1 f2 e1 e2 op x1 x2 fa we sh ms ps md tk bl pr ch sm ++ rest) := by
  refine xm_of [some (.ref 10)] rfl (Nat.le_of_ble_eq_true rfl) rfl ?_
  intro p e s m args below meth c C hr hk
  refine xa_aload_n C dX_isOn_0 rfl ?_
  refine xa_get C f_X_29 dX_isOn_1 rfl rfl ?_
  refine xa_if_eq C dX_isOn_4 (tgt := 11) rfl (fun h4 => ?_) (fun h4 => ?_)
  · refine xa_icN C 0 dX_isOn_11 ?_
    exact xa_eq rfl (congrArg (fun z => [Value.int z]) (xb_f (P := ¬ ms = 0) (fun q => q h4)).symm) rfl (xa_zret C hr hk (xb_nar _) dX_isOn_12)
  · refine xa_icN C 1 dX_isOn_7 ?_
    refine xa_goto C dX_isOn_8 (tgt := 12) rfl ?_
    exact xa_eq rfl (congrArg (fun z => [Value.int z]) (xb_t (P := ¬ ms = 0) (h4)).symm) rfl (xa_zret C hr hk (xb_nar _) dX_isOn_12)
set_option maxHeartbeats 4000000 in
set_option maxRecDepth 100000 in
theorem p_X_losePair (g : xw_G) (l : Launch) {n t : Nat} {co se ke f1 f2 e1 e2 x1 x2 fa we sh : Nat → Nat} {dn op ms ps md tk bl : Int32} {pr ch sm : Nat} {rest : List va_E} (hn : n ≤ 6) (ht : t ≤ 6) {i : Nat} (h1 : 1 ≤ i) (hi : i ≤ n) : xm_R g l false m_X_losePair [.ref 10, .int (nI i)] (hC g n t co se ke dn f1 f2 e1 e2 op x1 x2 fa we sh ms ps md tk bl pr ch sm ++ rest) none (hC g n t co se ke dn f1 f2 e1 e2 op x1 x2 fa we sh ms (ps &&& (on_ i ^^^ (-1))) md tk bl pr ch sm ++ rest) := by
  refine xm_of [some (.ref 10), some (.int (nI i))] rfl (Nat.le_of_ble_eq_true rfl) rfl ?_
  intro p e s m args below meth c C hr hk
  refine xa_aload_n C dX_losePair_0 rfl ?_
  refine xa_dup C dX_losePair_1 rfl ?_
  refine xa_get C f_X_77 dX_losePair_2 rfl rfl ?_
  refine xa_iload_n C dX_losePair_5 rfl ?_
  refine xa_callS1 C (p_I_only g l _ _) b_X_80 (xw_in wt_I_only rfl) dX_losePair_6 rfl (Nat.le_of_ble_eq_true rfl) ⟨Nat.le_of_ble_eq_true rfl, Nat.le_of_ble_eq_true rfl⟩ ⟨Nat.zero_le _, Nat.zero_le _⟩ ?_
  refine xa_iconst C dX_losePair_9 ?_
  refine xa_ixor C dX_losePair_10 ?_
  refine xa_iand C dX_losePair_11 ?_
  refine xa_put C f_X_77 u_X_7 dX_losePair_12 rfl (Nat.le_of_ble_eq_true rfl) rfl rfl (fun _ h => by cases h) ?_
  exact xa_eq rfl rfl rfl (xa_vret C hr hk dX_losePair_15)
set_option maxHeartbeats 4000000 in
set_option maxRecDepth 100000 in
theorem p_X_reset (g : xw_G) (l : Launch) {n t : Nat} {co se ke f1 f2 e1 e2 x1 x2 fa we sh : Nat → Nat} {dn op ms ps md tk bl : Int32} {pr ch sm : Nat} {rest : List va_E} (x : Int32) : xm_R g l false m_X_reset [.ref 10, .int x] (hC g n t co se ke dn f1 f2 e1 e2 op x1 x2 fa we sh ms ps md tk bl pr ch sm ++ rest) none (hC g n t co se ke dn f1 f2 e1 e2 op x1 x2 fa we sh x x 0 0 0 1 ch 0 ++ rest) := by
  refine xm_of [some (.ref 10), some (.int x)] rfl (Nat.le_of_ble_eq_true rfl) rfl ?_
  intro p e s m args below meth c C hr hk
  refine xa_aload_n C dX_reset_0 rfl ?_
  refine xa_iload_n C dX_reset_1 rfl ?_
  refine xa_put C f_X_29 u_X_6 dX_reset_2 rfl (Nat.le_of_ble_eq_true rfl) rfl rfl (fun _ h => by cases h) ?_
  refine xa_aload_n C dX_reset_5 rfl ?_
  refine xa_iload_n C dX_reset_6 rfl ?_
  refine xa_put C f_X_77 u_X_7 dX_reset_7 rfl (Nat.le_of_ble_eq_true rfl) rfl rfl (fun _ h => by cases h) ?_
  refine xa_aload_n C dX_reset_10 rfl ?_
  refine xa_icN C 0 dX_reset_11 ?_
  refine xa_put C f_X_99 u_X_8 dX_reset_12 rfl (Nat.le_of_ble_eq_true rfl) rfl rfl (fun _ h => by cases h) ?_
  refine xa_aload_n C dX_reset_15 rfl ?_
  refine xa_icN C 0 dX_reset_16 ?_
  refine xa_put C f_X_109 u_X_9 dX_reset_17 rfl (Nat.le_of_ble_eq_true rfl) rfl rfl (fun _ h => by cases h) ?_
  refine xa_aload_n C dX_reset_20 rfl ?_
  refine xa_icN C 0 dX_reset_21 ?_
  refine xa_put C f_X_106 u_X_10 dX_reset_22 rfl (Nat.le_of_ble_eq_true rfl) rfl rfl (fun _ h => by cases h) ?_
  refine xa_aload_n C dX_reset_25 rfl ?_
  refine xa_lcN C 1 dX_reset_26 ?_
  refine xa_put C f_X_54 u_X_11 dX_reset_27 rfl (Nat.le_of_ble_eq_true rfl) rfl rfl (fun _ h => by cases h) ?_
  refine xa_aload_n C dX_reset_30 rfl ?_
  refine xa_lcN C 0 dX_reset_31 ?_
  refine xa_put C f_X_112 u_X_13 dX_reset_32 rfl (Nat.le_of_ble_eq_true rfl) rfl rfl (fun _ h => by cases h) ?_
  exact xa_eq rfl rfl rfl (xa_vret C hr hk dX_reset_35)
set_option maxHeartbeats 4000000 in
set_option maxRecDepth 100000 in
theorem p_X_end (g : xw_G) (l : Launch) {n t : Nat} {co se ke f1 f2 e1 e2 x1 x2 fa we sh : Nat → Nat} {dn op ms ps md tk bl : Int32} {pr ch sm : Nat} {rest : List va_E}  : xm_R g l false m_X_end [.ref 10] (hC g n t co se ke dn f1 f2 e1 e2 op x1 x2 fa we sh ms ps md tk bl pr ch sm ++ rest) none (hC g n t co se ke dn f1 f2 e1 e2 op x1 x2 fa we sh 0 0 0 0 0 1 ch 0 ++ rest) := by
  refine xm_of [some (.ref 10)] rfl (Nat.le_of_ble_eq_true rfl) rfl ?_
  intro p e s m args below meth c C hr hk
  refine xa_aload_n C dX_end_0 rfl ?_
  refine xa_icN C 0 dX_end_1 ?_
  refine xa_callVv C (p_X_reset g l (nI 0)) b_X_32 (xw_in wi_X_reset rfl) e_X_reset dX_end_2 rfl rfl rfl rfl (Nat.le_of_ble_eq_true rfl) ⟨Nat.le_of_ble_eq_true rfl, Nat.le_of_ble_eq_true rfl⟩ ⟨Nat.zero_le _, Nat.zero_le _⟩ ?_
  exact xa_eq rfl rfl rfl (xa_vret C hr hk dX_end_5)
set_option maxHeartbeats 4000000 in
set_option maxRecDepth 100000 in
theorem p_X_toldPart (g : xw_G) (l : Launch) {n t : Nat} {co se ke f1 f2 e1 e2 x1 x2 fa we sh : Nat → Nat} {dn op ms ps md tk bl : Int32} {pr ch sm : Nat} {rest : List va_E} (hn : n ≤ 6) (ht : t ≤ 6) {i : Nat} (h1 : 1 ≤ i) (hi : i ≤ n) (hx1 : ∀ j, x1 j < 2 ^ 31) (hx2 : ∀ j, x2 j < 2 ^ 31) (hfa : ∀ j, fa j < 2 ^ 30) : xm_R g l true m_X_toldPart [.ref 10, .int (nI i)] (hC g n t co se ke dn f1 f2 e1 e2 op x1 x2 fa we sh ms ps md tk bl pr ch sm ++ rest) (some (.long (lN (x1 i * (x2 i ^ fa i % 2147483579) % 2147483579)))) (hC g n t co se ke dn f1 f2 e1 e2 op x1 x2 fa we sh ms ps md tk bl pr ch sm ++ rest) := by
  refine xm_of [some (.ref 10), some (.int (nI i))] rfl (Nat.le_of_ble_eq_true rfl) rfl ?_
  intro p e s m args below meth c C hr hk
  refine xa_aload_n C dX_toldPart_0 rfl ?_
  refine xa_get C f_X_13 dX_toldPart_1 rfl rfl ?_
  refine xa_iload_n C dX_toldPart_4 rfl ?_
  refine xa_laloadN C dX_toldPart_5 rfl ?_ (by omega) ?_
  · omega
  refine xa_aload_n C dX_toldPart_6 rfl ?_
  refine xa_get C f_X_17 dX_toldPart_7 rfl rfl ?_
  refine xa_iload_n C dX_toldPart_10 rfl ?_
  refine xa_laloadN C dX_toldPart_11 rfl ?_ (by omega) ?_
  · omega
  refine xa_aload_n C dX_toldPart_12 rfl ?_
  refine xa_get C f_X_20 dX_toldPart_13 rfl rfl ?_
  refine xa_iload_n C dX_toldPart_16 rfl ?_
  refine xa_laloadN C dX_toldPart_17 rfl ?_ (by omega) ?_
  · omega
  refine xa_callS1 C (p_E_power g l (by first | exact hx2 _ | omega) (by first | exact hfa _ | omega) _) b_X_124 (xw_in wt_E_power rfl) dX_toldPart_18 rfl (Nat.le_of_ble_eq_true rfl) ⟨Nat.le_of_ble_eq_true rfl, Nat.le_of_ble_eq_true rfl⟩ ⟨Nat.zero_le _, Nat.zero_le _⟩ ?_
  refine xa_callS1 C (p_E_times g l (by first | exact hx1 _ | exact tb_p _) (tb_p _) _) b_X_62 (xw_in wt_E_times rfl) dX_toldPart_21 rfl (Nat.le_of_ble_eq_true rfl) ⟨Nat.le_of_ble_eq_true rfl, Nat.le_of_ble_eq_true rfl⟩ ⟨Nat.zero_le _, Nat.zero_le _⟩ ?_
  exact xa_lret C hr hk dX_toldPart_24
set_option maxHeartbeats 4000000 in
set_option maxRecDepth 100000 in
theorem p_X_keyExponent (g : xw_G) (l : Launch) {n t : Nat} {co se ke f1 f2 e1 e2 x1 x2 fa we sh : Nat → Nat} {dn op ms ps md tk bl : Int32} {pr ch sm : Nat} {rest : List va_E} (hn : n ≤ 6) (ht : t ≤ 6) {i : Nat} (h1 : 1 ≤ i) (hi : i ≤ n) (hch : ch < 2 ^ 31) (hwe : ∀ j, we j < 2 ^ 31) : xm_R g l true m_X_keyExponent [.ref 10, .int (nI i)] (hC g n t co se ke dn f1 f2 e1 e2 op x1 x2 fa we sh ms ps md tk bl pr ch sm ++ rest) (some (.long (lN (ch * we i % 1073741789)))) (hC g n t co se ke dn f1 f2 e1 e2 op x1 x2 fa we sh ms ps md tk bl pr ch sm ++ rest) := by
  refine xm_of [some (.ref 10), some (.int (nI i))] rfl (Nat.le_of_ble_eq_true rfl) rfl ?_
  intro p e s m args below meth c C hr hk
  refine xa_aload_n C dX_keyExponent_0 rfl ?_
  refine xa_get C f_X_74 dX_keyExponent_1 rfl rfl ?_
  refine xa_aload_n C dX_keyExponent_4 rfl ?_
  refine xa_get C f_X_23 dX_keyExponent_5 rfl rfl ?_
  refine xa_iload_n C dX_keyExponent_8 rfl ?_
  refine xa_laloadN C dX_keyExponent_9 rfl ?_ (by omega) ?_
  · omega
  refine xa_callS1 C (p_N_times g l (by omega) (by first | exact hwe _ | omega) _) b_X_90 (xw_in wt_N_times rfl) dX_keyExponent_10 rfl (Nat.le_of_ble_eq_true rfl) ⟨Nat.le_of_ble_eq_true rfl, Nat.le_of_ble_eq_true rfl⟩ ⟨Nat.zero_le _, Nat.zero_le _⟩ ?_
  exact xa_lret C hr hk dX_keyExponent_13
end
section
/-! the session: factors, weights, shares -/
theorem tp_eq {a b : Nat} (ha : a < 2 ^ 31) (hb : b < 2 ^ 31) : lg_cmp (lN a) (lN b) = 0 ↔ a = b := (lg_cmp_eq _ _).trans (pk_lEQ (by omega) (by omega))
theorem xb_iff {P Q : Prop} [Decidable P] [Decidable Q] (h : P ↔ Q) : xb P = xb Q := by
  by_cases q : Q
  · rw [xb_t q, xb_t (h.mpr q)]
  · rw [xb_f q, xb_f (fun z => q (h.mp z))]
theorem p_I_hasN (g : xw_G) (l : Launch) (x : Int32) {j : Nat} (h1 : 1 ≤ j) (h6 : j ≤ 6) (hp : List va_E) : xm_R g l true m_I_has [.int x, .int (nI j)] hp (some (.int (xb (hs x j = true)))) hp := by
  have h := p_I_has g l x (nI j) hp
  rw [xb_iff (hs_has (s := x) h1 h6)] at h
  exact h
theorem xb_hs0 {s : Int32} {j : Nat} (h : xb (hs s j = true) = 0) : hs s j = false := by
  have := xb_eq0.mp h
  simpa using this
theorem xb_hs1 {s : Int32} {j : Nat} (h : ¬ xb (hs s j = true) = 0) : hs s j = true := by
  by_cases q : hs s j = true
  · exact q
  · exact absurd (xb_f q) h
/-- the digest over the members -/
def fh_ (s : Int32) (a b : Nat → Nat) (h0 : Int64) : Nat → Int64
  | 0 => h0
  | k + 1 => if hs s (k + 1) = true then dg_m (dg_m (dg_m (fh_ s a b h0 k) (lN (k + 1))) (lN (a (k + 1)))) (lN (b (k + 1))) else fh_ s a b h0 k
def ff_ (s : Int32) (a b : Nat → Nat) (n : Nat) (msg : Int64) (key i : Nat) : Nat := dg_f (fh_ s a b (dg_m (dg_m (dg_m (dg_m 0 4) (lN key)) msg) (lN i)) n)
theorem ff_lt (s : Int32) (a b : Nat → Nat) (n : Nat) (msg : Int64) (key i : Nat) : ff_ s a b n msg key i < 2 ^ 30 := Nat.lt_trans (dg_f_lt _) (by decide)
theorem fh_same {s : Int32} {a b a' b' : Nat → Nat} {h0 : Int64} : ∀ n, (∀ j, 1 ≤ j → j ≤ n → hs s j = true → a j = a' j ∧ b j = b' j) → fh_ s a b h0 n = fh_ s a' b' h0 n
  | 0, _ => rfl
  | n + 1, h => by
    rw [fh_, fh_, fh_same n (fun j h1 h2 => h j h1 (by omega))]
    by_cases q : hs s (n + 1) = true
    · obtain ⟨e1, e2⟩ := h (n + 1) (by omega) (by omega) q
      rw [if_pos q, if_pos q, e1, e2]
    · rw [if_neg q, if_neg q]
set_option maxHeartbeats 4000000 in
set_option maxRecDepth 100000 in
theorem p_X_factorFor (g : xw_G) (l : Launch) {n t : Nat} {co se ke f1 f2 e1 e2 x1 x2 fa we sh : Nat → Nat} {dn op ms ps md tk bl : Int32} {pr ch sm : Nat} {rest : List va_E} (hn : n ≤ 6) (ht : t ≤ 6) {i : Nat} (h1 : 1 ≤ i) (hi : i ≤ n) (w : Int64) (key : Nat) : xm_R g l true m_X_factorFor [.ref 10, .int (nI i), .long w, .long (lN key)] (hC g n t co se ke dn f1 f2 e1 e2 op x1 x2 fa we sh ms ps md tk bl pr ch sm ++ rest) (some (.long (lN (ff_ ms x1 x2 n w key i)))) (hC g n t co se ke dn f1 f2 e1 e2 op x1 x2 fa we sh ms ps md tk bl pr ch sm ++ rest) := by
  refine xm_of [some (.ref 10), some (.int (nI i)), some (.long w), none, some (.long (lN key)), none, none, none, none] rfl (Nat.le_of_ble_eq_true rfl) rfl ?_
  intro p e s m args below meth c C hr hk
  have loop : ∀ d k : Nat, k + d = n → xw_At g true 9 p l e (xm_rm m_X_factorFor 0) s m args below meth c 0 0 (MQ below (xm_Q g true (some (.long (lN (ff_ ms x1 x2 n w key i)))) (hC g n t co se ke dn f1 f2 e1 e2 op x1 x2 fa we sh ms ps md tk bl pr ch sm ++ rest)) args s 0 0 (xm_fr g true)) 30 [some (.ref 10), some (.int (nI i)), some (.long w), none, some (.long (lN key)), none, some (.long (fh_ ms x1 x2 (dg_m (dg_m (dg_m (dg_m 0 4) (lN key)) w) (lN i)) k)), none, some (.int (nI (k + 1)))] [] (hC g n t co se ke dn f1 f2 e1 e2 op x1 x2 fa we sh ms ps md tk bl pr ch sm ++ rest) := by
    intro d
    induction d with
    | zero =>
      intro k hk9
      obtain rfl : k = n := by omega
      refine xa_iload C dX_factorFor_30 rfl ?_
      refine xa_aload_n C dX_factorFor_32 rfl ?_
      refine xa_get C f_X_7 dX_factorFor_33 rfl rfl ?_
      refine xa_icmp_gt C dX_factorFor_36 (tgt := 91) rfl (fun h36 => ?_) (fun h36 => ?_)
      · refine xa_lload C dX_factorFor_91 rfl ?_
        refine xa_callS1 C (p_G_finish g l _ _) b_X_120 (xw_in wt_G_finish rfl) dX_factorFor_93 rfl (Nat.le_of_ble_eq_true rfl) ⟨Nat.le_of_ble_eq_true rfl, Nat.le_of_ble_eq_true rfl⟩ ⟨Nat.zero_le _, Nat.zero_le _⟩ ?_
        exact xa_lret C hr hk dX_factorFor_96
      · exact absurd (nI_lt (by omega) (by omega)) h36
    | succ d ih =>
      intro k hk9
      refine xa_iload C dX_factorFor_30 rfl ?_
      refine xa_aload_n C dX_factorFor_32 rfl ?_
      refine xa_get C f_X_7 dX_factorFor_33 rfl rfl ?_
      refine xa_icmp_gt C dX_factorFor_36 (tgt := 91) rfl (fun h36 => ?_) (fun h36 => ?_)
      · exact absurd h36 (nI_nlt (by omega) (by omega))
      · refine xa_aload_n C dX_factorFor_39 rfl ?_
        refine xa_get C f_X_29 dX_factorFor_40 rfl rfl ?_
        refine xa_iload C dX_factorFor_43 rfl ?_
        refine xa_callS1 C (p_I_hasN g l _ (by omega) (by omega) _) b_X_40 (xw_in wt_I_has rfl) dX_factorFor_45 rfl (Nat.le_of_ble_eq_true rfl) ⟨Nat.le_of_ble_eq_true rfl, Nat.le_of_ble_eq_true rfl⟩ ⟨Nat.zero_le _, Nat.zero_le _⟩ ?_
        refine xa_if_eq C dX_factorFor_48 (tgt := 85) rfl (fun h48 => ?_) (fun h48 => ?_)
        · have hb := xb_hs0 h48
          refine xa_incN C dX_factorFor_85 rfl (Nat.le_of_ble_eq_true rfl) ?_
          refine xa_goto C dX_factorFor_88 (tgt := 30) rfl ?_
          have h := ih (k + 1) (by omega)
          rw [fh_, if_neg (by rw [hb]; decide)] at h
          exact h
        · have hb := xb_hs1 h48
          refine xa_lload C dX_factorFor_51 rfl ?_
          refine xa_iload C dX_factorFor_53 rfl ?_
          refine xa_i2lN C dX_factorFor_55 (by omega) ?_
          refine xa_callS1 C (p_G_mix g l _ _ _) b_X_117 (xw_in wt_G_mix rfl) dX_factorFor_56 rfl (Nat.le_of_ble_eq_true rfl) ⟨Nat.le_of_ble_eq_true rfl, Nat.le_of_ble_eq_true rfl⟩ ⟨Nat.zero_le _, Nat.zero_le _⟩ ?_
          refine xa_aload_n C dX_factorFor_59 rfl ?_
          refine xa_get C f_X_13 dX_factorFor_60 rfl rfl ?_
          refine xa_iload C dX_factorFor_63 rfl ?_
          refine xa_laloadN C dX_factorFor_65 rfl ?_ (by omega) ?_
          · omega
          refine xa_callS1 C (p_G_mix g l _ _ _) b_X_117 (xw_in wt_G_mix rfl) dX_factorFor_66 rfl (Nat.le_of_ble_eq_true rfl) ⟨Nat.le_of_ble_eq_true rfl, Nat.le_of_ble_eq_true rfl⟩ ⟨Nat.zero_le _, Nat.zero_le _⟩ ?_
          refine xa_lstore C dX_factorFor_69 (Nat.le_of_ble_eq_true rfl) ?_
          refine xa_lload C dX_factorFor_71 rfl ?_
          refine xa_aload_n C dX_factorFor_73 rfl ?_
          refine xa_get C f_X_17 dX_factorFor_74 rfl rfl ?_
          refine xa_iload C dX_factorFor_77 rfl ?_
          refine xa_laloadN C dX_factorFor_79 rfl ?_ (by omega) ?_
          · omega
          refine xa_callS1 C (p_G_mix g l _ _ _) b_X_117 (xw_in wt_G_mix rfl) dX_factorFor_80 rfl (Nat.le_of_ble_eq_true rfl) ⟨Nat.le_of_ble_eq_true rfl, Nat.le_of_ble_eq_true rfl⟩ ⟨Nat.zero_le _, Nat.zero_le _⟩ ?_
          refine xa_lstore C dX_factorFor_83 (Nat.le_of_ble_eq_true rfl) ?_
          refine xa_incN C dX_factorFor_85 rfl (Nat.le_of_ble_eq_true rfl) ?_
          refine xa_goto C dX_factorFor_88 (tgt := 30) rfl ?_
          have h := ih (k + 1) (by omega)
          rw [fh_, if_pos hb] at h
          exact h
  refine xa_lcN C 0 dX_factorFor_0 ?_
  refine xa_ldc2 C (xw_in wk_X_115 rfl) dX_factorFor_1 ?_
  refine xa_callS1 C (p_G_mix g l _ _ _) b_X_117 (xw_in wt_G_mix rfl) dX_factorFor_4 rfl (Nat.le_of_ble_eq_true rfl) ⟨Nat.le_of_ble_eq_true rfl, Nat.le_of_ble_eq_true rfl⟩ ⟨Nat.zero_le _, Nat.zero_le _⟩ ?_
  refine xa_lload C dX_factorFor_7 rfl ?_
  refine xa_callS1 C (p_G_mix g l _ _ _) b_X_117 (xw_in wt_G_mix rfl) dX_factorFor_9 rfl (Nat.le_of_ble_eq_true rfl) ⟨Nat.le_of_ble_eq_true rfl, Nat.le_of_ble_eq_true rfl⟩ ⟨Nat.zero_le _, Nat.zero_le _⟩ ?_
  refine xa_lstore C dX_factorFor_12 (Nat.le_of_ble_eq_true rfl) ?_
  refine xa_lload C dX_factorFor_14 rfl ?_
  refine xa_lload_n C dX_factorFor_16 rfl ?_
  refine xa_callS1 C (p_G_mix g l _ _ _) b_X_117 (xw_in wt_G_mix rfl) dX_factorFor_17 rfl (Nat.le_of_ble_eq_true rfl) ⟨Nat.le_of_ble_eq_true rfl, Nat.le_of_ble_eq_true rfl⟩ ⟨Nat.zero_le _, Nat.zero_le _⟩ ?_
  refine xa_iload_n C dX_factorFor_20 rfl ?_
  refine xa_i2lN C dX_factorFor_21 (by omega) ?_
  refine xa_callS1 C (p_G_mix g l _ _ _) b_X_117 (xw_in wt_G_mix rfl) dX_factorFor_22 rfl (Nat.le_of_ble_eq_true rfl) ⟨Nat.le_of_ble_eq_true rfl, Nat.le_of_ble_eq_true rfl⟩ ⟨Nat.zero_le _, Nat.zero_le _⟩ ?_
  refine xa_lstore C dX_factorFor_25 (Nat.le_of_ble_eq_true rfl) ?_
  refine xa_icN C 1 dX_factorFor_27 ?_
  refine xa_istore C dX_factorFor_28 (Nat.le_of_ble_eq_true rfl) ?_
  exact loop n 0 (by omega)
/-- weights: what is above, what is below -/
def aw_ (s : Int32) (i : Nat) : Nat → Nat
  | 0 => 1
  | k + 1 => if k + 1 ≠ i ∧ hs s (k + 1) = true then aw_ s i k * (k + 1) % 1073741789 else aw_ s i k
def bw_ (s : Int32) (i : Nat) : Nat → Nat
  | 0 => 1
  | k + 1 => if k + 1 ≠ i ∧ hs s (k + 1) = true then bw_ s i k * ((k + 1 + 1073741789 - i) % 1073741789) % 1073741789 else bw_ s i k
theorem aw_lt (s : Int32) (i : Nat) : ∀ k, aw_ s i k < 2 ^ 31
  | 0 => (by decide : 1 < 2 ^ 31)
  | k + 1 => by
    rw [aw_]
    by_cases q : k + 1 ≠ i ∧ hs s (k + 1) = true
    · rw [if_pos q]; exact tb_q _
    · rw [if_neg q]; exact aw_lt s i k
theorem bw_lt (s : Int32) (i : Nat) : ∀ k, bw_ s i k < 2 ^ 31
  | 0 => (by decide : 1 < 2 ^ 31)
  | k + 1 => by
    rw [bw_]
    by_cases q : k + 1 ≠ i ∧ hs s (k + 1) = true
    · rw [if_pos q]; exact tb_q _
    · rw [if_neg q]; exact bw_lt s i k
def wt_ (s : Int32) (n i : Nat) : Nat := aw_ s i n * (bw_ s i n ^ 1073741787 % 1073741789) % 1073741789
theorem wt_lt (s : Int32) (n i : Nat) : wt_ s n i < 2 ^ 30 := Nat.lt_trans (Nat.mod_lt _ (by decide)) (by decide)
set_option maxHeartbeats 4000000 in
set_option maxRecDepth 100000 in
theorem p_I_weightIn (g : xw_G) (l : Launch) (x : Int32) {n i : Nat} (hn : n ≤ 6) (hi : i ≤ 6) (hp : List va_E) : xm_R g l true m_I_weightIn [.int x, .int (nI i), .int (nI n)] hp (some (.long (lN (wt_ x n i)))) hp := by
  refine xm_of [some (.int x), some (.int (nI i)), some (.int (nI n)), none, none, none, none, none] rfl (Nat.le_of_ble_eq_true rfl) rfl ?_
  intro p e s m args below meth c C hr hk
  have loop : ∀ d k : Nat, k + d = n → xw_At g true 8 p l e (xm_rm m_I_weightIn 0) s m args below meth c 0 0 (MQ below (xm_Q g true (some (.long (lN (wt_ x n i)))) hp) args s 0 0 (xm_fr g true)) 8 [some (.int x), some (.int (nI i)), some (.int (nI n)), some (.long (lN (aw_ x i k))), none, some (.long (lN (bw_ x i k))), none, some (.int (nI (k + 1)))] [] hp := by
    intro d
    induction d with
    | zero =>
      intro k hk9
      obtain rfl : k = n := by omega
      refine xa_iload C dI_weightIn_8 rfl ?_
      refine xa_iload_n C dI_weightIn_10 rfl ?_
      refine xa_icmp_gt C dI_weightIn_11 (tgt := 58) rfl (fun h11 => ?_) (fun h11 => ?_)
      · refine xa_lload_n C dI_weightIn_58 rfl ?_
        refine xa_lload C dI_weightIn_59 rfl ?_
        refine xa_callS1 C (p_N_inverse g l (bw_lt _ _ _) _) b_I_26 (xw_in wt_N_inverse rfl) dI_weightIn_61 rfl (Nat.le_of_ble_eq_true rfl) ⟨Nat.le_of_ble_eq_true rfl, Nat.le_of_ble_eq_true rfl⟩ ⟨Nat.zero_le _, Nat.zero_le _⟩ ?_
        refine xa_callS1 C (p_N_times g l (by first | exact aw_lt _ _ _ | exact bw_lt _ _ _ | omega) (by first | exact tb_q _ | omega) _) b_I_17 (xw_in wt_N_times rfl) dI_weightIn_64 rfl (Nat.le_of_ble_eq_true rfl) ⟨Nat.le_of_ble_eq_true rfl, Nat.le_of_ble_eq_true rfl⟩ ⟨Nat.zero_le _, Nat.zero_le _⟩ ?_
        exact xa_lret C hr hk dI_weightIn_67
      · exact absurd (nI_lt (by omega) (by omega)) h11
    | succ d ih =>
      intro k hk9
      refine xa_iload C dI_weightIn_8 rfl ?_
      refine xa_iload_n C dI_weightIn_10 rfl ?_
      refine xa_icmp_gt C dI_weightIn_11 (tgt := 58) rfl (fun h11 => ?_) (fun h11 => ?_)
      · exact absurd h11 (nI_nlt (by omega) (by omega))
      · refine xa_iload C dI_weightIn_14 rfl ?_
        refine xa_iload_n C dI_weightIn_16 rfl ?_
        refine xa_icmp_eq C dI_weightIn_17 (tgt := 52) rfl (fun h17 => ?_) (fun h17 => ?_)
        · have e : k + 1 = i := (nI_eq (by omega) (by omega)).mp h17
          refine xa_incN C dI_weightIn_52 rfl (Nat.le_of_ble_eq_true rfl) ?_
          refine xa_goto C dI_weightIn_55 (tgt := 8) rfl ?_
          have h := ih (k + 1) (by omega)
          rw [aw_, bw_, if_neg (fun q => q.1 e), if_neg (fun q => q.1 e)] at h
          exact h
        · have e : k + 1 ≠ i := fun q => h17 (by rw [q])
          refine xa_iload_n C dI_weightIn_20 rfl ?_
          refine xa_iload C dI_weightIn_21 rfl ?_
          refine xa_callS1 C (p_I_hasN g l _ (by omega) (by omega) _) b_I_13 (xw_in wt_I_has rfl) dI_weightIn_23 rfl (Nat.le_of_ble_eq_true rfl) ⟨Nat.le_of_ble_eq_true rfl, Nat.le_of_ble_eq_true rfl⟩ ⟨Nat.zero_le _, Nat.zero_le _⟩ ?_
          refine xa_if_eq C dI_weightIn_26 (tgt := 52) rfl (fun h26 => ?_) (fun h26 => ?_)
          · have hb := xb_hs0 h26
            refine xa_incN C dI_weightIn_52 rfl (Nat.le_of_ble_eq_true rfl) ?_
            refine xa_goto C dI_weightIn_55 (tgt := 8) rfl ?_
            have h := ih (k + 1) (by omega)
            rw [aw_, bw_, if_neg (fun q => by rw [hb] at q; exact absurd q.2 (by decide)), if_neg (fun q => by rw [hb] at q; exact absurd q.2 (by decide))] at h
            exact h
          · have hb := xb_hs1 h26
            refine xa_lload_n C dI_weightIn_29 rfl ?_
            refine xa_iload C dI_weightIn_30 rfl ?_
            refine xa_i2lN C dI_weightIn_32 (by omega) ?_
            refine xa_callS1 C (p_N_times g l (by first | exact aw_lt _ _ _ | exact bw_lt _ _ _ | omega) (by first | exact tb_q _ | omega) _) b_I_17 (xw_in wt_N_times rfl) dI_weightIn_33 rfl (Nat.le_of_ble_eq_true rfl) ⟨Nat.le_of_ble_eq_true rfl, Nat.le_of_ble_eq_true rfl⟩ ⟨Nat.zero_le _, Nat.zero_le _⟩ ?_
            refine xa_lstore_n C dI_weightIn_36 (Nat.le_of_ble_eq_true rfl) ?_
            refine xa_lload C dI_weightIn_37 rfl ?_
            refine xa_iload C dI_weightIn_39 rfl ?_
            refine xa_i2lN C dI_weightIn_41 (by omega) ?_
            refine xa_iload_n C dI_weightIn_42 rfl ?_
            refine xa_i2lN C dI_weightIn_43 (by omega) ?_
            refine xa_callS1 C (p_N_minus g l (by omega) (by omega) _) b_I_23 (xw_in wt_N_minus rfl) dI_weightIn_44 rfl (Nat.le_of_ble_eq_true rfl) ⟨Nat.le_of_ble_eq_true rfl, Nat.le_of_ble_eq_true rfl⟩ ⟨Nat.zero_le _, Nat.zero_le _⟩ ?_
            refine xa_callS1 C (p_N_times g l (by first | exact aw_lt _ _ _ | exact bw_lt _ _ _ | omega) (by first | exact tb_q _ | omega) _) b_I_17 (xw_in wt_N_times rfl) dI_weightIn_47 rfl (Nat.le_of_ble_eq_true rfl) ⟨Nat.le_of_ble_eq_true rfl, Nat.le_of_ble_eq_true rfl⟩ ⟨Nat.zero_le _, Nat.zero_le _⟩ ?_
            refine xa_lstore C dI_weightIn_50 (Nat.le_of_ble_eq_true rfl) ?_
            refine xa_incN C dI_weightIn_52 rfl (Nat.le_of_ble_eq_true rfl) ?_
            refine xa_goto C dI_weightIn_55 (tgt := 8) rfl ?_
            have h := ih (k + 1) (by omega)
            rw [aw_, bw_, if_pos ⟨e, hb⟩, if_pos ⟨e, hb⟩] at h
            exact h
  refine xa_lcN C 1 dI_weightIn_0 ?_
  refine xa_lstore_n C dI_weightIn_1 (Nat.le_of_ble_eq_true rfl) ?_
  refine xa_lcN C 1 dI_weightIn_2 ?_
  refine xa_lstore C dI_weightIn_3 (Nat.le_of_ble_eq_true rfl) ?_
  refine xa_icN C 1 dI_weightIn_5 ?_
  refine xa_istore C dI_weightIn_6 (Nat.le_of_ble_eq_true rfl) ?_
  exact loop n 0 (by omega)
set_option maxHeartbeats 4000000 in
set_option maxRecDepth 100000 in
theorem p_X_isRight (g : xw_G) (l : Launch) {n t : Nat} {co se ke f1 f2 e1 e2 x1 x2 fa we sh : Nat → Nat} {dn op ms ps md tk bl : Int32} {pr ch sm : Nat} {rest : List va_E} (hn : n ≤ 6) (ht : t ≤ 6) {i : Nat} (h1 : 1 ≤ i) (hi : i ≤ n) (hx1 : ∀ j, x1 j < 2 ^ 31) (hx2 : ∀ j, x2 j < 2 ^ 31) (hfa : ∀ j, fa j < 2 ^ 30) (hwe : ∀ j, we j < 2 ^ 31) (hch : ch < 2 ^ 31) {z key : Nat} (hz : z < 2 ^ 30) (hkey : key < 2 ^ 31) : xm_R g l true m_X_isRight [.ref 10, .int (nI i), .long (lN z), .long (lN key)] (hC g n t co se ke dn f1 f2 e1 e2 op x1 x2 fa we sh ms ps md tk bl pr ch sm ++ rest) (some (.int (xb (4 ^ z % 2147483579 = (x1 i * (x2 i ^ fa i % 2147483579) % 2147483579) * (key ^ (ch * we i % 1073741789) % 2147483579) % 2147483579)))) (hC g n t co se ke dn f1 f2 e1 e2 op x1 x2 fa we sh ms ps md tk bl pr ch sm ++ rest) := by
  refine xm_of [some (.ref 10), some (.int (nI i)), some (.long (lN z)), none, some (.long (lN key)), none, none, none] rfl (Nat.le_of_ble_eq_true rfl) rfl ?_
  intro p e s m args below meth c C hr hk
  refine xa_lload C dX_isRight_0 rfl ?_
  refine xa_aload_n C dX_isRight_2 rfl ?_
  refine xa_iload_n C dX_isRight_3 rfl ?_
  refine xa_callV1 C (p_X_keyExponent g l hn ht h1 hi hch hwe) b_X_96 (xw_in wi_X_keyExponent rfl) e_X_keyExponent dX_isRight_4 rfl rfl rfl rfl (Nat.le_of_ble_eq_true rfl) ⟨Nat.le_of_ble_eq_true rfl, Nat.le_of_ble_eq_true rfl⟩ ⟨Nat.zero_le _, Nat.zero_le _⟩ ?_
  refine xa_callS1 C (p_E_power g l hkey (Nat.lt_trans (Nat.mod_lt _ (by decide)) (by decide)) _) b_X_124 (xw_in wt_E_power rfl) dX_isRight_7 rfl (Nat.le_of_ble_eq_true rfl) ⟨Nat.le_of_ble_eq_true rfl, Nat.le_of_ble_eq_true rfl⟩ ⟨Nat.zero_le _, Nat.zero_le _⟩ ?_
  refine xa_lstore C dX_isRight_10 (Nat.le_of_ble_eq_true rfl) ?_
  refine xa_lload_n C dX_isRight_12 rfl ?_
  refine xa_callS1 C (p_E_ofNumber g l hz _) b_X_127 (xw_in wt_E_ofNumber rfl) dX_isRight_13 rfl (Nat.le_of_ble_eq_true rfl) ⟨Nat.le_of_ble_eq_true rfl, Nat.le_of_ble_eq_true rfl⟩ ⟨Nat.zero_le _, Nat.zero_le _⟩ ?_
  refine xa_aload_n C dX_isRight_16 rfl ?_
  refine xa_iload_n C dX_isRight_17 rfl ?_
  refine xa_callV1 C (p_X_toldPart g l hn ht h1 hi hx1 hx2 hfa) b_X_58 (xw_in wi_X_toldPart rfl) e_X_toldPart dX_isRight_18 rfl rfl rfl rfl (Nat.le_of_ble_eq_true rfl) ⟨Nat.le_of_ble_eq_true rfl, Nat.le_of_ble_eq_true rfl⟩ ⟨Nat.zero_le _, Nat.zero_le _⟩ ?_
  refine xa_lload C dX_isRight_21 rfl ?_
  refine xa_callS1 C (p_E_times g l (tb_p _) (tb_p _) _) b_X_62 (xw_in wt_E_times rfl) dX_isRight_23 rfl (Nat.le_of_ble_eq_true rfl) ⟨Nat.le_of_ble_eq_true rfl, Nat.le_of_ble_eq_true rfl⟩ ⟨Nat.zero_le _, Nat.zero_le _⟩ ?_
  refine xa_lcmp C dX_isRight_26 ?_
  refine xa_if_ne C dX_isRight_27 (tgt := 34) rfl (fun h27 => ?_) (fun h27 => ?_)
  · refine xa_icN C 0 dX_isRight_34 ?_
    exact xa_eq rfl (congrArg (fun z => [Value.int z]) (xb_f (P := 4 ^ z % 2147483579 = (x1 i * (x2 i ^ fa i % 2147483579) % 2147483579) * (key ^ (ch * we i % 1073741789) % 2147483579) % 2147483579) (fun q => h27 ((tp_eq (tb_p _) (tb_p _)).mpr q))).symm) rfl (xa_zret C hr hk (xb_nar _) dX_isRight_35)
  · refine xa_icN C 1 dX_isRight_30 ?_
    refine xa_goto C dX_isRight_31 (tgt := 35) rfl ?_
    exact xa_eq rfl (congrArg (fun z => [Value.int z]) (xb_t (P := 4 ^ z % 2147483579 = (x1 i * (x2 i ^ fa i % 2147483579) % 2147483579) * (key ^ (ch * we i % 1073741789) % 2147483579) % 2147483579) ((tp_eq (tb_p _) (tb_p _)).mp h27)).symm) rfl (xa_zret C hr hk (xb_nar _) dX_isRight_35)
set_option maxHeartbeats 4000000 in
set_option maxRecDepth 100000 in
theorem p_X_makeShare (g : xw_G) (l : Launch) {n t : Nat} {co se ke f1 f2 e1 e2 x1 x2 fa we sh : Nat → Nat} {dn op ms ps md tk bl : Int32} {pr ch sm : Nat} {rest : List va_E} (hn : n ≤ 6) (ht : t ≤ 6) {i : Nat} (h1 : 1 ≤ i) (hi : i ≤ n) (hx1 : ∀ j, x1 j < 2 ^ 31) (hx2 : ∀ j, x2 j < 2 ^ 31) (hfa : ∀ j, fa j < 2 ^ 30) (hwe : ∀ j, we j < 2 ^ 31) (hch : ch < 2 ^ 31) (hf1 : ∀ j, f1 j < 2 ^ 31) (hf2 : ∀ j, f2 j < 2 ^ 31) {z : Nat} (hz : z < 2 ^ 31) : xm_R g l false m_X_makeShare [.ref 10, .int (nI i), .long (lN z), .ref 5] (hC g n t co se ke dn f1 f2 e1 e2 op x1 x2 fa we sh ms ps md tk bl pr ch sm ++ rest) none (hC g n t co se ke dn f1 f2 e1 e2 op x1 x2 fa we (va_up sh i (((f1 i + f2 i * fa i % 1073741789) % 1073741789 + ch * we i % 1073741789 * z % 1073741789) % 1073741789)) ms ps (md ||| on_ i) tk bl pr ch sm ++ rest) := by
  refine xm_of [some (.ref 10), some (.int (nI i)), some (.long (lN z)), none, some (.ref 5), none, none] rfl (Nat.le_of_ble_eq_true rfl) rfl ?_
  intro p e s m args below meth c C hr hk
  refine xa_aload C dX_makeShare_0 rfl ?_
  refine xa_get C f_X_84 dX_makeShare_2 rfl rfl ?_
  refine xa_iload_n C dX_makeShare_5 rfl ?_
  refine xa_laloadN C dX_makeShare_6 rfl ?_ (by omega) ?_
  · omega
  refine xa_aload C dX_makeShare_7 rfl ?_
  refine xa_get C f_X_87 dX_makeShare_9 rfl rfl ?_
  refine xa_iload_n C dX_makeShare_12 rfl ?_
  refine xa_laloadN C dX_makeShare_13 rfl ?_ (by omega) ?_
  · omega
  refine xa_aload_n C dX_makeShare_14 rfl ?_
  refine xa_get C f_X_20 dX_makeShare_15 rfl rfl ?_
  refine xa_iload_n C dX_makeShare_18 rfl ?_
  refine xa_laloadN C dX_makeShare_19 rfl ?_ (by omega) ?_
  · omega
  refine xa_callS1 C (p_N_times g l (by first | exact hf2 _ | exact tb_q _) (by first | exact Nat.lt_trans (hfa _) (by decide) | exact hz) _) b_X_90 (xw_in wt_N_times rfl) dX_makeShare_20 rfl (Nat.le_of_ble_eq_true rfl) ⟨Nat.le_of_ble_eq_true rfl, Nat.le_of_ble_eq_true rfl⟩ ⟨Nat.zero_le _, Nat.zero_le _⟩ ?_
  refine xa_callS1 C (p_N_plus g l (by first | exact hf1 _ | exact tb_q _) (tb_q _) _) b_X_93 (xw_in wt_N_plus rfl) dX_makeShare_23 rfl (Nat.le_of_ble_eq_true rfl) ⟨Nat.le_of_ble_eq_true rfl, Nat.le_of_ble_eq_true rfl⟩ ⟨Nat.zero_le _, Nat.zero_le _⟩ ?_
  refine xa_lstore C dX_makeShare_26 (Nat.le_of_ble_eq_true rfl) ?_
  refine xa_aload_n C dX_makeShare_28 rfl ?_
  refine xa_get C f_X_26 dX_makeShare_29 rfl rfl ?_
  refine xa_iload_n C dX_makeShare_32 rfl ?_
  refine xa_lload C dX_makeShare_33 rfl ?_
  refine xa_aload_n C dX_makeShare_35 rfl ?_
  refine xa_iload_n C dX_makeShare_36 rfl ?_
  refine xa_callV1 C (p_X_keyExponent g l hn ht h1 hi hch hwe) b_X_96 (xw_in wi_X_keyExponent rfl) e_X_keyExponent dX_makeShare_37 rfl rfl rfl rfl (Nat.le_of_ble_eq_true rfl) ⟨Nat.le_of_ble_eq_true rfl, Nat.le_of_ble_eq_true rfl⟩ ⟨Nat.zero_le _, Nat.zero_le _⟩ ?_
  refine xa_lload_n C dX_makeShare_40 rfl ?_
  refine xa_callS1 C (p_N_times g l (by first | exact hf2 _ | exact tb_q _) (by first | exact Nat.lt_trans (hfa _) (by decide) | exact hz) _) b_X_90 (xw_in wt_N_times rfl) dX_makeShare_41 rfl (Nat.le_of_ble_eq_true rfl) ⟨Nat.le_of_ble_eq_true rfl, Nat.le_of_ble_eq_true rfl⟩ ⟨Nat.zero_le _, Nat.zero_le _⟩ ?_
  refine xa_callS1 C (p_N_plus g l (by first | exact hf1 _ | exact tb_q _) (tb_q _) _) b_X_93 (xw_in wt_N_plus rfl) dX_makeShare_44 rfl (Nat.le_of_ble_eq_true rfl) ⟨Nat.le_of_ble_eq_true rfl, Nat.le_of_ble_eq_true rfl⟩ ⟨Nat.zero_le _, Nat.zero_le _⟩ ?_
  refine xa_lastoreN C dX_makeShare_47 rfl ?_ (by omega) ?_
  · omega
  refine xa_eq rfl rfl (hp' := (hC g n t co se ke dn f1 f2 e1 e2 op x1 x2 fa we (va_up sh i (((f1 i + f2 i * fa i % 1073741789) % 1073741789 + ch * we i % 1073741789 * z % 1073741789) % 1073741789)) ms ps md tk bl pr ch sm ++ rest)) rfl ?_
  refine xa_aload_n C dX_makeShare_48 rfl ?_
  refine xa_dup C dX_makeShare_49 rfl ?_
  refine xa_get C f_X_99 dX_makeShare_50 rfl rfl ?_
  refine xa_iload_n C dX_makeShare_53 rfl ?_
  refine xa_callS1 C (p_I_only g l _ _) b_X_80 (xw_in wt_I_only rfl) dX_makeShare_54 rfl (Nat.le_of_ble_eq_true rfl) ⟨Nat.le_of_ble_eq_true rfl, Nat.le_of_ble_eq_true rfl⟩ ⟨Nat.zero_le _, Nat.zero_le _⟩ ?_
  refine xa_ior C dX_makeShare_57 ?_
  refine xa_put C f_X_99 u_X_8 dX_makeShare_58 rfl (Nat.le_of_ble_eq_true rfl) rfl rfl (fun _ h => by cases h) ?_
  exact xa_eq rfl rfl rfl (xa_vret C hr hk dX_makeShare_61)
set_option maxHeartbeats 4000000 in
set_option maxRecDepth 100000 in
theorem p_X_tell_t (g : xw_G) (l : Launch) {n t : Nat} {co se ke f1 f2 e1 e2 x1 x2 fa we sh : Nat → Nat} {dn op ms ps md tk bl : Int32} {pr ch sm : Nat} {rest : List va_E} (hn : n ≤ 6) (ht : t ≤ 6) {i : Nat} (h1 : 1 ≤ i) (hi : i ≤ n) (hx1 : ∀ j, x1 j < 2 ^ 31) (hx2 : ∀ j, x2 j < 2 ^ 31) (hfa : ∀ j, fa j < 2 ^ 30) (hwe : ∀ j, we j < 2 ^ 31) (hch : ch < 2 ^ 31) (hsm : sm < 2 ^ 31) {z key : Nat} (hz : z < 2 ^ 30) (hkey : key < 2 ^ 31) (hR : 4 ^ z % 2147483579 = (x1 i * (x2 i ^ fa i % 2147483579) % 2147483579) * (key ^ (ch * we i % 1073741789) % 2147483579) % 2147483579) : xm_R g l false m_X_tell [.ref 10, .int (nI i), .long (lN z), .long (lN key)] (hC g n t co se ke dn f1 f2 e1 e2 op x1 x2 fa we sh ms ps md tk bl pr ch sm ++ rest) (some (.int 1)) (hC g n t co se ke dn f1 f2 e1 e2 op x1 x2 fa we sh ms ps md (tk ||| on_ i) bl pr ch ((sm + z) % 1073741789) ++ rest) := by
  refine xm_of [some (.ref 10), some (.int (nI i)), some (.long (lN z)), none, some (.long (lN key)), none] rfl (Nat.le_of_ble_eq_true rfl) rfl ?_
  intro p e s m args below meth c C hr hk
  refine xa_aload_n C dX_tell_0 rfl ?_
  refine xa_iload_n C dX_tell_1 rfl ?_
  refine xa_lload_n C dX_tell_2 rfl ?_
  refine xa_lload C dX_tell_3 rfl ?_
  refine xa_callV1 C (p_X_isRight g l hn ht h1 hi hx1 hx2 hfa hwe hch hz hkey) b_X_102 (xw_in wi_X_isRight rfl) e_X_isRight dX_tell_5 rfl rfl rfl rfl (Nat.le_of_ble_eq_true rfl) ⟨Nat.le_of_ble_eq_true rfl, Nat.le_of_ble_eq_true rfl⟩ ⟨Nat.zero_le _, Nat.zero_le _⟩ ?_
  refine xa_if_ne C dX_tell_8 (tgt := 26) rfl (fun h8 => ?_) (fun h8 => ?_)
  · refine xa_aload_n C dX_tell_26 rfl ?_
    refine xa_dup C dX_tell_27 rfl ?_
    refine xa_get C f_X_109 dX_tell_28 rfl rfl ?_
    refine xa_iload_n C dX_tell_31 rfl ?_
    refine xa_callS1 C (p_I_only g l _ _) b_X_80 (xw_in wt_I_only rfl) dX_tell_32 rfl (Nat.le_of_ble_eq_true rfl) ⟨Nat.le_of_ble_eq_true rfl, Nat.le_of_ble_eq_true rfl⟩ ⟨Nat.zero_le _, Nat.zero_le _⟩ ?_
    refine xa_ior C dX_tell_35 ?_
    refine xa_put C f_X_109 u_X_9 dX_tell_36 rfl (Nat.le_of_ble_eq_true rfl) rfl rfl (fun _ h => by cases h) ?_
    refine xa_aload_n C dX_tell_39 rfl ?_
    refine xa_aload_n C dX_tell_40 rfl ?_
    refine xa_get C f_X_112 dX_tell_41 rfl rfl ?_
    refine xa_lload_n C dX_tell_44 rfl ?_
    refine xa_callS1 C (p_N_plus g l hsm (by omega) _) b_X_93 (xw_in wt_N_plus rfl) dX_tell_45 rfl (Nat.le_of_ble_eq_true rfl) ⟨Nat.le_of_ble_eq_true rfl, Nat.le_of_ble_eq_true rfl⟩ ⟨Nat.zero_le _, Nat.zero_le _⟩ ?_
    refine xa_put C f_X_112 u_X_13 dX_tell_48 rfl (Nat.le_of_ble_eq_true rfl) rfl rfl (fun _ h => by cases h) ?_
    refine xa_icN C 1 dX_tell_51 ?_
    exact xa_eq rfl rfl rfl (xa_zret C hr hk rfl dX_tell_52)
  · exact absurd hR (xb_eq0.mp h8)
set_option maxHeartbeats 4000000 in
set_option maxRecDepth 100000 in
theorem p_X_tell_f (g : xw_G) (l : Launch) {n t : Nat} {co se ke f1 f2 e1 e2 x1 x2 fa we sh : Nat → Nat} {dn op ms ps md tk bl : Int32} {pr ch sm : Nat} {rest : List va_E} (hn : n ≤ 6) (ht : t ≤ 6) {i : Nat} (h1 : 1 ≤ i) (hi : i ≤ n) (hx1 : ∀ j, x1 j < 2 ^ 31) (hx2 : ∀ j, x2 j < 2 ^ 31) (hfa : ∀ j, fa j < 2 ^ 30) (hwe : ∀ j, we j < 2 ^ 31) (hch : ch < 2 ^ 31) (hsm : sm < 2 ^ 31) {z key : Nat} (hz : z < 2 ^ 30) (hkey : key < 2 ^ 31) (hR : ¬ 4 ^ z % 2147483579 = (x1 i * (x2 i ^ fa i % 2147483579) % 2147483579) * (key ^ (ch * we i % 1073741789) % 2147483579) % 2147483579) : xm_R g l false m_X_tell [.ref 10, .int (nI i), .long (lN z), .long (lN key)] (hC g n t co se ke dn f1 f2 e1 e2 op x1 x2 fa we sh ms ps md tk bl pr ch sm ++ rest) (some (.int 0)) (hC g n t co se ke dn f1 f2 e1 e2 op x1 x2 fa we sh ms ps md tk (bl ||| on_ i) pr ch sm ++ rest) := by
  refine xm_of [some (.ref 10), some (.int (nI i)), some (.long (lN z)), none, some (.long (lN key)), none] rfl (Nat.le_of_ble_eq_true rfl) rfl ?_
  intro p e s m args below meth c C hr hk
  refine xa_aload_n C dX_tell_0 rfl ?_
  refine xa_iload_n C dX_tell_1 rfl ?_
  refine xa_lload_n C dX_tell_2 rfl ?_
  refine xa_lload C dX_tell_3 rfl ?_
  refine xa_callV1 C (p_X_isRight g l hn ht h1 hi hx1 hx2 hfa hwe hch hz hkey) b_X_102 (xw_in wi_X_isRight rfl) e_X_isRight dX_tell_5 rfl rfl rfl rfl (Nat.le_of_ble_eq_true rfl) ⟨Nat.le_of_ble_eq_true rfl, Nat.le_of_ble_eq_true rfl⟩ ⟨Nat.zero_le _, Nat.zero_le _⟩ ?_
  refine xa_if_ne C dX_tell_8 (tgt := 26) rfl (fun h8 => ?_) (fun h8 => ?_)
  · exact absurd (xb_f hR) h8
  · refine xa_aload_n C dX_tell_11 rfl ?_
    refine xa_dup C dX_tell_12 rfl ?_
    refine xa_get C f_X_106 dX_tell_13 rfl rfl ?_
    refine xa_iload_n C dX_tell_16 rfl ?_
    refine xa_callS1 C (p_I_only g l _ _) b_X_80 (xw_in wt_I_only rfl) dX_tell_17 rfl (Nat.le_of_ble_eq_true rfl) ⟨Nat.le_of_ble_eq_true rfl, Nat.le_of_ble_eq_true rfl⟩ ⟨Nat.zero_le _, Nat.zero_le _⟩ ?_
    refine xa_ior C dX_tell_20 ?_
    refine xa_put C f_X_106 u_X_10 dX_tell_21 rfl (Nat.le_of_ble_eq_true rfl) rfl rfl (fun _ h => by cases h) ?_
    refine xa_icN C 0 dX_tell_24 ?_
    exact xa_eq rfl rfl rfl (xa_zret C hr hk rfl dX_tell_25)
end
section
/-! the session: start -/
def sl_ (p : Nat → Bool) (v f : Nat → Nat) (k : Nat) : Nat → Nat := fun j => if 1 ≤ j ∧ j ≤ k ∧ p j = true then v j else f j
theorem sl_up {p : Nat → Bool} {v f : Nat → Nat} {k : Nat} (h : p (k + 1) = true) : va_up (sl_ p v f k) (k + 1) (v (k + 1)) = sl_ p v f (k + 1) := by
  funext j
  unfold va_up sl_
  by_cases e : j = k + 1
  · subst e
    rw [if_pos rfl, if_pos ⟨by omega, by omega, h⟩]
  · rw [if_neg e]
    by_cases q : 1 ≤ j ∧ j ≤ k ∧ p j = true
    · rw [if_pos q, if_pos ⟨q.1, by omega, q.2.2⟩]
    · rw [if_neg q, if_neg (fun z => q ⟨z.1, by omega, z.2.2⟩)]
theorem sl_no {p : Nat → Bool} {v f : Nat → Nat} {k : Nat} (h : p (k + 1) = false) : sl_ p v f (k + 1) = sl_ p v f k := by
  funext j
  unfold sl_
  by_cases q : 1 ≤ j ∧ j ≤ k ∧ p j = true
  · rw [if_pos q, if_pos ⟨q.1, by omega, q.2.2⟩]
  · rw [if_neg q, if_neg (fun z => ?_)]
    by_cases e : j = k + 1
    · subst e; rw [h] at z; exact absurd z.2.2 (by decide)
    · exact q ⟨z.1, by omega, z.2.2⟩
theorem sl_0 (p : Nat → Bool) (v f : Nat → Nat) : sl_ p v f 0 = f := by
  funext j
  unfold sl_
  rw [if_neg (fun z => by omega)]
theorem sl_at {p : Nat → Bool} {v f : Nat → Nat} {k j : Nat} (h1 : 1 ≤ j) (h2 : j ≤ k) (h : p j = true) : sl_ p v f k j = v j := by
  unfold sl_
  rw [if_pos ⟨h1, h2, h⟩]
theorem sl_lt {p : Nat → Bool} {v f : Nat → Nat} {k B : Nat} (hv : ∀ j, v j < B) (hf : ∀ j, f j < B) (j : Nat) : sl_ p v f k j < B := by
  unfold sl_
  by_cases q : 1 ≤ j ∧ j ≤ k ∧ p j = true
  · rw [if_pos q]; exact hv j
  · rw [if_neg q]; exact hf j
/-- R, the product over the members -/
def pp_ (s : Int32) (a b f : Nat → Nat) : Nat → Nat
  | 0 => 1
  | k + 1 => if hs s (k + 1) = true then pp_ s a b f k * (a (k + 1) * (b (k + 1) ^ f (k + 1) % 2147483579) % 2147483579) % 2147483579 else pp_ s a b f k
theorem pp_lt (s : Int32) (a b f : Nat → Nat) : ∀ k, pp_ s a b f k < 2 ^ 31
  | 0 => (by decide : 1 < 2 ^ 31)
  | k + 1 => by
    rw [pp_]
    by_cases q : hs s (k + 1) = true
    · rw [if_pos q]; exact tb_p _
    · rw [if_neg q]; exact pp_lt s a b f k
def cs_ (r key : Nat) (w : Int64) : Nat := dg_f (dg_m (dg_m (dg_m (dg_m 0 5) (lN r)) (lN key)) w)
theorem cs_lt (r key : Nat) (w : Int64) : cs_ r key w < 2 ^ 30 := Nat.lt_trans (dg_f_lt _) (by decide)
abbrev al_ : Nat → Bool := fun _ => true
set_option maxHeartbeats 4000000 in
set_option maxRecDepth 100000 in
theorem p_X_start (g : xw_G) (l : Launch) {n t : Nat} {co se ke f1 f2 e1 e2 x1 x2 fa we sh : Nat → Nat} {dn op ms ps md tk bl : Int32} {pr ch sm : Nat} {rest : List va_E} (hn : n ≤ 6) (ht : t ≤ 6) (he1 : ∀ j, e1 j < 2 ^ 31) (he2 : ∀ j, e2 j < 2 ^ 31) (hx1 : ∀ j, x1 j < 2 ^ 31) (hx2 : ∀ j, x2 j < 2 ^ 31) (hfa : ∀ j, fa j < 2 ^ 30) (x : Int32) (w : Int64) (key : Nat) : xm_R g l false m_X_start [.ref 10, .int x, .long w, .long (lN key), .ref 5] (hC g n t co se ke dn f1 f2 e1 e2 op x1 x2 fa we sh ms ps md tk bl pr ch sm ++ rest) none (hC g n t co se ke dn f1 f2 e1 e2 op (sl_ al_ e1 x1 n) (sl_ al_ e2 x2 n) (sl_ (hs x) (ff_ x (sl_ al_ e1 x1 n) (sl_ al_ e2 x2 n) n w key) fa n) (sl_ (hs x) (wt_ x n) we n) sh x x 0 0 0 (pp_ x (sl_ al_ e1 x1 n) (sl_ al_ e2 x2 n) (ff_ x (sl_ al_ e1 x1 n) (sl_ al_ e2 x2 n) n w key) n) (cs_ (pp_ x (sl_ al_ e1 x1 n) (sl_ al_ e2 x2 n) (ff_ x (sl_ al_ e1 x1 n) (sl_ al_ e2 x2 n) n w key) n) key w) 0 ++ rest) := by
  refine xm_of [some (.ref 10), some (.int x), some (.long w), none, some (.long (lN key)), none, some (.ref 5), none] rfl (Nat.le_of_ble_eq_true rfl) rfl ?_
  intro p e s m args below meth c C hr hk
  have hX1 : ∀ j, (sl_ al_ e1 x1 n) j < 2 ^ 31 := sl_lt he1 hx1
  have hX2 : ∀ j, (sl_ al_ e2 x2 n) j < 2 ^ 31 := sl_lt he2 hx2
  have loop2 : ∀ d k : Nat, k + d = n → xw_At g false 8 p l e (xm_rm m_X_start 0) s m args below meth c 0 0 (MQ below (xm_Q g false none (hC g n t co se ke dn f1 f2 e1 e2 op (sl_ al_ e1 x1 n) (sl_ al_ e2 x2 n) (sl_ (hs x) (ff_ x (sl_ al_ e1 x1 n) (sl_ al_ e2 x2 n) n w key) fa n) (sl_ (hs x) (wt_ x n) we n) sh x x 0 0 0 (pp_ x (sl_ al_ e1 x1 n) (sl_ al_ e2 x2 n) (ff_ x (sl_ al_ e1 x1 n) (sl_ al_ e2 x2 n) n w key) n) (cs_ (pp_ x (sl_ al_ e1 x1 n) (sl_ al_ e2 x2 n) (ff_ x (sl_ al_ e1 x1 n) (sl_ al_ e2 x2 n) n w key) n) key w) 0 ++ rest)) args s 0 0 (xm_fr g false)) 56 [some (.ref 10), some (.int x), some (.long w), none, some (.long (lN key)), none, some (.ref 5), some (.int (nI (k + 1)))] [] (hC g n t co se ke dn f1 f2 e1 e2 op (sl_ al_ e1 x1 n) (sl_ al_ e2 x2 n) (sl_ (hs x) (ff_ x (sl_ al_ e1 x1 n) (sl_ al_ e2 x2 n) n w key) fa k) (sl_ (hs x) (wt_ x n) we k) sh x x 0 0 0 (pp_ x (sl_ al_ e1 x1 n) (sl_ al_ e2 x2 n) (ff_ x (sl_ al_ e1 x1 n) (sl_ al_ e2 x2 n) n w key) k) ch 0 ++ rest) := by
    intro d
    induction d with
    | zero =>
      intro k hk9
      obtain rfl : k = n := by omega
      refine xa_iload C dX_start_56 rfl ?_
      refine xa_aload_n C dX_start_58 rfl ?_
      refine xa_get C f_X_7 dX_start_59 rfl rfl ?_
      refine xa_icmp_gt C dX_start_62 (tgt := 130) rfl (fun h62 => ?_) (fun h62 => ?_)
      · refine xa_aload_n C dX_start_130 rfl ?_
        refine xa_aload_n C dX_start_131 rfl ?_
        refine xa_get C f_X_54 dX_start_132 rfl rfl ?_
        refine xa_lload C dX_start_135 rfl ?_
        refine xa_lload_n C dX_start_137 rfl ?_
        refine xa_callS1 C (p_G_ofSeal g l _ _ _ _) b_X_68 (xw_in wt_G_ofSeal rfl) dX_start_138 rfl (Nat.le_of_ble_eq_true rfl) ⟨Nat.le_of_ble_eq_true rfl, Nat.le_of_ble_eq_true rfl⟩ ⟨Nat.zero_le _, Nat.zero_le _⟩ ?_
        refine xa_put C f_X_74 u_X_12 dX_start_141 rfl (Nat.le_of_ble_eq_true rfl) rfl rfl (fun _ h => by cases h) ?_
        exact xa_eq rfl rfl rfl (xa_vret C hr hk dX_start_144)
      · exact absurd (nI_lt (by omega) (by omega)) h62
    | succ d ih =>
      intro k hk9
      refine xa_iload C dX_start_56 rfl ?_
      refine xa_aload_n C dX_start_58 rfl ?_
      refine xa_get C f_X_7 dX_start_59 rfl rfl ?_
      refine xa_icmp_gt C dX_start_62 (tgt := 130) rfl (fun h62 => ?_) (fun h62 => ?_)
      · exact absurd h62 (nI_nlt (by omega) (by omega))
      · refine xa_iload_n C dX_start_65 rfl ?_
        refine xa_iload C dX_start_66 rfl ?_
        refine xa_callS1 C (p_I_hasN g l _ (by omega) (by omega) _) b_X_40 (xw_in wt_I_has rfl) dX_start_68 rfl (Nat.le_of_ble_eq_true rfl) ⟨Nat.le_of_ble_eq_true rfl, Nat.le_of_ble_eq_true rfl⟩ ⟨Nat.zero_le _, Nat.zero_le _⟩ ?_
        refine xa_if_eq C dX_start_71 (tgt := 124) rfl (fun h71 => ?_) (fun h71 => ?_)
        · have hb := xb_hs0 h71
          refine xa_incN C dX_start_124 rfl (Nat.le_of_ble_eq_true rfl) ?_
          refine xa_goto C dX_start_127 (tgt := 56) rfl ?_
          have h := ih (k + 1) (by omega)
          rw [sl_no (p := hs x) hb, sl_no (p := hs x) hb, pp_, if_neg (by rw [hb]; decide)] at h
          exact h
        · have hb := xb_hs1 h71
          have hFA : ∀ j, sl_ (hs x) (ff_ x (sl_ al_ e1 x1 n) (sl_ al_ e2 x2 n) n w key) fa (k + 1) j < 2 ^ 30 := sl_lt (fun j => ff_lt _ _ _ _ _ _ _) hfa
          refine xa_aload_n C dX_start_74 rfl ?_
          refine xa_get C f_X_20 dX_start_75 rfl rfl ?_
          refine xa_iload C dX_start_78 rfl ?_
          refine xa_aload_n C dX_start_80 rfl ?_
          refine xa_iload C dX_start_81 rfl ?_
          refine xa_lload_n C dX_start_83 rfl ?_
          refine xa_lload C dX_start_84 rfl ?_
          refine xa_callV1 C (p_X_factorFor g l hn ht (by omega) (by omega) w key) b_X_46 (xw_in wi_X_factorFor rfl) e_X_factorFor dX_start_86 rfl rfl rfl rfl (Nat.le_of_ble_eq_true rfl) ⟨Nat.le_of_ble_eq_true rfl, Nat.le_of_ble_eq_true rfl⟩ ⟨Nat.zero_le _, Nat.zero_le _⟩ ?_
          refine xa_lastoreN C dX_start_89 rfl ?_ (by omega) ?_
          · omega
          rw [sl_up (p := hs x) (v := (ff_ x (sl_ al_ e1 x1 n) (sl_ al_ e2 x2 n) n w key)) hb]
          refine xa_eq rfl rfl (hp' := (hC g n t co se ke dn f1 f2 e1 e2 op (sl_ al_ e1 x1 n) (sl_ al_ e2 x2 n) (sl_ (hs x) (ff_ x (sl_ al_ e1 x1 n) (sl_ al_ e2 x2 n) n w key) fa (k + 1)) (sl_ (hs x) (wt_ x n) we k) sh x x 0 0 0 (pp_ x (sl_ al_ e1 x1 n) (sl_ al_ e2 x2 n) (ff_ x (sl_ al_ e1 x1 n) (sl_ al_ e2 x2 n) n w key) k) ch 0 ++ rest)) rfl ?_
          refine xa_aload_n C dX_start_90 rfl ?_
          refine xa_get C f_X_23 dX_start_91 rfl rfl ?_
          refine xa_iload C dX_start_94 rfl ?_
          refine xa_iload_n C dX_start_96 rfl ?_
          refine xa_iload C dX_start_97 rfl ?_
          refine xa_aload_n C dX_start_99 rfl ?_
          refine xa_get C f_X_7 dX_start_100 rfl rfl ?_
          refine xa_callS1 C (p_I_weightIn g l x hn (by omega) _) b_X_50 (xw_in wt_I_weightIn rfl) dX_start_103 rfl (Nat.le_of_ble_eq_true rfl) ⟨Nat.le_of_ble_eq_true rfl, Nat.le_of_ble_eq_true rfl⟩ ⟨Nat.zero_le _, Nat.zero_le _⟩ ?_
          refine xa_lastoreN C dX_start_106 rfl ?_ (by omega) ?_
          · omega
          rw [sl_up (p := hs x) (v := wt_ x n) hb]
          refine xa_eq rfl rfl (hp' := (hC g n t co se ke dn f1 f2 e1 e2 op (sl_ al_ e1 x1 n) (sl_ al_ e2 x2 n) (sl_ (hs x) (ff_ x (sl_ al_ e1 x1 n) (sl_ al_ e2 x2 n) n w key) fa (k + 1)) (sl_ (hs x) (wt_ x n) we (k + 1)) sh x x 0 0 0 (pp_ x (sl_ al_ e1 x1 n) (sl_ al_ e2 x2 n) (ff_ x (sl_ al_ e1 x1 n) (sl_ al_ e2 x2 n) n w key) k) ch 0 ++ rest)) rfl ?_
          refine xa_aload_n C dX_start_107 rfl ?_
          refine xa_aload_n C dX_start_108 rfl ?_
          refine xa_get C f_X_54 dX_start_109 rfl rfl ?_
          refine xa_aload_n C dX_start_112 rfl ?_
          refine xa_iload C dX_start_113 rfl ?_
          refine xa_callV1 C (p_X_toldPart g l hn ht (by omega) (by omega) hX1 hX2 hFA) b_X_58 (xw_in wi_X_toldPart rfl) e_X_toldPart dX_start_115 rfl rfl rfl rfl (Nat.le_of_ble_eq_true rfl) ⟨Nat.le_of_ble_eq_true rfl, Nat.le_of_ble_eq_true rfl⟩ ⟨Nat.zero_le _, Nat.zero_le _⟩ ?_
          rw [sl_at (p := hs x) (v := (ff_ x (sl_ al_ e1 x1 n) (sl_ al_ e2 x2 n) n w key)) (by omega) (Nat.le_refl _) hb]
          refine xa_callS1 C (p_E_times g l (pp_lt _ _ _ _ _) (tb_p _) _) b_X_62 (xw_in wt_E_times rfl) dX_start_118 rfl (Nat.le_of_ble_eq_true rfl) ⟨Nat.le_of_ble_eq_true rfl, Nat.le_of_ble_eq_true rfl⟩ ⟨Nat.zero_le _, Nat.zero_le _⟩ ?_
          refine xa_put C f_X_54 u_X_11 dX_start_121 rfl (Nat.le_of_ble_eq_true rfl) rfl rfl (fun _ h => by cases h) ?_
          refine xa_eq rfl rfl (hp' := (hC g n t co se ke dn f1 f2 e1 e2 op (sl_ al_ e1 x1 n) (sl_ al_ e2 x2 n) (sl_ (hs x) (ff_ x (sl_ al_ e1 x1 n) (sl_ al_ e2 x2 n) n w key) fa (k + 1)) (sl_ (hs x) (wt_ x n) we (k + 1)) sh x x 0 0 0 (pp_ x (sl_ al_ e1 x1 n) (sl_ al_ e2 x2 n) (ff_ x (sl_ al_ e1 x1 n) (sl_ al_ e2 x2 n) n w key) k * ((sl_ al_ e1 x1 n) (k + 1) * ((sl_ al_ e2 x2 n) (k + 1) ^ (ff_ x (sl_ al_ e1 x1 n) (sl_ al_ e2 x2 n) n w key) (k + 1) % 2147483579) % 2147483579) % 2147483579) ch 0 ++ rest)) rfl ?_
          refine xa_incN C dX_start_124 rfl (Nat.le_of_ble_eq_true rfl) ?_
          refine xa_goto C dX_start_127 (tgt := 56) rfl ?_
          have h := ih (k + 1) (by omega)
          rw [pp_, if_pos hb] at h
          exact h
  have loop1 : ∀ d k : Nat, k + d = n → xw_At g false 8 p l e (xm_rm m_X_start 0) s m args below meth c 0 0 (MQ below (xm_Q g false none (hC g n t co se ke dn f1 f2 e1 e2 op (sl_ al_ e1 x1 n) (sl_ al_ e2 x2 n) (sl_ (hs x) (ff_ x (sl_ al_ e1 x1 n) (sl_ al_ e2 x2 n) n w key) fa n) (sl_ (hs x) (wt_ x n) we n) sh x x 0 0 0 (pp_ x (sl_ al_ e1 x1 n) (sl_ al_ e2 x2 n) (ff_ x (sl_ al_ e1 x1 n) (sl_ al_ e2 x2 n) n w key) n) (cs_ (pp_ x (sl_ al_ e1 x1 n) (sl_ al_ e2 x2 n) (ff_ x (sl_ al_ e1 x1 n) (sl_ al_ e2 x2 n) n w key) n) key w) 0 ++ rest)) args s 0 0 (xm_fr g false)) 8 [some (.ref 10), some (.int x), some (.long w), none, some (.long (lN key)), none, some (.ref 5), some (.int (nI (k + 1)))] [] (hC g n t co se ke dn f1 f2 e1 e2 op (sl_ al_ e1 x1 k) (sl_ al_ e2 x2 k) fa we sh x x 0 0 0 1 ch 0 ++ rest) := by
    intro d
    induction d with
    | zero =>
      intro k hk9
      obtain rfl : k = n := by omega
      refine xa_iload C dX_start_8 rfl ?_
      refine xa_aload_n C dX_start_10 rfl ?_
      refine xa_get C f_X_7 dX_start_11 rfl rfl ?_
      refine xa_icmp_gt C dX_start_14 (tgt := 53) rfl (fun h14 => ?_) (fun h14 => ?_)
      · refine xa_icN C 1 dX_start_53 ?_
        refine xa_istore C dX_start_54 (Nat.le_of_ble_eq_true rfl) ?_
        have h := loop2 k 0 (by omega)
        rw [sl_0, sl_0] at h
        exact h
      · exact absurd (nI_lt (by omega) (by omega)) h14
    | succ d ih =>
      intro k hk9
      refine xa_iload C dX_start_8 rfl ?_
      refine xa_aload_n C dX_start_10 rfl ?_
      refine xa_get C f_X_7 dX_start_11 rfl rfl ?_
      refine xa_icmp_gt C dX_start_14 (tgt := 53) rfl (fun h14 => ?_) (fun h14 => ?_)
      · exact absurd h14 (nI_nlt (by omega) (by omega))
      · refine xa_aload_n C dX_start_17 rfl ?_
        refine xa_get C f_X_13 dX_start_18 rfl rfl ?_
        refine xa_iload C dX_start_21 rfl ?_
        refine xa_aload C dX_start_23 rfl ?_
        refine xa_get C f_X_36 dX_start_25 rfl rfl ?_
        refine xa_iload C dX_start_28 rfl ?_
        refine xa_laloadN C dX_start_30 rfl ?_ (by omega) ?_
        · omega
        refine xa_lastoreN C dX_start_31 rfl ?_ (by omega) ?_
        · omega
        rw [sl_up (p := al_) (v := e1) rfl]
        refine xa_eq rfl rfl (hp' := (hC g n t co se ke dn f1 f2 e1 e2 op (sl_ al_ e1 x1 (k + 1)) (sl_ al_ e2 x2 k) fa we sh x x 0 0 0 1 ch 0 ++ rest)) rfl ?_
        refine xa_aload_n C dX_start_32 rfl ?_
        refine xa_get C f_X_17 dX_start_33 rfl rfl ?_
        refine xa_iload C dX_start_36 rfl ?_
        refine xa_aload C dX_start_38 rfl ?_
        refine xa_get C f_X_39 dX_start_40 rfl rfl ?_
        refine xa_iload C dX_start_43 rfl ?_
        refine xa_laloadN C dX_start_45 rfl ?_ (by omega) ?_
        · omega
        refine xa_lastoreN C dX_start_46 rfl ?_ (by omega) ?_
        · omega
        rw [sl_up (p := al_) (v := e2) rfl]
        refine xa_eq rfl rfl (hp' := (hC g n t co se ke dn f1 f2 e1 e2 op (sl_ al_ e1 x1 (k + 1)) (sl_ al_ e2 x2 (k + 1)) fa we sh x x 0 0 0 1 ch 0 ++ rest)) rfl ?_
        refine xa_incN C dX_start_47 rfl (Nat.le_of_ble_eq_true rfl) ?_
        refine xa_goto C dX_start_50 (tgt := 8) rfl ?_
        exact ih (k + 1) (by omega)
  refine xa_aload_n C dX_start_0 rfl ?_
  refine xa_iload_n C dX_start_1 rfl ?_
  refine xa_callVv C (p_X_reset g l x) b_X_32 (xw_in wi_X_reset rfl) e_X_reset dX_start_2 rfl rfl rfl rfl (Nat.le_of_ble_eq_true rfl) ⟨Nat.le_of_ble_eq_true rfl, Nat.le_of_ble_eq_true rfl⟩ ⟨Nat.zero_le _, Nat.zero_le _⟩ ?_
  refine xa_icN C 1 dX_start_5 ?_
  refine xa_istore C dX_start_6 (Nat.le_of_ble_eq_true rfl) ?_
  have h := loop1 n 0 (by omega)
  rw [sl_0, sl_0] at h
  exact h
end
section
/-! the bits counted (the JDK's own code), then the class's own tests and refusals -/
def us_ (x : Int32) (k : Nat) : Int32 := (x.toUInt32 >>> ((nI k).toUInt32 &&& Int32.toUInt32 31)).toInt32
def bc1 (x : Int32) : Int32 := x - (us_ x 1 &&& 1431655765)
def bc2 (x : Int32) : Int32 := (x &&& 858993459) + (us_ x 2 &&& 858993459)
def bc3 (x : Int32) : Int32 := (x + us_ x 4) &&& 252645135
def bc4 (x : Int32) : Int32 := x + us_ x 8
def bc5 (x : Int32) : Int32 := x + us_ x 16
def bc_ (x : Int32) : Int32 := bc5 (bc4 (bc3 (bc2 (bc1 x)))) &&& nI 63
set_option maxHeartbeats 4000000 in
set_option maxRecDepth 100000 in
theorem p_JI_bitCount (g : xw_G) (l : Launch) (x : Int32) (hp : List va_E) : xm_R g l true m_JI_bitCount [.int x] hp (some (.int (bc_ x))) hp := by
  refine xm_of [some (.int x)] rfl (Nat.le_of_ble_eq_true rfl) rfl ?_
  intro p e s m args below meth c C hr hk
  refine xa_iload_n C dJI_bitCount_0 rfl ?_
  refine xa_iload_n C dJI_bitCount_1 rfl ?_
  refine xa_icN C 1 dJI_bitCount_2 ?_
  refine xa_iushr C dJI_bitCount_3 ?_
  refine xa_ldcw C (xw_in wk_JI_265 rfl) dJI_bitCount_4 ?_
  refine xa_iand C dJI_bitCount_7 ?_
  refine xa_isub C dJI_bitCount_8 ?_
  refine xa_istore_n C dJI_bitCount_9 (Nat.le_of_ble_eq_true rfl) ?_
  refine xa_iload_n C dJI_bitCount_10 rfl ?_
  refine xa_ldcw C (xw_in wk_JI_266 rfl) dJI_bitCount_11 ?_
  refine xa_iand C dJI_bitCount_14 ?_
  refine xa_iload_n C dJI_bitCount_15 rfl ?_
  refine xa_icN C 2 dJI_bitCount_16 ?_
  refine xa_iushr C dJI_bitCount_17 ?_
  refine xa_ldcw C (xw_in wk_JI_266 rfl) dJI_bitCount_18 ?_
  refine xa_iand C dJI_bitCount_21 ?_
  refine xa_iadd C dJI_bitCount_22 ?_
  refine xa_istore_n C dJI_bitCount_23 (Nat.le_of_ble_eq_true rfl) ?_
  refine xa_iload_n C dJI_bitCount_24 rfl ?_
  refine xa_iload_n C dJI_bitCount_25 rfl ?_
  refine xa_icN C 4 dJI_bitCount_26 ?_
  refine xa_iushr C dJI_bitCount_27 ?_
  refine xa_iadd C dJI_bitCount_28 ?_
  refine xa_ldcw C (xw_in wk_JI_267 rfl) dJI_bitCount_29 ?_
  refine xa_iand C dJI_bitCount_32 ?_
  refine xa_istore_n C dJI_bitCount_33 (Nat.le_of_ble_eq_true rfl) ?_
  refine xa_iload_n C dJI_bitCount_34 rfl ?_
  refine xa_iload_n C dJI_bitCount_35 rfl ?_
  refine xa_bpN C 8 dJI_bitCount_36 (by decide) ?_
  refine xa_iushr C dJI_bitCount_38 ?_
  refine xa_iadd C dJI_bitCount_39 ?_
  refine xa_istore_n C dJI_bitCount_40 (Nat.le_of_ble_eq_true rfl) ?_
  refine xa_iload_n C dJI_bitCount_41 rfl ?_
  refine xa_iload_n C dJI_bitCount_42 rfl ?_
  refine xa_bpN C 16 dJI_bitCount_43 (by decide) ?_
  refine xa_iushr C dJI_bitCount_45 ?_
  refine xa_iadd C dJI_bitCount_46 ?_
  refine xa_istore_n C dJI_bitCount_47 (Nat.le_of_ble_eq_true rfl) ?_
  refine xa_iload_n C dJI_bitCount_48 rfl ?_
  refine xa_bpN C 63 dJI_bitCount_49 (by decide) ?_
  refine xa_iand C dJI_bitCount_51 ?_
  exact xa_iret C hr hk dJI_bitCount_52
abbrev sg (n : Nat) (i : Int32) : Prop := ¬ i < nI 1 ∧ ¬ nI n < i
theorem sg_of {n : Nat} {i : Int32} (hn : n ≤ 6) (h : sg n i) : ∃ j : Nat, 1 ≤ j ∧ j ≤ n ∧ i = nI j := by
  obtain ⟨h1, h2⟩ := h
  have h0 : ¬ i < 0 := fun q => h1 (by
    rw [Int32.lt_iff_toInt_lt] at q ⊢
    have : (nI 1).toInt = 1 := by decide
    have : (0 : Int32).toInt = 0 := by decide
    omega)
  obtain ⟨j, hj, rfl⟩ := nI_of h0
  refine ⟨j, ?_, ?_, rfl⟩
  · rcases Nat.lt_or_ge j 1 with q | q
    · exact absurd (nI_lt q (by omega)) h1
    · exact q
  · rcases Nat.lt_or_ge n j with q | q
    · exact absurd (nI_lt q hj) h2
    · exact q
theorem sg_nI {n j : Nat} (hn : n ≤ 6) (h1 : 1 ≤ j) (h : j ≤ n) : sg n (nI j) := ⟨nI_nlt h1 (by omega), nI_nlt h (by omega)⟩
abbrev xw_tr (l : Launch) : Prop := ∀ e : Env, l.admits e → e.platform.stackTraces = false
set_option maxHeartbeats 4000000 in
set_option maxRecDepth 100000 in
theorem p_S_isSigner (g : xw_G) (l : Launch) {n t : Nat} {co se ke f1 f2 e1 e2 x1 x2 fa we sh : Nat → Nat} {dn op ms ps md tk bl : Int32} {pr ch sm : Nat} {rest : List va_E} (x : Int32) : xm_R g l true m_S_isSigner [.ref 0, .int x] (hC g n t co se ke dn f1 f2 e1 e2 op x1 x2 fa we sh ms ps md tk bl pr ch sm ++ rest) (some (.int (xb (sg n x)))) (hC g n t co se ke dn f1 f2 e1 e2 op x1 x2 fa we sh ms ps md tk bl pr ch sm ++ rest) := by
  refine xm_of [some (.ref 0), some (.int x)] rfl (Nat.le_of_ble_eq_true rfl) rfl ?_
  intro p e s m args below meth c C hr hk
  refine xa_iload_n C dS_isSigner_0 rfl ?_
  refine xa_icN C 1 dS_isSigner_1 ?_
  refine xa_icmp_lt C dS_isSigner_2 (tgt := 17) rfl (fun h2 => ?_) (fun h2 => ?_)
  · refine xa_icN C 0 dS_isSigner_17 ?_
    exact xa_eq rfl (congrArg (fun z => [Value.int z]) (xb_f (P := sg n x) (fun q => q.1 h2)).symm) rfl (xa_zret C hr hk (xb_nar _) dS_isSigner_18)
  · refine xa_iload_n C dS_isSigner_5 rfl ?_
    refine xa_aload_n C dS_isSigner_6 rfl ?_
    refine xa_get C f_S_18 dS_isSigner_7 rfl rfl ?_
    refine xa_icmp_gt C dS_isSigner_10 (tgt := 17) rfl (fun h10 => ?_) (fun h10 => ?_)
    · refine xa_icN C 0 dS_isSigner_17 ?_
      exact xa_eq rfl (congrArg (fun z => [Value.int z]) (xb_f (P := sg n x) (fun q => q.2 h10)).symm) rfl (xa_zret C hr hk (xb_nar _) dS_isSigner_18)
    · refine xa_icN C 1 dS_isSigner_13 ?_
      refine xa_goto C dS_isSigner_14 (tgt := 18) rfl ?_
      exact xa_eq rfl (congrArg (fun z => [Value.int z]) (xb_t (P := sg n x) (⟨h2, h10⟩)).symm) rfl (xa_zret C hr hk (xb_nar _) dS_isSigner_18)
set_option maxHeartbeats 4000000 in
set_option maxRecDepth 100000 in
theorem p_S_isMember_no (g : xw_G) (l : Launch) {n t : Nat} {co se ke f1 f2 e1 e2 x1 x2 fa we sh : Nat → Nat} {dn op ms ps md tk bl : Int32} {pr ch sm : Nat} {rest : List va_E} (x : Int32) (hx : ¬ sg n x) : xm_R g l true m_S_isMember [.ref 0, .int x] (hC g n t co se ke dn f1 f2 e1 e2 op x1 x2 fa we sh ms ps md tk bl pr ch sm ++ rest) (some (.int 0)) (hC g n t co se ke dn f1 f2 e1 e2 op x1 x2 fa we sh ms ps md tk bl pr ch sm ++ rest) := by
  refine xm_of [some (.ref 0), some (.int x)] rfl (Nat.le_of_ble_eq_true rfl) rfl ?_
  intro p e s m args below meth c C hr hk
  refine xa_aload_n C dS_isMember_0 rfl ?_
  refine xa_iload_n C dS_isMember_1 rfl ?_
  refine xa_callV1 C (p_S_isSigner g l _) b_S_172 (xw_in wi_S_isSigner rfl) e_S_isSigner dS_isMember_2 rfl rfl rfl rfl (Nat.le_of_ble_eq_true rfl) ⟨Nat.le_of_ble_eq_true rfl, Nat.le_of_ble_eq_true rfl⟩ ⟨Nat.zero_le _, Nat.zero_le _⟩ ?_
  refine xa_if_eq C dS_isMember_5 (tgt := 26) rfl (fun h5 => ?_) (fun h5 => ?_)
  · refine xa_icN C 0 dS_isMember_26 ?_
    exact xa_zret C hr hk rfl dS_isMember_27
  · exact absurd (xb_f hx) h5
set_option maxHeartbeats 4000000 in
set_option maxRecDepth 100000 in
theorem p_S_isMember (g : xw_G) (l : Launch) {n t : Nat} {co se ke f1 f2 e1 e2 x1 x2 fa we sh : Nat → Nat} {dn op ms ps md tk bl : Int32} {pr ch sm : Nat} {rest : List va_E} (hn : n ≤ 6) {i : Nat} (h1 : 1 ≤ i) (hi : i ≤ n) : xm_R g l true m_S_isMember [.ref 0, .int (nI i)] (hC g n t co se ke dn f1 f2 e1 e2 op x1 x2 fa we sh ms ps md tk bl pr ch sm ++ rest) (some (.int (xb (hs ms i = true)))) (hC g n t co se ke dn f1 f2 e1 e2 op x1 x2 fa we sh ms ps md tk bl pr ch sm ++ rest) := by
  refine xm_of [some (.ref 0), some (.int (nI i))] rfl (Nat.le_of_ble_eq_true rfl) rfl ?_
  intro p e s m args below meth c C hr hk
  refine xa_aload_n C dS_isMember_0 rfl ?_
  refine xa_iload_n C dS_isMember_1 rfl ?_
  refine xa_callV1 C (p_S_isSigner g l _) b_S_172 (xw_in wi_S_isSigner rfl) e_S_isSigner dS_isMember_2 rfl rfl rfl rfl (Nat.le_of_ble_eq_true rfl) ⟨Nat.le_of_ble_eq_true rfl, Nat.le_of_ble_eq_true rfl⟩ ⟨Nat.zero_le _, Nat.zero_le _⟩ ?_
  refine xa_if_eq C dS_isMember_5 (tgt := 26) rfl (fun h5 => ?_) (fun h5 => ?_)
  · refine xa_icN C 0 dS_isMember_26 ?_
    exact xa_eq rfl (congrArg (fun z => [Value.int z]) (xb_f (P := hs ms i = true) (fun q => absurd (sg_nI hn h1 hi) (xb_eq0.mp h5))).symm) rfl (xa_zret C hr hk (xb_nar _) dS_isMember_27)
  · refine xa_aload_n C dS_isMember_8 rfl ?_
    refine xa_get C f_S_46 dS_isMember_9 rfl rfl ?_
    refine xa_get C f_S_199 dS_isMember_12 rfl rfl ?_
    refine xa_iload_n C dS_isMember_15 rfl ?_
    refine xa_callS1 C (p_I_hasN g l _ (by omega) (by omega) _) b_S_106 (xw_in wt_I_has rfl) dS_isMember_16 rfl (Nat.le_of_ble_eq_true rfl) ⟨Nat.le_of_ble_eq_true rfl, Nat.le_of_ble_eq_true rfl⟩ ⟨Nat.zero_le _, Nat.zero_le _⟩ ?_
    refine xa_if_eq C dS_isMember_19 (tgt := 26) rfl (fun h19 => ?_) (fun h19 => ?_)
    · refine xa_icN C 0 dS_isMember_26 ?_
      exact xa_eq rfl (congrArg (fun z => [Value.int z]) (xb_f (P := hs ms i = true) (by rw [xb_hs0 h19]; decide)).symm) rfl (xa_zret C hr hk (xb_nar _) dS_isMember_27)
    · refine xa_icN C 1 dS_isMember_22 ?_
      refine xa_goto C dS_isMember_23 (tgt := 27) rfl ?_
      exact xa_eq rfl (congrArg (fun z => [Value.int z]) (xb_t (P := hs ms i = true) (xb_hs1 h19)).symm) rfl (xa_zret C hr hk (xb_nar _) dS_isMember_27)
theorem tk_S_begin_20 : xt_ok "ThresholdSeal" 88 90 92 "java/lang/IllegalStateException" "a member has no open pair" ["java/lang/RuntimeException", "java/lang/Exception"] := ⟨xw_in wl_S_88 rfl, xw_in wz_JS rfl, xw_in wn_JS rfl, wq_S_90, by decide +kernel, by decide +kernel, by decide +kernel⟩
theorem tk_S_sign_19 : xt_ok "ThresholdSeal" 88 112 92 "java/lang/IllegalStateException" "no member of a session, or his pair is gone" ["java/lang/RuntimeException", "java/lang/Exception"] := ⟨xw_in wl_S_88 rfl, xw_in wz_JS rfl, xw_in wn_JS rfl, wq_S_112, by decide +kernel, by decide +kernel, by decide +kernel⟩
theorem tk_S_relay_29 : xt_ok "ThresholdSeal" 88 143 92 "java/lang/IllegalStateException" "the member made no share in this session" ["java/lang/RuntimeException", "java/lang/Exception"] := ⟨xw_in wl_S_88 rfl, xw_in wz_JS rfl, xw_in wn_JS rfl, wq_S_143, by decide +kernel, by decide +kernel, by decide +kernel⟩
theorem tk_S_requireSigner_8 : xt_ok "ThresholdSeal" 231 233 235 "java/lang/IllegalArgumentException" "no such signer" ["java/lang/RuntimeException", "java/lang/Exception"] := ⟨xw_in wl_S_231 rfl, xw_in wz_JA rfl, xw_in wn_JA rfl, wq_S_233, by decide +kernel, by decide +kernel, by decide +kernel⟩
theorem tk_S_requireNumber_7 : xt_ok "ThresholdSeal" 231 236 235 "java/lang/IllegalArgumentException" "no number" ["java/lang/RuntimeException", "java/lang/Exception"] := ⟨xw_in wl_S_231 rfl, xw_in wz_JA rfl, xw_in wn_JA rfl, wq_S_236, by decide +kernel, by decide +kernel, by decide +kernel⟩
theorem tk_S_requireEnough_20 : xt_ok "ThresholdSeal" 231 244 235 "java/lang/IllegalArgumentException" "a signer that there is none, or too few" ["java/lang/RuntimeException", "java/lang/Exception"] := ⟨xw_in wl_S_231 rfl, xw_in wz_JA rfl, xw_in wn_JA rfl, wq_S_244, by decide +kernel, by decide +kernel, by decide +kernel⟩
theorem tk_S_requireDealt_10 : xt_ok "ThresholdSeal" 88 246 92 "java/lang/IllegalStateException" "nothing is dealt" ["java/lang/RuntimeException", "java/lang/Exception"] := ⟨xw_in wl_S_88 rfl, xw_in wz_JS rfl, xw_in wn_JS rfl, wq_S_246, by decide +kernel, by decide +kernel, by decide +kernel⟩
theorem tk_S_requireUntaken_22 : xt_ok "ThresholdSeal" 88 248 92 "java/lang/IllegalStateException" "no member of a session, or his share is taken" ["java/lang/RuntimeException", "java/lang/Exception"] := ⟨xw_in wl_S_88 rfl, xw_in wz_JS rfl, xw_in wn_JS rfl, wq_S_248, by decide +kernel, by decide +kernel, by decide +kernel⟩
theorem tk_S_requireSealed_27 : xt_ok "ThresholdSeal" 88 250 92 "java/lang/IllegalStateException" "no session, or a share is not taken" ["java/lang/RuntimeException", "java/lang/Exception"] := ⟨xw_in wl_S_88 rfl, xw_in wz_JS rfl, xw_in wn_JS rfl, wq_S_250, by decide +kernel, by decide +kernel, by decide +kernel⟩
set_option maxHeartbeats 4000000 in
set_option maxRecDepth 100000 in
theorem p_S_requireSigner (g : xw_G) (l : Launch) {n t : Nat} {co se ke f1 f2 e1 e2 x1 x2 fa we sh : Nat → Nat} {dn op ms ps md tk bl : Int32} {pr ch sm : Nat} {rest : List va_E} (x : Int32) (hx : sg n x) : xm_R g l true m_S_requireSigner [.ref 0, .int x] (hC g n t co se ke dn f1 f2 e1 e2 op x1 x2 fa we sh ms ps md tk bl pr ch sm ++ rest) none (hC g n t co se ke dn f1 f2 e1 e2 op x1 x2 fa we sh ms ps md tk bl pr ch sm ++ rest) := by
  refine xm_of [some (.ref 0), some (.int x)] rfl (Nat.le_of_ble_eq_true rfl) rfl ?_
  intro p e s m args below meth c C hr hk
  refine xa_aload_n C dS_requireSigner_0 rfl ?_
  refine xa_iload_n C dS_requireSigner_1 rfl ?_
  refine xa_callV1 C (p_S_isSigner g l _) b_S_172 (xw_in wi_S_isSigner rfl) e_S_isSigner dS_requireSigner_2 rfl rfl rfl rfl (Nat.le_of_ble_eq_true rfl) ⟨Nat.le_of_ble_eq_true rfl, Nat.le_of_ble_eq_true rfl⟩ ⟨Nat.zero_le _, Nat.zero_le _⟩ ?_
  refine xa_if_ne C dS_requireSigner_5 (tgt := 18) rfl (fun h5 => ?_) (fun h5 => ?_)
  · exact xa_vret C hr hk dS_requireSigner_18
  · exact absurd hx (xb_eq0.mp h5)
set_option maxHeartbeats 4000000 in
set_option maxRecDepth 100000 in
theorem q_S_requireSigner (g : xw_G) {l : Launch} (htr : xw_tr l) {n t : Nat} {co se ke f1 f2 e1 e2 x1 x2 fa we sh : Nat → Nat} {dn op ms ps md tk bl : Int32} {pr ch sm : Nat} {rest : List va_E} (x : Int32) (hx : ¬ sg n x) : xt_R g l m_S_requireSigner [.ref 0, .int x] (hC g n t co se ke dn f1 f2 e1 e2 op x1 x2 fa we sh ms ps md tk bl pr ch sm ++ rest) "java/lang/IllegalArgumentException" := by
  refine xt_of [some (.ref 0), some (.int x)] rfl (Nat.le_of_ble_eq_true rfl) rfl ?_
  intro p e s m args below meth c C hE hk
  refine xa_aload_n C dS_requireSigner_0 rfl ?_
  refine xa_iload_n C dS_requireSigner_1 rfl ?_
  refine xa_callV1 C (p_S_isSigner g l _) b_S_172 (xw_in wi_S_isSigner rfl) e_S_isSigner dS_requireSigner_2 rfl rfl rfl rfl (Nat.le_of_ble_eq_true rfl) ⟨Nat.le_of_ble_eq_true rfl, Nat.le_of_ble_eq_true rfl⟩ ⟨Nat.zero_le _, Nat.zero_le _⟩ ?_
  refine xa_if_ne C dS_requireSigner_5 (tgt := 18) rfl (fun h5 => ?_) (fun h5 => ?_)
  · exact absurd (xb_f hx) h5
  · exact xa_throw C htr hE hk tk_S_requireSigner_8 dS_requireSigner_8 dS_requireSigner_11 dS_requireSigner_12 dS_requireSigner_14 dS_requireSigner_17 ⟨Nat.le_of_ble_eq_true rfl, Nat.le_of_ble_eq_true rfl⟩ ⟨Nat.le_of_ble_eq_true rfl, Nat.le_of_ble_eq_true rfl⟩
set_option maxHeartbeats 4000000 in
set_option maxRecDepth 100000 in
theorem p_S_requireNumber (g : xw_G) (l : Launch) {n t : Nat} {co se ke f1 f2 e1 e2 x1 x2 fa we sh : Nat → Nat} {dn op ms ps md tk bl : Int32} {pr ch sm : Nat} {rest : List va_E} (x : Int64) (hx : 0 ≤ x ∧ x < 1073741789) : xm_R g l true m_S_requireNumber [.ref 0, .long x] (hC g n t co se ke dn f1 f2 e1 e2 op x1 x2 fa we sh ms ps md tk bl pr ch sm ++ rest) none (hC g n t co se ke dn f1 f2 e1 e2 op x1 x2 fa we sh ms ps md tk bl pr ch sm ++ rest) := by
  refine xm_of [some (.ref 0), some (.long x), none] rfl (Nat.le_of_ble_eq_true rfl) rfl ?_
  intro p e s m args below meth c C hr hk
  refine xa_lload_n C dS_requireNumber_0 rfl ?_
  refine xa_callS1 C (p_N_isNumber g l _ _) b_S_214 (xw_in wt_N_isNumber rfl) dS_requireNumber_1 rfl (Nat.le_of_ble_eq_true rfl) ⟨Nat.le_of_ble_eq_true rfl, Nat.le_of_ble_eq_true rfl⟩ ⟨Nat.zero_le _, Nat.zero_le _⟩ ?_
  refine xa_if_ne C dS_requireNumber_4 (tgt := 17) rfl (fun h4 => ?_) (fun h4 => ?_)
  · exact xa_vret C hr hk dS_requireNumber_17
  · exact absurd hx (xb_eq0.mp h4)
set_option maxHeartbeats 4000000 in
set_option maxRecDepth 100000 in
theorem q_S_requireNumber (g : xw_G) {l : Launch} (htr : xw_tr l) {n t : Nat} {co se ke f1 f2 e1 e2 x1 x2 fa we sh : Nat → Nat} {dn op ms ps md tk bl : Int32} {pr ch sm : Nat} {rest : List va_E} (x : Int64) (hx : ¬ (0 ≤ x ∧ x < 1073741789)) : xt_R g l m_S_requireNumber [.ref 0, .long x] (hC g n t co se ke dn f1 f2 e1 e2 op x1 x2 fa we sh ms ps md tk bl pr ch sm ++ rest) "java/lang/IllegalArgumentException" := by
  refine xt_of [some (.ref 0), some (.long x), none] rfl (Nat.le_of_ble_eq_true rfl) rfl ?_
  intro p e s m args below meth c C hE hk
  refine xa_lload_n C dS_requireNumber_0 rfl ?_
  refine xa_callS1 C (p_N_isNumber g l _ _) b_S_214 (xw_in wt_N_isNumber rfl) dS_requireNumber_1 rfl (Nat.le_of_ble_eq_true rfl) ⟨Nat.le_of_ble_eq_true rfl, Nat.le_of_ble_eq_true rfl⟩ ⟨Nat.zero_le _, Nat.zero_le _⟩ ?_
  refine xa_if_ne C dS_requireNumber_4 (tgt := 17) rfl (fun h4 => ?_) (fun h4 => ?_)
  · exact absurd (xb_f hx) h4
  · exact xa_throw C htr hE hk tk_S_requireNumber_7 dS_requireNumber_7 dS_requireNumber_10 dS_requireNumber_11 dS_requireNumber_13 dS_requireNumber_16 ⟨Nat.le_of_ble_eq_true rfl, Nat.le_of_ble_eq_true rfl⟩ ⟨Nat.le_of_ble_eq_true rfl, Nat.le_of_ble_eq_true rfl⟩
set_option maxHeartbeats 4000000 in
set_option maxRecDepth 100000 in
theorem p_S_requireDealt (g : xw_G) (l : Launch) {n t : Nat} {co se ke f1 f2 e1 e2 x1 x2 fa we sh : Nat → Nat} {dn op ms ps md tk bl : Int32} {pr ch sm : Nat} {rest : List va_E}  (hd : ¬ dn = 0) : xm_R g l true m_S_requireDealt [.ref 0] (hC g n t co se ke dn f1 f2 e1 e2 op x1 x2 fa we sh ms ps md tk bl pr ch sm ++ rest) none (hC g n t co se ke dn f1 f2 e1 e2 op x1 x2 fa we sh ms ps md tk bl pr ch sm ++ rest) := by
  refine xm_of [some (.ref 0)] rfl (Nat.le_of_ble_eq_true rfl) rfl ?_
  intro p e s m args below meth c C hr hk
  refine xa_aload_n C dS_requireDealt_0 rfl ?_
  refine xa_get C f_S_30 dS_requireDealt_1 rfl rfl ?_
  refine xa_get C f_S_157 dS_requireDealt_4 rfl rfl ?_
  refine xa_if_ne C dS_requireDealt_7 (tgt := 20) rfl (fun h7 => ?_) (fun h7 => ?_)
  · exact xa_vret C hr hk dS_requireDealt_20
  · exact absurd h7 hd
set_option maxHeartbeats 4000000 in
set_option maxRecDepth 100000 in
theorem q_S_requireDealt (g : xw_G) {l : Launch} (htr : xw_tr l) {n t : Nat} {co se ke f1 f2 e1 e2 x1 x2 fa we sh : Nat → Nat} {dn op ms ps md tk bl : Int32} {pr ch sm : Nat} {rest : List va_E}  (hd : dn = 0) : xt_R g l m_S_requireDealt [.ref 0] (hC g n t co se ke dn f1 f2 e1 e2 op x1 x2 fa we sh ms ps md tk bl pr ch sm ++ rest) "java/lang/IllegalStateException" := by
  refine xt_of [some (.ref 0)] rfl (Nat.le_of_ble_eq_true rfl) rfl ?_
  intro p e s m args below meth c C hE hk
  refine xa_aload_n C dS_requireDealt_0 rfl ?_
  refine xa_get C f_S_30 dS_requireDealt_1 rfl rfl ?_
  refine xa_get C f_S_157 dS_requireDealt_4 rfl rfl ?_
  refine xa_if_ne C dS_requireDealt_7 (tgt := 20) rfl (fun h7 => ?_) (fun h7 => ?_)
  · exact absurd hd h7
  · exact xa_throw C htr hE hk tk_S_requireDealt_10 dS_requireDealt_10 dS_requireDealt_13 dS_requireDealt_14 dS_requireDealt_16 dS_requireDealt_19 ⟨Nat.le_of_ble_eq_true rfl, Nat.le_of_ble_eq_true rfl⟩ ⟨Nat.le_of_ble_eq_true rfl, Nat.le_of_ble_eq_true rfl⟩
abbrev en (n t : Nat) (x : Int32) : Prop := us_ x n = 0 ∧ nI t ≤ bc_ x
set_option maxHeartbeats 4000000 in
set_option maxRecDepth 100000 in
theorem p_S_requireEnough (g : xw_G) (l : Launch) {n t : Nat} {co se ke f1 f2 e1 e2 x1 x2 fa we sh : Nat → Nat} {dn op ms ps md tk bl : Int32} {pr ch sm : Nat} {rest : List va_E} (x : Int32) (hx : en n t x) : xm_R g l true m_S_requireEnough [.ref 0, .int x] (hC g n t co se ke dn f1 f2 e1 e2 op x1 x2 fa we sh ms ps md tk bl pr ch sm ++ rest) none (hC g n t co se ke dn f1 f2 e1 e2 op x1 x2 fa we sh ms ps md tk bl pr ch sm ++ rest) := by
  refine xm_of [some (.ref 0), some (.int x)] rfl (Nat.le_of_ble_eq_true rfl) rfl ?_
  intro p e s m args below meth c C hr hk
  refine xa_iload_n C dS_requireEnough_0 rfl ?_
  refine xa_aload_n C dS_requireEnough_1 rfl ?_
  refine xa_get C f_S_18 dS_requireEnough_2 rfl rfl ?_
  refine xa_iushr C dS_requireEnough_5 ?_
  refine xa_if_ne C dS_requireEnough_6 (tgt := 20) rfl (fun h6 => ?_) (fun h6 => ?_)
  · exact absurd hx.1 h6
  · refine xa_iload_n C dS_requireEnough_9 rfl ?_
    refine xa_callS1 C (p_JI_bitCount g l _ _) b_S_238 (xw_in wt_JI_bitCount rfl) dS_requireEnough_10 rfl (Nat.le_of_ble_eq_true rfl) ⟨Nat.le_of_ble_eq_true rfl, Nat.le_of_ble_eq_true rfl⟩ ⟨Nat.zero_le _, Nat.zero_le _⟩ ?_
    refine xa_aload_n C dS_requireEnough_13 rfl ?_
    refine xa_get C f_S_22 dS_requireEnough_14 rfl rfl ?_
    refine xa_icmp_ge C dS_requireEnough_17 (tgt := 30) rfl (fun h17 => ?_) (fun h17 => ?_)
    · exact xa_vret C hr hk dS_requireEnough_30
    · exact absurd hx.2 h17
set_option maxHeartbeats 4000000 in
set_option maxRecDepth 100000 in
theorem q_S_requireEnough (g : xw_G) {l : Launch} (htr : xw_tr l) {n t : Nat} {co se ke f1 f2 e1 e2 x1 x2 fa we sh : Nat → Nat} {dn op ms ps md tk bl : Int32} {pr ch sm : Nat} {rest : List va_E} (x : Int32) (hx : ¬ en n t x) : xt_R g l m_S_requireEnough [.ref 0, .int x] (hC g n t co se ke dn f1 f2 e1 e2 op x1 x2 fa we sh ms ps md tk bl pr ch sm ++ rest) "java/lang/IllegalArgumentException" := by
  refine xt_of [some (.ref 0), some (.int x)] rfl (Nat.le_of_ble_eq_true rfl) rfl ?_
  intro p e s m args below meth c C hE hk
  refine xa_iload_n C dS_requireEnough_0 rfl ?_
  refine xa_aload_n C dS_requireEnough_1 rfl ?_
  refine xa_get C f_S_18 dS_requireEnough_2 rfl rfl ?_
  refine xa_iushr C dS_requireEnough_5 ?_
  refine xa_if_ne C dS_requireEnough_6 (tgt := 20) rfl (fun h6 => ?_) (fun h6 => ?_)
  · exact xa_throw C htr hE hk tk_S_requireEnough_20 dS_requireEnough_20 dS_requireEnough_23 dS_requireEnough_24 dS_requireEnough_26 dS_requireEnough_29 ⟨Nat.le_of_ble_eq_true rfl, Nat.le_of_ble_eq_true rfl⟩ ⟨Nat.le_of_ble_eq_true rfl, Nat.le_of_ble_eq_true rfl⟩
  · refine xa_iload_n C dS_requireEnough_9 rfl ?_
    refine xa_callS1 C (p_JI_bitCount g l _ _) b_S_238 (xw_in wt_JI_bitCount rfl) dS_requireEnough_10 rfl (Nat.le_of_ble_eq_true rfl) ⟨Nat.le_of_ble_eq_true rfl, Nat.le_of_ble_eq_true rfl⟩ ⟨Nat.zero_le _, Nat.zero_le _⟩ ?_
    refine xa_aload_n C dS_requireEnough_13 rfl ?_
    refine xa_get C f_S_22 dS_requireEnough_14 rfl rfl ?_
    refine xa_icmp_ge C dS_requireEnough_17 (tgt := 30) rfl (fun h17 => ?_) (fun h17 => ?_)
    · exact absurd ⟨h6, h17⟩ hx
    · exact xa_throw C htr hE hk tk_S_requireEnough_20 dS_requireEnough_20 dS_requireEnough_23 dS_requireEnough_24 dS_requireEnough_26 dS_requireEnough_29 ⟨Nat.le_of_ble_eq_true rfl, Nat.le_of_ble_eq_true rfl⟩ ⟨Nat.le_of_ble_eq_true rfl, Nat.le_of_ble_eq_true rfl⟩
set_option maxHeartbeats 4000000 in
set_option maxRecDepth 100000 in
theorem p_S_requireUntaken (g : xw_G) (l : Launch) {n t : Nat} {co se ke f1 f2 e1 e2 x1 x2 fa we sh : Nat → Nat} {dn op ms ps md tk bl : Int32} {pr ch sm : Nat} {rest : List va_E} (hn : n ≤ 6) {i : Nat} (h1 : 1 ≤ i) (hi : i ≤ n) (hm : hs ms i = true) (hk9 : hs tk i = false) : xm_R g l true m_S_requireUntaken [.ref 0, .int (nI i)] (hC g n t co se ke dn f1 f2 e1 e2 op x1 x2 fa we sh ms ps md tk bl pr ch sm ++ rest) none (hC g n t co se ke dn f1 f2 e1 e2 op x1 x2 fa we sh ms ps md tk bl pr ch sm ++ rest) := by
  refine xm_of [some (.ref 0), some (.int (nI i))] rfl (Nat.le_of_ble_eq_true rfl) rfl ?_
  intro p e s m args below meth c C hr hk
  refine xa_aload_n C dS_requireUntaken_0 rfl ?_
  refine xa_iload_n C dS_requireUntaken_1 rfl ?_
  refine xa_callV1 C (p_S_isMember g l hn h1 hi) b_S_183 (xw_in wi_S_isMember rfl) e_S_isMember dS_requireUntaken_2 rfl rfl rfl rfl (Nat.le_of_ble_eq_true rfl) ⟨Nat.le_of_ble_eq_true rfl, Nat.le_of_ble_eq_true rfl⟩ ⟨Nat.zero_le _, Nat.zero_le _⟩ ?_
  refine xa_if_eq C dS_requireUntaken_5 (tgt := 22) rfl (fun h5 => ?_) (fun h5 => ?_)
  · exact absurd hm (xb_eq0.mp h5)
  · refine xa_aload_n C dS_requireUntaken_8 rfl ?_
    refine xa_get C f_S_46 dS_requireUntaken_9 rfl rfl ?_
    refine xa_get C f_S_202 dS_requireUntaken_12 rfl rfl ?_
    refine xa_iload_n C dS_requireUntaken_15 rfl ?_
    refine xa_callS1 C (p_I_hasN g l _ (by omega) (by omega) _) b_S_106 (xw_in wt_I_has rfl) dS_requireUntaken_16 rfl (Nat.le_of_ble_eq_true rfl) ⟨Nat.le_of_ble_eq_true rfl, Nat.le_of_ble_eq_true rfl⟩ ⟨Nat.zero_le _, Nat.zero_le _⟩ ?_
    refine xa_if_eq C dS_requireUntaken_19 (tgt := 32) rfl (fun h19 => ?_) (fun h19 => ?_)
    · exact xa_vret C hr hk dS_requireUntaken_32
    · exact absurd (xb_f (by rw [hk9]; decide)) h19
set_option maxHeartbeats 4000000 in
set_option maxRecDepth 100000 in
theorem q_S_requireUntaken (g : xw_G) {l : Launch} (htr : xw_tr l) {n t : Nat} {co se ke f1 f2 e1 e2 x1 x2 fa we sh : Nat → Nat} {dn op ms ps md tk bl : Int32} {pr ch sm : Nat} {rest : List va_E} (hn : n ≤ 6) {i : Nat} (h1 : 1 ≤ i) (hi : i ≤ n) (hm : hs ms i = false ∨ hs tk i = true) : xt_R g l m_S_requireUntaken [.ref 0, .int (nI i)] (hC g n t co se ke dn f1 f2 e1 e2 op x1 x2 fa we sh ms ps md tk bl pr ch sm ++ rest) "java/lang/IllegalStateException" := by
  refine xt_of [some (.ref 0), some (.int (nI i))] rfl (Nat.le_of_ble_eq_true rfl) rfl ?_
  intro p e s m args below meth c C hE hk
  refine xa_aload_n C dS_requireUntaken_0 rfl ?_
  refine xa_iload_n C dS_requireUntaken_1 rfl ?_
  refine xa_callV1 C (p_S_isMember g l hn h1 hi) b_S_183 (xw_in wi_S_isMember rfl) e_S_isMember dS_requireUntaken_2 rfl rfl rfl rfl (Nat.le_of_ble_eq_true rfl) ⟨Nat.le_of_ble_eq_true rfl, Nat.le_of_ble_eq_true rfl⟩ ⟨Nat.zero_le _, Nat.zero_le _⟩ ?_
  refine xa_if_eq C dS_requireUntaken_5 (tgt := 22) rfl (fun h5 => ?_) (fun h5 => ?_)
  · exact xa_throw C htr hE hk tk_S_requireUntaken_22 dS_requireUntaken_22 dS_requireUntaken_25 dS_requireUntaken_26 dS_requireUntaken_28 dS_requireUntaken_31 ⟨Nat.le_of_ble_eq_true rfl, Nat.le_of_ble_eq_true rfl⟩ ⟨Nat.le_of_ble_eq_true rfl, Nat.le_of_ble_eq_true rfl⟩
  · refine xa_aload_n C dS_requireUntaken_8 rfl ?_
    refine xa_get C f_S_46 dS_requireUntaken_9 rfl rfl ?_
    refine xa_get C f_S_202 dS_requireUntaken_12 rfl rfl ?_
    refine xa_iload_n C dS_requireUntaken_15 rfl ?_
    refine xa_callS1 C (p_I_hasN g l _ (by omega) (by omega) _) b_S_106 (xw_in wt_I_has rfl) dS_requireUntaken_16 rfl (Nat.le_of_ble_eq_true rfl) ⟨Nat.le_of_ble_eq_true rfl, Nat.le_of_ble_eq_true rfl⟩ ⟨Nat.zero_le _, Nat.zero_le _⟩ ?_
    refine xa_if_eq C dS_requireUntaken_19 (tgt := 32) rfl (fun h19 => ?_) (fun h19 => ?_)
    · have q1 := xb_hs1 h5
      have q2 := xb_hs0 h19
      rcases hm with q | q
      · rw [q] at q1; exact absurd q1 (by decide)
      · rw [q] at q2; exact absurd q2 (by decide)
    · exact xa_throw C htr hE hk tk_S_requireUntaken_22 dS_requireUntaken_22 dS_requireUntaken_25 dS_requireUntaken_26 dS_requireUntaken_28 dS_requireUntaken_31 ⟨Nat.le_of_ble_eq_true rfl, Nat.le_of_ble_eq_true rfl⟩ ⟨Nat.le_of_ble_eq_true rfl, Nat.le_of_ble_eq_true rfl⟩
set_option maxHeartbeats 4000000 in
set_option maxRecDepth 100000 in
theorem p_S_requireSealed (g : xw_G) (l : Launch) {n t : Nat} {co se ke f1 f2 e1 e2 x1 x2 fa we sh : Nat → Nat} {dn op ms ps md tk bl : Int32} {pr ch sm : Nat} {rest : List va_E} (h0 : ¬ ms = 0) (he : tk = ms) : xm_R g l true m_S_requireSealed [.ref 0] (hC g n t co se ke dn f1 f2 e1 e2 op x1 x2 fa we sh ms ps md tk bl pr ch sm ++ rest) none (hC g n t co se ke dn f1 f2 e1 e2 op x1 x2 fa we sh ms ps md tk bl pr ch sm ++ rest) := by
  refine xm_of [some (.ref 0)] rfl (Nat.le_of_ble_eq_true rfl) rfl ?_
  intro p e s m args below meth c C hr hk
  refine xa_aload_n C dS_requireSealed_0 rfl ?_
  refine xa_get C f_S_46 dS_requireSealed_1 rfl rfl ?_
  refine xa_callV1 C (p_X_isOn g l) b_S_192 (xw_in wi_X_isOn rfl) e_X_isOn dS_requireSealed_4 rfl rfl rfl rfl (Nat.le_of_ble_eq_true rfl) ⟨Nat.le_of_ble_eq_true rfl, Nat.le_of_ble_eq_true rfl⟩ ⟨Nat.zero_le _, Nat.zero_le _⟩ ?_
  refine xa_if_eq C dS_requireSealed_7 (tgt := 27) rfl (fun h7 => ?_) (fun h7 => ?_)
  · exact absurd h0 (xb_eq0.mp h7)
  · refine xa_aload_n C dS_requireSealed_10 rfl ?_
    refine xa_get C f_S_46 dS_requireSealed_11 rfl rfl ?_
    refine xa_get C f_S_202 dS_requireSealed_14 rfl rfl ?_
    refine xa_aload_n C dS_requireSealed_17 rfl ?_
    refine xa_get C f_S_46 dS_requireSealed_18 rfl rfl ?_
    refine xa_get C f_S_199 dS_requireSealed_21 rfl rfl ?_
    refine xa_icmp_eq C dS_requireSealed_24 (tgt := 37) rfl (fun h24 => ?_) (fun h24 => ?_)
    · exact xa_vret C hr hk dS_requireSealed_37
    · exact absurd he h24
set_option maxHeartbeats 4000000 in
set_option maxRecDepth 100000 in
theorem q_S_requireSealed (g : xw_G) {l : Launch} (htr : xw_tr l) {n t : Nat} {co se ke f1 f2 e1 e2 x1 x2 fa we sh : Nat → Nat} {dn op ms ps md tk bl : Int32} {pr ch sm : Nat} {rest : List va_E} (h0 : ms = 0 ∨ ¬ tk = ms) : xt_R g l m_S_requireSealed [.ref 0] (hC g n t co se ke dn f1 f2 e1 e2 op x1 x2 fa we sh ms ps md tk bl pr ch sm ++ rest) "java/lang/IllegalStateException" := by
  refine xt_of [some (.ref 0)] rfl (Nat.le_of_ble_eq_true rfl) rfl ?_
  intro p e s m args below meth c C hE hk
  refine xa_aload_n C dS_requireSealed_0 rfl ?_
  refine xa_get C f_S_46 dS_requireSealed_1 rfl rfl ?_
  refine xa_callV1 C (p_X_isOn g l) b_S_192 (xw_in wi_X_isOn rfl) e_X_isOn dS_requireSealed_4 rfl rfl rfl rfl (Nat.le_of_ble_eq_true rfl) ⟨Nat.le_of_ble_eq_true rfl, Nat.le_of_ble_eq_true rfl⟩ ⟨Nat.zero_le _, Nat.zero_le _⟩ ?_
  refine xa_if_eq C dS_requireSealed_7 (tgt := 27) rfl (fun h7 => ?_) (fun h7 => ?_)
  · exact xa_throw C htr hE hk tk_S_requireSealed_27 dS_requireSealed_27 dS_requireSealed_30 dS_requireSealed_31 dS_requireSealed_33 dS_requireSealed_36 ⟨Nat.le_of_ble_eq_true rfl, Nat.le_of_ble_eq_true rfl⟩ ⟨Nat.le_of_ble_eq_true rfl, Nat.le_of_ble_eq_true rfl⟩
  · refine xa_aload_n C dS_requireSealed_10 rfl ?_
    refine xa_get C f_S_46 dS_requireSealed_11 rfl rfl ?_
    refine xa_get C f_S_202 dS_requireSealed_14 rfl rfl ?_
    refine xa_aload_n C dS_requireSealed_17 rfl ?_
    refine xa_get C f_S_46 dS_requireSealed_18 rfl rfl ?_
    refine xa_get C f_S_199 dS_requireSealed_21 rfl rfl ?_
    refine xa_icmp_eq C dS_requireSealed_24 (tgt := 37) rfl (fun h24 => ?_) (fun h24 => ?_)
    · rcases h0 with q | q
      · exact absurd (xb_f (fun z => z q)) h7
      · exact absurd h24 q
    · exact xa_throw C htr hE hk tk_S_requireSealed_27 dS_requireSealed_27 dS_requireSealed_30 dS_requireSealed_31 dS_requireSealed_33 dS_requireSealed_36 ⟨Nat.le_of_ble_eq_true rfl, Nat.le_of_ble_eq_true rfl⟩ ⟨Nat.le_of_ble_eq_true rfl, Nat.le_of_ble_eq_true rfl⟩
end
section
/-! the class's own calls -/
set_option maxHeartbeats 4000000 in
set_option maxRecDepth 100000 in
theorem p_S_deal (g : xw_G) (l : Launch) {n t : Nat} {co se ke f1 f2 e1 e2 x1 x2 fa we sh : Nat → Nat} {dn op ms ps md tk bl : Int32} {pr ch sm : Nat} {rest : List va_E} (hn : n ≤ 6) (ht : t ≤ 6) (hco : ∀ j, co j < 2 ^ 31) (w : Int64) : xm_R g l false m_S_deal [.ref 0, .long w] (hC g n t co se ke dn f1 f2 e1 e2 op x1 x2 fa we sh ms ps md tk bl pr ch sm ++ rest) (some (.long (lN ((fun j => if j < (n + 1) then kd_ w t j else ke j) 0)))) (hC g n t (fun j => if j < t then cd_ w j else co j) (fun j => if j < (n + 1) then sd_ w t j else se j) (fun j => if j < (n + 1) then kd_ w t j else ke j) (nI 1) f1 f2 e1 e2 0 x1 x2 fa we sh 0 0 0 0 0 1 ch 0 ++ rest) := by
  refine xm_of [some (.ref 0), some (.long w), none] rfl (Nat.le_of_ble_eq_true rfl) rfl ?_
  intro p e s m args below meth c C hr hk
  refine xa_aload_n C dS_deal_0 rfl ?_
  refine xa_get C f_S_30 dS_deal_1 rfl rfl ?_
  refine xa_lload_n C dS_deal_4 rfl ?_
  refine xa_callVv C (p_D_make g l hn ht hco w) b_S_50 (xw_in wi_D_make rfl) e_D_make dS_deal_5 rfl rfl rfl rfl (Nat.le_of_ble_eq_true rfl) ⟨Nat.le_of_ble_eq_true rfl, Nat.le_of_ble_eq_true rfl⟩ ⟨Nat.zero_le _, Nat.zero_le _⟩ ?_
  refine xa_aload_n C dS_deal_8 rfl ?_
  refine xa_get C f_S_39 dS_deal_9 rfl rfl ?_
  refine xa_callVv C (p_P_dropAll g l hn ht) b_S_54 (xw_in wi_P_dropAll rfl) e_P_dropAll dS_deal_12 rfl rfl rfl rfl (Nat.le_of_ble_eq_true rfl) ⟨Nat.le_of_ble_eq_true rfl, Nat.le_of_ble_eq_true rfl⟩ ⟨Nat.zero_le _, Nat.zero_le _⟩ ?_
  refine xa_aload_n C dS_deal_15 rfl ?_
  refine xa_get C f_S_46 dS_deal_16 rfl rfl ?_
  refine xa_callVv C (p_X_end g l) b_S_57 (xw_in wi_X_end rfl) e_X_end dS_deal_19 rfl rfl rfl rfl (Nat.le_of_ble_eq_true rfl) ⟨Nat.le_of_ble_eq_true rfl, Nat.le_of_ble_eq_true rfl⟩ ⟨Nat.zero_le _, Nat.zero_le _⟩ ?_
  refine xa_aload_n C dS_deal_22 rfl ?_
  refine xa_get C f_S_30 dS_deal_23 rfl rfl ?_
  refine xa_callV1 C (p_D_keyOfAll g l hn ht) b_S_60 (xw_in wi_D_keyOfAll rfl) e_D_keyOfAll dS_deal_26 rfl rfl rfl rfl (Nat.le_of_ble_eq_true rfl) ⟨Nat.le_of_ble_eq_true rfl, Nat.le_of_ble_eq_true rfl⟩ ⟨Nat.zero_le _, Nat.zero_le _⟩ ?_
  exact xa_eq rfl rfl rfl (xa_lret C hr hk dS_deal_29)
set_option maxHeartbeats 4000000 in
set_option maxRecDepth 100000 in
theorem p_S_commit (g : xw_G) (l : Launch) {n t : Nat} {co se ke f1 f2 e1 e2 x1 x2 fa we sh : Nat → Nat} {dn op ms ps md tk bl : Int32} {pr ch sm : Nat} {rest : List va_E} (hn : n ≤ 6) (ht : t ≤ 6) {i : Nat} (h1 : 1 ≤ i) (hi : i ≤ n) (hd : ¬ dn = 0) (w : Int64) : xm_R g l false m_S_commit [.ref 0, .int (nI i), .long w] (hC g n t co se ke dn f1 f2 e1 e2 op x1 x2 fa we sh ms ps md tk bl pr ch sm ++ rest) (some (.long (lN (4 ^ pd_ 2 w i % 2147483579)))) (hC g n t co se ke dn (va_up f1 i (pd_ 2 w i)) (va_up f2 i (pd_ 3 w i)) (va_up e1 i (4 ^ pd_ 2 w i % 2147483579)) (va_up e2 i (4 ^ pd_ 3 w i % 2147483579)) (op ||| on_ i) x1 x2 fa we sh ms (ps &&& (on_ i ^^^ (-1))) md tk bl pr ch sm ++ rest) := by
  refine xm_of [some (.ref 0), some (.int (nI i)), some (.long w), none] rfl (Nat.le_of_ble_eq_true rfl) rfl ?_
  intro p e s m args below meth c C hr hk
  refine xa_aload_n C dS_commit_0 rfl ?_
  refine xa_iload_n C dS_commit_1 rfl ?_
  refine xa_callVv C (p_S_requireSigner g l _ (sg_nI hn h1 hi)) b_S_64 (xw_in wi_S_requireSigner rfl) e_S_requireSigner dS_commit_2 rfl rfl rfl rfl (Nat.le_of_ble_eq_true rfl) ⟨Nat.le_of_ble_eq_true rfl, Nat.le_of_ble_eq_true rfl⟩ ⟨Nat.zero_le _, Nat.zero_le _⟩ ?_
  refine xa_aload_n C dS_commit_5 rfl ?_
  refine xa_callVv C (p_S_requireDealt g l hd) b_S_67 (xw_in wi_S_requireDealt rfl) e_S_requireDealt dS_commit_6 rfl rfl rfl rfl (Nat.le_of_ble_eq_true rfl) ⟨Nat.le_of_ble_eq_true rfl, Nat.le_of_ble_eq_true rfl⟩ ⟨Nat.zero_le _, Nat.zero_le _⟩ ?_
  refine xa_aload_n C dS_commit_9 rfl ?_
  refine xa_get C f_S_39 dS_commit_10 rfl rfl ?_
  refine xa_iload_n C dS_commit_13 rfl ?_
  refine xa_lload_n C dS_commit_14 rfl ?_
  refine xa_callVv C (p_P_open g l hn ht h1 hi w) b_S_70 (xw_in wi_P_open rfl) e_P_open dS_commit_15 rfl rfl rfl rfl (Nat.le_of_ble_eq_true rfl) ⟨Nat.le_of_ble_eq_true rfl, Nat.le_of_ble_eq_true rfl⟩ ⟨Nat.zero_le _, Nat.zero_le _⟩ ?_
  refine xa_aload_n C dS_commit_18 rfl ?_
  refine xa_get C f_S_46 dS_commit_19 rfl rfl ?_
  refine xa_iload_n C dS_commit_22 rfl ?_
  refine xa_callVv C (p_X_losePair g l hn ht h1 hi) b_S_74 (xw_in wi_X_losePair rfl) e_X_losePair dS_commit_23 rfl rfl rfl rfl (Nat.le_of_ble_eq_true rfl) ⟨Nat.le_of_ble_eq_true rfl, Nat.le_of_ble_eq_true rfl⟩ ⟨Nat.zero_le _, Nat.zero_le _⟩ ?_
  refine xa_aload_n C dS_commit_26 rfl ?_
  refine xa_get C f_S_39 dS_commit_27 rfl rfl ?_
  refine xa_get C f_S_77 dS_commit_30 rfl rfl ?_
  refine xa_iload_n C dS_commit_33 rfl ?_
  refine xa_laloadN C dS_commit_34 rfl ?_ (by omega) ?_
  · omega
  rw [va_up_s]
  exact xa_eq rfl rfl rfl (xa_lret C hr hk dS_commit_35)
set_option maxHeartbeats 4000000 in
set_option maxRecDepth 100000 in
theorem q_S_commit_a (g : xw_G) {l : Launch} (htr : xw_tr l) {n t : Nat} {co se ke f1 f2 e1 e2 x1 x2 fa we sh : Nat → Nat} {dn op ms ps md tk bl : Int32} {pr ch sm : Nat} {rest : List va_E} (x : Int32) (hx : ¬ sg n x) (w : Int64) : xt_R g l m_S_commit [.ref 0, .int x, .long w] (hC g n t co se ke dn f1 f2 e1 e2 op x1 x2 fa we sh ms ps md tk bl pr ch sm ++ rest) "java/lang/IllegalArgumentException" := by
  refine xt_of [some (.ref 0), some (.int x), some (.long w), none] rfl (Nat.le_of_ble_eq_true rfl) rfl ?_
  intro p e s m args below meth c C hE hk
  refine xa_aload_n C dS_commit_0 rfl ?_
  refine xa_iload_n C dS_commit_1 rfl ?_
  exact xa_throwV C hE hk (q_S_requireSigner g htr _ hx) b_S_64 (xw_in wi_S_requireSigner rfl) e_S_requireSigner dS_commit_2 rfl rfl rfl rfl (Nat.le_of_ble_eq_true rfl) ⟨Nat.le_of_ble_eq_true rfl, Nat.le_of_ble_eq_true rfl⟩ ⟨Nat.le_of_ble_eq_true rfl, Nat.le_of_ble_eq_true rfl⟩
set_option maxHeartbeats 4000000 in
set_option maxRecDepth 100000 in
theorem q_S_commit_b (g : xw_G) {l : Launch} (htr : xw_tr l) {n t : Nat} {co se ke f1 f2 e1 e2 x1 x2 fa we sh : Nat → Nat} {dn op ms ps md tk bl : Int32} {pr ch sm : Nat} {rest : List va_E} (hn : n ≤ 6) {i : Nat} (h1 : 1 ≤ i) (hi : i ≤ n) (hd : dn = 0) (w : Int64) : xt_R g l m_S_commit [.ref 0, .int (nI i), .long w] (hC g n t co se ke dn f1 f2 e1 e2 op x1 x2 fa we sh ms ps md tk bl pr ch sm ++ rest) "java/lang/IllegalStateException" := by
  refine xt_of [some (.ref 0), some (.int (nI i)), some (.long w), none] rfl (Nat.le_of_ble_eq_true rfl) rfl ?_
  intro p e s m args below meth c C hE hk
  refine xa_aload_n C dS_commit_0 rfl ?_
  refine xa_iload_n C dS_commit_1 rfl ?_
  refine xa_callVv C (p_S_requireSigner g l _ (sg_nI hn h1 hi)) b_S_64 (xw_in wi_S_requireSigner rfl) e_S_requireSigner dS_commit_2 rfl rfl rfl rfl (Nat.le_of_ble_eq_true rfl) ⟨Nat.le_of_ble_eq_true rfl, Nat.le_of_ble_eq_true rfl⟩ ⟨Nat.zero_le _, Nat.zero_le _⟩ ?_
  refine xa_aload_n C dS_commit_5 rfl ?_
  exact xa_throwV C hE hk (q_S_requireDealt g htr hd) b_S_67 (xw_in wi_S_requireDealt rfl) e_S_requireDealt dS_commit_6 rfl rfl rfl rfl (Nat.le_of_ble_eq_true rfl) ⟨Nat.le_of_ble_eq_true rfl, Nat.le_of_ble_eq_true rfl⟩ ⟨Nat.le_of_ble_eq_true rfl, Nat.le_of_ble_eq_true rfl⟩
set_option maxHeartbeats 4000000 in
set_option maxRecDepth 100000 in
theorem p_S_begin (g : xw_G) (l : Launch) {n t : Nat} {co se ke f1 f2 e1 e2 x1 x2 fa we sh : Nat → Nat} {dn op ms ps md tk bl : Int32} {pr ch sm : Nat} {rest : List va_E} (hn : n ≤ 6) (ht : t ≤ 6) (x : Int32) (hx : en n t x) (hd : ¬ dn = 0) (ho : x &&& (op ^^^ (-1)) = 0) (he1 : ∀ j, e1 j < 2 ^ 31) (he2 : ∀ j, e2 j < 2 ^ 31) (hx1 : ∀ j, x1 j < 2 ^ 31) (hx2 : ∀ j, x2 j < 2 ^ 31) (hfa : ∀ j, fa j < 2 ^ 30) (w : Int64) : xm_R g l false m_S_begin [.ref 0, .int x, .long w] (hC g n t co se ke dn f1 f2 e1 e2 op x1 x2 fa we sh ms ps md tk bl pr ch sm ++ rest) (some (.long (lN (pp_ x (sl_ al_ e1 x1 n) (sl_ al_ e2 x2 n) (ff_ x (sl_ al_ e1 x1 n) (sl_ al_ e2 x2 n) n w (ke 0)) n)))) (hC g n t co se ke dn f1 f2 e1 e2 op (sl_ al_ e1 x1 n) (sl_ al_ e2 x2 n) (sl_ (hs x) (ff_ x (sl_ al_ e1 x1 n) (sl_ al_ e2 x2 n) n w (ke 0)) fa n) (sl_ (hs x) (wt_ x n) we n) sh x x 0 0 0 (pp_ x (sl_ al_ e1 x1 n) (sl_ al_ e2 x2 n) (ff_ x (sl_ al_ e1 x1 n) (sl_ al_ e2 x2 n) n w (ke 0)) n) (cs_ (pp_ x (sl_ al_ e1 x1 n) (sl_ al_ e2 x2 n) (ff_ x (sl_ al_ e1 x1 n) (sl_ al_ e2 x2 n) n w (ke 0)) n) (ke 0) w) 0 ++ rest) := by
  refine xm_of [some (.ref 0), some (.int x), some (.long w), none] rfl (Nat.le_of_ble_eq_true rfl) rfl ?_
  intro p e s m args below meth c C hr hk
  refine xa_aload_n C dS_begin_0 rfl ?_
  refine xa_iload_n C dS_begin_1 rfl ?_
  refine xa_callVv C (p_S_requireEnough g l _ hx) b_S_81 (xw_in wi_S_requireEnough rfl) e_S_requireEnough dS_begin_2 rfl rfl rfl rfl (Nat.le_of_ble_eq_true rfl) ⟨Nat.le_of_ble_eq_true rfl, Nat.le_of_ble_eq_true rfl⟩ ⟨Nat.zero_le _, Nat.zero_le _⟩ ?_
  refine xa_aload_n C dS_begin_5 rfl ?_
  refine xa_callVv C (p_S_requireDealt g l hd) b_S_67 (xw_in wi_S_requireDealt rfl) e_S_requireDealt dS_begin_6 rfl rfl rfl rfl (Nat.le_of_ble_eq_true rfl) ⟨Nat.le_of_ble_eq_true rfl, Nat.le_of_ble_eq_true rfl⟩ ⟨Nat.zero_le _, Nat.zero_le _⟩ ?_
  refine xa_aload_n C dS_begin_9 rfl ?_
  refine xa_get C f_S_39 dS_begin_10 rfl rfl ?_
  refine xa_iload_n C dS_begin_13 rfl ?_
  refine xa_callV1 C (p_P_areOpen g l hn ht _) b_S_84 (xw_in wi_P_areOpen rfl) e_P_areOpen dS_begin_14 rfl rfl rfl rfl (Nat.le_of_ble_eq_true rfl) ⟨Nat.le_of_ble_eq_true rfl, Nat.le_of_ble_eq_true rfl⟩ ⟨Nat.zero_le _, Nat.zero_le _⟩ ?_
  refine xa_if_ne C dS_begin_17 (tgt := 30) rfl (fun h17 => ?_) (fun h17 => ?_)
  · refine xa_aload_n C dS_begin_30 rfl ?_
    refine xa_get C f_S_46 dS_begin_31 rfl rfl ?_
    refine xa_iload_n C dS_begin_34 rfl ?_
    refine xa_lload_n C dS_begin_35 rfl ?_
    refine xa_aload_n C dS_begin_36 rfl ?_
    refine xa_get C f_S_30 dS_begin_37 rfl rfl ?_
    refine xa_callV1 C (p_D_keyOfAll g l hn ht) b_S_60 (xw_in wi_D_keyOfAll rfl) e_D_keyOfAll dS_begin_40 rfl rfl rfl rfl (Nat.le_of_ble_eq_true rfl) ⟨Nat.le_of_ble_eq_true rfl, Nat.le_of_ble_eq_true rfl⟩ ⟨Nat.zero_le _, Nat.zero_le _⟩ ?_
    refine xa_aload_n C dS_begin_43 rfl ?_
    refine xa_get C f_S_39 dS_begin_44 rfl rfl ?_
    refine xa_callVv C (p_X_start g l hn ht he1 he2 hx1 hx2 hfa x w (ke 0)) b_S_95 (xw_in wi_X_start rfl) e_X_start dS_begin_47 rfl rfl rfl rfl (Nat.le_of_ble_eq_true rfl) ⟨Nat.le_of_ble_eq_true rfl, Nat.le_of_ble_eq_true rfl⟩ ⟨Nat.zero_le _, Nat.zero_le _⟩ ?_
    refine xa_aload_n C dS_begin_50 rfl ?_
    refine xa_get C f_S_46 dS_begin_51 rfl rfl ?_
    refine xa_get C f_S_99 dS_begin_54 rfl rfl ?_
    exact xa_eq rfl rfl rfl (xa_lret C hr hk dS_begin_57)
  · exact absurd ho (xb_eq0.mp h17)
set_option maxHeartbeats 4000000 in
set_option maxRecDepth 100000 in
theorem q_S_begin_a (g : xw_G) {l : Launch} (htr : xw_tr l) {n t : Nat} {co se ke f1 f2 e1 e2 x1 x2 fa we sh : Nat → Nat} {dn op ms ps md tk bl : Int32} {pr ch sm : Nat} {rest : List va_E} (x : Int32) (hx : ¬ en n t x) (w : Int64) : xt_R g l m_S_begin [.ref 0, .int x, .long w] (hC g n t co se ke dn f1 f2 e1 e2 op x1 x2 fa we sh ms ps md tk bl pr ch sm ++ rest) "java/lang/IllegalArgumentException" := by
  refine xt_of [some (.ref 0), some (.int x), some (.long w), none] rfl (Nat.le_of_ble_eq_true rfl) rfl ?_
  intro p e s m args below meth c C hE hk
  refine xa_aload_n C dS_begin_0 rfl ?_
  refine xa_iload_n C dS_begin_1 rfl ?_
  exact xa_throwV C hE hk (q_S_requireEnough g htr _ hx) b_S_81 (xw_in wi_S_requireEnough rfl) e_S_requireEnough dS_begin_2 rfl rfl rfl rfl (Nat.le_of_ble_eq_true rfl) ⟨Nat.le_of_ble_eq_true rfl, Nat.le_of_ble_eq_true rfl⟩ ⟨Nat.le_of_ble_eq_true rfl, Nat.le_of_ble_eq_true rfl⟩
set_option maxHeartbeats 4000000 in
set_option maxRecDepth 100000 in
theorem q_S_begin_b (g : xw_G) {l : Launch} (htr : xw_tr l) {n t : Nat} {co se ke f1 f2 e1 e2 x1 x2 fa we sh : Nat → Nat} {dn op ms ps md tk bl : Int32} {pr ch sm : Nat} {rest : List va_E} (x : Int32) (hx : en n t x) (hd : dn = 0) (w : Int64) : xt_R g l m_S_begin [.ref 0, .int x, .long w] (hC g n t co se ke dn f1 f2 e1 e2 op x1 x2 fa we sh ms ps md tk bl pr ch sm ++ rest) "java/lang/IllegalStateException" := by
  refine xt_of [some (.ref 0), some (.int x), some (.long w), none] rfl (Nat.le_of_ble_eq_true rfl) rfl ?_
  intro p e s m args below meth c C hE hk
  refine xa_aload_n C dS_begin_0 rfl ?_
  refine xa_iload_n C dS_begin_1 rfl ?_
  refine xa_callVv C (p_S_requireEnough g l _ hx) b_S_81 (xw_in wi_S_requireEnough rfl) e_S_requireEnough dS_begin_2 rfl rfl rfl rfl (Nat.le_of_ble_eq_true rfl) ⟨Nat.le_of_ble_eq_true rfl, Nat.le_of_ble_eq_true rfl⟩ ⟨Nat.zero_le _, Nat.zero_le _⟩ ?_
  refine xa_aload_n C dS_begin_5 rfl ?_
  exact xa_throwV C hE hk (q_S_requireDealt g htr hd) b_S_67 (xw_in wi_S_requireDealt rfl) e_S_requireDealt dS_begin_6 rfl rfl rfl rfl (Nat.le_of_ble_eq_true rfl) ⟨Nat.le_of_ble_eq_true rfl, Nat.le_of_ble_eq_true rfl⟩ ⟨Nat.le_of_ble_eq_true rfl, Nat.le_of_ble_eq_true rfl⟩
set_option maxHeartbeats 4000000 in
set_option maxRecDepth 100000 in
theorem q_S_begin_c (g : xw_G) {l : Launch} (htr : xw_tr l) {n t : Nat} {co se ke f1 f2 e1 e2 x1 x2 fa we sh : Nat → Nat} {dn op ms ps md tk bl : Int32} {pr ch sm : Nat} {rest : List va_E} (hn : n ≤ 6) (ht : t ≤ 6) (x : Int32) (hx : en n t x) (hd : ¬ dn = 0) (ho : ¬ x &&& (op ^^^ (-1)) = 0) (w : Int64) : xt_R g l m_S_begin [.ref 0, .int x, .long w] (hC g n t co se ke dn f1 f2 e1 e2 op x1 x2 fa we sh ms ps md tk bl pr ch sm ++ rest) "java/lang/IllegalStateException" := by
  refine xt_of [some (.ref 0), some (.int x), some (.long w), none] rfl (Nat.le_of_ble_eq_true rfl) rfl ?_
  intro p e s m args below meth c C hE hk
  refine xa_aload_n C dS_begin_0 rfl ?_
  refine xa_iload_n C dS_begin_1 rfl ?_
  refine xa_callVv C (p_S_requireEnough g l _ hx) b_S_81 (xw_in wi_S_requireEnough rfl) e_S_requireEnough dS_begin_2 rfl rfl rfl rfl (Nat.le_of_ble_eq_true rfl) ⟨Nat.le_of_ble_eq_true rfl, Nat.le_of_ble_eq_true rfl⟩ ⟨Nat.zero_le _, Nat.zero_le _⟩ ?_
  refine xa_aload_n C dS_begin_5 rfl ?_
  refine xa_callVv C (p_S_requireDealt g l hd) b_S_67 (xw_in wi_S_requireDealt rfl) e_S_requireDealt dS_begin_6 rfl rfl rfl rfl (Nat.le_of_ble_eq_true rfl) ⟨Nat.le_of_ble_eq_true rfl, Nat.le_of_ble_eq_true rfl⟩ ⟨Nat.zero_le _, Nat.zero_le _⟩ ?_
  refine xa_aload_n C dS_begin_9 rfl ?_
  refine xa_get C f_S_39 dS_begin_10 rfl rfl ?_
  refine xa_iload_n C dS_begin_13 rfl ?_
  refine xa_callV1 C (p_P_areOpen g l hn ht _) b_S_84 (xw_in wi_P_areOpen rfl) e_P_areOpen dS_begin_14 rfl rfl rfl rfl (Nat.le_of_ble_eq_true rfl) ⟨Nat.le_of_ble_eq_true rfl, Nat.le_of_ble_eq_true rfl⟩ ⟨Nat.zero_le _, Nat.zero_le _⟩ ?_
  refine xa_if_ne C dS_begin_17 (tgt := 30) rfl (fun h17 => ?_) (fun h17 => ?_)
  · exact absurd (xb_f ho) h17
  · exact xa_throw C htr hE hk tk_S_begin_20 dS_begin_20 dS_begin_23 dS_begin_24 dS_begin_26 dS_begin_29 ⟨Nat.le_of_ble_eq_true rfl, Nat.le_of_ble_eq_true rfl⟩ ⟨Nat.le_of_ble_eq_true rfl, Nat.le_of_ble_eq_true rfl⟩
set_option maxHeartbeats 4000000 in
set_option maxRecDepth 100000 in
theorem p_S_sign (g : xw_G) (l : Launch) {n t : Nat} {co se ke f1 f2 e1 e2 x1 x2 fa we sh : Nat → Nat} {dn op ms ps md tk bl : Int32} {pr ch sm : Nat} {rest : List va_E} (hn : n ≤ 6) (ht : t ≤ 6) {i : Nat} (h1 : 1 ≤ i) (hi : i ≤ n) (hco : ∀ j, co j < 2 ^ 31) (hse : ∀ j, se j < 2 ^ 31) (hke : ∀ j, ke j < 2 ^ 31) (hf1 : ∀ j, f1 j < 2 ^ 31) (hf2 : ∀ j, f2 j < 2 ^ 31) (he1 : ∀ j, e1 j < 2 ^ 31) (he2 : ∀ j, e2 j < 2 ^ 31) (hx1 : ∀ j, x1 j < 2 ^ 31) (hx2 : ∀ j, x2 j < 2 ^ 31) (hfa : ∀ j, fa j < 2 ^ 30) (hwe : ∀ j, we j < 2 ^ 31) (hch : ch < 2 ^ 31) (hsh : ∀ j, sh j < 2 ^ 31) (hpr : pr < 2 ^ 31) (hsm : sm < 2 ^ 31) (hp9 : hs ps i = true) : xm_R g l false m_S_sign [.ref 0, .int (nI i)] (hC g n t co se ke dn f1 f2 e1 e2 op x1 x2 fa we sh ms ps md tk bl pr ch sm ++ rest) (some (.long (lN (((f1 i + f2 i * fa i % 1073741789) % 1073741789 + ch * we i % 1073741789 * se i % 1073741789) % 1073741789)))) (hC g n t co se ke dn f1 f2 e1 e2 (op &&& (on_ i ^^^ (-1))) x1 x2 fa we (va_up sh i (((f1 i + f2 i * fa i % 1073741789) % 1073741789 + ch * we i % 1073741789 * se i % 1073741789) % 1073741789)) ms (ps &&& (on_ i ^^^ (-1))) (md ||| on_ i) tk bl pr ch sm ++ rest) := by
  refine xm_of [some (.ref 0), some (.int (nI i))] rfl (Nat.le_of_ble_eq_true rfl) rfl ?_
  intro p e s m args below meth c C hr hk
  refine xa_aload_n C dS_sign_0 rfl ?_
  refine xa_iload_n C dS_sign_1 rfl ?_
  refine xa_callVv C (p_S_requireSigner g l _ (sg_nI hn h1 hi)) b_S_64 (xw_in wi_S_requireSigner rfl) e_S_requireSigner dS_sign_2 rfl rfl rfl rfl (Nat.le_of_ble_eq_true rfl) ⟨Nat.le_of_ble_eq_true rfl, Nat.le_of_ble_eq_true rfl⟩ ⟨Nat.zero_le _, Nat.zero_le _⟩ ?_
  refine xa_aload_n C dS_sign_5 rfl ?_
  refine xa_get C f_S_46 dS_sign_6 rfl rfl ?_
  refine xa_get C f_S_103 dS_sign_9 rfl rfl ?_
  refine xa_iload_n C dS_sign_12 rfl ?_
  refine xa_callS1 C (p_I_hasN g l _ (by omega) (by omega) _) b_S_106 (xw_in wt_I_has rfl) dS_sign_13 rfl (Nat.le_of_ble_eq_true rfl) ⟨Nat.le_of_ble_eq_true rfl, Nat.le_of_ble_eq_true rfl⟩ ⟨Nat.zero_le _, Nat.zero_le _⟩ ?_
  refine xa_if_ne C dS_sign_16 (tgt := 29) rfl (fun h16 => ?_) (fun h16 => ?_)
  · refine xa_aload_n C dS_sign_29 rfl ?_
    refine xa_get C f_S_46 dS_sign_30 rfl rfl ?_
    refine xa_iload_n C dS_sign_33 rfl ?_
    refine xa_aload_n C dS_sign_34 rfl ?_
    refine xa_get C f_S_30 dS_sign_35 rfl rfl ?_
    refine xa_get C f_S_114 dS_sign_38 rfl rfl ?_
    refine xa_iload_n C dS_sign_41 rfl ?_
    refine xa_laloadN C dS_sign_42 rfl ?_ (by omega) ?_
    · omega
    refine xa_aload_n C dS_sign_43 rfl ?_
    refine xa_get C f_S_39 dS_sign_44 rfl rfl ?_
    refine xa_callVv C (p_X_makeShare g l hn ht h1 hi hx1 hx2 hfa hwe hch hf1 hf2 (hse _)) b_S_117 (xw_in wi_X_makeShare rfl) e_X_makeShare dS_sign_47 rfl rfl rfl rfl (Nat.le_of_ble_eq_true rfl) ⟨Nat.le_of_ble_eq_true rfl, Nat.le_of_ble_eq_true rfl⟩ ⟨Nat.zero_le _, Nat.zero_le _⟩ ?_
    refine xa_aload_n C dS_sign_50 rfl ?_
    refine xa_get C f_S_46 dS_sign_51 rfl rfl ?_
    refine xa_iload_n C dS_sign_54 rfl ?_
    refine xa_callVv C (p_X_losePair g l hn ht h1 hi) b_S_74 (xw_in wi_X_losePair rfl) e_X_losePair dS_sign_55 rfl rfl rfl rfl (Nat.le_of_ble_eq_true rfl) ⟨Nat.le_of_ble_eq_true rfl, Nat.le_of_ble_eq_true rfl⟩ ⟨Nat.zero_le _, Nat.zero_le _⟩ ?_
    refine xa_aload_n C dS_sign_58 rfl ?_
    refine xa_get C f_S_39 dS_sign_59 rfl rfl ?_
    refine xa_iload_n C dS_sign_62 rfl ?_
    refine xa_callVv C (p_P_drop g l hn ht h1 hi) b_S_121 (xw_in wi_P_drop rfl) e_P_drop dS_sign_63 rfl rfl rfl rfl (Nat.le_of_ble_eq_true rfl) ⟨Nat.le_of_ble_eq_true rfl, Nat.le_of_ble_eq_true rfl⟩ ⟨Nat.zero_le _, Nat.zero_le _⟩ ?_
    refine xa_aload_n C dS_sign_66 rfl ?_
    refine xa_get C f_S_46 dS_sign_67 rfl rfl ?_
    refine xa_get C f_S_124 dS_sign_70 rfl rfl ?_
    refine xa_iload_n C dS_sign_73 rfl ?_
    refine xa_laloadN C dS_sign_74 rfl ?_ (by omega) ?_
    · omega
    rw [va_up_s]
    exact xa_eq rfl rfl rfl (xa_lret C hr hk dS_sign_75)
  · exact absurd hp9 (xb_eq0.mp h16)
set_option maxHeartbeats 4000000 in
set_option maxRecDepth 100000 in
theorem q_S_sign_a (g : xw_G) {l : Launch} (htr : xw_tr l) {n t : Nat} {co se ke f1 f2 e1 e2 x1 x2 fa we sh : Nat → Nat} {dn op ms ps md tk bl : Int32} {pr ch sm : Nat} {rest : List va_E} (x : Int32) (hx : ¬ sg n x) : xt_R g l m_S_sign [.ref 0, .int x] (hC g n t co se ke dn f1 f2 e1 e2 op x1 x2 fa we sh ms ps md tk bl pr ch sm ++ rest) "java/lang/IllegalArgumentException" := by
  refine xt_of [some (.ref 0), some (.int x)] rfl (Nat.le_of_ble_eq_true rfl) rfl ?_
  intro p e s m args below meth c C hE hk
  refine xa_aload_n C dS_sign_0 rfl ?_
  refine xa_iload_n C dS_sign_1 rfl ?_
  exact xa_throwV C hE hk (q_S_requireSigner g htr _ hx) b_S_64 (xw_in wi_S_requireSigner rfl) e_S_requireSigner dS_sign_2 rfl rfl rfl rfl (Nat.le_of_ble_eq_true rfl) ⟨Nat.le_of_ble_eq_true rfl, Nat.le_of_ble_eq_true rfl⟩ ⟨Nat.le_of_ble_eq_true rfl, Nat.le_of_ble_eq_true rfl⟩
set_option maxHeartbeats 4000000 in
set_option maxRecDepth 100000 in
theorem q_S_sign_b (g : xw_G) {l : Launch} (htr : xw_tr l) {n t : Nat} {co se ke f1 f2 e1 e2 x1 x2 fa we sh : Nat → Nat} {dn op ms ps md tk bl : Int32} {pr ch sm : Nat} {rest : List va_E} (hn : n ≤ 6) {i : Nat} (h1 : 1 ≤ i) (hi : i ≤ n) (hp9 : hs ps i = false) : xt_R g l m_S_sign [.ref 0, .int (nI i)] (hC g n t co se ke dn f1 f2 e1 e2 op x1 x2 fa we sh ms ps md tk bl pr ch sm ++ rest) "java/lang/IllegalStateException" := by
  refine xt_of [some (.ref 0), some (.int (nI i))] rfl (Nat.le_of_ble_eq_true rfl) rfl ?_
  intro p e s m args below meth c C hE hk
  refine xa_aload_n C dS_sign_0 rfl ?_
  refine xa_iload_n C dS_sign_1 rfl ?_
  refine xa_callVv C (p_S_requireSigner g l _ (sg_nI hn h1 hi)) b_S_64 (xw_in wi_S_requireSigner rfl) e_S_requireSigner dS_sign_2 rfl rfl rfl rfl (Nat.le_of_ble_eq_true rfl) ⟨Nat.le_of_ble_eq_true rfl, Nat.le_of_ble_eq_true rfl⟩ ⟨Nat.zero_le _, Nat.zero_le _⟩ ?_
  refine xa_aload_n C dS_sign_5 rfl ?_
  refine xa_get C f_S_46 dS_sign_6 rfl rfl ?_
  refine xa_get C f_S_103 dS_sign_9 rfl rfl ?_
  refine xa_iload_n C dS_sign_12 rfl ?_
  refine xa_callS1 C (p_I_hasN g l _ (by omega) (by omega) _) b_S_106 (xw_in wt_I_has rfl) dS_sign_13 rfl (Nat.le_of_ble_eq_true rfl) ⟨Nat.le_of_ble_eq_true rfl, Nat.le_of_ble_eq_true rfl⟩ ⟨Nat.zero_le _, Nat.zero_le _⟩ ?_
  refine xa_if_ne C dS_sign_16 (tgt := 29) rfl (fun h16 => ?_) (fun h16 => ?_)
  · exact absurd (xb_f (by rw [hp9]; decide)) h16
  · exact xa_throw C htr hE hk tk_S_sign_19 dS_sign_19 dS_sign_22 dS_sign_23 dS_sign_25 dS_sign_28 ⟨Nat.le_of_ble_eq_true rfl, Nat.le_of_ble_eq_true rfl⟩ ⟨Nat.le_of_ble_eq_true rfl, Nat.le_of_ble_eq_true rfl⟩
theorem nm_lt {z : Nat} (h : z < 1073741789) : (0 : Int64) ≤ lN z ∧ lN z < 1073741789 := by
  constructor
  · exact (pk_lLE (a := 0) (b := z) (by decide) (by omega)).mpr (Nat.zero_le _)
  · exact (pk_lLT (a := z) (b := 1073741789) (by omega) (by decide)).mpr h
theorem nm_of {x : Int64} (h : 0 ≤ x ∧ x < 1073741789) : ∃ z : Nat, z < 1073741789 ∧ x = lN z := by
  obtain ⟨k, hk, rfl⟩ := pk_lOf (Int64.not_lt.mpr h.1)
  exact ⟨k, (pk_lLT (a := k) (b := 1073741789) hk (by decide)).mp h.2, rfl⟩
theorem el_of {x : Int64} (h : 1 ≤ x ∧ x < 2147483579) : ∃ z : Nat, 1 ≤ z ∧ z < 2147483579 ∧ x = lN z := by
  have h0 : ¬ x < 0 := by
    have := h.1
    rw [Int64.le_iff_toInt_le] at this
    rw [Int64.lt_iff_toInt_lt]
    have e1 : (1 : Int64).toInt = 1 := by decide
    have e0 : (0 : Int64).toInt = 0 := by decide
    omega
  obtain ⟨k, hk, rfl⟩ := pk_lOf h0
  exact ⟨k, (pk_lLE (a := 1) (b := k) (by decide) hk).mp h.1, (pk_lLT (a := k) (b := 2147483579) hk (by decide)).mp h.2, rfl⟩
set_option maxHeartbeats 4000000 in
set_option maxRecDepth 100000 in
theorem p_S_submit_t (g : xw_G) (l : Launch) {n t : Nat} {co se ke f1 f2 e1 e2 x1 x2 fa we sh : Nat → Nat} {dn op ms ps md tk bl : Int32} {pr ch sm : Nat} {rest : List va_E} (hn : n ≤ 6) (ht : t ≤ 6) {i : Nat} (h1 : 1 ≤ i) (hi : i ≤ n) (hco : ∀ j, co j < 2 ^ 31) (hse : ∀ j, se j < 2 ^ 31) (hke : ∀ j, ke j < 2 ^ 31) (hf1 : ∀ j, f1 j < 2 ^ 31) (hf2 : ∀ j, f2 j < 2 ^ 31) (he1 : ∀ j, e1 j < 2 ^ 31) (he2 : ∀ j, e2 j < 2 ^ 31) (hx1 : ∀ j, x1 j < 2 ^ 31) (hx2 : ∀ j, x2 j < 2 ^ 31) (hfa : ∀ j, fa j < 2 ^ 30) (hwe : ∀ j, we j < 2 ^ 31) (hch : ch < 2 ^ 31) (hsh : ∀ j, sh j < 2 ^ 31) (hpr : pr < 2 ^ 31) (hsm : sm < 2 ^ 31) {z : Nat} (hz : z < 1073741789) (hm : hs ms i = true) (hk9 : hs tk i = false) (hR : 4 ^ z % 2147483579 = (x1 i * (x2 i ^ fa i % 2147483579) % 2147483579) * (ke i ^ (ch * we i % 1073741789) % 2147483579) % 2147483579) : xm_R g l false m_S_submit [.ref 0, .int (nI i), .long (lN z)] (hC g n t co se ke dn f1 f2 e1 e2 op x1 x2 fa we sh ms ps md tk bl pr ch sm ++ rest) (some (.int 1)) (hC g n t co se ke dn f1 f2 e1 e2 op x1 x2 fa we sh ms ps md (tk ||| on_ i) bl pr ch ((sm + z) % 1073741789) ++ rest) := by
  refine xm_of [some (.ref 0), some (.int (nI i)), some (.long (lN z)), none] rfl (Nat.le_of_ble_eq_true rfl) rfl ?_
  intro p e s m args below meth c C hr hk
  refine xa_aload_n C dS_submit_0 rfl ?_
  refine xa_iload_n C dS_submit_1 rfl ?_
  refine xa_callVv C (p_S_requireSigner g l _ (sg_nI hn h1 hi)) b_S_64 (xw_in wi_S_requireSigner rfl) e_S_requireSigner dS_submit_2 rfl rfl rfl rfl (Nat.le_of_ble_eq_true rfl) ⟨Nat.le_of_ble_eq_true rfl, Nat.le_of_ble_eq_true rfl⟩ ⟨Nat.zero_le _, Nat.zero_le _⟩ ?_
  refine xa_aload_n C dS_submit_5 rfl ?_
  refine xa_lload_n C dS_submit_6 rfl ?_
  refine xa_callVv C (p_S_requireNumber g l _ (nm_lt hz)) b_S_127 (xw_in wi_S_requireNumber rfl) e_S_requireNumber dS_submit_7 rfl rfl rfl rfl (Nat.le_of_ble_eq_true rfl) ⟨Nat.le_of_ble_eq_true rfl, Nat.le_of_ble_eq_true rfl⟩ ⟨Nat.zero_le _, Nat.zero_le _⟩ ?_
  refine xa_aload_n C dS_submit_10 rfl ?_
  refine xa_iload_n C dS_submit_11 rfl ?_
  refine xa_callVv C (p_S_requireUntaken g l hn h1 hi hm hk9) b_S_130 (xw_in wi_S_requireUntaken rfl) e_S_requireUntaken dS_submit_12 rfl rfl rfl rfl (Nat.le_of_ble_eq_true rfl) ⟨Nat.le_of_ble_eq_true rfl, Nat.le_of_ble_eq_true rfl⟩ ⟨Nat.zero_le _, Nat.zero_le _⟩ ?_
  refine xa_aload_n C dS_submit_15 rfl ?_
  refine xa_get C f_S_46 dS_submit_16 rfl rfl ?_
  refine xa_iload_n C dS_submit_19 rfl ?_
  refine xa_lload_n C dS_submit_20 rfl ?_
  refine xa_aload_n C dS_submit_21 rfl ?_
  refine xa_get C f_S_30 dS_submit_22 rfl rfl ?_
  refine xa_get C f_S_133 dS_submit_25 rfl rfl ?_
  refine xa_iload_n C dS_submit_28 rfl ?_
  refine xa_laloadN C dS_submit_29 rfl ?_ (by omega) ?_
  · omega
  refine xa_callV1 C (p_X_tell_t g l hn ht h1 hi hx1 hx2 hfa hwe hch hsm (by first | omega | exact Nat.lt_trans (Nat.mod_lt _ (by decide)) (by decide)) (hke _) hR) b_S_136 (xw_in wi_X_tell rfl) e_X_tell dS_submit_30 rfl rfl rfl rfl (Nat.le_of_ble_eq_true rfl) ⟨Nat.le_of_ble_eq_true rfl, Nat.le_of_ble_eq_true rfl⟩ ⟨Nat.zero_le _, Nat.zero_le _⟩ ?_
  exact xa_eq rfl rfl rfl (xa_zret C hr hk rfl dS_submit_33)
set_option maxHeartbeats 4000000 in
set_option maxRecDepth 100000 in
theorem p_S_submit_f (g : xw_G) (l : Launch) {n t : Nat} {co se ke f1 f2 e1 e2 x1 x2 fa we sh : Nat → Nat} {dn op ms ps md tk bl : Int32} {pr ch sm : Nat} {rest : List va_E} (hn : n ≤ 6) (ht : t ≤ 6) {i : Nat} (h1 : 1 ≤ i) (hi : i ≤ n) (hco : ∀ j, co j < 2 ^ 31) (hse : ∀ j, se j < 2 ^ 31) (hke : ∀ j, ke j < 2 ^ 31) (hf1 : ∀ j, f1 j < 2 ^ 31) (hf2 : ∀ j, f2 j < 2 ^ 31) (he1 : ∀ j, e1 j < 2 ^ 31) (he2 : ∀ j, e2 j < 2 ^ 31) (hx1 : ∀ j, x1 j < 2 ^ 31) (hx2 : ∀ j, x2 j < 2 ^ 31) (hfa : ∀ j, fa j < 2 ^ 30) (hwe : ∀ j, we j < 2 ^ 31) (hch : ch < 2 ^ 31) (hsh : ∀ j, sh j < 2 ^ 31) (hpr : pr < 2 ^ 31) (hsm : sm < 2 ^ 31) {z : Nat} (hz : z < 1073741789) (hm : hs ms i = true) (hk9 : hs tk i = false) (hR : ¬ 4 ^ z % 2147483579 = (x1 i * (x2 i ^ fa i % 2147483579) % 2147483579) * (ke i ^ (ch * we i % 1073741789) % 2147483579) % 2147483579) : xm_R g l false m_S_submit [.ref 0, .int (nI i), .long (lN z)] (hC g n t co se ke dn f1 f2 e1 e2 op x1 x2 fa we sh ms ps md tk bl pr ch sm ++ rest) (some (.int 0)) (hC g n t co se ke dn f1 f2 e1 e2 op x1 x2 fa we sh ms ps md tk (bl ||| on_ i) pr ch sm ++ rest) := by
  refine xm_of [some (.ref 0), some (.int (nI i)), some (.long (lN z)), none] rfl (Nat.le_of_ble_eq_true rfl) rfl ?_
  intro p e s m args below meth c C hr hk
  refine xa_aload_n C dS_submit_0 rfl ?_
  refine xa_iload_n C dS_submit_1 rfl ?_
  refine xa_callVv C (p_S_requireSigner g l _ (sg_nI hn h1 hi)) b_S_64 (xw_in wi_S_requireSigner rfl) e_S_requireSigner dS_submit_2 rfl rfl rfl rfl (Nat.le_of_ble_eq_true rfl) ⟨Nat.le_of_ble_eq_true rfl, Nat.le_of_ble_eq_true rfl⟩ ⟨Nat.zero_le _, Nat.zero_le _⟩ ?_
  refine xa_aload_n C dS_submit_5 rfl ?_
  refine xa_lload_n C dS_submit_6 rfl ?_
  refine xa_callVv C (p_S_requireNumber g l _ (nm_lt hz)) b_S_127 (xw_in wi_S_requireNumber rfl) e_S_requireNumber dS_submit_7 rfl rfl rfl rfl (Nat.le_of_ble_eq_true rfl) ⟨Nat.le_of_ble_eq_true rfl, Nat.le_of_ble_eq_true rfl⟩ ⟨Nat.zero_le _, Nat.zero_le _⟩ ?_
  refine xa_aload_n C dS_submit_10 rfl ?_
  refine xa_iload_n C dS_submit_11 rfl ?_
  refine xa_callVv C (p_S_requireUntaken g l hn h1 hi hm hk9) b_S_130 (xw_in wi_S_requireUntaken rfl) e_S_requireUntaken dS_submit_12 rfl rfl rfl rfl (Nat.le_of_ble_eq_true rfl) ⟨Nat.le_of_ble_eq_true rfl, Nat.le_of_ble_eq_true rfl⟩ ⟨Nat.zero_le _, Nat.zero_le _⟩ ?_
  refine xa_aload_n C dS_submit_15 rfl ?_
  refine xa_get C f_S_46 dS_submit_16 rfl rfl ?_
  refine xa_iload_n C dS_submit_19 rfl ?_
  refine xa_lload_n C dS_submit_20 rfl ?_
  refine xa_aload_n C dS_submit_21 rfl ?_
  refine xa_get C f_S_30 dS_submit_22 rfl rfl ?_
  refine xa_get C f_S_133 dS_submit_25 rfl rfl ?_
  refine xa_iload_n C dS_submit_28 rfl ?_
  refine xa_laloadN C dS_submit_29 rfl ?_ (by omega) ?_
  · omega
  refine xa_callV1 C (p_X_tell_f g l hn ht h1 hi hx1 hx2 hfa hwe hch hsm (by first | omega | exact Nat.lt_trans (Nat.mod_lt _ (by decide)) (by decide)) (hke _) hR) b_S_136 (xw_in wi_X_tell rfl) e_X_tell dS_submit_30 rfl rfl rfl rfl (Nat.le_of_ble_eq_true rfl) ⟨Nat.le_of_ble_eq_true rfl, Nat.le_of_ble_eq_true rfl⟩ ⟨Nat.zero_le _, Nat.zero_le _⟩ ?_
  exact xa_eq rfl rfl rfl (xa_zret C hr hk rfl dS_submit_33)
set_option maxHeartbeats 4000000 in
set_option maxRecDepth 100000 in
theorem q_S_submit_a (g : xw_G) {l : Launch} (htr : xw_tr l) {n t : Nat} {co se ke f1 f2 e1 e2 x1 x2 fa we sh : Nat → Nat} {dn op ms ps md tk bl : Int32} {pr ch sm : Nat} {rest : List va_E} (x : Int32) (hx : ¬ sg n x) (w : Int64) : xt_R g l m_S_submit [.ref 0, .int x, .long w] (hC g n t co se ke dn f1 f2 e1 e2 op x1 x2 fa we sh ms ps md tk bl pr ch sm ++ rest) "java/lang/IllegalArgumentException" := by
  refine xt_of [some (.ref 0), some (.int x), some (.long w), none] rfl (Nat.le_of_ble_eq_true rfl) rfl ?_
  intro p e s m args below meth c C hE hk
  refine xa_aload_n C dS_submit_0 rfl ?_
  refine xa_iload_n C dS_submit_1 rfl ?_
  exact xa_throwV C hE hk (q_S_requireSigner g htr _ hx) b_S_64 (xw_in wi_S_requireSigner rfl) e_S_requireSigner dS_submit_2 rfl rfl rfl rfl (Nat.le_of_ble_eq_true rfl) ⟨Nat.le_of_ble_eq_true rfl, Nat.le_of_ble_eq_true rfl⟩ ⟨Nat.le_of_ble_eq_true rfl, Nat.le_of_ble_eq_true rfl⟩
set_option maxHeartbeats 4000000 in
set_option maxRecDepth 100000 in
theorem q_S_submit_b (g : xw_G) {l : Launch} (htr : xw_tr l) {n t : Nat} {co se ke f1 f2 e1 e2 x1 x2 fa we sh : Nat → Nat} {dn op ms ps md tk bl : Int32} {pr ch sm : Nat} {rest : List va_E} (hn : n ≤ 6) {i : Nat} (h1 : 1 ≤ i) (hi : i ≤ n) (w : Int64) (hw : ¬ (0 ≤ w ∧ w < 1073741789)) : xt_R g l m_S_submit [.ref 0, .int (nI i), .long w] (hC g n t co se ke dn f1 f2 e1 e2 op x1 x2 fa we sh ms ps md tk bl pr ch sm ++ rest) "java/lang/IllegalArgumentException" := by
  refine xt_of [some (.ref 0), some (.int (nI i)), some (.long w), none] rfl (Nat.le_of_ble_eq_true rfl) rfl ?_
  intro p e s m args below meth c C hE hk
  refine xa_aload_n C dS_submit_0 rfl ?_
  refine xa_iload_n C dS_submit_1 rfl ?_
  refine xa_callVv C (p_S_requireSigner g l _ (sg_nI hn h1 hi)) b_S_64 (xw_in wi_S_requireSigner rfl) e_S_requireSigner dS_submit_2 rfl rfl rfl rfl (Nat.le_of_ble_eq_true rfl) ⟨Nat.le_of_ble_eq_true rfl, Nat.le_of_ble_eq_true rfl⟩ ⟨Nat.zero_le _, Nat.zero_le _⟩ ?_
  refine xa_aload_n C dS_submit_5 rfl ?_
  refine xa_lload_n C dS_submit_6 rfl ?_
  exact xa_throwV C hE hk (q_S_requireNumber g htr _ hw) b_S_127 (xw_in wi_S_requireNumber rfl) e_S_requireNumber dS_submit_7 rfl rfl rfl rfl (Nat.le_of_ble_eq_true rfl) ⟨Nat.le_of_ble_eq_true rfl, Nat.le_of_ble_eq_true rfl⟩ ⟨Nat.le_of_ble_eq_true rfl, Nat.le_of_ble_eq_true rfl⟩
set_option maxHeartbeats 4000000 in
set_option maxRecDepth 100000 in
theorem q_S_submit_c (g : xw_G) {l : Launch} (htr : xw_tr l) {n t : Nat} {co se ke f1 f2 e1 e2 x1 x2 fa we sh : Nat → Nat} {dn op ms ps md tk bl : Int32} {pr ch sm : Nat} {rest : List va_E} (hn : n ≤ 6) {i : Nat} (h1 : 1 ≤ i) (hi : i ≤ n) {z : Nat} (hz : z < 1073741789) (hm : hs ms i = false ∨ hs tk i = true) : xt_R g l m_S_submit [.ref 0, .int (nI i), .long (lN z)] (hC g n t co se ke dn f1 f2 e1 e2 op x1 x2 fa we sh ms ps md tk bl pr ch sm ++ rest) "java/lang/IllegalStateException" := by
  refine xt_of [some (.ref 0), some (.int (nI i)), some (.long (lN z)), none] rfl (Nat.le_of_ble_eq_true rfl) rfl ?_
  intro p e s m args below meth c C hE hk
  refine xa_aload_n C dS_submit_0 rfl ?_
  refine xa_iload_n C dS_submit_1 rfl ?_
  refine xa_callVv C (p_S_requireSigner g l _ (sg_nI hn h1 hi)) b_S_64 (xw_in wi_S_requireSigner rfl) e_S_requireSigner dS_submit_2 rfl rfl rfl rfl (Nat.le_of_ble_eq_true rfl) ⟨Nat.le_of_ble_eq_true rfl, Nat.le_of_ble_eq_true rfl⟩ ⟨Nat.zero_le _, Nat.zero_le _⟩ ?_
  refine xa_aload_n C dS_submit_5 rfl ?_
  refine xa_lload_n C dS_submit_6 rfl ?_
  refine xa_callVv C (p_S_requireNumber g l _ (nm_lt hz)) b_S_127 (xw_in wi_S_requireNumber rfl) e_S_requireNumber dS_submit_7 rfl rfl rfl rfl (Nat.le_of_ble_eq_true rfl) ⟨Nat.le_of_ble_eq_true rfl, Nat.le_of_ble_eq_true rfl⟩ ⟨Nat.zero_le _, Nat.zero_le _⟩ ?_
  refine xa_aload_n C dS_submit_10 rfl ?_
  refine xa_iload_n C dS_submit_11 rfl ?_
  exact xa_throwV C hE hk (q_S_requireUntaken g htr hn h1 hi hm) b_S_130 (xw_in wi_S_requireUntaken rfl) e_S_requireUntaken dS_submit_12 rfl rfl rfl rfl (Nat.le_of_ble_eq_true rfl) ⟨Nat.le_of_ble_eq_true rfl, Nat.le_of_ble_eq_true rfl⟩ ⟨Nat.le_of_ble_eq_true rfl, Nat.le_of_ble_eq_true rfl⟩
set_option maxHeartbeats 4000000 in
set_option maxRecDepth 100000 in
theorem p_S_relay_t (g : xw_G) (l : Launch) {n t : Nat} {co se ke f1 f2 e1 e2 x1 x2 fa we sh : Nat → Nat} {dn op ms ps md tk bl : Int32} {pr ch sm : Nat} {rest : List va_E} (hn : n ≤ 6) (ht : t ≤ 6) {i : Nat} (h1 : 1 ≤ i) (hi : i ≤ n) (hco : ∀ j, co j < 2 ^ 31) (hse : ∀ j, se j < 2 ^ 31) (hke : ∀ j, ke j < 2 ^ 31) (hf1 : ∀ j, f1 j < 2 ^ 31) (hf2 : ∀ j, f2 j < 2 ^ 31) (he1 : ∀ j, e1 j < 2 ^ 31) (he2 : ∀ j, e2 j < 2 ^ 31) (hx1 : ∀ j, x1 j < 2 ^ 31) (hx2 : ∀ j, x2 j < 2 ^ 31) (hfa : ∀ j, fa j < 2 ^ 30) (hwe : ∀ j, we j < 2 ^ 31) (hch : ch < 2 ^ 31) (hsh : ∀ j, sh j < 2 ^ 31) (hpr : pr < 2 ^ 31) (hsm : sm < 2 ^ 31) {z : Nat} (hz : z < 1073741789) (hm : hs ms i = true) (hk9 : hs tk i = false) (hmd : hs md i = true) (hR : 4 ^ ((sh i + z) % 1073741789) % 2147483579 = (x1 i * (x2 i ^ fa i % 2147483579) % 2147483579) * (ke i ^ (ch * we i % 1073741789) % 2147483579) % 2147483579) : xm_R g l false m_S_relay [.ref 0, .int (nI i), .long (lN z)] (hC g n t co se ke dn f1 f2 e1 e2 op x1 x2 fa we sh ms ps md tk bl pr ch sm ++ rest) (some (.int 1)) (hC g n t co se ke dn f1 f2 e1 e2 op x1 x2 fa we sh ms ps md (tk ||| on_ i) bl pr ch ((sm + ((sh i + z) % 1073741789)) % 1073741789) ++ rest) := by
  refine xm_of [some (.ref 0), some (.int (nI i)), some (.long (lN z)), none] rfl (Nat.le_of_ble_eq_true rfl) rfl ?_
  intro p e s m args below meth c C hr hk
  refine xa_aload_n C dS_relay_0 rfl ?_
  refine xa_iload_n C dS_relay_1 rfl ?_
  refine xa_callVv C (p_S_requireSigner g l _ (sg_nI hn h1 hi)) b_S_64 (xw_in wi_S_requireSigner rfl) e_S_requireSigner dS_relay_2 rfl rfl rfl rfl (Nat.le_of_ble_eq_true rfl) ⟨Nat.le_of_ble_eq_true rfl, Nat.le_of_ble_eq_true rfl⟩ ⟨Nat.zero_le _, Nat.zero_le _⟩ ?_
  refine xa_aload_n C dS_relay_5 rfl ?_
  refine xa_lload_n C dS_relay_6 rfl ?_
  refine xa_callVv C (p_S_requireNumber g l _ (nm_lt hz)) b_S_127 (xw_in wi_S_requireNumber rfl) e_S_requireNumber dS_relay_7 rfl rfl rfl rfl (Nat.le_of_ble_eq_true rfl) ⟨Nat.le_of_ble_eq_true rfl, Nat.le_of_ble_eq_true rfl⟩ ⟨Nat.zero_le _, Nat.zero_le _⟩ ?_
  refine xa_aload_n C dS_relay_10 rfl ?_
  refine xa_iload_n C dS_relay_11 rfl ?_
  refine xa_callVv C (p_S_requireUntaken g l hn h1 hi hm hk9) b_S_130 (xw_in wi_S_requireUntaken rfl) e_S_requireUntaken dS_relay_12 rfl rfl rfl rfl (Nat.le_of_ble_eq_true rfl) ⟨Nat.le_of_ble_eq_true rfl, Nat.le_of_ble_eq_true rfl⟩ ⟨Nat.zero_le _, Nat.zero_le _⟩ ?_
  refine xa_aload_n C dS_relay_15 rfl ?_
  refine xa_get C f_S_46 dS_relay_16 rfl rfl ?_
  refine xa_get C f_S_140 dS_relay_19 rfl rfl ?_
  refine xa_iload_n C dS_relay_22 rfl ?_
  refine xa_callS1 C (p_I_hasN g l _ (by omega) (by omega) _) b_S_106 (xw_in wt_I_has rfl) dS_relay_23 rfl (Nat.le_of_ble_eq_true rfl) ⟨Nat.le_of_ble_eq_true rfl, Nat.le_of_ble_eq_true rfl⟩ ⟨Nat.zero_le _, Nat.zero_le _⟩ ?_
  refine xa_if_ne C dS_relay_26 (tgt := 39) rfl (fun h26 => ?_) (fun h26 => ?_)
  · refine xa_aload_n C dS_relay_39 rfl ?_
    refine xa_get C f_S_46 dS_relay_40 rfl rfl ?_
    refine xa_iload_n C dS_relay_43 rfl ?_
    refine xa_aload_n C dS_relay_44 rfl ?_
    refine xa_get C f_S_46 dS_relay_45 rfl rfl ?_
    refine xa_get C f_S_124 dS_relay_48 rfl rfl ?_
    refine xa_iload_n C dS_relay_51 rfl ?_
    refine xa_laloadN C dS_relay_52 rfl ?_ (by omega) ?_
    · omega
    refine xa_lload_n C dS_relay_53 rfl ?_
    refine xa_callS1 C (p_N_plus g l (hsh _) (by omega) _) b_S_145 (xw_in wt_N_plus rfl) dS_relay_54 rfl (Nat.le_of_ble_eq_true rfl) ⟨Nat.le_of_ble_eq_true rfl, Nat.le_of_ble_eq_true rfl⟩ ⟨Nat.zero_le _, Nat.zero_le _⟩ ?_
    refine xa_aload_n C dS_relay_57 rfl ?_
    refine xa_get C f_S_30 dS_relay_58 rfl rfl ?_
    refine xa_get C f_S_133 dS_relay_61 rfl rfl ?_
    refine xa_iload_n C dS_relay_64 rfl ?_
    refine xa_laloadN C dS_relay_65 rfl ?_ (by omega) ?_
    · omega
    refine xa_callV1 C (p_X_tell_t g l hn ht h1 hi hx1 hx2 hfa hwe hch hsm (by first | omega | exact Nat.lt_trans (Nat.mod_lt _ (by decide)) (by decide)) (hke _) hR) b_S_136 (xw_in wi_X_tell rfl) e_X_tell dS_relay_66 rfl rfl rfl rfl (Nat.le_of_ble_eq_true rfl) ⟨Nat.le_of_ble_eq_true rfl, Nat.le_of_ble_eq_true rfl⟩ ⟨Nat.zero_le _, Nat.zero_le _⟩ ?_
    exact xa_eq rfl rfl rfl (xa_zret C hr hk rfl dS_relay_69)
  · exact absurd hmd (xb_eq0.mp h26)
set_option maxHeartbeats 4000000 in
set_option maxRecDepth 100000 in
theorem p_S_relay_f (g : xw_G) (l : Launch) {n t : Nat} {co se ke f1 f2 e1 e2 x1 x2 fa we sh : Nat → Nat} {dn op ms ps md tk bl : Int32} {pr ch sm : Nat} {rest : List va_E} (hn : n ≤ 6) (ht : t ≤ 6) {i : Nat} (h1 : 1 ≤ i) (hi : i ≤ n) (hco : ∀ j, co j < 2 ^ 31) (hse : ∀ j, se j < 2 ^ 31) (hke : ∀ j, ke j < 2 ^ 31) (hf1 : ∀ j, f1 j < 2 ^ 31) (hf2 : ∀ j, f2 j < 2 ^ 31) (he1 : ∀ j, e1 j < 2 ^ 31) (he2 : ∀ j, e2 j < 2 ^ 31) (hx1 : ∀ j, x1 j < 2 ^ 31) (hx2 : ∀ j, x2 j < 2 ^ 31) (hfa : ∀ j, fa j < 2 ^ 30) (hwe : ∀ j, we j < 2 ^ 31) (hch : ch < 2 ^ 31) (hsh : ∀ j, sh j < 2 ^ 31) (hpr : pr < 2 ^ 31) (hsm : sm < 2 ^ 31) {z : Nat} (hz : z < 1073741789) (hm : hs ms i = true) (hk9 : hs tk i = false) (hmd : hs md i = true) (hR : ¬ 4 ^ ((sh i + z) % 1073741789) % 2147483579 = (x1 i * (x2 i ^ fa i % 2147483579) % 2147483579) * (ke i ^ (ch * we i % 1073741789) % 2147483579) % 2147483579) : xm_R g l false m_S_relay [.ref 0, .int (nI i), .long (lN z)] (hC g n t co se ke dn f1 f2 e1 e2 op x1 x2 fa we sh ms ps md tk bl pr ch sm ++ rest) (some (.int 0)) (hC g n t co se ke dn f1 f2 e1 e2 op x1 x2 fa we sh ms ps md tk (bl ||| on_ i) pr ch sm ++ rest) := by
  refine xm_of [some (.ref 0), some (.int (nI i)), some (.long (lN z)), none] rfl (Nat.le_of_ble_eq_true rfl) rfl ?_
  intro p e s m args below meth c C hr hk
  refine xa_aload_n C dS_relay_0 rfl ?_
  refine xa_iload_n C dS_relay_1 rfl ?_
  refine xa_callVv C (p_S_requireSigner g l _ (sg_nI hn h1 hi)) b_S_64 (xw_in wi_S_requireSigner rfl) e_S_requireSigner dS_relay_2 rfl rfl rfl rfl (Nat.le_of_ble_eq_true rfl) ⟨Nat.le_of_ble_eq_true rfl, Nat.le_of_ble_eq_true rfl⟩ ⟨Nat.zero_le _, Nat.zero_le _⟩ ?_
  refine xa_aload_n C dS_relay_5 rfl ?_
  refine xa_lload_n C dS_relay_6 rfl ?_
  refine xa_callVv C (p_S_requireNumber g l _ (nm_lt hz)) b_S_127 (xw_in wi_S_requireNumber rfl) e_S_requireNumber dS_relay_7 rfl rfl rfl rfl (Nat.le_of_ble_eq_true rfl) ⟨Nat.le_of_ble_eq_true rfl, Nat.le_of_ble_eq_true rfl⟩ ⟨Nat.zero_le _, Nat.zero_le _⟩ ?_
  refine xa_aload_n C dS_relay_10 rfl ?_
  refine xa_iload_n C dS_relay_11 rfl ?_
  refine xa_callVv C (p_S_requireUntaken g l hn h1 hi hm hk9) b_S_130 (xw_in wi_S_requireUntaken rfl) e_S_requireUntaken dS_relay_12 rfl rfl rfl rfl (Nat.le_of_ble_eq_true rfl) ⟨Nat.le_of_ble_eq_true rfl, Nat.le_of_ble_eq_true rfl⟩ ⟨Nat.zero_le _, Nat.zero_le _⟩ ?_
  refine xa_aload_n C dS_relay_15 rfl ?_
  refine xa_get C f_S_46 dS_relay_16 rfl rfl ?_
  refine xa_get C f_S_140 dS_relay_19 rfl rfl ?_
  refine xa_iload_n C dS_relay_22 rfl ?_
  refine xa_callS1 C (p_I_hasN g l _ (by omega) (by omega) _) b_S_106 (xw_in wt_I_has rfl) dS_relay_23 rfl (Nat.le_of_ble_eq_true rfl) ⟨Nat.le_of_ble_eq_true rfl, Nat.le_of_ble_eq_true rfl⟩ ⟨Nat.zero_le _, Nat.zero_le _⟩ ?_
  refine xa_if_ne C dS_relay_26 (tgt := 39) rfl (fun h26 => ?_) (fun h26 => ?_)
  · refine xa_aload_n C dS_relay_39 rfl ?_
    refine xa_get C f_S_46 dS_relay_40 rfl rfl ?_
    refine xa_iload_n C dS_relay_43 rfl ?_
    refine xa_aload_n C dS_relay_44 rfl ?_
    refine xa_get C f_S_46 dS_relay_45 rfl rfl ?_
    refine xa_get C f_S_124 dS_relay_48 rfl rfl ?_
    refine xa_iload_n C dS_relay_51 rfl ?_
    refine xa_laloadN C dS_relay_52 rfl ?_ (by omega) ?_
    · omega
    refine xa_lload_n C dS_relay_53 rfl ?_
    refine xa_callS1 C (p_N_plus g l (hsh _) (by omega) _) b_S_145 (xw_in wt_N_plus rfl) dS_relay_54 rfl (Nat.le_of_ble_eq_true rfl) ⟨Nat.le_of_ble_eq_true rfl, Nat.le_of_ble_eq_true rfl⟩ ⟨Nat.zero_le _, Nat.zero_le _⟩ ?_
    refine xa_aload_n C dS_relay_57 rfl ?_
    refine xa_get C f_S_30 dS_relay_58 rfl rfl ?_
    refine xa_get C f_S_133 dS_relay_61 rfl rfl ?_
    refine xa_iload_n C dS_relay_64 rfl ?_
    refine xa_laloadN C dS_relay_65 rfl ?_ (by omega) ?_
    · omega
    refine xa_callV1 C (p_X_tell_f g l hn ht h1 hi hx1 hx2 hfa hwe hch hsm (by first | omega | exact Nat.lt_trans (Nat.mod_lt _ (by decide)) (by decide)) (hke _) hR) b_S_136 (xw_in wi_X_tell rfl) e_X_tell dS_relay_66 rfl rfl rfl rfl (Nat.le_of_ble_eq_true rfl) ⟨Nat.le_of_ble_eq_true rfl, Nat.le_of_ble_eq_true rfl⟩ ⟨Nat.zero_le _, Nat.zero_le _⟩ ?_
    exact xa_eq rfl rfl rfl (xa_zret C hr hk rfl dS_relay_69)
  · exact absurd hmd (xb_eq0.mp h26)
set_option maxHeartbeats 4000000 in
set_option maxRecDepth 100000 in
theorem q_S_relay_a (g : xw_G) {l : Launch} (htr : xw_tr l) {n t : Nat} {co se ke f1 f2 e1 e2 x1 x2 fa we sh : Nat → Nat} {dn op ms ps md tk bl : Int32} {pr ch sm : Nat} {rest : List va_E} (x : Int32) (hx : ¬ sg n x) (w : Int64) : xt_R g l m_S_relay [.ref 0, .int x, .long w] (hC g n t co se ke dn f1 f2 e1 e2 op x1 x2 fa we sh ms ps md tk bl pr ch sm ++ rest) "java/lang/IllegalArgumentException" := by
  refine xt_of [some (.ref 0), some (.int x), some (.long w), none] rfl (Nat.le_of_ble_eq_true rfl) rfl ?_
  intro p e s m args below meth c C hE hk
  refine xa_aload_n C dS_relay_0 rfl ?_
  refine xa_iload_n C dS_relay_1 rfl ?_
  exact xa_throwV C hE hk (q_S_requireSigner g htr _ hx) b_S_64 (xw_in wi_S_requireSigner rfl) e_S_requireSigner dS_relay_2 rfl rfl rfl rfl (Nat.le_of_ble_eq_true rfl) ⟨Nat.le_of_ble_eq_true rfl, Nat.le_of_ble_eq_true rfl⟩ ⟨Nat.le_of_ble_eq_true rfl, Nat.le_of_ble_eq_true rfl⟩
set_option maxHeartbeats 4000000 in
set_option maxRecDepth 100000 in
theorem q_S_relay_b (g : xw_G) {l : Launch} (htr : xw_tr l) {n t : Nat} {co se ke f1 f2 e1 e2 x1 x2 fa we sh : Nat → Nat} {dn op ms ps md tk bl : Int32} {pr ch sm : Nat} {rest : List va_E} (hn : n ≤ 6) {i : Nat} (h1 : 1 ≤ i) (hi : i ≤ n) (w : Int64) (hw : ¬ (0 ≤ w ∧ w < 1073741789)) : xt_R g l m_S_relay [.ref 0, .int (nI i), .long w] (hC g n t co se ke dn f1 f2 e1 e2 op x1 x2 fa we sh ms ps md tk bl pr ch sm ++ rest) "java/lang/IllegalArgumentException" := by
  refine xt_of [some (.ref 0), some (.int (nI i)), some (.long w), none] rfl (Nat.le_of_ble_eq_true rfl) rfl ?_
  intro p e s m args below meth c C hE hk
  refine xa_aload_n C dS_relay_0 rfl ?_
  refine xa_iload_n C dS_relay_1 rfl ?_
  refine xa_callVv C (p_S_requireSigner g l _ (sg_nI hn h1 hi)) b_S_64 (xw_in wi_S_requireSigner rfl) e_S_requireSigner dS_relay_2 rfl rfl rfl rfl (Nat.le_of_ble_eq_true rfl) ⟨Nat.le_of_ble_eq_true rfl, Nat.le_of_ble_eq_true rfl⟩ ⟨Nat.zero_le _, Nat.zero_le _⟩ ?_
  refine xa_aload_n C dS_relay_5 rfl ?_
  refine xa_lload_n C dS_relay_6 rfl ?_
  exact xa_throwV C hE hk (q_S_requireNumber g htr _ hw) b_S_127 (xw_in wi_S_requireNumber rfl) e_S_requireNumber dS_relay_7 rfl rfl rfl rfl (Nat.le_of_ble_eq_true rfl) ⟨Nat.le_of_ble_eq_true rfl, Nat.le_of_ble_eq_true rfl⟩ ⟨Nat.le_of_ble_eq_true rfl, Nat.le_of_ble_eq_true rfl⟩
set_option maxHeartbeats 4000000 in
set_option maxRecDepth 100000 in
theorem q_S_relay_c (g : xw_G) {l : Launch} (htr : xw_tr l) {n t : Nat} {co se ke f1 f2 e1 e2 x1 x2 fa we sh : Nat → Nat} {dn op ms ps md tk bl : Int32} {pr ch sm : Nat} {rest : List va_E} (hn : n ≤ 6) {i : Nat} (h1 : 1 ≤ i) (hi : i ≤ n) {z : Nat} (hz : z < 1073741789) (hm : hs ms i = false ∨ hs tk i = true) : xt_R g l m_S_relay [.ref 0, .int (nI i), .long (lN z)] (hC g n t co se ke dn f1 f2 e1 e2 op x1 x2 fa we sh ms ps md tk bl pr ch sm ++ rest) "java/lang/IllegalStateException" := by
  refine xt_of [some (.ref 0), some (.int (nI i)), some (.long (lN z)), none] rfl (Nat.le_of_ble_eq_true rfl) rfl ?_
  intro p e s m args below meth c C hE hk
  refine xa_aload_n C dS_relay_0 rfl ?_
  refine xa_iload_n C dS_relay_1 rfl ?_
  refine xa_callVv C (p_S_requireSigner g l _ (sg_nI hn h1 hi)) b_S_64 (xw_in wi_S_requireSigner rfl) e_S_requireSigner dS_relay_2 rfl rfl rfl rfl (Nat.le_of_ble_eq_true rfl) ⟨Nat.le_of_ble_eq_true rfl, Nat.le_of_ble_eq_true rfl⟩ ⟨Nat.zero_le _, Nat.zero_le _⟩ ?_
  refine xa_aload_n C dS_relay_5 rfl ?_
  refine xa_lload_n C dS_relay_6 rfl ?_
  refine xa_callVv C (p_S_requireNumber g l _ (nm_lt hz)) b_S_127 (xw_in wi_S_requireNumber rfl) e_S_requireNumber dS_relay_7 rfl rfl rfl rfl (Nat.le_of_ble_eq_true rfl) ⟨Nat.le_of_ble_eq_true rfl, Nat.le_of_ble_eq_true rfl⟩ ⟨Nat.zero_le _, Nat.zero_le _⟩ ?_
  refine xa_aload_n C dS_relay_10 rfl ?_
  refine xa_iload_n C dS_relay_11 rfl ?_
  exact xa_throwV C hE hk (q_S_requireUntaken g htr hn h1 hi hm) b_S_130 (xw_in wi_S_requireUntaken rfl) e_S_requireUntaken dS_relay_12 rfl rfl rfl rfl (Nat.le_of_ble_eq_true rfl) ⟨Nat.le_of_ble_eq_true rfl, Nat.le_of_ble_eq_true rfl⟩ ⟨Nat.le_of_ble_eq_true rfl, Nat.le_of_ble_eq_true rfl⟩
set_option maxHeartbeats 4000000 in
set_option maxRecDepth 100000 in
theorem q_S_relay_d (g : xw_G) {l : Launch} (htr : xw_tr l) {n t : Nat} {co se ke f1 f2 e1 e2 x1 x2 fa we sh : Nat → Nat} {dn op ms ps md tk bl : Int32} {pr ch sm : Nat} {rest : List va_E} (hn : n ≤ 6) {i : Nat} (h1 : 1 ≤ i) (hi : i ≤ n) {z : Nat} (hz : z < 1073741789) (hm : hs ms i = true) (hk9 : hs tk i = false) (hmd : hs md i = false) : xt_R g l m_S_relay [.ref 0, .int (nI i), .long (lN z)] (hC g n t co se ke dn f1 f2 e1 e2 op x1 x2 fa we sh ms ps md tk bl pr ch sm ++ rest) "java/lang/IllegalStateException" := by
  refine xt_of [some (.ref 0), some (.int (nI i)), some (.long (lN z)), none] rfl (Nat.le_of_ble_eq_true rfl) rfl ?_
  intro p e s m args below meth c C hE hk
  refine xa_aload_n C dS_relay_0 rfl ?_
  refine xa_iload_n C dS_relay_1 rfl ?_
  refine xa_callVv C (p_S_requireSigner g l _ (sg_nI hn h1 hi)) b_S_64 (xw_in wi_S_requireSigner rfl) e_S_requireSigner dS_relay_2 rfl rfl rfl rfl (Nat.le_of_ble_eq_true rfl) ⟨Nat.le_of_ble_eq_true rfl, Nat.le_of_ble_eq_true rfl⟩ ⟨Nat.zero_le _, Nat.zero_le _⟩ ?_
  refine xa_aload_n C dS_relay_5 rfl ?_
  refine xa_lload_n C dS_relay_6 rfl ?_
  refine xa_callVv C (p_S_requireNumber g l _ (nm_lt hz)) b_S_127 (xw_in wi_S_requireNumber rfl) e_S_requireNumber dS_relay_7 rfl rfl rfl rfl (Nat.le_of_ble_eq_true rfl) ⟨Nat.le_of_ble_eq_true rfl, Nat.le_of_ble_eq_true rfl⟩ ⟨Nat.zero_le _, Nat.zero_le _⟩ ?_
  refine xa_aload_n C dS_relay_10 rfl ?_
  refine xa_iload_n C dS_relay_11 rfl ?_
  refine xa_callVv C (p_S_requireUntaken g l hn h1 hi hm hk9) b_S_130 (xw_in wi_S_requireUntaken rfl) e_S_requireUntaken dS_relay_12 rfl rfl rfl rfl (Nat.le_of_ble_eq_true rfl) ⟨Nat.le_of_ble_eq_true rfl, Nat.le_of_ble_eq_true rfl⟩ ⟨Nat.zero_le _, Nat.zero_le _⟩ ?_
  refine xa_aload_n C dS_relay_15 rfl ?_
  refine xa_get C f_S_46 dS_relay_16 rfl rfl ?_
  refine xa_get C f_S_140 dS_relay_19 rfl rfl ?_
  refine xa_iload_n C dS_relay_22 rfl ?_
  refine xa_callS1 C (p_I_hasN g l _ (by omega) (by omega) _) b_S_106 (xw_in wt_I_has rfl) dS_relay_23 rfl (Nat.le_of_ble_eq_true rfl) ⟨Nat.le_of_ble_eq_true rfl, Nat.le_of_ble_eq_true rfl⟩ ⟨Nat.zero_le _, Nat.zero_le _⟩ ?_
  refine xa_if_ne C dS_relay_26 (tgt := 39) rfl (fun h26 => ?_) (fun h26 => ?_)
  · exact absurd (xb_f (by rw [hmd]; decide)) h26
  · exact xa_throw C htr hE hk tk_S_relay_29 dS_relay_29 dS_relay_32 dS_relay_33 dS_relay_35 dS_relay_38 ⟨Nat.le_of_ble_eq_true rfl, Nat.le_of_ble_eq_true rfl⟩ ⟨Nat.le_of_ble_eq_true rfl, Nat.le_of_ble_eq_true rfl⟩
set_option maxHeartbeats 4000000 in
set_option maxRecDepth 100000 in
theorem p_S_seal (g : xw_G) (l : Launch) {n t : Nat} {co se ke f1 f2 e1 e2 x1 x2 fa we sh : Nat → Nat} {dn op ms ps md tk bl : Int32} {pr ch sm : Nat} {rest : List va_E} (h0 : ¬ ms = 0) (he : tk = ms) : xm_R g l true m_S_seal [.ref 0] (hC g n t co se ke dn f1 f2 e1 e2 op x1 x2 fa we sh ms ps md tk bl pr ch sm ++ rest) (some (.long (lN sm))) (hC g n t co se ke dn f1 f2 e1 e2 op x1 x2 fa we sh ms ps md tk bl pr ch sm ++ rest) := by
  refine xm_of [some (.ref 0)] rfl (Nat.le_of_ble_eq_true rfl) rfl ?_
  intro p e s m args below meth c C hr hk
  refine xa_aload_n C dS_seal_0 rfl ?_
  refine xa_callVv C (p_S_requireSealed g l h0 he) b_S_151 (xw_in wi_S_requireSealed rfl) e_S_requireSealed dS_seal_1 rfl rfl rfl rfl (Nat.le_of_ble_eq_true rfl) ⟨Nat.le_of_ble_eq_true rfl, Nat.le_of_ble_eq_true rfl⟩ ⟨Nat.zero_le _, Nat.zero_le _⟩ ?_
  refine xa_aload_n C dS_seal_4 rfl ?_
  refine xa_get C f_S_46 dS_seal_5 rfl rfl ?_
  refine xa_get C f_S_154 dS_seal_8 rfl rfl ?_
  exact xa_lret C hr hk dS_seal_11
set_option maxHeartbeats 4000000 in
set_option maxRecDepth 100000 in
theorem q_S_seal_a (g : xw_G) {l : Launch} (htr : xw_tr l) {n t : Nat} {co se ke f1 f2 e1 e2 x1 x2 fa we sh : Nat → Nat} {dn op ms ps md tk bl : Int32} {pr ch sm : Nat} {rest : List va_E} (h0 : ms = 0 ∨ ¬ tk = ms) : xt_R g l m_S_seal [.ref 0] (hC g n t co se ke dn f1 f2 e1 e2 op x1 x2 fa we sh ms ps md tk bl pr ch sm ++ rest) "java/lang/IllegalStateException" := by
  refine xt_of [some (.ref 0)] rfl (Nat.le_of_ble_eq_true rfl) rfl ?_
  intro p e s m args below meth c C hE hk
  refine xa_aload_n C dS_seal_0 rfl ?_
  exact xa_throwV C hE hk (q_S_requireSealed g htr h0) b_S_151 (xw_in wi_S_requireSealed rfl) e_S_requireSealed dS_seal_1 rfl rfl rfl rfl (Nat.le_of_ble_eq_true rfl) ⟨Nat.le_of_ble_eq_true rfl, Nat.le_of_ble_eq_true rfl⟩ ⟨Nat.le_of_ble_eq_true rfl, Nat.le_of_ble_eq_true rfl⟩
end
section
/-! the class's own calls: check, holds, recover, what is told -/
def nt (x : Int64) : Nat := x.toInt.toNat
theorem nt_lN {k : Nat} (h : k < 2 ^ 63) : nt (lN k) = k := by
  unfold nt
  rw [pk_lT h]
  rfl
abbrev SHp (k0 : Nat) (w r z : Int64) : Prop := (1 ≤ r ∧ r < 2147483579) ∧ (0 ≤ z ∧ z < 1073741789) ∧ 4 ^ nt z % 2147483579 = nt r * (k0 ^ dg_f (dg_m (dg_m (dg_m (dg_m 0 5) r) (lN k0)) w) % 2147483579) % 2147483579
/-- what recover adds up -/
def rc_ (x : Int32) (n : Nat) (se : Nat → Nat) : Nat → Nat
  | 0 => 0
  | k + 1 => if hs x (k + 1) = true then (rc_ x n se k + wt_ x n (k + 1) * se (k + 1) % 1073741789) % 1073741789 else rc_ x n se k
theorem rc_lt (x : Int32) (n : Nat) (se : Nat → Nat) : ∀ k, rc_ x n se k < 2 ^ 31
  | 0 => (by decide : 0 < 2 ^ 31)
  | k + 1 => by
    rw [rc_]
    by_cases q : hs x (k + 1) = true
    · rw [if_pos q]; exact tb_q _
    · rw [if_neg q]; exact rc_lt x n se k
set_option maxHeartbeats 4000000 in
set_option maxRecDepth 100000 in
theorem p_S_sealHolds (g : xw_G) (l : Launch) {n t : Nat} {co se ke f1 f2 e1 e2 x1 x2 fa we sh : Nat → Nat} {dn op ms ps md tk bl : Int32} {pr ch sm : Nat} {rest : List va_E} (hn : n ≤ 6) (ht : t ≤ 6) (hke : ∀ j, ke j < 2 ^ 31) (w r z : Int64) : xm_R g l true m_S_sealHolds [.ref 0, .long w, .long r, .long z] (hC g n t co se ke dn f1 f2 e1 e2 op x1 x2 fa we sh ms ps md tk bl pr ch sm ++ rest) (some (.int (xb (SHp (ke 0) w r z)))) (hC g n t co se ke dn f1 f2 e1 e2 op x1 x2 fa we sh ms ps md tk bl pr ch sm ++ rest) := by
  refine xm_of [some (.ref 0), some (.long w), none, some (.long r), none, some (.long z), none, none, none, none, none] rfl (Nat.le_of_ble_eq_true rfl) rfl ?_
  intro p e s m args below meth c C hr hk
  refine xa_lload_n C dS_sealHolds_0 rfl ?_
  refine xa_callS1 C (p_E_isElement g l _ _) b_S_208 (xw_in wt_E_isElement rfl) dS_sealHolds_1 rfl (Nat.le_of_ble_eq_true rfl) ⟨Nat.le_of_ble_eq_true rfl, Nat.le_of_ble_eq_true rfl⟩ ⟨Nat.zero_le _, Nat.zero_le _⟩ ?_
  refine xa_if_eq C dS_sealHolds_4 (tgt := 15) rfl (fun h4 => ?_) (fun h4 => ?_)
  · refine xa_icN C 0 dS_sealHolds_15 ?_
    exact xa_eq rfl (congrArg (fun z => [Value.int z]) (xb_f (P := SHp (ke 0) w r z) (fun q => xb_eq0.mp h4 q.1)).symm) rfl (xa_zret C hr hk (xb_nar _) dS_sealHolds_16)
  · refine xa_lload C dS_sealHolds_7 rfl ?_
    refine xa_callS1 C (p_N_isNumber g l _ _) b_S_214 (xw_in wt_N_isNumber rfl) dS_sealHolds_9 rfl (Nat.le_of_ble_eq_true rfl) ⟨Nat.le_of_ble_eq_true rfl, Nat.le_of_ble_eq_true rfl⟩ ⟨Nat.zero_le _, Nat.zero_le _⟩ ?_
    refine xa_if_ne C dS_sealHolds_12 (tgt := 17) rfl (fun h12 => ?_) (fun h12 => ?_)
    · have hr1 : 1 ≤ r ∧ r < 2147483579 := by
        by_cases q : 1 ≤ r ∧ r < 2147483579
        · exact q
        · exact absurd (xb_f q) h4
      have hz1 : 0 ≤ z ∧ z < 1073741789 := by
        by_cases q : 0 ≤ z ∧ z < 1073741789
        · exact q
        · exact absurd (xb_f q) h12
      obtain ⟨a, ha1, ha, rfl⟩ := el_of hr1
      obtain ⟨b, hb, rfl⟩ := nm_of hz1
      refine xa_aload_n C dS_sealHolds_17 rfl ?_
      refine xa_get C f_S_30 dS_sealHolds_18 rfl rfl ?_
      refine xa_callV1 C (p_D_keyOfAll g l hn ht) b_S_60 (xw_in wi_D_keyOfAll rfl) e_D_keyOfAll dS_sealHolds_21 rfl rfl rfl rfl (Nat.le_of_ble_eq_true rfl) ⟨Nat.le_of_ble_eq_true rfl, Nat.le_of_ble_eq_true rfl⟩ ⟨Nat.zero_le _, Nat.zero_le _⟩ ?_
      refine xa_lstore C dS_sealHolds_24 (Nat.le_of_ble_eq_true rfl) ?_
      refine xa_lload_n C dS_sealHolds_26 rfl ?_
      refine xa_lload C dS_sealHolds_27 rfl ?_
      refine xa_lload_n C dS_sealHolds_29 rfl ?_
      refine xa_callS1 C (p_G_ofSeal g l _ _ _ _) b_S_217 (xw_in wt_G_ofSeal rfl) dS_sealHolds_30 rfl (Nat.le_of_ble_eq_true rfl) ⟨Nat.le_of_ble_eq_true rfl, Nat.le_of_ble_eq_true rfl⟩ ⟨Nat.zero_le _, Nat.zero_le _⟩ ?_
      refine xa_lstore C dS_sealHolds_33 (Nat.le_of_ble_eq_true rfl) ?_
      refine xa_lload C dS_sealHolds_35 rfl ?_
      refine xa_callS1 C (p_E_ofNumber g l (by omega) _) b_S_223 (xw_in wt_E_ofNumber rfl) dS_sealHolds_37 rfl (Nat.le_of_ble_eq_true rfl) ⟨Nat.le_of_ble_eq_true rfl, Nat.le_of_ble_eq_true rfl⟩ ⟨Nat.zero_le _, Nat.zero_le _⟩ ?_
      refine xa_lload_n C dS_sealHolds_40 rfl ?_
      refine xa_lload C dS_sealHolds_41 rfl ?_
      refine xa_lload C dS_sealHolds_43 rfl ?_
      refine xa_callS1 C (p_E_power g l (hke _) (Nat.lt_trans (dg_f_lt _) (by decide)) _) b_S_227 (xw_in wt_E_power rfl) dS_sealHolds_45 rfl (Nat.le_of_ble_eq_true rfl) ⟨Nat.le_of_ble_eq_true rfl, Nat.le_of_ble_eq_true rfl⟩ ⟨Nat.zero_le _, Nat.zero_le _⟩ ?_
      refine xa_callS1 C (p_E_times g l (by omega) (tb_p _) _) b_S_230 (xw_in wt_E_times rfl) dS_sealHolds_48 rfl (Nat.le_of_ble_eq_true rfl) ⟨Nat.le_of_ble_eq_true rfl, Nat.le_of_ble_eq_true rfl⟩ ⟨Nat.zero_le _, Nat.zero_le _⟩ ?_
      refine xa_lcmp C dS_sealHolds_51 ?_
      refine xa_if_ne C dS_sealHolds_52 (tgt := 59) rfl (fun h52 => ?_) (fun h52 => ?_)
      · refine xa_icN C 0 dS_sealHolds_59 ?_
        refine xa_eq rfl (congrArg (fun z => [Value.int z]) (xb_f (P := SHp (ke 0) w (lN a) (lN b)) (fun q => h52 ?_)).symm) rfl (xa_zret C hr hk (xb_nar _) dS_sealHolds_60)
        have q3 := q.2.2
        rw [nt_lN (by omega), nt_lN (by omega)] at q3
        exact (tp_eq (tb_p _) (tb_p _)).mpr q3
      · refine xa_icN C 1 dS_sealHolds_55 ?_
        refine xa_goto C dS_sealHolds_56 (tgt := 60) rfl ?_
        refine xa_eq rfl (congrArg (fun z => [Value.int z]) (xb_t (P := SHp (ke 0) w (lN a) (lN b)) ⟨hr1, hz1, ?_⟩).symm) rfl (xa_zret C hr hk (xb_nar _) dS_sealHolds_60)
        rw [nt_lN (by omega), nt_lN (by omega)]
        exact (tp_eq (tb_p _) (tb_p _)).mp h52
    · refine xa_icN C 0 dS_sealHolds_15 ?_
      exact xa_eq rfl (congrArg (fun z => [Value.int z]) (xb_f (P := SHp (ke 0) w r z) (fun q => xb_eq0.mp h12 q.2.1)).symm) rfl (xa_zret C hr hk (xb_nar _) dS_sealHolds_16)
set_option maxHeartbeats 4000000 in
set_option maxRecDepth 100000 in
theorem p_S_check (g : xw_G) (l : Launch) {n t : Nat} {co se ke f1 f2 e1 e2 x1 x2 fa we sh : Nat → Nat} {dn op ms ps md tk bl : Int32} {pr ch sm : Nat} {rest : List va_E} (hn : n ≤ 6) (ht : t ≤ 6) (hke : ∀ j, ke j < 2 ^ 31) (w r z : Int64) : xm_R g l true m_S_check [.ref 0, .long w, .long r, .long z] (hC g n t co se ke dn f1 f2 e1 e2 op x1 x2 fa we sh ms ps md tk bl pr ch sm ++ rest) (some (.int (xb (¬ dn = 0 ∧ SHp (ke 0) w r z)))) (hC g n t co se ke dn f1 f2 e1 e2 op x1 x2 fa we sh ms ps md tk bl pr ch sm ++ rest) := by
  refine xm_of [some (.ref 0), some (.long w), none, some (.long r), none, some (.long z), none] rfl (Nat.le_of_ble_eq_true rfl) rfl ?_
  intro p e s m args below meth c C hr hk
  refine xa_aload_n C dS_check_0 rfl ?_
  refine xa_get C f_S_30 dS_check_1 rfl rfl ?_
  refine xa_get C f_S_157 dS_check_4 rfl rfl ?_
  refine xa_if_eq C dS_check_7 (tgt := 25) rfl (fun h7 => ?_) (fun h7 => ?_)
  · refine xa_icN C 0 dS_check_25 ?_
    exact xa_eq rfl (congrArg (fun z => [Value.int z]) (xb_f (P := ¬ dn = 0 ∧ SHp (ke 0) w r z) (fun q => q.1 h7)).symm) rfl (xa_zret C hr hk (xb_nar _) dS_check_26)
  · refine xa_aload_n C dS_check_10 rfl ?_
    refine xa_lload_n C dS_check_11 rfl ?_
    refine xa_lload_n C dS_check_12 rfl ?_
    refine xa_lload C dS_check_13 rfl ?_
    refine xa_callV1 C (p_S_sealHolds g l hn ht hke _ _ _) b_S_161 (xw_in wi_S_sealHolds rfl) e_S_sealHolds dS_check_15 rfl rfl rfl rfl (Nat.le_of_ble_eq_true rfl) ⟨Nat.le_of_ble_eq_true rfl, Nat.le_of_ble_eq_true rfl⟩ ⟨Nat.zero_le _, Nat.zero_le _⟩ ?_
    refine xa_if_eq C dS_check_18 (tgt := 25) rfl (fun h18 => ?_) (fun h18 => ?_)
    · refine xa_icN C 0 dS_check_25 ?_
      exact xa_eq rfl (congrArg (fun z => [Value.int z]) (xb_f (P := ¬ dn = 0 ∧ SHp (ke 0) w r z) (fun q => xb_eq0.mp h18 q.2)).symm) rfl (xa_zret C hr hk (xb_nar _) dS_check_26)
    · refine xa_icN C 1 dS_check_21 ?_
      refine xa_goto C dS_check_22 (tgt := 26) rfl ?_
      exact xa_eq rfl (congrArg (fun z => [Value.int z]) (xb_t (P := ¬ dn = 0 ∧ SHp (ke 0) w r z) (⟨h7, Decidable.byContradiction (fun q => h18 (xb_f q))⟩)).symm) rfl (xa_zret C hr hk (xb_nar _) dS_check_26)
set_option maxHeartbeats 4000000 in
set_option maxRecDepth 100000 in
theorem p_S_holds (g : xw_G) (l : Launch) {n t : Nat} {co se ke f1 f2 e1 e2 x1 x2 fa we sh : Nat → Nat} {dn op ms ps md tk bl : Int32} {pr ch sm : Nat} {rest : List va_E} (hn : n ≤ 6) (ht : t ≤ 6) (hke : ∀ j, ke j < 2 ^ 31) (hsm : sm < 2 ^ 31) (h0 : ¬ ms = 0) (he : tk = ms) (w : Int64) {z : Nat} (hz : z < 1073741789) : xm_R g l true m_S_holds [.ref 0, .long w, .long (lN z)] (hC g n t co se ke dn f1 f2 e1 e2 op x1 x2 fa we sh ms ps md tk bl pr ch sm ++ rest) (some (.int (xb (SHp (ke 0) w (lN pr) (lN ((sm + z) % 1073741789)))))) (hC g n t co se ke dn f1 f2 e1 e2 op x1 x2 fa we sh ms ps md tk bl pr ch sm ++ rest) := by
  refine xm_of [some (.ref 0), some (.long w), none, some (.long (lN z)), none] rfl (Nat.le_of_ble_eq_true rfl) rfl ?_
  intro p e s m args below meth c C hr hk
  refine xa_aload_n C dS_holds_0 rfl ?_
  refine xa_lload_n C dS_holds_1 rfl ?_
  refine xa_callVv C (p_S_requireNumber g l _ (nm_lt hz)) b_S_127 (xw_in wi_S_requireNumber rfl) e_S_requireNumber dS_holds_2 rfl rfl rfl rfl (Nat.le_of_ble_eq_true rfl) ⟨Nat.le_of_ble_eq_true rfl, Nat.le_of_ble_eq_true rfl⟩ ⟨Nat.zero_le _, Nat.zero_le _⟩ ?_
  refine xa_aload_n C dS_holds_5 rfl ?_
  refine xa_callVv C (p_S_requireSealed g l h0 he) b_S_151 (xw_in wi_S_requireSealed rfl) e_S_requireSealed dS_holds_6 rfl rfl rfl rfl (Nat.le_of_ble_eq_true rfl) ⟨Nat.le_of_ble_eq_true rfl, Nat.le_of_ble_eq_true rfl⟩ ⟨Nat.zero_le _, Nat.zero_le _⟩ ?_
  refine xa_aload_n C dS_holds_9 rfl ?_
  refine xa_lload_n C dS_holds_10 rfl ?_
  refine xa_aload_n C dS_holds_11 rfl ?_
  refine xa_get C f_S_46 dS_holds_12 rfl rfl ?_
  refine xa_get C f_S_99 dS_holds_15 rfl rfl ?_
  refine xa_aload_n C dS_holds_18 rfl ?_
  refine xa_get C f_S_46 dS_holds_19 rfl rfl ?_
  refine xa_get C f_S_154 dS_holds_22 rfl rfl ?_
  refine xa_lload_n C dS_holds_25 rfl ?_
  refine xa_callS1 C (p_N_plus g l hsm (by omega) _) b_S_145 (xw_in wt_N_plus rfl) dS_holds_26 rfl (Nat.le_of_ble_eq_true rfl) ⟨Nat.le_of_ble_eq_true rfl, Nat.le_of_ble_eq_true rfl⟩ ⟨Nat.zero_le _, Nat.zero_le _⟩ ?_
  refine xa_callV1 C (p_S_sealHolds g l hn ht hke _ _ _) b_S_161 (xw_in wi_S_sealHolds rfl) e_S_sealHolds dS_holds_29 rfl rfl rfl rfl (Nat.le_of_ble_eq_true rfl) ⟨Nat.le_of_ble_eq_true rfl, Nat.le_of_ble_eq_true rfl⟩ ⟨Nat.zero_le _, Nat.zero_le _⟩ ?_
  exact xa_zret C hr hk (xb_nar _) dS_holds_32
set_option maxHeartbeats 4000000 in
set_option maxRecDepth 100000 in
theorem q_S_holds_a (g : xw_G) {l : Launch} (htr : xw_tr l) {n t : Nat} {co se ke f1 f2 e1 e2 x1 x2 fa we sh : Nat → Nat} {dn op ms ps md tk bl : Int32} {pr ch sm : Nat} {rest : List va_E} (w x : Int64) (hx : ¬ (0 ≤ x ∧ x < 1073741789)) : xt_R g l m_S_holds [.ref 0, .long w, .long x] (hC g n t co se ke dn f1 f2 e1 e2 op x1 x2 fa we sh ms ps md tk bl pr ch sm ++ rest) "java/lang/IllegalArgumentException" := by
  refine xt_of [some (.ref 0), some (.long w), none, some (.long x), none] rfl (Nat.le_of_ble_eq_true rfl) rfl ?_
  intro p e s m args below meth c C hE hk
  refine xa_aload_n C dS_holds_0 rfl ?_
  refine xa_lload_n C dS_holds_1 rfl ?_
  exact xa_throwV C hE hk (q_S_requireNumber g htr _ hx) b_S_127 (xw_in wi_S_requireNumber rfl) e_S_requireNumber dS_holds_2 rfl rfl rfl rfl (Nat.le_of_ble_eq_true rfl) ⟨Nat.le_of_ble_eq_true rfl, Nat.le_of_ble_eq_true rfl⟩ ⟨Nat.le_of_ble_eq_true rfl, Nat.le_of_ble_eq_true rfl⟩
set_option maxHeartbeats 4000000 in
set_option maxRecDepth 100000 in
theorem q_S_holds_b (g : xw_G) {l : Launch} (htr : xw_tr l) {n t : Nat} {co se ke f1 f2 e1 e2 x1 x2 fa we sh : Nat → Nat} {dn op ms ps md tk bl : Int32} {pr ch sm : Nat} {rest : List va_E} (w : Int64) {z : Nat} (hz : z < 1073741789) (h0 : ms = 0 ∨ ¬ tk = ms) : xt_R g l m_S_holds [.ref 0, .long w, .long (lN z)] (hC g n t co se ke dn f1 f2 e1 e2 op x1 x2 fa we sh ms ps md tk bl pr ch sm ++ rest) "java/lang/IllegalStateException" := by
  refine xt_of [some (.ref 0), some (.long w), none, some (.long (lN z)), none] rfl (Nat.le_of_ble_eq_true rfl) rfl ?_
  intro p e s m args below meth c C hE hk
  refine xa_aload_n C dS_holds_0 rfl ?_
  refine xa_lload_n C dS_holds_1 rfl ?_
  refine xa_callVv C (p_S_requireNumber g l _ (nm_lt hz)) b_S_127 (xw_in wi_S_requireNumber rfl) e_S_requireNumber dS_holds_2 rfl rfl rfl rfl (Nat.le_of_ble_eq_true rfl) ⟨Nat.le_of_ble_eq_true rfl, Nat.le_of_ble_eq_true rfl⟩ ⟨Nat.zero_le _, Nat.zero_le _⟩ ?_
  refine xa_aload_n C dS_holds_5 rfl ?_
  exact xa_throwV C hE hk (q_S_requireSealed g htr h0) b_S_151 (xw_in wi_S_requireSealed rfl) e_S_requireSealed dS_holds_6 rfl rfl rfl rfl (Nat.le_of_ble_eq_true rfl) ⟨Nat.le_of_ble_eq_true rfl, Nat.le_of_ble_eq_true rfl⟩ ⟨Nat.le_of_ble_eq_true rfl, Nat.le_of_ble_eq_true rfl⟩
set_option maxHeartbeats 4000000 in
set_option maxRecDepth 100000 in
theorem p_S_recover (g : xw_G) (l : Launch) {n t : Nat} {co se ke f1 f2 e1 e2 x1 x2 fa we sh : Nat → Nat} {dn op ms ps md tk bl : Int32} {pr ch sm : Nat} {rest : List va_E} (hn : n ≤ 6) (ht : t ≤ 6) (hse : ∀ j, se j < 2 ^ 31) (x : Int32) (hx : en n t x) (hd : ¬ dn = 0) : xm_R g l true m_S_recover [.ref 0, .int x] (hC g n t co se ke dn f1 f2 e1 e2 op x1 x2 fa we sh ms ps md tk bl pr ch sm ++ rest) (some (.long (lN (rc_ x n se n)))) (hC g n t co se ke dn f1 f2 e1 e2 op x1 x2 fa we sh ms ps md tk bl pr ch sm ++ rest) := by
  refine xm_of [some (.ref 0), some (.int x), none, none, none, none, none] rfl (Nat.le_of_ble_eq_true rfl) rfl ?_
  intro p e s m args below meth c C hr hk
  have loop : ∀ d k : Nat, k + d = n → ∀ o5 : Option Value, xw_At g true 7 p l e (xm_rm m_S_recover 0) s m args below meth c 0 0 (MQ below (xm_Q g true (some (.long (lN (rc_ x n se n)))) (hC g n t co se ke dn f1 f2 e1 e2 op x1 x2 fa we sh ms ps md tk bl pr ch sm ++ rest)) args s 0 0 (xm_fr g true)) 14 [some (.ref 0), some (.int x), some (.long (lN (rc_ x n se k))), none, some (.int (nI (k + 1))), o5, none] [] (hC g n t co se ke dn f1 f2 e1 e2 op x1 x2 fa we sh ms ps md tk bl pr ch sm ++ rest) := by
    intro d
    induction d with
    | zero =>
      intro k hk9 o5
      obtain rfl : k = n := by omega
      refine xa_iload C dS_recover_14 rfl ?_
      refine xa_aload_n C dS_recover_16 rfl ?_
      refine xa_get C f_S_18 dS_recover_17 rfl rfl ?_
      refine xa_icmp_gt C dS_recover_20 (tgt := 70) rfl (fun h20 => ?_) (fun h20 => ?_)
      · refine xa_lload_n C dS_recover_70 rfl ?_
        exact xa_lret C hr hk dS_recover_71
      · exact absurd (nI_lt (by omega) (by omega)) h20
    | succ d ih =>
      intro k hk9 o5
      refine xa_iload C dS_recover_14 rfl ?_
      refine xa_aload_n C dS_recover_16 rfl ?_
      refine xa_get C f_S_18 dS_recover_17 rfl rfl ?_
      refine xa_icmp_gt C dS_recover_20 (tgt := 70) rfl (fun h20 => ?_) (fun h20 => ?_)
      · exact absurd h20 (nI_nlt (by omega) (by omega))
      · refine xa_iload_n C dS_recover_23 rfl ?_
        refine xa_iload C dS_recover_24 rfl ?_
        refine xa_callS1 C (p_I_hasN g l _ (by omega) (by omega) _) b_S_106 (xw_in wt_I_has rfl) dS_recover_26 rfl (Nat.le_of_ble_eq_true rfl) ⟨Nat.le_of_ble_eq_true rfl, Nat.le_of_ble_eq_true rfl⟩ ⟨Nat.zero_le _, Nat.zero_le _⟩ ?_
        refine xa_if_eq C dS_recover_29 (tgt := 64) rfl (fun h29 => ?_) (fun h29 => ?_)
        · have hb := xb_hs0 h29
          refine xa_incN C dS_recover_64 rfl (Nat.le_of_ble_eq_true rfl) ?_
          refine xa_goto C dS_recover_67 (tgt := 14) rfl ?_
          have h := ih (k + 1) (by omega) o5
          rw [rc_, if_neg (by rw [hb]; decide)] at h
          exact h
        · have hb := xb_hs1 h29
          refine xa_iload_n C dS_recover_32 rfl ?_
          refine xa_iload C dS_recover_33 rfl ?_
          refine xa_aload_n C dS_recover_35 rfl ?_
          refine xa_get C f_S_18 dS_recover_36 rfl rfl ?_
          refine xa_callS1 C (p_I_weightIn g l x hn (by omega) _) b_S_165 (xw_in wt_I_weightIn rfl) dS_recover_39 rfl (Nat.le_of_ble_eq_true rfl) ⟨Nat.le_of_ble_eq_true rfl, Nat.le_of_ble_eq_true rfl⟩ ⟨Nat.zero_le _, Nat.zero_le _⟩ ?_
          refine xa_aload_n C dS_recover_42 rfl ?_
          refine xa_get C f_S_30 dS_recover_43 rfl rfl ?_
          refine xa_get C f_S_114 dS_recover_46 rfl rfl ?_
          refine xa_iload C dS_recover_49 rfl ?_
          refine xa_laloadN C dS_recover_51 rfl ?_ (by omega) ?_
          · omega
          refine xa_callS1 C (p_N_times g l (Nat.lt_trans (wt_lt _ _ _) (by decide)) (hse _) _) b_S_169 (xw_in wt_N_times rfl) dS_recover_52 rfl (Nat.le_of_ble_eq_true rfl) ⟨Nat.le_of_ble_eq_true rfl, Nat.le_of_ble_eq_true rfl⟩ ⟨Nat.zero_le _, Nat.zero_le _⟩ ?_
          refine xa_lstore C dS_recover_55 (Nat.le_of_ble_eq_true rfl) ?_
          refine xa_lload_n C dS_recover_57 rfl ?_
          refine xa_lload C dS_recover_58 rfl ?_
          refine xa_callS1 C (p_N_plus g l (rc_lt _ _ _ _) (tb_q _) _) b_S_145 (xw_in wt_N_plus rfl) dS_recover_60 rfl (Nat.le_of_ble_eq_true rfl) ⟨Nat.le_of_ble_eq_true rfl, Nat.le_of_ble_eq_true rfl⟩ ⟨Nat.zero_le _, Nat.zero_le _⟩ ?_
          refine xa_lstore_n C dS_recover_63 (Nat.le_of_ble_eq_true rfl) ?_
          refine xa_incN C dS_recover_64 rfl (Nat.le_of_ble_eq_true rfl) ?_
          refine xa_goto C dS_recover_67 (tgt := 14) rfl ?_
          have h := ih (k + 1) (by omega) (some (.long (lN (wt_ x n (k + 1) * se (k + 1) % 1073741789))))
          rw [rc_, if_pos hb] at h
          exact h
  refine xa_aload_n C dS_recover_0 rfl ?_
  refine xa_iload_n C dS_recover_1 rfl ?_
  refine xa_callVv C (p_S_requireEnough g l _ hx) b_S_81 (xw_in wi_S_requireEnough rfl) e_S_requireEnough dS_recover_2 rfl rfl rfl rfl (Nat.le_of_ble_eq_true rfl) ⟨Nat.le_of_ble_eq_true rfl, Nat.le_of_ble_eq_true rfl⟩ ⟨Nat.zero_le _, Nat.zero_le _⟩ ?_
  refine xa_aload_n C dS_recover_5 rfl ?_
  refine xa_callVv C (p_S_requireDealt g l hd) b_S_67 (xw_in wi_S_requireDealt rfl) e_S_requireDealt dS_recover_6 rfl rfl rfl rfl (Nat.le_of_ble_eq_true rfl) ⟨Nat.le_of_ble_eq_true rfl, Nat.le_of_ble_eq_true rfl⟩ ⟨Nat.zero_le _, Nat.zero_le _⟩ ?_
  refine xa_lcN C 0 dS_recover_9 ?_
  refine xa_lstore_n C dS_recover_10 (Nat.le_of_ble_eq_true rfl) ?_
  refine xa_icN C 1 dS_recover_11 ?_
  refine xa_istore C dS_recover_12 (Nat.le_of_ble_eq_true rfl) ?_
  exact loop n 0 (by omega) none
set_option maxHeartbeats 4000000 in
set_option maxRecDepth 100000 in
theorem q_S_recover_a (g : xw_G) {l : Launch} (htr : xw_tr l) {n t : Nat} {co se ke f1 f2 e1 e2 x1 x2 fa we sh : Nat → Nat} {dn op ms ps md tk bl : Int32} {pr ch sm : Nat} {rest : List va_E} (x : Int32) (hx : ¬ en n t x) : xt_R g l m_S_recover [.ref 0, .int x] (hC g n t co se ke dn f1 f2 e1 e2 op x1 x2 fa we sh ms ps md tk bl pr ch sm ++ rest) "java/lang/IllegalArgumentException" := by
  refine xt_of [some (.ref 0), some (.int x), none, none, none, none, none] rfl (Nat.le_of_ble_eq_true rfl) rfl ?_
  intro p e s m args below meth c C hE hk
  refine xa_aload_n C dS_recover_0 rfl ?_
  refine xa_iload_n C dS_recover_1 rfl ?_
  exact xa_throwV C hE hk (q_S_requireEnough g htr _ hx) b_S_81 (xw_in wi_S_requireEnough rfl) e_S_requireEnough dS_recover_2 rfl rfl rfl rfl (Nat.le_of_ble_eq_true rfl) ⟨Nat.le_of_ble_eq_true rfl, Nat.le_of_ble_eq_true rfl⟩ ⟨Nat.le_of_ble_eq_true rfl, Nat.le_of_ble_eq_true rfl⟩
set_option maxHeartbeats 4000000 in
set_option maxRecDepth 100000 in
theorem q_S_recover_b (g : xw_G) {l : Launch} (htr : xw_tr l) {n t : Nat} {co se ke f1 f2 e1 e2 x1 x2 fa we sh : Nat → Nat} {dn op ms ps md tk bl : Int32} {pr ch sm : Nat} {rest : List va_E} (x : Int32) (hx : en n t x) (hd : dn = 0) : xt_R g l m_S_recover [.ref 0, .int x] (hC g n t co se ke dn f1 f2 e1 e2 op x1 x2 fa we sh ms ps md tk bl pr ch sm ++ rest) "java/lang/IllegalStateException" := by
  refine xt_of [some (.ref 0), some (.int x), none, none, none, none, none] rfl (Nat.le_of_ble_eq_true rfl) rfl ?_
  intro p e s m args below meth c C hE hk
  refine xa_aload_n C dS_recover_0 rfl ?_
  refine xa_iload_n C dS_recover_1 rfl ?_
  refine xa_callVv C (p_S_requireEnough g l _ hx) b_S_81 (xw_in wi_S_requireEnough rfl) e_S_requireEnough dS_recover_2 rfl rfl rfl rfl (Nat.le_of_ble_eq_true rfl) ⟨Nat.le_of_ble_eq_true rfl, Nat.le_of_ble_eq_true rfl⟩ ⟨Nat.zero_le _, Nat.zero_le _⟩ ?_
  refine xa_aload_n C dS_recover_5 rfl ?_
  exact xa_throwV C hE hk (q_S_requireDealt g htr hd) b_S_67 (xw_in wi_S_requireDealt rfl) e_S_requireDealt dS_recover_6 rfl rfl rfl rfl (Nat.le_of_ble_eq_true rfl) ⟨Nat.le_of_ble_eq_true rfl, Nat.le_of_ble_eq_true rfl⟩ ⟨Nat.le_of_ble_eq_true rfl, Nat.le_of_ble_eq_true rfl⟩
set_option maxHeartbeats 4000000 in
set_option maxRecDepth 100000 in
theorem p_S_key_a (g : xw_G) (l : Launch) {n t : Nat} {co se ke f1 f2 e1 e2 x1 x2 fa we sh : Nat → Nat} {dn op ms ps md tk bl : Int32} {pr ch sm : Nat} {rest : List va_E} (x : Int32) (hd : dn = 0) : xm_R g l true m_S_key [.ref 0, .int x] (hC g n t co se ke dn f1 f2 e1 e2 op x1 x2 fa we sh ms ps md tk bl pr ch sm ++ rest) (some (.long (-1))) (hC g n t co se ke dn f1 f2 e1 e2 op x1 x2 fa we sh ms ps md tk bl pr ch sm ++ rest) := by
  refine xm_of [some (.ref 0), some (.int x), none] rfl (Nat.le_of_ble_eq_true rfl) rfl ?_
  intro p e s m args below meth c C hr hk
  refine xa_aload_n C dS_key_0 rfl ?_
  refine xa_get C f_S_30 dS_key_1 rfl rfl ?_
  refine xa_get C f_S_157 dS_key_4 rfl rfl ?_
  refine xa_if_eq C dS_key_7 (tgt := 26) rfl (fun h7 => ?_) (fun h7 => ?_)
  · refine xa_icN C 0 dS_key_26 ?_
    refine xa_istore_n C dS_key_27 (Nat.le_of_ble_eq_true rfl) ?_
    refine xa_iload_n C dS_key_28 rfl ?_
    refine xa_if_eq C dS_key_29 (tgt := 44) rfl (fun h29 => ?_) (fun h29 => ?_)
    · refine xa_ldc2 C (xw_in wk_S_175 rfl) dS_key_44 ?_
      exact xa_lret C hr hk dS_key_47
    · exact absurd rfl h29
  · exact absurd hd h7
set_option maxHeartbeats 4000000 in
set_option maxRecDepth 100000 in
theorem p_S_key_b (g : xw_G) (l : Launch) {n t : Nat} {co se ke f1 f2 e1 e2 x1 x2 fa we sh : Nat → Nat} {dn op ms ps md tk bl : Int32} {pr ch sm : Nat} {rest : List va_E} (hn : n ≤ 6) (hd : ¬ dn = 0) : xm_R g l true m_S_key [.ref 0, .int (nI 0)] (hC g n t co se ke dn f1 f2 e1 e2 op x1 x2 fa we sh ms ps md tk bl pr ch sm ++ rest) (some (.long (lN (ke 0)))) (hC g n t co se ke dn f1 f2 e1 e2 op x1 x2 fa we sh ms ps md tk bl pr ch sm ++ rest) := by
  refine xm_of [some (.ref 0), some (.int (nI 0)), none] rfl (Nat.le_of_ble_eq_true rfl) rfl ?_
  intro p e s m args below meth c C hr hk
  refine xa_aload_n C dS_key_0 rfl ?_
  refine xa_get C f_S_30 dS_key_1 rfl rfl ?_
  refine xa_get C f_S_157 dS_key_4 rfl rfl ?_
  refine xa_if_eq C dS_key_7 (tgt := 26) rfl (fun h7 => ?_) (fun h7 => ?_)
  · exact absurd h7 hd
  · refine xa_iload_n C dS_key_10 rfl ?_
    refine xa_if_eq C dS_key_11 (tgt := 22) rfl (fun h11 => ?_) (fun h11 => ?_)
    · refine xa_icN C 1 dS_key_22 ?_
      refine xa_goto C dS_key_23 (tgt := 27) rfl ?_
      refine xa_istore_n C dS_key_27 (Nat.le_of_ble_eq_true rfl) ?_
      refine xa_iload_n C dS_key_28 rfl ?_
      refine xa_if_eq C dS_key_29 (tgt := 44) rfl (fun h29 => ?_) (fun h29 => ?_)
      · exact absurd h29 (by decide)
      · refine xa_aload_n C dS_key_32 rfl ?_
        refine xa_get C f_S_30 dS_key_33 rfl rfl ?_
        refine xa_get C f_S_133 dS_key_36 rfl rfl ?_
        refine xa_iload_n C dS_key_39 rfl ?_
        refine xa_laloadN C dS_key_40 rfl ?_ (by omega) ?_
        · omega
        refine xa_goto C dS_key_41 (tgt := 47) rfl ?_
        exact xa_lret C hr hk dS_key_47
    · exact absurd rfl h11
set_option maxHeartbeats 4000000 in
set_option maxRecDepth 100000 in
theorem p_S_key_c (g : xw_G) (l : Launch) {n t : Nat} {co se ke f1 f2 e1 e2 x1 x2 fa we sh : Nat → Nat} {dn op ms ps md tk bl : Int32} {pr ch sm : Nat} {rest : List va_E} (hn : n ≤ 6) {i : Nat} (h1 : 1 ≤ i) (hi : i ≤ n) (hd : ¬ dn = 0) : xm_R g l true m_S_key [.ref 0, .int (nI i)] (hC g n t co se ke dn f1 f2 e1 e2 op x1 x2 fa we sh ms ps md tk bl pr ch sm ++ rest) (some (.long (lN (ke i)))) (hC g n t co se ke dn f1 f2 e1 e2 op x1 x2 fa we sh ms ps md tk bl pr ch sm ++ rest) := by
  refine xm_of [some (.ref 0), some (.int (nI i)), none] rfl (Nat.le_of_ble_eq_true rfl) rfl ?_
  intro p e s m args below meth c C hr hk
  refine xa_aload_n C dS_key_0 rfl ?_
  refine xa_get C f_S_30 dS_key_1 rfl rfl ?_
  refine xa_get C f_S_157 dS_key_4 rfl rfl ?_
  refine xa_if_eq C dS_key_7 (tgt := 26) rfl (fun h7 => ?_) (fun h7 => ?_)
  · exact absurd h7 hd
  · refine xa_iload_n C dS_key_10 rfl ?_
    refine xa_if_eq C dS_key_11 (tgt := 22) rfl (fun h11 => ?_) (fun h11 => ?_)
    · exact absurd h11 (nI_ne0 (by omega) (by omega))
    · refine xa_aload_n C dS_key_14 rfl ?_
      refine xa_iload_n C dS_key_15 rfl ?_
      refine xa_callV1 C (p_S_isSigner g l _) b_S_172 (xw_in wi_S_isSigner rfl) e_S_isSigner dS_key_16 rfl rfl rfl rfl (Nat.le_of_ble_eq_true rfl) ⟨Nat.le_of_ble_eq_true rfl, Nat.le_of_ble_eq_true rfl⟩ ⟨Nat.zero_le _, Nat.zero_le _⟩ ?_
      refine xa_if_eq C dS_key_19 (tgt := 26) rfl (fun h19 => ?_) (fun h19 => ?_)
      · exact absurd (sg_nI hn h1 hi) (xb_eq0.mp h19)
      · refine xa_icN C 1 dS_key_22 ?_
        refine xa_goto C dS_key_23 (tgt := 27) rfl ?_
        refine xa_istore_n C dS_key_27 (Nat.le_of_ble_eq_true rfl) ?_
        refine xa_iload_n C dS_key_28 rfl ?_
        refine xa_if_eq C dS_key_29 (tgt := 44) rfl (fun h29 => ?_) (fun h29 => ?_)
        · exact absurd h29 (by decide)
        · refine xa_aload_n C dS_key_32 rfl ?_
          refine xa_get C f_S_30 dS_key_33 rfl rfl ?_
          refine xa_get C f_S_133 dS_key_36 rfl rfl ?_
          refine xa_iload_n C dS_key_39 rfl ?_
          refine xa_laloadN C dS_key_40 rfl ?_ (by omega) ?_
          · omega
          refine xa_goto C dS_key_41 (tgt := 47) rfl ?_
          exact xa_lret C hr hk dS_key_47
set_option maxHeartbeats 4000000 in
set_option maxRecDepth 100000 in
theorem p_S_key_d (g : xw_G) (l : Launch) {n t : Nat} {co se ke f1 f2 e1 e2 x1 x2 fa we sh : Nat → Nat} {dn op ms ps md tk bl : Int32} {pr ch sm : Nat} {rest : List va_E} (x : Int32) (hx : ¬ sg n x) (hx0 : ¬ x = 0) (hd : ¬ dn = 0) : xm_R g l true m_S_key [.ref 0, .int x] (hC g n t co se ke dn f1 f2 e1 e2 op x1 x2 fa we sh ms ps md tk bl pr ch sm ++ rest) (some (.long (-1))) (hC g n t co se ke dn f1 f2 e1 e2 op x1 x2 fa we sh ms ps md tk bl pr ch sm ++ rest) := by
  refine xm_of [some (.ref 0), some (.int x), none] rfl (Nat.le_of_ble_eq_true rfl) rfl ?_
  intro p e s m args below meth c C hr hk
  refine xa_aload_n C dS_key_0 rfl ?_
  refine xa_get C f_S_30 dS_key_1 rfl rfl ?_
  refine xa_get C f_S_157 dS_key_4 rfl rfl ?_
  refine xa_if_eq C dS_key_7 (tgt := 26) rfl (fun h7 => ?_) (fun h7 => ?_)
  · exact absurd h7 hd
  · refine xa_iload_n C dS_key_10 rfl ?_
    refine xa_if_eq C dS_key_11 (tgt := 22) rfl (fun h11 => ?_) (fun h11 => ?_)
    · exact absurd h11 hx0
    · refine xa_aload_n C dS_key_14 rfl ?_
      refine xa_iload_n C dS_key_15 rfl ?_
      refine xa_callV1 C (p_S_isSigner g l _) b_S_172 (xw_in wi_S_isSigner rfl) e_S_isSigner dS_key_16 rfl rfl rfl rfl (Nat.le_of_ble_eq_true rfl) ⟨Nat.le_of_ble_eq_true rfl, Nat.le_of_ble_eq_true rfl⟩ ⟨Nat.zero_le _, Nat.zero_le _⟩ ?_
      refine xa_if_eq C dS_key_19 (tgt := 26) rfl (fun h19 => ?_) (fun h19 => ?_)
      · refine xa_icN C 0 dS_key_26 ?_
        refine xa_istore_n C dS_key_27 (Nat.le_of_ble_eq_true rfl) ?_
        refine xa_iload_n C dS_key_28 rfl ?_
        refine xa_if_eq C dS_key_29 (tgt := 44) rfl (fun h29 => ?_) (fun h29 => ?_)
        · refine xa_ldc2 C (xw_in wk_S_175 rfl) dS_key_44 ?_
          exact xa_lret C hr hk dS_key_47
        · exact absurd rfl h29
      · exact absurd (xb_f hx) h19
set_option maxHeartbeats 4000000 in
set_option maxRecDepth 100000 in
theorem p_S_secret_a (g : xw_G) (l : Launch) {n t : Nat} {co se ke f1 f2 e1 e2 x1 x2 fa we sh : Nat → Nat} {dn op ms ps md tk bl : Int32} {pr ch sm : Nat} {rest : List va_E} (x : Int32) (hd : dn = 0) : xm_R g l true m_S_secret [.ref 0, .int x] (hC g n t co se ke dn f1 f2 e1 e2 op x1 x2 fa we sh ms ps md tk bl pr ch sm ++ rest) (some (.long (-1))) (hC g n t co se ke dn f1 f2 e1 e2 op x1 x2 fa we sh ms ps md tk bl pr ch sm ++ rest) := by
  refine xm_of [some (.ref 0), some (.int x)] rfl (Nat.le_of_ble_eq_true rfl) rfl ?_
  intro p e s m args below meth c C hr hk
  refine xa_aload_n C dS_secret_0 rfl ?_
  refine xa_get C f_S_30 dS_secret_1 rfl rfl ?_
  refine xa_get C f_S_157 dS_secret_4 rfl rfl ?_
  refine xa_if_eq C dS_secret_7 (tgt := 30) rfl (fun h7 => ?_) (fun h7 => ?_)
  · refine xa_ldc2 C (xw_in wk_S_175 rfl) dS_secret_30 ?_
    exact xa_lret C hr hk dS_secret_33
  · exact absurd hd h7
set_option maxHeartbeats 4000000 in
set_option maxRecDepth 100000 in
theorem p_S_secret_b (g : xw_G) (l : Launch) {n t : Nat} {co se ke f1 f2 e1 e2 x1 x2 fa we sh : Nat → Nat} {dn op ms ps md tk bl : Int32} {pr ch sm : Nat} {rest : List va_E} (hn : n ≤ 6) {i : Nat} (h1 : 1 ≤ i) (hi : i ≤ n) (hd : ¬ dn = 0) : xm_R g l true m_S_secret [.ref 0, .int (nI i)] (hC g n t co se ke dn f1 f2 e1 e2 op x1 x2 fa we sh ms ps md tk bl pr ch sm ++ rest) (some (.long (lN (se i)))) (hC g n t co se ke dn f1 f2 e1 e2 op x1 x2 fa we sh ms ps md tk bl pr ch sm ++ rest) := by
  refine xm_of [some (.ref 0), some (.int (nI i))] rfl (Nat.le_of_ble_eq_true rfl) rfl ?_
  intro p e s m args below meth c C hr hk
  refine xa_aload_n C dS_secret_0 rfl ?_
  refine xa_get C f_S_30 dS_secret_1 rfl rfl ?_
  refine xa_get C f_S_157 dS_secret_4 rfl rfl ?_
  refine xa_if_eq C dS_secret_7 (tgt := 30) rfl (fun h7 => ?_) (fun h7 => ?_)
  · exact absurd h7 hd
  · refine xa_aload_n C dS_secret_10 rfl ?_
    refine xa_iload_n C dS_secret_11 rfl ?_
    refine xa_callV1 C (p_S_isSigner g l _) b_S_172 (xw_in wi_S_isSigner rfl) e_S_isSigner dS_secret_12 rfl rfl rfl rfl (Nat.le_of_ble_eq_true rfl) ⟨Nat.le_of_ble_eq_true rfl, Nat.le_of_ble_eq_true rfl⟩ ⟨Nat.zero_le _, Nat.zero_le _⟩ ?_
    refine xa_if_eq C dS_secret_15 (tgt := 30) rfl (fun h15 => ?_) (fun h15 => ?_)
    · exact absurd (sg_nI hn h1 hi) (xb_eq0.mp h15)
    · refine xa_aload_n C dS_secret_18 rfl ?_
      refine xa_get C f_S_30 dS_secret_19 rfl rfl ?_
      refine xa_get C f_S_114 dS_secret_22 rfl rfl ?_
      refine xa_iload_n C dS_secret_25 rfl ?_
      refine xa_laloadN C dS_secret_26 rfl ?_ (by omega) ?_
      · omega
      refine xa_goto C dS_secret_27 (tgt := 33) rfl ?_
      exact xa_lret C hr hk dS_secret_33
set_option maxHeartbeats 4000000 in
set_option maxRecDepth 100000 in
theorem p_S_secret_c (g : xw_G) (l : Launch) {n t : Nat} {co se ke f1 f2 e1 e2 x1 x2 fa we sh : Nat → Nat} {dn op ms ps md tk bl : Int32} {pr ch sm : Nat} {rest : List va_E} (x : Int32) (hx : ¬ sg n x) (hd : ¬ dn = 0) : xm_R g l true m_S_secret [.ref 0, .int x] (hC g n t co se ke dn f1 f2 e1 e2 op x1 x2 fa we sh ms ps md tk bl pr ch sm ++ rest) (some (.long (-1))) (hC g n t co se ke dn f1 f2 e1 e2 op x1 x2 fa we sh ms ps md tk bl pr ch sm ++ rest) := by
  refine xm_of [some (.ref 0), some (.int x)] rfl (Nat.le_of_ble_eq_true rfl) rfl ?_
  intro p e s m args below meth c C hr hk
  refine xa_aload_n C dS_secret_0 rfl ?_
  refine xa_get C f_S_30 dS_secret_1 rfl rfl ?_
  refine xa_get C f_S_157 dS_secret_4 rfl rfl ?_
  refine xa_if_eq C dS_secret_7 (tgt := 30) rfl (fun h7 => ?_) (fun h7 => ?_)
  · exact absurd h7 hd
  · refine xa_aload_n C dS_secret_10 rfl ?_
    refine xa_iload_n C dS_secret_11 rfl ?_
    refine xa_callV1 C (p_S_isSigner g l _) b_S_172 (xw_in wi_S_isSigner rfl) e_S_isSigner dS_secret_12 rfl rfl rfl rfl (Nat.le_of_ble_eq_true rfl) ⟨Nat.le_of_ble_eq_true rfl, Nat.le_of_ble_eq_true rfl⟩ ⟨Nat.zero_le _, Nat.zero_le _⟩ ?_
    refine xa_if_eq C dS_secret_15 (tgt := 30) rfl (fun h15 => ?_) (fun h15 => ?_)
    · refine xa_ldc2 C (xw_in wk_S_175 rfl) dS_secret_30 ?_
      exact xa_lret C hr hk dS_secret_33
    · exact absurd (xb_f hx) h15
set_option maxHeartbeats 4000000 in
set_option maxRecDepth 100000 in
theorem p_S_commitment_a (g : xw_G) (l : Launch) {n t : Nat} {co se ke f1 f2 e1 e2 x1 x2 fa we sh : Nat → Nat} {dn op ms ps md tk bl : Int32} {pr ch sm : Nat} {rest : List va_E} (x y : Int32) (hx : ¬ sg n x) : xm_R g l true m_S_commitment [.ref 0, .int x, .int y] (hC g n t co se ke dn f1 f2 e1 e2 op x1 x2 fa we sh ms ps md tk bl pr ch sm ++ rest) (some (.long (-1))) (hC g n t co se ke dn f1 f2 e1 e2 op x1 x2 fa we sh ms ps md tk bl pr ch sm ++ rest) := by
  refine xm_of [some (.ref 0), some (.int x), some (.int y)] rfl (Nat.le_of_ble_eq_true rfl) rfl ?_
  intro p e s m args below meth c C hr hk
  refine xa_aload_n C dS_commitment_0 rfl ?_
  refine xa_iload_n C dS_commitment_1 rfl ?_
  refine xa_callV1 C (p_S_isSigner g l _) b_S_172 (xw_in wi_S_isSigner rfl) e_S_isSigner dS_commitment_2 rfl rfl rfl rfl (Nat.le_of_ble_eq_true rfl) ⟨Nat.le_of_ble_eq_true rfl, Nat.le_of_ble_eq_true rfl⟩ ⟨Nat.zero_le _, Nat.zero_le _⟩ ?_
  refine xa_if_eq C dS_commitment_5 (tgt := 22) rfl (fun h5 => ?_) (fun h5 => ?_)
  · refine xa_ldc2 C (xw_in wk_S_175 rfl) dS_commitment_22 ?_
    exact xa_lret C hr hk dS_commitment_25
  · exact absurd (xb_f hx) h5
set_option maxHeartbeats 4000000 in
set_option maxRecDepth 100000 in
theorem p_S_commitment_b (g : xw_G) (l : Launch) {n t : Nat} {co se ke f1 f2 e1 e2 x1 x2 fa we sh : Nat → Nat} {dn op ms ps md tk bl : Int32} {pr ch sm : Nat} {rest : List va_E} (hn : n ≤ 6) {i : Nat} (h1 : 1 ≤ i) (hi : i ≤ n) (y : Int32) (ho : hs op i = false) : xm_R g l true m_S_commitment [.ref 0, .int (nI i), .int y] (hC g n t co se ke dn f1 f2 e1 e2 op x1 x2 fa we sh ms ps md tk bl pr ch sm ++ rest) (some (.long (-1))) (hC g n t co se ke dn f1 f2 e1 e2 op x1 x2 fa we sh ms ps md tk bl pr ch sm ++ rest) := by
  refine xm_of [some (.ref 0), some (.int (nI i)), some (.int y)] rfl (Nat.le_of_ble_eq_true rfl) rfl ?_
  intro p e s m args below meth c C hr hk
  refine xa_aload_n C dS_commitment_0 rfl ?_
  refine xa_iload_n C dS_commitment_1 rfl ?_
  refine xa_callV1 C (p_S_isSigner g l _) b_S_172 (xw_in wi_S_isSigner rfl) e_S_isSigner dS_commitment_2 rfl rfl rfl rfl (Nat.le_of_ble_eq_true rfl) ⟨Nat.le_of_ble_eq_true rfl, Nat.le_of_ble_eq_true rfl⟩ ⟨Nat.zero_le _, Nat.zero_le _⟩ ?_
  refine xa_if_eq C dS_commitment_5 (tgt := 22) rfl (fun h5 => ?_) (fun h5 => ?_)
  · exact absurd (sg_nI hn h1 hi) (xb_eq0.mp h5)
  · refine xa_aload_n C dS_commitment_8 rfl ?_
    refine xa_get C f_S_39 dS_commitment_9 rfl rfl ?_
    refine xa_get C f_S_177 dS_commitment_12 rfl rfl ?_
    refine xa_iload_n C dS_commitment_15 rfl ?_
    refine xa_callS1 C (p_I_hasN g l _ (by omega) (by omega) _) b_S_106 (xw_in wt_I_has rfl) dS_commitment_16 rfl (Nat.le_of_ble_eq_true rfl) ⟨Nat.le_of_ble_eq_true rfl, Nat.le_of_ble_eq_true rfl⟩ ⟨Nat.zero_le _, Nat.zero_le _⟩ ?_
    refine xa_if_ne C dS_commitment_19 (tgt := 26) rfl (fun h19 => ?_) (fun h19 => ?_)
    · exact absurd (xb_f (by rw [ho]; decide)) h19
    · refine xa_ldc2 C (xw_in wk_S_175 rfl) dS_commitment_22 ?_
      exact xa_lret C hr hk dS_commitment_25
set_option maxHeartbeats 4000000 in
set_option maxRecDepth 100000 in
theorem p_S_commitment_c (g : xw_G) (l : Launch) {n t : Nat} {co se ke f1 f2 e1 e2 x1 x2 fa we sh : Nat → Nat} {dn op ms ps md tk bl : Int32} {pr ch sm : Nat} {rest : List va_E} (hn : n ≤ 6) {i : Nat} (h1 : 1 ≤ i) (hi : i ≤ n) (y : Int32) (ho : hs op i = true) (hy : ¬ y = 0) : xm_R g l true m_S_commitment [.ref 0, .int (nI i), .int y] (hC g n t co se ke dn f1 f2 e1 e2 op x1 x2 fa we sh ms ps md tk bl pr ch sm ++ rest) (some (.long (lN (e2 i)))) (hC g n t co se ke dn f1 f2 e1 e2 op x1 x2 fa we sh ms ps md tk bl pr ch sm ++ rest) := by
  refine xm_of [some (.ref 0), some (.int (nI i)), some (.int y)] rfl (Nat.le_of_ble_eq_true rfl) rfl ?_
  intro p e s m args below meth c C hr hk
  refine xa_aload_n C dS_commitment_0 rfl ?_
  refine xa_iload_n C dS_commitment_1 rfl ?_
  refine xa_callV1 C (p_S_isSigner g l _) b_S_172 (xw_in wi_S_isSigner rfl) e_S_isSigner dS_commitment_2 rfl rfl rfl rfl (Nat.le_of_ble_eq_true rfl) ⟨Nat.le_of_ble_eq_true rfl, Nat.le_of_ble_eq_true rfl⟩ ⟨Nat.zero_le _, Nat.zero_le _⟩ ?_
  refine xa_if_eq C dS_commitment_5 (tgt := 22) rfl (fun h5 => ?_) (fun h5 => ?_)
  · exact absurd (sg_nI hn h1 hi) (xb_eq0.mp h5)
  · refine xa_aload_n C dS_commitment_8 rfl ?_
    refine xa_get C f_S_39 dS_commitment_9 rfl rfl ?_
    refine xa_get C f_S_177 dS_commitment_12 rfl rfl ?_
    refine xa_iload_n C dS_commitment_15 rfl ?_
    refine xa_callS1 C (p_I_hasN g l _ (by omega) (by omega) _) b_S_106 (xw_in wt_I_has rfl) dS_commitment_16 rfl (Nat.le_of_ble_eq_true rfl) ⟨Nat.le_of_ble_eq_true rfl, Nat.le_of_ble_eq_true rfl⟩ ⟨Nat.zero_le _, Nat.zero_le _⟩ ?_
    refine xa_if_ne C dS_commitment_19 (tgt := 26) rfl (fun h19 => ?_) (fun h19 => ?_)
    · refine xa_iload_n C dS_commitment_26 rfl ?_
      refine xa_if_eq C dS_commitment_27 (tgt := 42) rfl (fun h27 => ?_) (fun h27 => ?_)
      · exact absurd h27 hy
      · refine xa_aload_n C dS_commitment_30 rfl ?_
        refine xa_get C f_S_39 dS_commitment_31 rfl rfl ?_
        refine xa_get C f_S_180 dS_commitment_34 rfl rfl ?_
        refine xa_iload_n C dS_commitment_37 rfl ?_
        refine xa_laloadN C dS_commitment_38 rfl ?_ (by omega) ?_
        · omega
        refine xa_goto C dS_commitment_39 (tgt := 51) rfl ?_
        exact xa_lret C hr hk dS_commitment_51
    · exact absurd ho (xb_eq0.mp h19)
set_option maxHeartbeats 4000000 in
set_option maxRecDepth 100000 in
theorem p_S_commitment_d (g : xw_G) (l : Launch) {n t : Nat} {co se ke f1 f2 e1 e2 x1 x2 fa we sh : Nat → Nat} {dn op ms ps md tk bl : Int32} {pr ch sm : Nat} {rest : List va_E} (hn : n ≤ 6) {i : Nat} (h1 : 1 ≤ i) (hi : i ≤ n) (y : Int32) (ho : hs op i = true) (hy : y = 0) : xm_R g l true m_S_commitment [.ref 0, .int (nI i), .int y] (hC g n t co se ke dn f1 f2 e1 e2 op x1 x2 fa we sh ms ps md tk bl pr ch sm ++ rest) (some (.long (lN (e1 i)))) (hC g n t co se ke dn f1 f2 e1 e2 op x1 x2 fa we sh ms ps md tk bl pr ch sm ++ rest) := by
  refine xm_of [some (.ref 0), some (.int (nI i)), some (.int y)] rfl (Nat.le_of_ble_eq_true rfl) rfl ?_
  intro p e s m args below meth c C hr hk
  refine xa_aload_n C dS_commitment_0 rfl ?_
  refine xa_iload_n C dS_commitment_1 rfl ?_
  refine xa_callV1 C (p_S_isSigner g l _) b_S_172 (xw_in wi_S_isSigner rfl) e_S_isSigner dS_commitment_2 rfl rfl rfl rfl (Nat.le_of_ble_eq_true rfl) ⟨Nat.le_of_ble_eq_true rfl, Nat.le_of_ble_eq_true rfl⟩ ⟨Nat.zero_le _, Nat.zero_le _⟩ ?_
  refine xa_if_eq C dS_commitment_5 (tgt := 22) rfl (fun h5 => ?_) (fun h5 => ?_)
  · exact absurd (sg_nI hn h1 hi) (xb_eq0.mp h5)
  · refine xa_aload_n C dS_commitment_8 rfl ?_
    refine xa_get C f_S_39 dS_commitment_9 rfl rfl ?_
    refine xa_get C f_S_177 dS_commitment_12 rfl rfl ?_
    refine xa_iload_n C dS_commitment_15 rfl ?_
    refine xa_callS1 C (p_I_hasN g l _ (by omega) (by omega) _) b_S_106 (xw_in wt_I_has rfl) dS_commitment_16 rfl (Nat.le_of_ble_eq_true rfl) ⟨Nat.le_of_ble_eq_true rfl, Nat.le_of_ble_eq_true rfl⟩ ⟨Nat.zero_le _, Nat.zero_le _⟩ ?_
    refine xa_if_ne C dS_commitment_19 (tgt := 26) rfl (fun h19 => ?_) (fun h19 => ?_)
    · refine xa_iload_n C dS_commitment_26 rfl ?_
      refine xa_if_eq C dS_commitment_27 (tgt := 42) rfl (fun h27 => ?_) (fun h27 => ?_)
      · refine xa_aload_n C dS_commitment_42 rfl ?_
        refine xa_get C f_S_39 dS_commitment_43 rfl rfl ?_
        refine xa_get C f_S_77 dS_commitment_46 rfl rfl ?_
        refine xa_iload_n C dS_commitment_49 rfl ?_
        refine xa_laloadN C dS_commitment_50 rfl ?_ (by omega) ?_
        · omega
        exact xa_lret C hr hk dS_commitment_51
      · exact absurd hy h27
    · exact absurd ho (xb_eq0.mp h19)
set_option maxHeartbeats 4000000 in
set_option maxRecDepth 100000 in
theorem p_S_factor_a (g : xw_G) (l : Launch) {n t : Nat} {co se ke f1 f2 e1 e2 x1 x2 fa we sh : Nat → Nat} {dn op ms ps md tk bl : Int32} {pr ch sm : Nat} {rest : List va_E} (x : Int32) (hx : ¬ sg n x) : xm_R g l true m_S_factor [.ref 0, .int x] (hC g n t co se ke dn f1 f2 e1 e2 op x1 x2 fa we sh ms ps md tk bl pr ch sm ++ rest) (some (.long (-1))) (hC g n t co se ke dn f1 f2 e1 e2 op x1 x2 fa we sh ms ps md tk bl pr ch sm ++ rest) := by
  refine xm_of [some (.ref 0), some (.int x)] rfl (Nat.le_of_ble_eq_true rfl) rfl ?_
  intro p e s m args below meth c C hr hk
  refine xa_aload_n C dS_factor_0 rfl ?_
  refine xa_iload_n C dS_factor_1 rfl ?_
  refine xa_callV1 C (p_S_isMember_no g l _ hx) b_S_183 (xw_in wi_S_isMember rfl) e_S_isMember dS_factor_2 rfl rfl rfl rfl (Nat.le_of_ble_eq_true rfl) ⟨Nat.le_of_ble_eq_true rfl, Nat.le_of_ble_eq_true rfl⟩ ⟨Nat.zero_le _, Nat.zero_le _⟩ ?_
  refine xa_if_eq C dS_factor_5 (tgt := 20) rfl (fun h5 => ?_) (fun h5 => ?_)
  · refine xa_ldc2 C (xw_in wk_S_175 rfl) dS_factor_20 ?_
    exact xa_lret C hr hk dS_factor_23
  · exact absurd rfl h5
set_option maxHeartbeats 4000000 in
set_option maxRecDepth 100000 in
theorem p_S_factor_b (g : xw_G) (l : Launch) {n t : Nat} {co se ke f1 f2 e1 e2 x1 x2 fa we sh : Nat → Nat} {dn op ms ps md tk bl : Int32} {pr ch sm : Nat} {rest : List va_E} (hn : n ≤ 6) {i : Nat} (h1 : 1 ≤ i) (hi : i ≤ n) (hm : hs ms i = false) : xm_R g l true m_S_factor [.ref 0, .int (nI i)] (hC g n t co se ke dn f1 f2 e1 e2 op x1 x2 fa we sh ms ps md tk bl pr ch sm ++ rest) (some (.long (-1))) (hC g n t co se ke dn f1 f2 e1 e2 op x1 x2 fa we sh ms ps md tk bl pr ch sm ++ rest) := by
  refine xm_of [some (.ref 0), some (.int (nI i))] rfl (Nat.le_of_ble_eq_true rfl) rfl ?_
  intro p e s m args below meth c C hr hk
  refine xa_aload_n C dS_factor_0 rfl ?_
  refine xa_iload_n C dS_factor_1 rfl ?_
  refine xa_callV1 C (p_S_isMember g l hn h1 hi) b_S_183 (xw_in wi_S_isMember rfl) e_S_isMember dS_factor_2 rfl rfl rfl rfl (Nat.le_of_ble_eq_true rfl) ⟨Nat.le_of_ble_eq_true rfl, Nat.le_of_ble_eq_true rfl⟩ ⟨Nat.zero_le _, Nat.zero_le _⟩ ?_
  refine xa_if_eq C dS_factor_5 (tgt := 20) rfl (fun h5 => ?_) (fun h5 => ?_)
  · refine xa_ldc2 C (xw_in wk_S_175 rfl) dS_factor_20 ?_
    exact xa_lret C hr hk dS_factor_23
  · exact absurd (xb_f (by rw [hm]; decide)) h5
set_option maxHeartbeats 4000000 in
set_option maxRecDepth 100000 in
theorem p_S_factor_c (g : xw_G) (l : Launch) {n t : Nat} {co se ke f1 f2 e1 e2 x1 x2 fa we sh : Nat → Nat} {dn op ms ps md tk bl : Int32} {pr ch sm : Nat} {rest : List va_E} (hn : n ≤ 6) {i : Nat} (h1 : 1 ≤ i) (hi : i ≤ n) (hm : hs ms i = true) : xm_R g l true m_S_factor [.ref 0, .int (nI i)] (hC g n t co se ke dn f1 f2 e1 e2 op x1 x2 fa we sh ms ps md tk bl pr ch sm ++ rest) (some (.long (lN (fa i)))) (hC g n t co se ke dn f1 f2 e1 e2 op x1 x2 fa we sh ms ps md tk bl pr ch sm ++ rest) := by
  refine xm_of [some (.ref 0), some (.int (nI i))] rfl (Nat.le_of_ble_eq_true rfl) rfl ?_
  intro p e s m args below meth c C hr hk
  refine xa_aload_n C dS_factor_0 rfl ?_
  refine xa_iload_n C dS_factor_1 rfl ?_
  refine xa_callV1 C (p_S_isMember g l hn h1 hi) b_S_183 (xw_in wi_S_isMember rfl) e_S_isMember dS_factor_2 rfl rfl rfl rfl (Nat.le_of_ble_eq_true rfl) ⟨Nat.le_of_ble_eq_true rfl, Nat.le_of_ble_eq_true rfl⟩ ⟨Nat.zero_le _, Nat.zero_le _⟩ ?_
  refine xa_if_eq C dS_factor_5 (tgt := 20) rfl (fun h5 => ?_) (fun h5 => ?_)
  · exact absurd hm (xb_eq0.mp h5)
  · refine xa_aload_n C dS_factor_8 rfl ?_
    refine xa_get C f_S_46 dS_factor_9 rfl rfl ?_
    refine xa_get C f_S_186 dS_factor_12 rfl rfl ?_
    refine xa_iload_n C dS_factor_15 rfl ?_
    refine xa_laloadN C dS_factor_16 rfl ?_ (by omega) ?_
    · omega
    refine xa_goto C dS_factor_17 (tgt := 23) rfl ?_
    exact xa_lret C hr hk dS_factor_23
set_option maxHeartbeats 4000000 in
set_option maxRecDepth 100000 in
theorem p_S_weight_a (g : xw_G) (l : Launch) {n t : Nat} {co se ke f1 f2 e1 e2 x1 x2 fa we sh : Nat → Nat} {dn op ms ps md tk bl : Int32} {pr ch sm : Nat} {rest : List va_E} (x : Int32) (hx : ¬ sg n x) : xm_R g l true m_S_weight [.ref 0, .int x] (hC g n t co se ke dn f1 f2 e1 e2 op x1 x2 fa we sh ms ps md tk bl pr ch sm ++ rest) (some (.long (-1))) (hC g n t co se ke dn f1 f2 e1 e2 op x1 x2 fa we sh ms ps md tk bl pr ch sm ++ rest) := by
  refine xm_of [some (.ref 0), some (.int x)] rfl (Nat.le_of_ble_eq_true rfl) rfl ?_
  intro p e s m args below meth c C hr hk
  refine xa_aload_n C dS_weight_0 rfl ?_
  refine xa_iload_n C dS_weight_1 rfl ?_
  refine xa_callV1 C (p_S_isMember_no g l _ hx) b_S_183 (xw_in wi_S_isMember rfl) e_S_isMember dS_weight_2 rfl rfl rfl rfl (Nat.le_of_ble_eq_true rfl) ⟨Nat.le_of_ble_eq_true rfl, Nat.le_of_ble_eq_true rfl⟩ ⟨Nat.zero_le _, Nat.zero_le _⟩ ?_
  refine xa_if_eq C dS_weight_5 (tgt := 20) rfl (fun h5 => ?_) (fun h5 => ?_)
  · refine xa_ldc2 C (xw_in wk_S_175 rfl) dS_weight_20 ?_
    exact xa_lret C hr hk dS_weight_23
  · exact absurd rfl h5
set_option maxHeartbeats 4000000 in
set_option maxRecDepth 100000 in
theorem p_S_weight_b (g : xw_G) (l : Launch) {n t : Nat} {co se ke f1 f2 e1 e2 x1 x2 fa we sh : Nat → Nat} {dn op ms ps md tk bl : Int32} {pr ch sm : Nat} {rest : List va_E} (hn : n ≤ 6) {i : Nat} (h1 : 1 ≤ i) (hi : i ≤ n) (hm : hs ms i = false) : xm_R g l true m_S_weight [.ref 0, .int (nI i)] (hC g n t co se ke dn f1 f2 e1 e2 op x1 x2 fa we sh ms ps md tk bl pr ch sm ++ rest) (some (.long (-1))) (hC g n t co se ke dn f1 f2 e1 e2 op x1 x2 fa we sh ms ps md tk bl pr ch sm ++ rest) := by
  refine xm_of [some (.ref 0), some (.int (nI i))] rfl (Nat.le_of_ble_eq_true rfl) rfl ?_
  intro p e s m args below meth c C hr hk
  refine xa_aload_n C dS_weight_0 rfl ?_
  refine xa_iload_n C dS_weight_1 rfl ?_
  refine xa_callV1 C (p_S_isMember g l hn h1 hi) b_S_183 (xw_in wi_S_isMember rfl) e_S_isMember dS_weight_2 rfl rfl rfl rfl (Nat.le_of_ble_eq_true rfl) ⟨Nat.le_of_ble_eq_true rfl, Nat.le_of_ble_eq_true rfl⟩ ⟨Nat.zero_le _, Nat.zero_le _⟩ ?_
  refine xa_if_eq C dS_weight_5 (tgt := 20) rfl (fun h5 => ?_) (fun h5 => ?_)
  · refine xa_ldc2 C (xw_in wk_S_175 rfl) dS_weight_20 ?_
    exact xa_lret C hr hk dS_weight_23
  · exact absurd (xb_f (by rw [hm]; decide)) h5
set_option maxHeartbeats 4000000 in
set_option maxRecDepth 100000 in
theorem p_S_weight_c (g : xw_G) (l : Launch) {n t : Nat} {co se ke f1 f2 e1 e2 x1 x2 fa we sh : Nat → Nat} {dn op ms ps md tk bl : Int32} {pr ch sm : Nat} {rest : List va_E} (hn : n ≤ 6) {i : Nat} (h1 : 1 ≤ i) (hi : i ≤ n) (hm : hs ms i = true) : xm_R g l true m_S_weight [.ref 0, .int (nI i)] (hC g n t co se ke dn f1 f2 e1 e2 op x1 x2 fa we sh ms ps md tk bl pr ch sm ++ rest) (some (.long (lN (we i)))) (hC g n t co se ke dn f1 f2 e1 e2 op x1 x2 fa we sh ms ps md tk bl pr ch sm ++ rest) := by
  refine xm_of [some (.ref 0), some (.int (nI i))] rfl (Nat.le_of_ble_eq_true rfl) rfl ?_
  intro p e s m args below meth c C hr hk
  refine xa_aload_n C dS_weight_0 rfl ?_
  refine xa_iload_n C dS_weight_1 rfl ?_
  refine xa_callV1 C (p_S_isMember g l hn h1 hi) b_S_183 (xw_in wi_S_isMember rfl) e_S_isMember dS_weight_2 rfl rfl rfl rfl (Nat.le_of_ble_eq_true rfl) ⟨Nat.le_of_ble_eq_true rfl, Nat.le_of_ble_eq_true rfl⟩ ⟨Nat.zero_le _, Nat.zero_le _⟩ ?_
  refine xa_if_eq C dS_weight_5 (tgt := 20) rfl (fun h5 => ?_) (fun h5 => ?_)
  · exact absurd hm (xb_eq0.mp h5)
  · refine xa_aload_n C dS_weight_8 rfl ?_
    refine xa_get C f_S_46 dS_weight_9 rfl rfl ?_
    refine xa_get C f_S_189 dS_weight_12 rfl rfl ?_
    refine xa_iload_n C dS_weight_15 rfl ?_
    refine xa_laloadN C dS_weight_16 rfl ?_ (by omega) ?_
    · omega
    refine xa_goto C dS_weight_17 (tgt := 23) rfl ?_
    exact xa_lret C hr hk dS_weight_23
set_option maxHeartbeats 4000000 in
set_option maxRecDepth 100000 in
theorem p_S_challenge_a (g : xw_G) (l : Launch) {n t : Nat} {co se ke f1 f2 e1 e2 x1 x2 fa we sh : Nat → Nat} {dn op ms ps md tk bl : Int32} {pr ch sm : Nat} {rest : List va_E} (hm : ms = 0) : xm_R g l true m_S_challenge [.ref 0] (hC g n t co se ke dn f1 f2 e1 e2 op x1 x2 fa we sh ms ps md tk bl pr ch sm ++ rest) (some (.long (-1))) (hC g n t co se ke dn f1 f2 e1 e2 op x1 x2 fa we sh ms ps md tk bl pr ch sm ++ rest) := by
  refine xm_of [some (.ref 0)] rfl (Nat.le_of_ble_eq_true rfl) rfl ?_
  intro p e s m args below meth c C hr hk
  refine xa_aload_n C dS_challenge_0 rfl ?_
  refine xa_get C f_S_46 dS_challenge_1 rfl rfl ?_
  refine xa_callV1 C (p_X_isOn g l) b_S_192 (xw_in wi_X_isOn rfl) e_X_isOn dS_challenge_4 rfl rfl rfl rfl (Nat.le_of_ble_eq_true rfl) ⟨Nat.le_of_ble_eq_true rfl, Nat.le_of_ble_eq_true rfl⟩ ⟨Nat.zero_le _, Nat.zero_le _⟩ ?_
  refine xa_if_eq C dS_challenge_7 (tgt := 20) rfl (fun h7 => ?_) (fun h7 => ?_)
  · refine xa_ldc2 C (xw_in wk_S_175 rfl) dS_challenge_20 ?_
    exact xa_lret C hr hk dS_challenge_23
  · exact absurd (xb_f (fun z => z hm)) h7
set_option maxHeartbeats 4000000 in
set_option maxRecDepth 100000 in
theorem p_S_challenge_b (g : xw_G) (l : Launch) {n t : Nat} {co se ke f1 f2 e1 e2 x1 x2 fa we sh : Nat → Nat} {dn op ms ps md tk bl : Int32} {pr ch sm : Nat} {rest : List va_E} (hm : ¬ ms = 0) : xm_R g l true m_S_challenge [.ref 0] (hC g n t co se ke dn f1 f2 e1 e2 op x1 x2 fa we sh ms ps md tk bl pr ch sm ++ rest) (some (.long (lN ch))) (hC g n t co se ke dn f1 f2 e1 e2 op x1 x2 fa we sh ms ps md tk bl pr ch sm ++ rest) := by
  refine xm_of [some (.ref 0)] rfl (Nat.le_of_ble_eq_true rfl) rfl ?_
  intro p e s m args below meth c C hr hk
  refine xa_aload_n C dS_challenge_0 rfl ?_
  refine xa_get C f_S_46 dS_challenge_1 rfl rfl ?_
  refine xa_callV1 C (p_X_isOn g l) b_S_192 (xw_in wi_X_isOn rfl) e_X_isOn dS_challenge_4 rfl rfl rfl rfl (Nat.le_of_ble_eq_true rfl) ⟨Nat.le_of_ble_eq_true rfl, Nat.le_of_ble_eq_true rfl⟩ ⟨Nat.zero_le _, Nat.zero_le _⟩ ?_
  refine xa_if_eq C dS_challenge_7 (tgt := 20) rfl (fun h7 => ?_) (fun h7 => ?_)
  · exact absurd hm (xb_eq0.mp h7)
  · refine xa_aload_n C dS_challenge_10 rfl ?_
    refine xa_get C f_S_46 dS_challenge_11 rfl rfl ?_
    refine xa_get C f_S_196 dS_challenge_14 rfl rfl ?_
    refine xa_goto C dS_challenge_17 (tgt := 23) rfl ?_
    exact xa_lret C hr hk dS_challenge_23
set_option maxHeartbeats 4000000 in
set_option maxRecDepth 100000 in
theorem p_S_members (g : xw_G) (l : Launch) {n t : Nat} {co se ke f1 f2 e1 e2 x1 x2 fa we sh : Nat → Nat} {dn op ms ps md tk bl : Int32} {pr ch sm : Nat} {rest : List va_E}  : xm_R g l true m_S_members [.ref 0] (hC g n t co se ke dn f1 f2 e1 e2 op x1 x2 fa we sh ms ps md tk bl pr ch sm ++ rest) (some (.int ms)) (hC g n t co se ke dn f1 f2 e1 e2 op x1 x2 fa we sh ms ps md tk bl pr ch sm ++ rest) := by
  refine xm_of [some (.ref 0)] rfl (Nat.le_of_ble_eq_true rfl) rfl ?_
  intro p e s m args below meth c C hr hk
  refine xa_aload_n C dS_members_0 rfl ?_
  refine xa_get C f_S_46 dS_members_1 rfl rfl ?_
  refine xa_get C f_S_199 dS_members_4 rfl rfl ?_
  exact xa_iret C hr hk dS_members_7
set_option maxHeartbeats 4000000 in
set_option maxRecDepth 100000 in
theorem p_S_taken (g : xw_G) (l : Launch) {n t : Nat} {co se ke f1 f2 e1 e2 x1 x2 fa we sh : Nat → Nat} {dn op ms ps md tk bl : Int32} {pr ch sm : Nat} {rest : List va_E}  : xm_R g l true m_S_taken [.ref 0] (hC g n t co se ke dn f1 f2 e1 e2 op x1 x2 fa we sh ms ps md tk bl pr ch sm ++ rest) (some (.int tk)) (hC g n t co se ke dn f1 f2 e1 e2 op x1 x2 fa we sh ms ps md tk bl pr ch sm ++ rest) := by
  refine xm_of [some (.ref 0)] rfl (Nat.le_of_ble_eq_true rfl) rfl ?_
  intro p e s m args below meth c C hr hk
  refine xa_aload_n C dS_taken_0 rfl ?_
  refine xa_get C f_S_46 dS_taken_1 rfl rfl ?_
  refine xa_get C f_S_202 dS_taken_4 rfl rfl ?_
  exact xa_iret C hr hk dS_taken_7
set_option maxHeartbeats 4000000 in
set_option maxRecDepth 100000 in
theorem p_S_blamed (g : xw_G) (l : Launch) {n t : Nat} {co se ke f1 f2 e1 e2 x1 x2 fa we sh : Nat → Nat} {dn op ms ps md tk bl : Int32} {pr ch sm : Nat} {rest : List va_E}  : xm_R g l true m_S_blamed [.ref 0] (hC g n t co se ke dn f1 f2 e1 e2 op x1 x2 fa we sh ms ps md tk bl pr ch sm ++ rest) (some (.int bl)) (hC g n t co se ke dn f1 f2 e1 e2 op x1 x2 fa we sh ms ps md tk bl pr ch sm ++ rest) := by
  refine xm_of [some (.ref 0)] rfl (Nat.le_of_ble_eq_true rfl) rfl ?_
  intro p e s m args below meth c C hr hk
  refine xa_aload_n C dS_blamed_0 rfl ?_
  refine xa_get C f_S_46 dS_blamed_1 rfl rfl ?_
  refine xa_get C f_S_205 dS_blamed_4 rfl rfl ?_
  exact xa_iret C hr hk dS_blamed_7
end
section
/-! the reference's cells; rules for numbers kept as natural numbers -/
abbrev xz (g : xw_G) (N : Nat) (f : Nat → Int32) : va_E := .inl (xg_Z g, N, .inl f)
def hQ (c0 c1 c2 c3 c4 c5 c6 c7 c8 c9 c10 c11 c12 c13 c14 c15 : va_E) (r : List va_E) : List va_E := c0 :: c1 :: c2 :: c3 :: c4 :: c5 :: c6 :: c7 :: c8 :: c9 :: c10 :: c11 :: c12 :: c13 :: c14 :: c15 :: r
def hM (g : xw_G) (th : Int32) (n t : Nat) (dl : Int32) (se ke : Nat → Nat) (oz : Nat → Int32) (f1 f2 e1 e2 : Nat → Nat) (ms : Int32) (al ch : Nat) (y1 y2 fa we : Nat → Nat) (sz mz : Nat → Int32) (sh to : Nat → Nat) (tk bl : Int32) (mi : Int64) : List va_E :=
  [.inr (4, [.int th, .int (nI n), .int (nI t), .int dl, .ref 17, .ref 18, .ref 19, .ref 20, .ref 21, .ref 22, .ref 23, .int ms, .long (lN al), .long (lN ch), .ref 24, .ref 25, .ref 26, .ref 27, .ref 28, .ref 29, .ref 30, .ref 31, .int tk, .int bl, .long mi]),
   xj g 7 se, xj g 7 ke, xz g 7 oz, xj g 7 f1, xj g 7 f2, xj g 7 e1, xj g 7 e2, xj g 7 y1, xj g 7 y2, xj g 7 fa, xj g 7 we, xz g 7 sz, xz g 7 mz, xj g 7 sh, xj g 7 to]
section XM
variable {g : xw_G} {ro : Bool} {cc : ByteArray} {nL : Nat} {own : String} {p : Program} {l : Launch} {e : Env} {R : Room} {s : State} {m : MethodId} {args : Array Value} {below : List Frame} {meth : Method} {c : Code} {cells slots : Nat} {Q : State → Prop}
variable {pc : Nat} {lv : List (Option Value)} {st : List Value} {hp : List va_E}
theorem xa_mulN (C : xw_C g cc nL own p s m args c) {a b : Nat} (hdg : decode cc pc = .ok (.lmul, 1)) (k : xw_At g ro nL p l e R s m args below meth c cells slots Q (pc + 1) lv (.long (lN (a * b)) :: st) hp) : xw_At g ro nL p l e R s m args below meth c cells slots Q (pc) lv (.long (lN b) :: .long (lN a) :: st) hp := xa_lmul C hdg (by rw [lN_mul]; exact k)
theorem xa_addN (C : xw_C g cc nL own p s m args c) {a b : Nat} (hdg : decode cc pc = .ok (.ladd, 1)) (k : xw_At g ro nL p l e R s m args below meth c cells slots Q (pc + 1) lv (.long (lN (a + b)) :: st) hp) : xw_At g ro nL p l e R s m args below meth c cells slots Q (pc) lv (.long (lN b) :: .long (lN a) :: st) hp := xa_ladd C hdg (by rw [lN_add]; exact k)
theorem xa_remN (C : xw_C g cc nL own p s m args c) {a m9 : Nat} (hdg : decode cc pc = .ok (.lrem, 1)) (ha : a < 2 ^ 63) (h0 : 0 < m9) (hm : m9 < 2 ^ 63) (k : xw_At g ro nL p l e R s m args below meth c cells slots Q (pc + 1) lv (.long (lN (a % m9)) :: st) hp) : xw_At g ro nL p l e R s m args below meth c cells slots Q (pc) lv (.long (lN m9) :: .long (lN a) :: st) hp := xa_lrem C hdg (fun q => absurd ((pk_lEQ (a := m9) (b := 0) hm (by decide)).mp q) (by omega)) (by rw [pk_lRem ha h0 hm]; exact k)
theorem xa_ldcN (C : xw_C g cc nL own p s m args c) (q : Nat) {idx : Nat} (hw : Cond.constantLong own idx (lN q) ∈ xw_tb) (hdg : decode cc pc = .ok (.ldc2_w idx, 3)) (k : xw_At g ro nL p l e R s m args below meth c cells slots Q (pc + 3) lv (.long (lN q) :: st) hp) : xw_At g ro nL p l e R s m args below meth c cells slots Q (pc) lv (st) hp := xa_ldc2 C hw hdg k
theorem xa_baloadN (C : xw_C g cc nL own p s m args c) {i N j : Nat} {f : Nat → Int32} (hdg : decode cc pc = .ok (.baload, 1)) (ho : hp[i]? = some (xz g N f)) (hj : j < N) (hN : N < 2 ^ 31) (k : xw_At g ro nL p l e R s m args below meth c cells slots Q (pc + 1) lv (.int (f j) :: st) hp) : xw_At g ro nL p l e R s m args below meth c cells slots Q (pc) lv (.int (nI j) :: .ref i :: st) hp := by
  refine xa_baload C hdg ho (vp_in_nI hj hN) ?_
  rw [nI_clamp (Nat.lt_trans hj hN)]
  exact k
theorem xa_bastoreN (C : xw_C g cc nL own p s m args c) {i N j : Nat} {f : Nat → Int32} {v : Int32} (hdg : decode cc pc = .ok (.bastore, 1)) (ho : hp[i]? = some (xz g N f)) (hj : j < N) (hN : N < 2 ^ 31) (hv : vp_nar .boolean v = v) (k : xw_At g false nL p l e R s m args below meth c cells slots Q (pc + 1) lv (st) (hp.set i (xz g N (upd f j v)))) : xw_At g ro nL p l e R s m args below meth c cells slots Q (pc) lv (.int v :: .int (nI j) :: .ref i :: st) hp := by
  refine xa_bastore C hdg ho (vp_in_nI hj hN) ?_
  rw [nI_clamp (Nat.lt_trans hj hN), hv]
  exact k
end XM
set_option maxHeartbeats 4000000 in
set_option maxRecDepth 100000 in
theorem p_M_mix (g : xw_G) (l : Launch) {c0 c1 c2 c3 c4 c5 c6 c7 c8 c9 c10 c11 c12 c13 c14 c15 : va_E} {n t : Nat} {se ke f1 f2 e1 e2 y1 y2 fa we sh to : Nat → Nat} {oz sz mz : Nat → Int32} {th dl ms tk bl : Int32} {al ch : Nat} {mi : Int64} {rest : List va_E} (x : Int64) : xm_R g l false m_M_mix [.ref 16, .long x] (hQ c0 c1 c2 c3 c4 c5 c6 c7 c8 c9 c10 c11 c12 c13 c14 c15 (hM g th n t dl se ke oz f1 f2 e1 e2 ms al ch y1 y2 fa we sz mz sh to tk bl mi ++ rest)) none (hQ c0 c1 c2 c3 c4 c5 c6 c7 c8 c9 c10 c11 c12 c13 c14 c15 (hM g th n t dl se ke oz f1 f2 e1 e2 ms al ch y1 y2 fa we sz mz sh to tk bl (dg_m mi x) ++ rest)) := by
  refine xm_of [some (.ref 16), some (.long x), none, none, none] rfl (Nat.le_of_ble_eq_true rfl) rfl ?_
  intro p e s m args below meth c C hr hk
  refine xa_aload_n C dM_mix_0 rfl ?_
  refine xa_get C f_M_70 dM_mix_1 rfl rfl ?_
  refine xa_lload_n C dM_mix_4 rfl ?_
  refine xa_lxor C dM_mix_5 ?_
  refine xa_ldc2 C (xw_in wk_M_78 rfl) dM_mix_6 ?_
  refine xa_lmul C dM_mix_9 ?_
  refine xa_lstore_n C dM_mix_10 (Nat.le_of_ble_eq_true rfl) ?_
  refine xa_aload_n C dM_mix_11 rfl ?_
  refine xa_lload_n C dM_mix_12 rfl ?_
  refine xa_lload_n C dM_mix_13 rfl ?_
  refine xa_bpN C 31 dM_mix_14 (by decide) ?_
  refine xa_lushr C dM_mix_16 ?_
  refine xa_lxor C dM_mix_17 ?_
  refine xa_put C f_M_70 u_M_24 dM_mix_18 rfl (Nat.le_of_ble_eq_true rfl) rfl rfl (fun _ h => by cases h) ?_
  exact xa_eq rfl rfl rfl (xa_vret C hr hk dM_mix_21)
set_option maxHeartbeats 4000000 in
set_option maxRecDepth 100000 in
theorem p_M_begins (g : xw_G) (l : Launch) {c0 c1 c2 c3 c4 c5 c6 c7 c8 c9 c10 c11 c12 c13 c14 c15 : va_E} {n t : Nat} {se ke f1 f2 e1 e2 y1 y2 fa we sh to : Nat → Nat} {oz sz mz : Nat → Int32} {th dl ms tk bl : Int32} {al ch : Nat} {mi : Int64} {rest : List va_E} (x : Int64) : xm_R g l false m_M_begins [.ref 16, .long x] (hQ c0 c1 c2 c3 c4 c5 c6 c7 c8 c9 c10 c11 c12 c13 c14 c15 (hM g th n t dl se ke oz f1 f2 e1 e2 ms al ch y1 y2 fa we sz mz sh to tk bl mi ++ rest)) none (hQ c0 c1 c2 c3 c4 c5 c6 c7 c8 c9 c10 c11 c12 c13 c14 c15 (hM g th n t dl se ke oz f1 f2 e1 e2 ms al ch y1 y2 fa we sz mz sh to tk bl (dg_m 0 x) ++ rest)) := by
  refine xm_of [some (.ref 16), some (.long x), none] rfl (Nat.le_of_ble_eq_true rfl) rfl ?_
  intro p e s m args below meth c C hr hk
  refine xa_aload_n C dM_begins_0 rfl ?_
  refine xa_lcN C 0 dM_begins_1 ?_
  refine xa_put C f_M_70 u_M_24 dM_begins_2 rfl (Nat.le_of_ble_eq_true rfl) rfl rfl (fun _ h => by cases h) ?_
  refine xa_aload_n C dM_begins_5 rfl ?_
  refine xa_lload_n C dM_begins_6 rfl ?_
  refine xa_callVv C (p_M_mix g l _) b_M_74 (xw_in wi_M_mix rfl) e_M_mix dM_begins_7 rfl rfl rfl rfl (Nat.le_of_ble_eq_true rfl) ⟨Nat.le_of_ble_eq_true rfl, Nat.le_of_ble_eq_true rfl⟩ ⟨Nat.zero_le _, Nat.zero_le _⟩ ?_
  exact xa_eq rfl rfl rfl (xa_vret C hr hk dM_begins_10)
set_option maxHeartbeats 4000000 in
set_option maxRecDepth 100000 in
theorem p_M_digest (g : xw_G) (l : Launch) {c0 c1 c2 c3 c4 c5 c6 c7 c8 c9 c10 c11 c12 c13 c14 c15 : va_E} {n t : Nat} {se ke f1 f2 e1 e2 y1 y2 fa we sh to : Nat → Nat} {oz sz mz : Nat → Int32} {th dl ms tk bl : Int32} {al ch : Nat} {mi : Int64} {rest : List va_E}  : xm_R g l true m_M_digest [.ref 16] (hQ c0 c1 c2 c3 c4 c5 c6 c7 c8 c9 c10 c11 c12 c13 c14 c15 (hM g th n t dl se ke oz f1 f2 e1 e2 ms al ch y1 y2 fa we sz mz sh to tk bl mi ++ rest)) (some (.long (lN (dg_f mi)))) (hQ c0 c1 c2 c3 c4 c5 c6 c7 c8 c9 c10 c11 c12 c13 c14 c15 (hM g th n t dl se ke oz f1 f2 e1 e2 ms al ch y1 y2 fa we sz mz sh to tk bl mi ++ rest)) := by
  refine xm_of [some (.ref 16)] rfl (Nat.le_of_ble_eq_true rfl) rfl ?_
  intro p e s m args below meth c C hr hk
  refine xa_aload_n C dM_digest_0 rfl ?_
  refine xa_get C f_M_70 dM_digest_1 rfl rfl ?_
  refine xa_icN C 1 dM_digest_4 ?_
  refine xa_lushr C dM_digest_5 ?_
  refine xa_ldc2 C (xw_in wk_M_68 rfl) dM_digest_6 ?_
  refine xa_lrem C dM_digest_9 (by decide) ?_
  rw [dg_fin]
  exact xa_eq rfl rfl rfl (xa_lret C hr hk dM_digest_10)
set_option maxHeartbeats 4000000 in
set_option maxRecDepth 100000 in
theorem p_M_pairNumber (g : xw_G) (l : Launch) {c0 c1 c2 c3 c4 c5 c6 c7 c8 c9 c10 c11 c12 c13 c14 c15 : va_E} {n t : Nat} {se ke f1 f2 e1 e2 y1 y2 fa we sh to : Nat → Nat} {oz sz mz : Nat → Int32} {th dl ms tk bl : Int32} {al ch : Nat} {mi : Int64} {rest : List va_E} (k9 w : Int64) {i : Nat} (hi : i ≤ 6) : xm_R g l false m_M_pairNumber [.ref 16, .long k9, .long w, .int (nI i)] (hQ c0 c1 c2 c3 c4 c5 c6 c7 c8 c9 c10 c11 c12 c13 c14 c15 (hM g th n t dl se ke oz f1 f2 e1 e2 ms al ch y1 y2 fa we sz mz sh to tk bl mi ++ rest)) (some (.long (lN (pd_ k9 w i)))) (hQ c0 c1 c2 c3 c4 c5 c6 c7 c8 c9 c10 c11 c12 c13 c14 c15 (hM g th n t dl se ke oz f1 f2 e1 e2 ms al ch y1 y2 fa we sz mz sh to tk bl (dg_m (dg_m (dg_m 0 k9) w) (lN i)) ++ rest)) := by
  refine xm_of [some (.ref 16), some (.long k9), none, some (.long w), none, some (.int (nI i))] rfl (Nat.le_of_ble_eq_true rfl) rfl ?_
  intro p e s m args below meth c C hr hk
  refine xa_aload_n C dM_pairNumber_0 rfl ?_
  refine xa_lload_n C dM_pairNumber_1 rfl ?_
  refine xa_callVv C (p_M_begins g l _) b_M_80 (xw_in wi_M_begins rfl) e_M_begins dM_pairNumber_2 rfl rfl rfl rfl (Nat.le_of_ble_eq_true rfl) ⟨Nat.le_of_ble_eq_true rfl, Nat.le_of_ble_eq_true rfl⟩ ⟨Nat.zero_le _, Nat.zero_le _⟩ ?_
  refine xa_aload_n C dM_pairNumber_5 rfl ?_
  refine xa_lload_n C dM_pairNumber_6 rfl ?_
  refine xa_callVv C (p_M_mix g l _) b_M_74 (xw_in wi_M_mix rfl) e_M_mix dM_pairNumber_7 rfl rfl rfl rfl (Nat.le_of_ble_eq_true rfl) ⟨Nat.le_of_ble_eq_true rfl, Nat.le_of_ble_eq_true rfl⟩ ⟨Nat.zero_le _, Nat.zero_le _⟩ ?_
  refine xa_aload_n C dM_pairNumber_10 rfl ?_
  refine xa_iload C dM_pairNumber_11 rfl ?_
  refine xa_i2lN C dM_pairNumber_13 (by omega) ?_
  refine xa_callVv C (p_M_mix g l _) b_M_74 (xw_in wi_M_mix rfl) e_M_mix dM_pairNumber_14 rfl rfl rfl rfl (Nat.le_of_ble_eq_true rfl) ⟨Nat.le_of_ble_eq_true rfl, Nat.le_of_ble_eq_true rfl⟩ ⟨Nat.zero_le _, Nat.zero_le _⟩ ?_
  refine xa_aload_n C dM_pairNumber_17 rfl ?_
  refine xa_callV1 C (p_M_digest g l) b_M_83 (xw_in wi_M_digest rfl) e_M_digest dM_pairNumber_18 rfl rfl rfl rfl (Nat.le_of_ble_eq_true rfl) ⟨Nat.le_of_ble_eq_true rfl, Nat.le_of_ble_eq_true rfl⟩ ⟨Nat.zero_le _, Nat.zero_le _⟩ ?_
  exact xa_eq rfl rfl rfl (xa_lret C hr hk dM_pairNumber_21)
set_option maxHeartbeats 4000000 in
set_option maxRecDepth 100000 in
theorem p_M_challengeOf (g : xw_G) (l : Launch) {c0 c1 c2 c3 c4 c5 c6 c7 c8 c9 c10 c11 c12 c13 c14 c15 : va_E} {n t : Nat} {se ke f1 f2 e1 e2 y1 y2 fa we sh to : Nat → Nat} {oz sz mz : Nat → Int32} {th dl ms tk bl : Int32} {al ch : Nat} {mi : Int64} {rest : List va_E} (r w : Int64) : xm_R g l false m_M_challengeOf [.ref 16, .long r, .long w] (hQ c0 c1 c2 c3 c4 c5 c6 c7 c8 c9 c10 c11 c12 c13 c14 c15 (hM g th n t dl se ke oz f1 f2 e1 e2 ms al ch y1 y2 fa we sz mz sh to tk bl mi ++ rest)) (some (.long (lN (dg_f (dg_m (dg_m (dg_m (dg_m 0 5) r) (lN (ke 0))) w))))) (hQ c0 c1 c2 c3 c4 c5 c6 c7 c8 c9 c10 c11 c12 c13 c14 c15 (hM g th n t dl se ke oz f1 f2 e1 e2 ms al ch y1 y2 fa we sz mz sh to tk bl (dg_m (dg_m (dg_m (dg_m 0 5) r) (lN (ke 0))) w) ++ rest)) := by
  refine xm_of [some (.ref 16), some (.long r), none, some (.long w), none] rfl (Nat.le_of_ble_eq_true rfl) rfl ?_
  intro p e s m args below meth c C hr hk
  refine xa_aload_n C dM_challengeOf_0 rfl ?_
  refine xa_ldc2 C (xw_in wk_M_87 rfl) dM_challengeOf_1 ?_
  refine xa_callVv C (p_M_begins g l _) b_M_80 (xw_in wi_M_begins rfl) e_M_begins dM_challengeOf_4 rfl rfl rfl rfl (Nat.le_of_ble_eq_true rfl) ⟨Nat.le_of_ble_eq_true rfl, Nat.le_of_ble_eq_true rfl⟩ ⟨Nat.zero_le _, Nat.zero_le _⟩ ?_
  refine xa_aload_n C dM_challengeOf_7 rfl ?_
  refine xa_lload_n C dM_challengeOf_8 rfl ?_
  refine xa_callVv C (p_M_mix g l _) b_M_74 (xw_in wi_M_mix rfl) e_M_mix dM_challengeOf_9 rfl rfl rfl rfl (Nat.le_of_ble_eq_true rfl) ⟨Nat.le_of_ble_eq_true rfl, Nat.le_of_ble_eq_true rfl⟩ ⟨Nat.zero_le _, Nat.zero_le _⟩ ?_
  refine xa_aload_n C dM_challengeOf_12 rfl ?_
  refine xa_aload_n C dM_challengeOf_13 rfl ?_
  refine xa_get C f_M_13 dM_challengeOf_14 rfl rfl ?_
  refine xa_icN C 0 dM_challengeOf_17 ?_
  refine xa_laloadN C dM_challengeOf_18 rfl ?_ (by omega) ?_
  · omega
  refine xa_callVv C (p_M_mix g l _) b_M_74 (xw_in wi_M_mix rfl) e_M_mix dM_challengeOf_19 rfl rfl rfl rfl (Nat.le_of_ble_eq_true rfl) ⟨Nat.le_of_ble_eq_true rfl, Nat.le_of_ble_eq_true rfl⟩ ⟨Nat.zero_le _, Nat.zero_le _⟩ ?_
  refine xa_aload_n C dM_challengeOf_22 rfl ?_
  refine xa_lload_n C dM_challengeOf_23 rfl ?_
  refine xa_callVv C (p_M_mix g l _) b_M_74 (xw_in wi_M_mix rfl) e_M_mix dM_challengeOf_24 rfl rfl rfl rfl (Nat.le_of_ble_eq_true rfl) ⟨Nat.le_of_ble_eq_true rfl, Nat.le_of_ble_eq_true rfl⟩ ⟨Nat.zero_le _, Nat.zero_le _⟩ ?_
  refine xa_aload_n C dM_challengeOf_27 rfl ?_
  refine xa_callV1 C (p_M_digest g l) b_M_83 (xw_in wi_M_digest rfl) e_M_digest dM_challengeOf_28 rfl rfl rfl rfl (Nat.le_of_ble_eq_true rfl) ⟨Nat.le_of_ble_eq_true rfl, Nat.le_of_ble_eq_true rfl⟩ ⟨Nat.zero_le _, Nat.zero_le _⟩ ?_
  exact xa_eq rfl rfl rfl (xa_lret C hr hk dM_challengeOf_31)
set_option maxHeartbeats 4000000 in
set_option maxRecDepth 100000 in
theorem p_M_thrown (g : xw_G) (l : Launch) {c0 c1 c2 c3 c4 c5 c6 c7 c8 c9 c10 c11 c12 c13 c14 c15 : va_E} {n t : Nat} {se ke f1 f2 e1 e2 y1 y2 fa we sh to : Nat → Nat} {oz sz mz : Nat → Int32} {th dl ms tk bl : Int32} {al ch : Nat} {mi : Int64} {rest : List va_E}  : xm_R g l true m_M_thrown [.ref 16] (hQ c0 c1 c2 c3 c4 c5 c6 c7 c8 c9 c10 c11 c12 c13 c14 c15 (hM g th n t dl se ke oz f1 f2 e1 e2 ms al ch y1 y2 fa we sz mz sh to tk bl mi ++ rest)) (some (.int th)) (hQ c0 c1 c2 c3 c4 c5 c6 c7 c8 c9 c10 c11 c12 c13 c14 c15 (hM g th n t dl se ke oz f1 f2 e1 e2 ms al ch y1 y2 fa we sz mz sh to tk bl mi ++ rest)) := by
  refine xm_of [some (.ref 16)] rfl (Nat.le_of_ble_eq_true rfl) rfl ?_
  intro p e s m args below meth c C hr hk
  refine xa_aload_n C dM_thrown_0 rfl ?_
  refine xa_get C f_M_63 dM_thrown_1 rfl rfl ?_
  exact xa_iret C hr hk dM_thrown_4
theorem tb_dig {e k : Nat} (he : e < 2 ^ 62) (hk : k < 64) : (lN e >>> ((nI k).toInt64 &&& 63)) &&& lN 3 = lN (e / 2 ^ k % 4) := by
  rw [wb_c k hk, pf_shr (d := k) (by rw [wb_tb, wb_sm k hk, BitVec.toNat_ofNat]; exact Nat.mod_eq_of_lt (by omega)) he, show (3 : Nat) = 2 ^ 2 - 1 from rfl, wb_mask (k := 2) (Nat.lt_of_le_of_lt (Nat.div_le_self _ _) (by omega)) (by decide)]
theorem tm_4 (k : Nat) : 2 ^ (2 * k) = 4 ^ k := by rw [Nat.pow_mul]
theorem xi_m2 (x : Int32) : x + Int32.ofInt (-2) = x - 2 := by rw [Int32.sub_eq_add_neg]; rfl
theorem nI_m2 (k : Nat) : nI (2 * (k + 1)) - 2 = nI (2 * k) := by
  rw [show (2 : Int32) = nI 2 from rfl, pk_sub (by omega)]
  congr 1
set_option maxHeartbeats 4000000 in
set_option maxRecDepth 100000 in
theorem p_M_power (g : xw_G) (l : Launch) {x n m9 : Nat} (hx : x < 2 ^ 31) (hn : n < 2 ^ 32) (h2 : 2 ≤ m9) (hm31 : m9 < 2 ^ 31) (hp : List va_E) : xm_R g l true m_M_power [.long (lN x), .long (lN n), .long (lN m9)] hp (some (.long (lN (x ^ n % m9)))) hp := by
  refine xm_of [some (.long (lN x)), none, some (.long (lN n)), none, some (.long (lN m9)), none, none, none, none, none, none] rfl (Nat.le_of_ble_eq_true rfl) rfl ?_
  intro p e s m args below meth c C hr hk
  have hm0 : 0 < m9 := by omega
  have hm9 : ∀ q, q % m9 < 2 ^ 31 := fun q => Nat.lt_trans (Nat.mod_lt q hm0) hm31
  have loop : ∀ k : Nat, k ≤ 16 → ∀ o9 : Option Value, xw_At g true 11 p l e (xm_rm m_M_power 0) s m args below meth c 0 0 (MQ below (xm_Q g true (some (.long (lN (x ^ n % m9)))) hp) args s 0 0 (xm_fr g true)) 7 [some (.long (lN x)), none, some (.long (lN n)), none, some (.long (lN m9)), none, some (.long (lN (x ^ (n / 4 ^ k) % m9))), none, some (.int (nI (2 * k) - 2)), o9, none] [] hp := by
    intro k
    induction k with
    | zero =>
      intro _ o9
      refine xa_iload C dM_power_7 rfl ?_
      refine xa_if_lt C dM_power_9 (tgt := 73) rfl (fun h9 => ?_) (fun h9 => ?_)
      · refine xa_lload C dM_power_73 rfl ?_
        rw [Nat.pow_zero, Nat.div_one]
        exact xa_lret C hr hk dM_power_75
      · exact absurd (by decide) h9
    | succ k ih =>
      intro hk16 o9
      rw [nI_m2 k]
      refine xa_iload C dM_power_7 rfl ?_
      refine xa_if_lt C dM_power_9 (tgt := 73) rfl (fun h9 => ?_) (fun h9 => ?_)
      · exact absurd h9 (nI_pos (by omega))
      · refine xa_lload C dM_power_12 rfl ?_
        refine xa_lload C dM_power_14 rfl ?_
        refine xa_mulN C dM_power_16 ?_
        refine xa_lload C dM_power_17 rfl ?_
        refine xa_remN C dM_power_19 (tm_62 (by first | exact hm9 _ | exact hx) (by first | exact hm9 _ | exact hx)) hm0 (by omega) ?_
        refine xa_lstore C dM_power_20 (Nat.le_of_ble_eq_true rfl) ?_
        refine xa_lload C dM_power_22 rfl ?_
        refine xa_lload C dM_power_24 rfl ?_
        refine xa_mulN C dM_power_26 ?_
        refine xa_lload C dM_power_27 rfl ?_
        refine xa_remN C dM_power_29 (tm_62 (by first | exact hm9 _ | exact hx) (by first | exact hm9 _ | exact hx)) hm0 (by omega) ?_
        refine xa_lstore C dM_power_30 (Nat.le_of_ble_eq_true rfl) ?_
        refine xa_lload_n C dM_power_32 rfl ?_
        refine xa_iload C dM_power_33 rfl ?_
        refine xa_lshr C dM_power_35 ?_
        refine xa_ldcN C 3 (xw_in wk_M_66 rfl) dM_power_36 ?_
        refine xa_land C dM_power_39 ?_
        rw [tb_dig (e := n) (k := 2 * k) (by omega) (by omega), tm_4, tm_sq, tm_sq]
        refine xa_lstore C dM_power_40 (Nat.le_of_ble_eq_true rfl) ?_
        have inner : ∀ q : Nat, q ≤ n / 4 ^ k % 4 → xw_At g true 11 p l e (xm_rm m_M_power 0) s m args below meth c 0 0 (MQ below (xm_Q g true (some (.long (lN (x ^ n % m9)))) hp) args s 0 0 (xm_fr g true)) 42 [some (.long (lN x)), none, some (.long (lN n)), none, some (.long (lN m9)), none, some (.long (lN (x ^ (2 * (2 * (n / 4 ^ (k + 1))) + (n / 4 ^ k % 4 - q)) % m9))), none, some (.int (nI (2 * k))), some (.long (lN q)), none] [] hp := by
          intro q
          induction q with
          | zero =>
            intro _
            refine xa_lload C dM_power_42 rfl ?_
            refine xa_lcN C 0 dM_power_44 ?_
            refine xa_lcmp C dM_power_45 ?_
            refine xa_if_le C dM_power_46 (tgt := 67) rfl (fun h46 => ?_) (fun h46 => ?_)
            · rw [Nat.sub_zero, show 2 * (2 * (n / 4 ^ (k + 1))) + n / 4 ^ k % 4 = n / 4 ^ k by have := tm_dig n k; omega]
              refine xa_iinc C dM_power_67 rfl (Nat.le_of_ble_eq_true rfl) ?_
              refine xa_goto C dM_power_70 (tgt := 7) rfl ?_
              rw [xi_m2]
              exact ih (by omega) _
            · exact absurd ((lg_cmp_le _ _).mpr (Int64.le_refl _)) h46
          | succ q ihq =>
            intro hq
            refine xa_lload C dM_power_42 rfl ?_
            refine xa_lcN C 0 dM_power_44 ?_
            refine xa_lcmp C dM_power_45 ?_
            refine xa_if_le C dM_power_46 (tgt := 67) rfl (fun h46 => ?_) (fun h46 => ?_)
            · exact absurd ((pk_lLE (a := q + 1) (b := 0) (by omega) (by decide)).mp ((lg_cmp_le _ _).mp h46)) (by omega)
            · refine xa_lload C dM_power_49 rfl ?_
              refine xa_lload_n C dM_power_51 rfl ?_
              refine xa_mulN C dM_power_52 ?_
              refine xa_lload C dM_power_53 rfl ?_
              refine xa_remN C dM_power_55 (tm_62 (by first | exact hm9 _ | exact hx) (by first | exact hm9 _ | exact hx)) hm0 (by omega) ?_
              rw [tm_mu, show 2 * (2 * (n / 4 ^ (k + 1))) + (n / 4 ^ k % 4 - (q + 1)) + 1 = 2 * (2 * (n / 4 ^ (k + 1))) + (n / 4 ^ k % 4 - q) by omega]
              refine xa_lstore C dM_power_56 (Nat.le_of_ble_eq_true rfl) ?_
              refine xa_lload C dM_power_58 rfl ?_
              refine xa_lcN C 1 dM_power_60 ?_
              refine xa_lsub C dM_power_61 ?_
              rw [show lN (q + 1) - lN ((1 : Fin 2) : Nat) = lN q from lN_sub (a := q + 1) (b := 1) (by omega)]
              refine xa_lstore C dM_power_62 (Nat.le_of_ble_eq_true rfl) ?_
              refine xa_goto C dM_power_64 (tgt := 42) rfl ?_
              exact ihq (by omega)
        have h := inner (n / 4 ^ k % 4) (Nat.le_refl _)
        rw [Nat.sub_self, Nat.add_zero] at h
        exact h
  refine xa_lcN C 1 dM_power_0 ?_
  refine xa_lstore C dM_power_1 (Nat.le_of_ble_eq_true rfl) ?_
  refine xa_bpN C 30 dM_power_3 (by decide) ?_
  refine xa_istore C dM_power_5 (Nat.le_of_ble_eq_true rfl) ?_
  have h := loop 16 (Nat.le_refl _) none
  rw [show n / 4 ^ 16 = 0 from Nat.div_eq_of_lt (by omega), Nat.pow_zero, Nat.mod_eq_of_lt (by omega : 1 < m9), show nI (2 * 16) - 2 = nI 30 from nI_m2 15] at h
  exact h
end
section
/-! the reference: tests, weights, sets -/
set_option maxHeartbeats 4000000 in
set_option maxRecDepth 100000 in
theorem p_M_isNumber (g : xw_G) (l : Launch) (x : Int64) (hp : List va_E) : xm_R g l true m_M_isNumber [.long x] hp (some (.int (xb (0 ≤ x ∧ x < 1073741789)))) hp := by
  refine xm_of [some (.long x), none] rfl (Nat.le_of_ble_eq_true rfl) rfl ?_
  intro p e s m args below meth c C hr hk
  refine xa_lload_n C dM_isNumber_0 rfl ?_
  refine xa_lcN C 0 dM_isNumber_1 ?_
  refine xa_lcmp C dM_isNumber_2 ?_
  refine xa_if_lt C dM_isNumber_3 (tgt := 18) rfl (fun h3 => ?_) (fun h3 => ?_)
  · refine xa_icN C 0 dM_isNumber_18 ?_
    exact xa_eq rfl (congrArg (fun z => [Value.int z]) (xb_f (P := 0 ≤ x ∧ x < 1073741789) (by simp only [lg_cmp_lt, lg_cmp_ge, Int64.not_lt, Int64.not_le] at *; intro q; first | exact absurd q.1 (Int64.not_le.mpr (by assumption)) | exact absurd q.2 (Int64.not_lt.mpr (by assumption)))).symm) rfl (xa_zret C hr hk (xb_nar _) dM_isNumber_19)
  · refine xa_lload_n C dM_isNumber_6 rfl ?_
    refine xa_ldc2 C (xw_in wk_M_68 rfl) dM_isNumber_7 ?_
    refine xa_lcmp C dM_isNumber_10 ?_
    refine xa_if_ge C dM_isNumber_11 (tgt := 18) rfl (fun h11 => ?_) (fun h11 => ?_)
    · refine xa_icN C 0 dM_isNumber_18 ?_
      exact xa_eq rfl (congrArg (fun z => [Value.int z]) (xb_f (P := 0 ≤ x ∧ x < 1073741789) (by simp only [lg_cmp_lt, lg_cmp_ge, Int64.not_lt, Int64.not_le] at *; intro q; first | exact absurd q.1 (Int64.not_le.mpr (by assumption)) | exact absurd q.2 (Int64.not_lt.mpr (by assumption)))).symm) rfl (xa_zret C hr hk (xb_nar _) dM_isNumber_19)
    · refine xa_icN C 1 dM_isNumber_14 ?_
      refine xa_goto C dM_isNumber_15 (tgt := 19) rfl ?_
      exact xa_eq rfl (congrArg (fun z => [Value.int z]) (xb_t (P := 0 ≤ x ∧ x < 1073741789) (by simp only [lg_cmp_lt, lg_cmp_ge, Int64.not_lt, Int64.not_le] at *; exact ⟨by assumption, by assumption⟩)).symm) rfl (xa_zret C hr hk (xb_nar _) dM_isNumber_19)
set_option maxHeartbeats 4000000 in
set_option maxRecDepth 100000 in
theorem p_M_isSigner (g : xw_G) (l : Launch) {c0 c1 c2 c3 c4 c5 c6 c7 c8 c9 c10 c11 c12 c13 c14 c15 : va_E} {n t : Nat} {se ke f1 f2 e1 e2 y1 y2 fa we sh to : Nat → Nat} {oz sz mz : Nat → Int32} {th dl ms tk bl : Int32} {al ch : Nat} {mi : Int64} {rest : List va_E} (x : Int32) : xm_R g l true m_M_isSigner [.ref 16, .int x] (hQ c0 c1 c2 c3 c4 c5 c6 c7 c8 c9 c10 c11 c12 c13 c14 c15 (hM g th n t dl se ke oz f1 f2 e1 e2 ms al ch y1 y2 fa we sz mz sh to tk bl mi ++ rest)) (some (.int (xb (sg n x)))) (hQ c0 c1 c2 c3 c4 c5 c6 c7 c8 c9 c10 c11 c12 c13 c14 c15 (hM g th n t dl se ke oz f1 f2 e1 e2 ms al ch y1 y2 fa we sz mz sh to tk bl mi ++ rest)) := by
  refine xm_of [some (.ref 16), some (.int x)] rfl (Nat.le_of_ble_eq_true rfl) rfl ?_
  intro p e s m args below meth c C hr hk
  refine xa_iload_n C dM_isSigner_0 rfl ?_
  refine xa_icN C 1 dM_isSigner_1 ?_
  refine xa_icmp_lt C dM_isSigner_2 (tgt := 17) rfl (fun h2 => ?_) (fun h2 => ?_)
  · refine xa_icN C 0 dM_isSigner_17 ?_
    exact xa_eq rfl (congrArg (fun z => [Value.int z]) (xb_f (P := sg n x) (fun q => by first | exact q.1 h2 | exact q.2 h10)).symm) rfl (xa_zret C hr hk (xb_nar _) dM_isSigner_18)
  · refine xa_iload_n C dM_isSigner_5 rfl ?_
    refine xa_aload_n C dM_isSigner_6 rfl ?_
    refine xa_get C f_M_56 dM_isSigner_7 rfl rfl ?_
    refine xa_icmp_gt C dM_isSigner_10 (tgt := 17) rfl (fun h10 => ?_) (fun h10 => ?_)
    · refine xa_icN C 0 dM_isSigner_17 ?_
      exact xa_eq rfl (congrArg (fun z => [Value.int z]) (xb_f (P := sg n x) (fun q => by first | exact q.1 h2 | exact q.2 h10)).symm) rfl (xa_zret C hr hk (xb_nar _) dM_isSigner_18)
    · refine xa_icN C 1 dM_isSigner_13 ?_
      refine xa_goto C dM_isSigner_14 (tgt := 18) rfl ?_
      exact xa_eq rfl (congrArg (fun z => [Value.int z]) (xb_t (P := sg n x) (⟨h2, h10⟩)).symm) rfl (xa_zret C hr hk (xb_nar _) dM_isSigner_18)
set_option maxHeartbeats 4000000 in
set_option maxRecDepth 100000 in
theorem p_M_in (g : xw_G) (l : Launch) (x i : Int32) (hp : List va_E) : xm_R g l true m_M_in [.int x, .int i] hp (some (.int (xb ((x >>> ((i - nI 1) &&& 31)) &&& nI 1 = nI 1)))) hp := by
  refine xm_of [some (.int x), some (.int i)] rfl (Nat.le_of_ble_eq_true rfl) rfl ?_
  intro p e s m args below meth c C hr hk
  refine xa_iload_n C dM_in_0 rfl ?_
  refine xa_iload_n C dM_in_1 rfl ?_
  refine xa_icN C 1 dM_in_2 ?_
  refine xa_isub C dM_in_3 ?_
  refine xa_ishr C dM_in_4 ?_
  refine xa_icN C 1 dM_in_5 ?_
  refine xa_iand C dM_in_6 ?_
  refine xa_icN C 1 dM_in_7 ?_
  refine xa_icmp_ne C dM_in_8 (tgt := 15) rfl (fun h8 => ?_) (fun h8 => ?_)
  · refine xa_icN C 0 dM_in_15 ?_
    exact xa_eq rfl (congrArg (fun z => [Value.int z]) (xb_f (P := (x >>> ((i - nI 1) &&& 31)) &&& nI 1 = nI 1) (h8)).symm) rfl (xa_zret C hr hk (xb_nar _) dM_in_16)
  · refine xa_icN C 1 dM_in_11 ?_
    refine xa_goto C dM_in_12 (tgt := 16) rfl ?_
    exact xa_eq rfl (congrArg (fun z => [Value.int z]) (xb_t (P := (x >>> ((i - nI 1) &&& 31)) &&& nI 1 = nI 1) (h8)).symm) rfl (xa_zret C hr hk (xb_nar _) dM_in_16)
theorem p_M_inN (g : xw_G) (l : Launch) (x : Int32) {j : Nat} (h1 : 1 ≤ j) (h6 : j ≤ 6) (hp : List va_E) : xm_R g l true m_M_in [.int x, .int (nI j)] hp (some (.int (xb (hs x j = true)))) hp := by
  have h := p_M_in g l x (nI j) hp
  rw [xb_iff (hs_in (s := x) h1 h6)] at h
  exact h
def ct_ (x : Int32) : Nat → Nat
  | 0 => 0
  | k + 1 => if hs x (k + 1) = true then ct_ x k + 1 else ct_ x k
theorem ct_le (x : Int32) : ∀ k, ct_ x k ≤ k
  | 0 => Nat.le_refl _
  | k + 1 => by
    rw [ct_]
    have := ct_le x k
    by_cases q : hs x (k + 1) = true
    · rw [if_pos q]; omega
    · rw [if_neg q]; omega
abbrev em (n t : Nat) (x : Int32) : Prop := ¬ x < 0 ∧ ¬ nI 1 <<< (nI n &&& 31) ≤ x ∧ ¬ nI (ct_ x n) < nI t
theorem tz_sub : ∀ a, a < 8 → ∀ b, b < 8 → (nI a - nI b).toInt64 + lN 1073741789 = lN (a + 1073741789 - b) := by decide +kernel
set_option maxHeartbeats 4000000 in
set_option maxRecDepth 100000 in
theorem p_M_isSet (g : xw_G) (l : Launch) {c0 c1 c2 c3 c4 c5 c6 c7 c8 c9 c10 c11 c12 c13 c14 c15 : va_E} {n t : Nat} {se ke f1 f2 e1 e2 y1 y2 fa we sh to : Nat → Nat} {oz sz mz : Nat → Int32} {th dl ms tk bl : Int32} {al ch : Nat} {mi : Int64} {rest : List va_E} (hn : n ≤ 6) (x : Int32) : xm_R g l true m_M_isSet [.ref 16, .int x] (hQ c0 c1 c2 c3 c4 c5 c6 c7 c8 c9 c10 c11 c12 c13 c14 c15 (hM g th n t dl se ke oz f1 f2 e1 e2 ms al ch y1 y2 fa we sz mz sh to tk bl mi ++ rest)) (some (.int (xb (em n t x)))) (hQ c0 c1 c2 c3 c4 c5 c6 c7 c8 c9 c10 c11 c12 c13 c14 c15 (hM g th n t dl se ke oz f1 f2 e1 e2 ms al ch y1 y2 fa we sz mz sh to tk bl mi ++ rest)) := by
  refine xm_of [some (.ref 16), some (.int x), none, none] rfl (Nat.le_of_ble_eq_true rfl) rfl ?_
  intro p e s m args below meth c C hr hk
  have loop : ∀ d k : Nat, k + d = n → xw_At g true 4 p l e (xm_rm m_M_isSet 0) s m args below meth c 0 0 (MQ below (xm_Q g true (some (.int (xb (em n t x)))) (hQ c0 c1 c2 c3 c4 c5 c6 c7 c8 c9 c10 c11 c12 c13 c14 c15 (hM g th n t dl se ke oz f1 f2 e1 e2 ms al ch y1 y2 fa we sz mz sh to tk bl mi ++ rest))) args s 0 0 (xm_fr g true)) 4 [some (.ref 16), some (.int x), some (.int (nI (ct_ x k))), some (.int (nI (k + 1)))] [] (hQ c0 c1 c2 c3 c4 c5 c6 c7 c8 c9 c10 c11 c12 c13 c14 c15 (hM g th n t dl se ke oz f1 f2 e1 e2 ms al ch y1 y2 fa we sz mz sh to tk bl mi ++ rest)) := by
    intro d
    induction d with
    | zero =>
      intro k hk9
      obtain rfl : k = n := by omega
      refine xa_iload_n C dM_isSet_4 rfl ?_
      refine xa_aload_n C dM_isSet_5 rfl ?_
      refine xa_get C f_M_56 dM_isSet_6 rfl rfl ?_
      refine xa_icmp_gt C dM_isSet_9 (tgt := 34) rfl (fun h9 => ?_) (fun h9 => ?_)
      · refine xa_iload_n C dM_isSet_34 rfl ?_
        refine xa_if_lt C dM_isSet_35 (tgt := 60) rfl (fun h35 => ?_) (fun h35 => ?_)
        · refine xa_icN C 0 dM_isSet_60 ?_
          exact xa_eq rfl (congrArg (fun z => [Value.int z]) (xb_f (P := em k t x) (fun q => q.1 h35)).symm) rfl (xa_zret C hr hk (xb_nar _) dM_isSet_61)
        · refine xa_iload_n C dM_isSet_38 rfl ?_
          refine xa_icN C 1 dM_isSet_39 ?_
          refine xa_aload_n C dM_isSet_40 rfl ?_
          refine xa_get C f_M_56 dM_isSet_41 rfl rfl ?_
          refine xa_ishl C dM_isSet_44 ?_
          refine xa_icmp_ge C dM_isSet_45 (tgt := 60) rfl (fun h45 => ?_) (fun h45 => ?_)
          · refine xa_icN C 0 dM_isSet_60 ?_
            exact xa_eq rfl (congrArg (fun z => [Value.int z]) (xb_f (P := em k t x) (fun q => q.2.1 h45)).symm) rfl (xa_zret C hr hk (xb_nar _) dM_isSet_61)
          · refine xa_iload_n C dM_isSet_48 rfl ?_
            refine xa_aload_n C dM_isSet_49 rfl ?_
            refine xa_get C f_M_60 dM_isSet_50 rfl rfl ?_
            refine xa_icmp_lt C dM_isSet_53 (tgt := 60) rfl (fun h53 => ?_) (fun h53 => ?_)
            · refine xa_icN C 0 dM_isSet_60 ?_
              exact xa_eq rfl (congrArg (fun z => [Value.int z]) (xb_f (P := em k t x) (fun q => q.2.2 h53)).symm) rfl (xa_zret C hr hk (xb_nar _) dM_isSet_61)
            · refine xa_icN C 1 dM_isSet_56 ?_
              refine xa_goto C dM_isSet_57 (tgt := 61) rfl ?_
              exact xa_eq rfl (congrArg (fun z => [Value.int z]) (xb_t (P := em k t x) (⟨h35, h45, h53⟩)).symm) rfl (xa_zret C hr hk (xb_nar _) dM_isSet_61)
      · exact absurd (nI_lt (by omega) (by omega)) h9
    | succ d ih =>
      intro k hk9
      refine xa_iload_n C dM_isSet_4 rfl ?_
      refine xa_aload_n C dM_isSet_5 rfl ?_
      refine xa_get C f_M_56 dM_isSet_6 rfl rfl ?_
      refine xa_icmp_gt C dM_isSet_9 (tgt := 34) rfl (fun h9 => ?_) (fun h9 => ?_)
      · exact absurd h9 (nI_nlt (by omega) (by omega))
      · refine xa_iload_n C dM_isSet_12 rfl ?_
        refine xa_iload_n C dM_isSet_13 rfl ?_
        refine xa_callS1 C (p_M_inN g l _ (by omega) (by omega) _) b_M_89 (xw_in wt_M_in rfl) dM_isSet_14 rfl (Nat.le_of_ble_eq_true rfl) ⟨Nat.le_of_ble_eq_true rfl, Nat.le_of_ble_eq_true rfl⟩ ⟨Nat.zero_le _, Nat.zero_le _⟩ ?_
        refine xa_if_eq C dM_isSet_17 (tgt := 26) rfl (fun h17 => ?_) (fun h17 => ?_)
        · have hb := xb_hs0 h17
          refine xa_iload_n C dM_isSet_26 rfl ?_
          refine xa_istore_n C dM_isSet_27 (Nat.le_of_ble_eq_true rfl) ?_
          refine xa_incN C dM_isSet_28 rfl (Nat.le_of_ble_eq_true rfl) ?_
          refine xa_goto C dM_isSet_31 (tgt := 4) rfl ?_
          have h := ih (k + 1) (by omega)
          rw [ct_, if_neg (by rw [hb]; decide)] at h
          exact h
        · have hb := xb_hs1 h17
          refine xa_iload_n C dM_isSet_20 rfl ?_
          refine xa_icN C 1 dM_isSet_21 ?_
          refine xa_iadd C dM_isSet_22 ?_
          rw [nI_add]
          refine xa_goto C dM_isSet_23 (tgt := 27) rfl ?_
          refine xa_istore_n C dM_isSet_27 (Nat.le_of_ble_eq_true rfl) ?_
          refine xa_incN C dM_isSet_28 rfl (Nat.le_of_ble_eq_true rfl) ?_
          refine xa_goto C dM_isSet_31 (tgt := 4) rfl ?_
          have h := ih (k + 1) (by omega)
          rw [ct_, if_pos hb] at h
          exact h
  refine xa_icN C 0 dM_isSet_0 ?_
  refine xa_istore_n C dM_isSet_1 (Nat.le_of_ble_eq_true rfl) ?_
  refine xa_icN C 1 dM_isSet_2 ?_
  refine xa_istore_n C dM_isSet_3 (Nat.le_of_ble_eq_true rfl) ?_
  exact loop n 0 (by omega)
set_option maxHeartbeats 4000000 in
set_option maxRecDepth 100000 in
theorem p_M_weightIn (g : xw_G) (l : Launch) {c0 c1 c2 c3 c4 c5 c6 c7 c8 c9 c10 c11 c12 c13 c14 c15 : va_E} {n t : Nat} {se ke f1 f2 e1 e2 y1 y2 fa we sh to : Nat → Nat} {oz sz mz : Nat → Int32} {th dl ms tk bl : Int32} {al ch : Nat} {mi : Int64} {rest : List va_E} (hn : n ≤ 6) (x : Int32) {i : Nat} (hi : i ≤ 6) : xm_R g l true m_M_weightIn [.ref 16, .int x, .int (nI i)] (hQ c0 c1 c2 c3 c4 c5 c6 c7 c8 c9 c10 c11 c12 c13 c14 c15 (hM g th n t dl se ke oz f1 f2 e1 e2 ms al ch y1 y2 fa we sz mz sh to tk bl mi ++ rest)) (some (.long (lN (wt_ x n i)))) (hQ c0 c1 c2 c3 c4 c5 c6 c7 c8 c9 c10 c11 c12 c13 c14 c15 (hM g th n t dl se ke oz f1 f2 e1 e2 ms al ch y1 y2 fa we sz mz sh to tk bl mi ++ rest)) := by
  refine xm_of [some (.ref 16), some (.int x), some (.int (nI i)), none, none, none, none, none] rfl (Nat.le_of_ble_eq_true rfl) rfl ?_
  intro p e s m args below meth c C hr hk
  have loop : ∀ d k : Nat, k + d = n → xw_At g true 8 p l e (xm_rm m_M_weightIn 0) s m args below meth c 0 0 (MQ below (xm_Q g true (some (.long (lN (wt_ x n i)))) (hQ c0 c1 c2 c3 c4 c5 c6 c7 c8 c9 c10 c11 c12 c13 c14 c15 (hM g th n t dl se ke oz f1 f2 e1 e2 ms al ch y1 y2 fa we sz mz sh to tk bl mi ++ rest))) args s 0 0 (xm_fr g true)) 8 [some (.ref 16), some (.int x), some (.int (nI i)), some (.long (lN (aw_ x i k))), none, some (.long (lN (bw_ x i k))), none, some (.int (nI (k + 1)))] [] (hQ c0 c1 c2 c3 c4 c5 c6 c7 c8 c9 c10 c11 c12 c13 c14 c15 (hM g th n t dl se ke oz f1 f2 e1 e2 ms al ch y1 y2 fa we sz mz sh to tk bl mi ++ rest)) := by
    intro d
    induction d with
    | zero =>
      intro k hk9
      obtain rfl : k = n := by omega
      refine xa_iload C dM_weightIn_8 rfl ?_
      refine xa_aload_n C dM_weightIn_10 rfl ?_
      refine xa_get C f_M_56 dM_weightIn_11 rfl rfl ?_
      refine xa_icmp_gt C dM_weightIn_14 (tgt := 70) rfl (fun h14 => ?_) (fun h14 => ?_)
      · refine xa_lload_n C dM_weightIn_70 rfl ?_
        refine xa_lload C dM_weightIn_71 rfl ?_
        refine xa_ldcN C 1073741787 (xw_in wk_M_93 rfl) dM_weightIn_73 ?_
        refine xa_ldcN C 1073741789 (xw_in wk_M_68 rfl) dM_weightIn_76 ?_
        refine xa_callS1 C (p_M_power g l (bw_lt _ _ _) (by decide) (by decide) (by decide) _) b_M_95 (xw_in wt_M_power rfl) dM_weightIn_79 rfl (Nat.le_of_ble_eq_true rfl) ⟨Nat.le_of_ble_eq_true rfl, Nat.le_of_ble_eq_true rfl⟩ ⟨Nat.zero_le _, Nat.zero_le _⟩ ?_
        refine xa_mulN C dM_weightIn_82 ?_
        refine xa_ldcN C 1073741789 (xw_in wk_M_68 rfl) dM_weightIn_83 ?_
        refine xa_remN C dM_weightIn_86 (by first | exact tm_62 (aw_lt _ _ _) (by omega) | exact tm_62 (bw_lt _ _ _) (tb_q _) | exact tm_62 (aw_lt _ _ _) (tb_q _) | omega) (by decide) (by decide) ?_
        exact xa_lret C hr hk dM_weightIn_87
      · exact absurd (nI_lt (by omega) (by omega)) h14
    | succ d ih =>
      intro k hk9
      refine xa_iload C dM_weightIn_8 rfl ?_
      refine xa_aload_n C dM_weightIn_10 rfl ?_
      refine xa_get C f_M_56 dM_weightIn_11 rfl rfl ?_
      refine xa_icmp_gt C dM_weightIn_14 (tgt := 70) rfl (fun h14 => ?_) (fun h14 => ?_)
      · exact absurd h14 (nI_nlt (by omega) (by omega))
      · refine xa_iload_n C dM_weightIn_17 rfl ?_
        refine xa_iload C dM_weightIn_18 rfl ?_
        refine xa_callS1 C (p_M_inN g l _ (by omega) (by omega) _) b_M_89 (xw_in wt_M_in rfl) dM_weightIn_20 rfl (Nat.le_of_ble_eq_true rfl) ⟨Nat.le_of_ble_eq_true rfl, Nat.le_of_ble_eq_true rfl⟩ ⟨Nat.zero_le _, Nat.zero_le _⟩ ?_
        refine xa_if_eq C dM_weightIn_23 (tgt := 64) rfl (fun h23 => ?_) (fun h23 => ?_)
        · have hb := xb_hs0 h23
          refine xa_incN C dM_weightIn_64 rfl (Nat.le_of_ble_eq_true rfl) ?_
          refine xa_goto C dM_weightIn_67 (tgt := 8) rfl ?_
          have h := ih (k + 1) (by omega)
          rw [aw_, bw_, if_neg (fun q => by rw [hb] at q; exact absurd q.2 (by decide)), if_neg (fun q => by rw [hb] at q; exact absurd q.2 (by decide))] at h
          exact h
        · have hb := xb_hs1 h23
          refine xa_iload C dM_weightIn_26 rfl ?_
          refine xa_iload_n C dM_weightIn_28 rfl ?_
          refine xa_icmp_eq C dM_weightIn_29 (tgt := 64) rfl (fun h29 => ?_) (fun h29 => ?_)
          · have e : k + 1 = i := (nI_eq (by omega) (by omega)).mp h29
            refine xa_incN C dM_weightIn_64 rfl (Nat.le_of_ble_eq_true rfl) ?_
            refine xa_goto C dM_weightIn_67 (tgt := 8) rfl ?_
            have h := ih (k + 1) (by omega)
            rw [aw_, bw_, if_neg (fun q => q.1 e), if_neg (fun q => q.1 e)] at h
            exact h
          · have e : k + 1 ≠ i := fun q => h29 (by rw [q])
            refine xa_lload_n C dM_weightIn_32 rfl ?_
            refine xa_iload C dM_weightIn_33 rfl ?_
            refine xa_i2lN C dM_weightIn_35 (by omega) ?_
            refine xa_mulN C dM_weightIn_36 ?_
            refine xa_ldcN C 1073741789 (xw_in wk_M_68 rfl) dM_weightIn_37 ?_
            refine xa_remN C dM_weightIn_40 (by first | exact tm_62 (aw_lt _ _ _) (by omega) | exact tm_62 (bw_lt _ _ _) (tb_q _) | exact tm_62 (aw_lt _ _ _) (tb_q _) | omega) (by decide) (by decide) ?_
            refine xa_lstore_n C dM_weightIn_41 (Nat.le_of_ble_eq_true rfl) ?_
            refine xa_lload C dM_weightIn_42 rfl ?_
            refine xa_iload C dM_weightIn_44 rfl ?_
            refine xa_iload_n C dM_weightIn_46 rfl ?_
            refine xa_isub C dM_weightIn_47 ?_
            refine xa_i2l C dM_weightIn_48 ?_
            refine xa_ldcN C 1073741789 (xw_in wk_M_68 rfl) dM_weightIn_49 ?_
            refine xa_ladd C dM_weightIn_52 ?_
            rw [tz_sub (k + 1) (by omega) i (by omega)]
            refine xa_ldcN C 1073741789 (xw_in wk_M_68 rfl) dM_weightIn_53 ?_
            refine xa_remN C dM_weightIn_56 (by first | exact tm_62 (aw_lt _ _ _) (by omega) | exact tm_62 (bw_lt _ _ _) (tb_q _) | exact tm_62 (aw_lt _ _ _) (tb_q _) | omega) (by decide) (by decide) ?_
            refine xa_mulN C dM_weightIn_57 ?_
            refine xa_ldcN C 1073741789 (xw_in wk_M_68 rfl) dM_weightIn_58 ?_
            refine xa_remN C dM_weightIn_61 (by first | exact tm_62 (aw_lt _ _ _) (by omega) | exact tm_62 (bw_lt _ _ _) (tb_q _) | exact tm_62 (aw_lt _ _ _) (tb_q _) | omega) (by decide) (by decide) ?_
            refine xa_lstore C dM_weightIn_62 (Nat.le_of_ble_eq_true rfl) ?_
            refine xa_incN C dM_weightIn_64 rfl (Nat.le_of_ble_eq_true rfl) ?_
            refine xa_goto C dM_weightIn_67 (tgt := 8) rfl ?_
            have h := ih (k + 1) (by omega)
            rw [aw_, bw_, if_pos ⟨e, hb⟩, if_pos ⟨e, hb⟩] at h
            exact h
  refine xa_lcN C 1 dM_weightIn_0 ?_
  refine xa_lstore_n C dM_weightIn_1 (Nat.le_of_ble_eq_true rfl) ?_
  refine xa_lcN C 1 dM_weightIn_2 ?_
  refine xa_lstore C dM_weightIn_3 (Nat.le_of_ble_eq_true rfl) ?_
  refine xa_icN C 1 dM_weightIn_5 ?_
  refine xa_istore C dM_weightIn_6 (Nat.le_of_ble_eq_true rfl) ?_
  exact loop n 0 (by omega)
set_option maxHeartbeats 4000000 in
set_option maxRecDepth 100000 in
theorem p_M_isMember_no (g : xw_G) (l : Launch) {c0 c1 c2 c3 c4 c5 c6 c7 c8 c9 c10 c11 c12 c13 c14 c15 : va_E} {n t : Nat} {se ke f1 f2 e1 e2 y1 y2 fa we sh to : Nat → Nat} {oz sz mz : Nat → Int32} {th dl ms tk bl : Int32} {al ch : Nat} {mi : Int64} {rest : List va_E} (x : Int32) (hx : ¬ sg n x) : xm_R g l true m_M_isMember [.ref 16, .int x] (hQ c0 c1 c2 c3 c4 c5 c6 c7 c8 c9 c10 c11 c12 c13 c14 c15 (hM g th n t dl se ke oz f1 f2 e1 e2 ms al ch y1 y2 fa we sz mz sh to tk bl mi ++ rest)) (some (.int 0)) (hQ c0 c1 c2 c3 c4 c5 c6 c7 c8 c9 c10 c11 c12 c13 c14 c15 (hM g th n t dl se ke oz f1 f2 e1 e2 ms al ch y1 y2 fa we sz mz sh to tk bl mi ++ rest)) := by
  refine xm_of [some (.ref 16), some (.int x)] rfl (Nat.le_of_ble_eq_true rfl) rfl ?_
  intro p e s m args below meth c C hr hk
  refine xa_aload_n C dM_isMember_0 rfl ?_
  refine xa_iload_n C dM_isMember_1 rfl ?_
  refine xa_callV1 C (p_M_isSigner g l _) b_M_116 (xw_in wi_M_isSigner rfl) e_M_isSigner dM_isMember_2 rfl rfl rfl rfl (Nat.le_of_ble_eq_true rfl) ⟨Nat.le_of_ble_eq_true rfl, Nat.le_of_ble_eq_true rfl⟩ ⟨Nat.zero_le _, Nat.zero_le _⟩ ?_
  refine xa_if_eq C dM_isMember_5 (tgt := 23) rfl (fun h5 => ?_) (fun h5 => ?_)
  · refine xa_icN C 0 dM_isMember_23 ?_
    exact xa_zret C hr hk rfl dM_isMember_24
  · exact absurd (xb_f hx) h5
set_option maxHeartbeats 4000000 in
set_option maxRecDepth 100000 in
theorem p_M_isMember (g : xw_G) (l : Launch) {c0 c1 c2 c3 c4 c5 c6 c7 c8 c9 c10 c11 c12 c13 c14 c15 : va_E} {n t : Nat} {se ke f1 f2 e1 e2 y1 y2 fa we sh to : Nat → Nat} {oz sz mz : Nat → Int32} {th dl ms tk bl : Int32} {al ch : Nat} {mi : Int64} {rest : List va_E} (hn : n ≤ 6) {i : Nat} (h1 : 1 ≤ i) (hi : i ≤ n) : xm_R g l true m_M_isMember [.ref 16, .int (nI i)] (hQ c0 c1 c2 c3 c4 c5 c6 c7 c8 c9 c10 c11 c12 c13 c14 c15 (hM g th n t dl se ke oz f1 f2 e1 e2 ms al ch y1 y2 fa we sz mz sh to tk bl mi ++ rest)) (some (.int (xb (hs ms i = true)))) (hQ c0 c1 c2 c3 c4 c5 c6 c7 c8 c9 c10 c11 c12 c13 c14 c15 (hM g th n t dl se ke oz f1 f2 e1 e2 ms al ch y1 y2 fa we sz mz sh to tk bl mi ++ rest)) := by
  refine xm_of [some (.ref 16), some (.int (nI i))] rfl (Nat.le_of_ble_eq_true rfl) rfl ?_
  intro p e s m args below meth c C hr hk
  refine xa_aload_n C dM_isMember_0 rfl ?_
  refine xa_iload_n C dM_isMember_1 rfl ?_
  refine xa_callV1 C (p_M_isSigner g l _) b_M_116 (xw_in wi_M_isSigner rfl) e_M_isSigner dM_isMember_2 rfl rfl rfl rfl (Nat.le_of_ble_eq_true rfl) ⟨Nat.le_of_ble_eq_true rfl, Nat.le_of_ble_eq_true rfl⟩ ⟨Nat.zero_le _, Nat.zero_le _⟩ ?_
  refine xa_if_eq C dM_isMember_5 (tgt := 23) rfl (fun h5 => ?_) (fun h5 => ?_)
  · exact absurd (sg_nI hn h1 hi) (xb_eq0.mp h5)
  · refine xa_aload_n C dM_isMember_8 rfl ?_
    refine xa_get C f_M_107 dM_isMember_9 rfl rfl ?_
    refine xa_iload_n C dM_isMember_12 rfl ?_
    refine xa_callS1 C (p_M_inN g l _ (by omega) (by omega) _) b_M_89 (xw_in wt_M_in rfl) dM_isMember_13 rfl (Nat.le_of_ble_eq_true rfl) ⟨Nat.le_of_ble_eq_true rfl, Nat.le_of_ble_eq_true rfl⟩ ⟨Nat.zero_le _, Nat.zero_le _⟩ ?_
    refine xa_if_eq C dM_isMember_16 (tgt := 23) rfl (fun h16 => ?_) (fun h16 => ?_)
    · refine xa_icN C 0 dM_isMember_23 ?_
      exact xa_eq rfl (congrArg (fun z => [Value.int z]) (xb_f (P := hs ms i = true) (by rw [xb_hs0 h16]; decide)).symm) rfl (xa_zret C hr hk (xb_nar _) dM_isMember_24)
    · refine xa_icN C 1 dM_isMember_19 ?_
      refine xa_goto C dM_isMember_20 (tgt := 24) rfl ?_
      exact xa_eq rfl (congrArg (fun z => [Value.int z]) (xb_t (P := hs ms i = true) (xb_hs1 h16)).symm) rfl (xa_zret C hr hk (xb_nar _) dM_isMember_24)
set_option maxHeartbeats 4000000 in
set_option maxRecDepth 100000 in
theorem p_M_isWhole (g : xw_G) (l : Launch) {c0 c1 c2 c3 c4 c5 c6 c7 c8 c9 c10 c11 c12 c13 c14 c15 : va_E} {n t : Nat} {se ke f1 f2 e1 e2 y1 y2 fa we sh to : Nat → Nat} {oz sz mz : Nat → Int32} {th dl ms tk bl : Int32} {al ch : Nat} {mi : Int64} {rest : List va_E}  : xm_R g l true m_M_isWhole [.ref 16] (hQ c0 c1 c2 c3 c4 c5 c6 c7 c8 c9 c10 c11 c12 c13 c14 c15 (hM g th n t dl se ke oz f1 f2 e1 e2 ms al ch y1 y2 fa we sz mz sh to tk bl mi ++ rest)) (some (.int (xb (¬ ms = 0 ∧ tk = ms)))) (hQ c0 c1 c2 c3 c4 c5 c6 c7 c8 c9 c10 c11 c12 c13 c14 c15 (hM g th n t dl se ke oz f1 f2 e1 e2 ms al ch y1 y2 fa we sz mz sh to tk bl mi ++ rest)) := by
  refine xm_of [some (.ref 16)] rfl (Nat.le_of_ble_eq_true rfl) rfl ?_
  intro p e s m args below meth c C hr hk
  refine xa_aload_n C dM_isWhole_0 rfl ?_
  refine xa_get C f_M_107 dM_isWhole_1 rfl rfl ?_
  refine xa_if_eq C dM_isWhole_4 (tgt := 22) rfl (fun h4 => ?_) (fun h4 => ?_)
  · refine xa_icN C 0 dM_isWhole_22 ?_
    exact xa_eq rfl (congrArg (fun z => [Value.int z]) (xb_f (P := ¬ ms = 0 ∧ tk = ms) (fun q => by first | exact q.1 h4 | exact h15 q.2)).symm) rfl (xa_zret C hr hk (xb_nar _) dM_isWhole_23)
  · refine xa_aload_n C dM_isWhole_7 rfl ?_
    refine xa_get C f_M_110 dM_isWhole_8 rfl rfl ?_
    refine xa_aload_n C dM_isWhole_11 rfl ?_
    refine xa_get C f_M_107 dM_isWhole_12 rfl rfl ?_
    refine xa_icmp_ne C dM_isWhole_15 (tgt := 22) rfl (fun h15 => ?_) (fun h15 => ?_)
    · refine xa_icN C 0 dM_isWhole_22 ?_
      exact xa_eq rfl (congrArg (fun z => [Value.int z]) (xb_f (P := ¬ ms = 0 ∧ tk = ms) (fun q => by first | exact q.1 h4 | exact h15 q.2)).symm) rfl (xa_zret C hr hk (xb_nar _) dM_isWhole_23)
    · refine xa_icN C 1 dM_isWhole_18 ?_
      refine xa_goto C dM_isWhole_19 (tgt := 23) rfl ?_
      exact xa_eq rfl (congrArg (fun z => [Value.int z]) (xb_t (P := ¬ ms = 0 ∧ tk = ms) (⟨h4, h15⟩)).symm) rfl (xa_zret C hr hk (xb_nar _) dM_isWhole_23)
end
section
/-! the reference: deal, commit -/
theorem upz_lt (v : Int32) (f : Nat → Int32) (k : Nat) : upd (fun j => if j < k then v else f j) k v = fun j => if j < k + 1 then v else f j := by
  funext j
  unfold upd
  by_cases h : j = k
  · subst h; simp
  · by_cases h2 : j < k
    · simp [h, h2, show j < k + 1 by omega]
    · simp [h, h2, show ¬ j < k + 1 by omega]
theorem upz_0 (v : Int32) (f : Nat → Int32) : (fun j => if j < 0 then v else f j) = f := by
  funext j
  simp
def mk_ (w m0 : Int64) : Nat → Int64
  | 0 => m0
  | k + 1 => dg_m (dg_m (dg_m 0 1) w) (lN k)
def mo_ (w : Int64) (t : Nat) (m0 : Int64) : Nat → Int64
  | 0 => m0
  | i + 1 => mk_ w (mo_ w t m0 i) t
theorem tm_ps (a b c q : Nat) : (a % q + c * (b % q)) % q = (a + c * b) % q := by
  rw [Nat.add_mod, Nat.mul_mod c (b % q), Nat.mod_mod, Nat.mod_mod, ← Nat.mul_mod, ← Nat.add_mod]
theorem tm_63 {a c d : Nat} (ha : a < 2 ^ 31) (hc : c < 2 ^ 31) (hd : d < 2 ^ 31) : a + c * d < 2 ^ 63 := by
  have h := Nat.mul_lt_mul'' hc hd
  have e : (2 : Nat) ^ 31 * 2 ^ 31 = 4611686018427387904 := by decide
  omega
set_option maxHeartbeats 4000000 in
set_option maxRecDepth 100000 in
theorem p_M_deal (g : xw_G) (l : Launch) {c0 c1 c2 c3 c4 c5 c6 c7 c8 c9 c10 c11 c12 c13 c14 c15 : va_E} {n t : Nat} {se ke f1 f2 e1 e2 y1 y2 fa we sh to : Nat → Nat} {oz sz mz : Nat → Int32} {th dl ms tk bl : Int32} {al ch : Nat} {mi : Int64} {rest : List va_E} (hn : n ≤ 6) (ht : t ≤ 6) (w : Int64) : xm_R g l false m_M_deal [.ref 16, .long w] (hQ c0 c1 c2 c3 c4 c5 c6 c7 c8 c9 c10 c11 c12 c13 c14 c15 (hM g th n t dl se ke oz f1 f2 e1 e2 ms al ch y1 y2 fa we sz mz sh to tk bl mi ++ rest)) (some (.long (lN ((fun j => if j < (n + 1) then kd_ w t j else ke j) 0)))) (hQ c0 c1 c2 c3 c4 c5 c6 c7 c8 c9 c10 c11 c12 c13 c14 c15 (hM g (nI 0) n t (nI 1) (fun j => if j < (n + 1) then sd_ w t j else se j) (fun j => if j < (n + 1) then kd_ w t j else ke j) (fun j => if j < (n + 1) then nI 0 else oz j) f1 f2 e1 e2 0 al ch y1 y2 fa we sz mz sh to 0 0 (mo_ w t mi (n + 1)) ++ rest)) := by
  refine xm_of [some (.ref 16), some (.long w), none, none, none, none, none, none, none] rfl (Nat.le_of_ble_eq_true rfl) rfl ?_
  intro p e s m args below meth c C hr hk
  have outer : ∀ d i : Nat, i + d = n + 1 → ∀ o4 o6 o8 : Option Value, xw_At g false 9 p l e (xm_rm m_M_deal 0) s m args below meth c 0 0 (MQ below (xm_Q g false (some (.long (lN ((fun j => if j < (n + 1) then kd_ w t j else ke j) 0)))) (hQ c0 c1 c2 c3 c4 c5 c6 c7 c8 c9 c10 c11 c12 c13 c14 c15 (hM g (nI 0) n t (nI 1) (fun j => if j < (n + 1) then sd_ w t j else se j) (fun j => if j < (n + 1) then kd_ w t j else ke j) (fun j => if j < (n + 1) then nI 0 else oz j) f1 f2 e1 e2 0 al ch y1 y2 fa we sz mz sh to 0 0 (mo_ w t mi (n + 1)) ++ rest))) args s 0 0 (xm_fr g false)) 7 [some (.ref 16), some (.long w), none, some (.int (nI i)), o4, none, o6, none, o8] [] (hQ c0 c1 c2 c3 c4 c5 c6 c7 c8 c9 c10 c11 c12 c13 c14 c15 (hM g (nI 0) n t dl (fun j => if j < i then sd_ w t j else se j) (fun j => if j < i then kd_ w t j else ke j) (fun j => if j < i then nI 0 else oz j) f1 f2 e1 e2 ms al ch y1 y2 fa we sz mz sh to tk bl (mo_ w t mi i) ++ rest)) := by
    intro d
    induction d with
    | zero =>
      intro i hi9 o4 o6 o8
      obtain rfl : i = n + 1 := by omega
      refine xa_iload_n C dM_deal_7 rfl ?_
      refine xa_aload_n C dM_deal_8 rfl ?_
      refine xa_get C f_M_56 dM_deal_9 rfl rfl ?_
      refine xa_icmp_gt C dM_deal_12 (tgt := 121) rfl (fun h12 => ?_) (fun h12 => ?_)
      · refine xa_aload_n C dM_deal_121 rfl ?_
        refine xa_icN C 1 dM_deal_122 ?_
        refine xa_put C f_M_103 u_M_3 dM_deal_123 rfl (Nat.le_of_ble_eq_true rfl) rfl rfl (fun _ h => by cases h) ?_
        refine xa_aload_n C dM_deal_126 rfl ?_
        refine xa_icN C 0 dM_deal_127 ?_
        refine xa_put C f_M_107 u_M_11 dM_deal_128 rfl (Nat.le_of_ble_eq_true rfl) rfl rfl (fun _ h => by cases h) ?_
        refine xa_aload_n C dM_deal_131 rfl ?_
        refine xa_icN C 0 dM_deal_132 ?_
        refine xa_put C f_M_110 u_M_22 dM_deal_133 rfl (Nat.le_of_ble_eq_true rfl) rfl rfl (fun _ h => by cases h) ?_
        refine xa_aload_n C dM_deal_136 rfl ?_
        refine xa_icN C 0 dM_deal_137 ?_
        refine xa_put C f_M_113 u_M_23 dM_deal_138 rfl (Nat.le_of_ble_eq_true rfl) rfl rfl (fun _ h => by cases h) ?_
        refine xa_aload_n C dM_deal_141 rfl ?_
        refine xa_get C f_M_13 dM_deal_142 rfl rfl ?_
        refine xa_icN C 0 dM_deal_145 ?_
        refine xa_laloadN C dM_deal_146 rfl ?_ (by omega) ?_
        · omega
        exact xa_eq rfl rfl rfl (xa_lret C hr hk dM_deal_147)
      · exact absurd (nI_lt (by omega) (by omega)) h12
    | succ d ih =>
      intro i hi9 o4 o6 o8
      refine xa_iload_n C dM_deal_7 rfl ?_
      refine xa_aload_n C dM_deal_8 rfl ?_
      refine xa_get C f_M_56 dM_deal_9 rfl rfl ?_
      refine xa_icmp_gt C dM_deal_12 (tgt := 121) rfl (fun h12 => ?_) (fun h12 => ?_)
      · exact absurd h12 (nI_nlt (by omega) (by omega))
      · refine xa_lcN C 0 dM_deal_15 ?_
        refine xa_lstore C dM_deal_16 (Nat.le_of_ble_eq_true rfl) ?_
        refine xa_lcN C 1 dM_deal_18 ?_
        refine xa_lstore C dM_deal_19 (Nat.le_of_ble_eq_true rfl) ?_
        refine xa_icN C 0 dM_deal_21 ?_
        refine xa_istore C dM_deal_22 (Nat.le_of_ble_eq_true rfl) ?_
        have inner : ∀ d2 k : Nat, k + d2 = t → xw_At g false 9 p l e (xm_rm m_M_deal 0) s m args below meth c 0 0 (MQ below (xm_Q g false (some (.long (lN ((fun j => if j < (n + 1) then kd_ w t j else ke j) 0)))) (hQ c0 c1 c2 c3 c4 c5 c6 c7 c8 c9 c10 c11 c12 c13 c14 c15 (hM g (nI 0) n t (nI 1) (fun j => if j < (n + 1) then sd_ w t j else se j) (fun j => if j < (n + 1) then kd_ w t j else ke j) (fun j => if j < (n + 1) then nI 0 else oz j) f1 f2 e1 e2 0 al ch y1 y2 fa we sz mz sh to 0 0 (mo_ w t mi (n + 1)) ++ rest))) args s 0 0 (xm_fr g false)) 24 [some (.ref 16), some (.long w), none, some (.int (nI i)), some (.long (lN (tm_poly (cd_ w) i k % 1073741789))), none, some (.long (lN (i ^ k % 1073741789))), none, some (.int (nI k))] [] (hQ c0 c1 c2 c3 c4 c5 c6 c7 c8 c9 c10 c11 c12 c13 c14 c15 (hM g (nI 0) n t dl (fun j => if j < i then sd_ w t j else se j) (fun j => if j < i then kd_ w t j else ke j) (fun j => if j < i then nI 0 else oz j) f1 f2 e1 e2 ms al ch y1 y2 fa we sz mz sh to tk bl (mk_ w (mo_ w t mi i) k) ++ rest)) := by
          intro d2
          induction d2 with
          | zero =>
            intro k hk9
            obtain rfl : k = t := by omega
            refine xa_iload C dM_deal_24 rfl ?_
            refine xa_aload_n C dM_deal_26 rfl ?_
            refine xa_get C f_M_60 dM_deal_27 rfl rfl ?_
            refine xa_icmp_ge C dM_deal_30 (tgt := 83) rfl (fun h30 => ?_) (fun h30 => ?_)
            · refine xa_aload_n C dM_deal_83 rfl ?_
              refine xa_get C f_M_7 dM_deal_84 rfl rfl ?_
              refine xa_iload_n C dM_deal_87 rfl ?_
              refine xa_lload C dM_deal_88 rfl ?_
              refine xa_lastoreN C dM_deal_90 rfl ?_ (by omega) ?_
              · omega
              rw [show va_up (fun j => if j < i then sd_ w k j else se j) i (tm_poly (cd_ w) i k % 1073741789) = fun j => if j < i + 1 then sd_ w k j else se j from up_lt (sd_ w k) se i]
              refine xa_eq rfl rfl (hp' := (hQ c0 c1 c2 c3 c4 c5 c6 c7 c8 c9 c10 c11 c12 c13 c14 c15 (hM g (nI 0) n k dl (fun j => if j < i + 1 then sd_ w k j else se j) (fun j => if j < i then kd_ w k j else ke j) (fun j => if j < i then nI 0 else oz j) f1 f2 e1 e2 ms al ch y1 y2 fa we sz mz sh to tk bl (mk_ w (mo_ w k mi i) k) ++ rest))) rfl ?_
              refine xa_aload_n C dM_deal_91 rfl ?_
              refine xa_get C f_M_13 dM_deal_92 rfl rfl ?_
              refine xa_iload_n C dM_deal_95 rfl ?_
              refine xa_ldcN C 4 (xw_in wk_M_99 rfl) dM_deal_96 ?_
              refine xa_lload C dM_deal_99 rfl ?_
              refine xa_ldcN C 2147483579 (xw_in wk_M_101 rfl) dM_deal_101 ?_
              refine xa_callS1 C (p_M_power g l (by decide) (Nat.lt_trans (tb_q _) (by decide)) (by decide) (by decide) _) b_M_95 (xw_in wt_M_power rfl) dM_deal_104 rfl (Nat.le_of_ble_eq_true rfl) ⟨Nat.le_of_ble_eq_true rfl, Nat.le_of_ble_eq_true rfl⟩ ⟨Nat.zero_le _, Nat.zero_le _⟩ ?_
              refine xa_lastoreN C dM_deal_107 rfl ?_ (by omega) ?_
              · omega
              rw [show va_up (fun j => if j < i then kd_ w k j else ke j) i (4 ^ (tm_poly (cd_ w) i k % 1073741789) % 2147483579) = fun j => if j < i + 1 then kd_ w k j else ke j from up_lt (kd_ w k) ke i]
              refine xa_eq rfl rfl (hp' := (hQ c0 c1 c2 c3 c4 c5 c6 c7 c8 c9 c10 c11 c12 c13 c14 c15 (hM g (nI 0) n k dl (fun j => if j < i + 1 then sd_ w k j else se j) (fun j => if j < i + 1 then kd_ w k j else ke j) (fun j => if j < i then nI 0 else oz j) f1 f2 e1 e2 ms al ch y1 y2 fa we sz mz sh to tk bl (mk_ w (mo_ w k mi i) k) ++ rest))) rfl ?_
              refine xa_aload_n C dM_deal_108 rfl ?_
              refine xa_get C f_M_16 dM_deal_109 rfl rfl ?_
              refine xa_iload_n C dM_deal_112 rfl ?_
              refine xa_icN C 0 dM_deal_113 ?_
              refine xa_bastoreN C dM_deal_114 rfl ?_ (by omega) (by decide) ?_
              · omega
              rw [upz_lt]
              refine xa_eq rfl rfl (hp' := (hQ c0 c1 c2 c3 c4 c5 c6 c7 c8 c9 c10 c11 c12 c13 c14 c15 (hM g (nI 0) n k dl (fun j => if j < i + 1 then sd_ w k j else se j) (fun j => if j < i + 1 then kd_ w k j else ke j) (fun j => if j < i + 1 then nI 0 else oz j) f1 f2 e1 e2 ms al ch y1 y2 fa we sz mz sh to tk bl (mk_ w (mo_ w k mi i) k) ++ rest))) rfl ?_
              refine xa_incN C dM_deal_115 rfl (Nat.le_of_ble_eq_true rfl) ?_
              refine xa_goto C dM_deal_118 (tgt := 7) rfl ?_
              exact ih (i + 1) (by omega) _ _ _
            · exact absurd (nI_le (Nat.le_refl _) (by omega)) h30
          | succ d2 ih2 =>
            intro k hk9
            refine xa_iload C dM_deal_24 rfl ?_
            refine xa_aload_n C dM_deal_26 rfl ?_
            refine xa_get C f_M_60 dM_deal_27 rfl rfl ?_
            refine xa_icmp_ge C dM_deal_30 (tgt := 83) rfl (fun h30 => ?_) (fun h30 => ?_)
            · exact absurd h30 (nI_ge (by omega) (by omega))
            · refine xa_aload_n C dM_deal_33 rfl ?_
              refine xa_lcN C 1 dM_deal_34 ?_
              refine xa_callVv C (p_M_begins g l _) b_M_80 (xw_in wi_M_begins rfl) e_M_begins dM_deal_35 rfl rfl rfl rfl (Nat.le_of_ble_eq_true rfl) ⟨Nat.le_of_ble_eq_true rfl, Nat.le_of_ble_eq_true rfl⟩ ⟨Nat.zero_le _, Nat.zero_le _⟩ ?_
              refine xa_aload_n C dM_deal_38 rfl ?_
              refine xa_lload_n C dM_deal_39 rfl ?_
              refine xa_callVv C (p_M_mix g l _) b_M_74 (xw_in wi_M_mix rfl) e_M_mix dM_deal_40 rfl rfl rfl rfl (Nat.le_of_ble_eq_true rfl) ⟨Nat.le_of_ble_eq_true rfl, Nat.le_of_ble_eq_true rfl⟩ ⟨Nat.zero_le _, Nat.zero_le _⟩ ?_
              refine xa_aload_n C dM_deal_43 rfl ?_
              refine xa_iload C dM_deal_44 rfl ?_
              refine xa_i2lN C dM_deal_46 (by omega) ?_
              refine xa_callVv C (p_M_mix g l _) b_M_74 (xw_in wi_M_mix rfl) e_M_mix dM_deal_47 rfl rfl rfl rfl (Nat.le_of_ble_eq_true rfl) ⟨Nat.le_of_ble_eq_true rfl, Nat.le_of_ble_eq_true rfl⟩ ⟨Nat.zero_le _, Nat.zero_le _⟩ ?_
              refine xa_lload C dM_deal_50 rfl ?_
              refine xa_aload_n C dM_deal_52 rfl ?_
              refine xa_callV1 C (p_M_digest g l) b_M_83 (xw_in wi_M_digest rfl) e_M_digest dM_deal_53 rfl rfl rfl rfl (Nat.le_of_ble_eq_true rfl) ⟨Nat.le_of_ble_eq_true rfl, Nat.le_of_ble_eq_true rfl⟩ ⟨Nat.zero_le _, Nat.zero_le _⟩ ?_
              refine xa_lload C dM_deal_56 rfl ?_
              refine xa_mulN C dM_deal_58 ?_
              refine xa_addN C dM_deal_59 ?_
              refine xa_ldcN C 1073741789 (xw_in wk_M_68 rfl) dM_deal_60 ?_
              refine xa_remN C dM_deal_63 (by first | exact tm_63 (tb_q _) (Nat.lt_trans (dg_f_lt _) (by decide)) (tb_q _) | exact tm_62 (tb_q _) (by omega) | omega) (by decide) (by decide) ?_
              rw [show (tm_poly (cd_ w) i k % 1073741789 + dg_f (dg_m (dg_m (dg_m 0 (lN ((1 : Fin 2) : Nat))) w) (lN k)) * (i ^ k % 1073741789)) % 1073741789 = tm_poly (cd_ w) i (k + 1) % 1073741789 from tm_ps _ _ _ _]
              refine xa_lstore C dM_deal_64 (Nat.le_of_ble_eq_true rfl) ?_
              refine xa_lload C dM_deal_66 rfl ?_
              refine xa_iload_n C dM_deal_68 rfl ?_
              refine xa_i2lN C dM_deal_69 (by omega) ?_
              refine xa_mulN C dM_deal_70 ?_
              refine xa_ldcN C 1073741789 (xw_in wk_M_68 rfl) dM_deal_71 ?_
              refine xa_remN C dM_deal_74 (by first | exact tm_63 (tb_q _) (Nat.lt_trans (dg_f_lt _) (by decide)) (tb_q _) | exact tm_62 (tb_q _) (by omega) | omega) (by decide) (by decide) ?_
              rw [tm_mu]
              refine xa_lstore C dM_deal_75 (Nat.le_of_ble_eq_true rfl) ?_
              refine xa_incN C dM_deal_77 rfl (Nat.le_of_ble_eq_true rfl) ?_
              refine xa_goto C dM_deal_80 (tgt := 24) rfl ?_
              exact ih2 (k + 1) (by omega)
        have h := inner t 0 (by omega)
        rw [Nat.pow_zero] at h
        exact h
  refine xa_aload_n C dM_deal_0 rfl ?_
  refine xa_icN C 0 dM_deal_1 ?_
  refine xa_put C f_M_63 u_M_0 dM_deal_2 rfl (Nat.le_of_ble_eq_true rfl) rfl rfl (fun _ h => by cases h) ?_
  refine xa_icN C 0 dM_deal_5 ?_
  refine xa_istore_n C dM_deal_6 (Nat.le_of_ble_eq_true rfl) ?_
  have h := outer (n + 1) 0 (by omega) none none none
  rw [up_0 (sd_ w t) se, up_0 (kd_ w t) ke, upz_0] at h
  exact h
set_option maxHeartbeats 4000000 in
set_option maxRecDepth 100000 in
theorem p_M_commit_a (g : xw_G) (l : Launch) {c0 c1 c2 c3 c4 c5 c6 c7 c8 c9 c10 c11 c12 c13 c14 c15 : va_E} {n t : Nat} {se ke f1 f2 e1 e2 y1 y2 fa we sh to : Nat → Nat} {oz sz mz : Nat → Int32} {th dl ms tk bl : Int32} {al ch : Nat} {mi : Int64} {rest : List va_E} (x : Int32) (hx : ¬ sg n x) (w : Int64) : xm_R g l false m_M_commit [.ref 16, .int x, .long w] (hQ c0 c1 c2 c3 c4 c5 c6 c7 c8 c9 c10 c11 c12 c13 c14 c15 (hM g th n t dl se ke oz f1 f2 e1 e2 ms al ch y1 y2 fa we sz mz sh to tk bl mi ++ rest)) (some (.long (lN 0))) (hQ c0 c1 c2 c3 c4 c5 c6 c7 c8 c9 c10 c11 c12 c13 c14 c15 (hM g (nI 1) n t dl se ke oz f1 f2 e1 e2 ms al ch y1 y2 fa we sz mz sh to tk bl mi ++ rest)) := by
  refine xm_of [some (.ref 16), some (.int x), some (.long w), none] rfl (Nat.le_of_ble_eq_true rfl) rfl ?_
  intro p e s m args below meth c C hr hk
  refine xa_aload_n C dM_commit_0 rfl ?_
  refine xa_aload_n C dM_commit_1 rfl ?_
  refine xa_iload_n C dM_commit_2 rfl ?_
  refine xa_callV1 C (p_M_isSigner g l _) b_M_116 (xw_in wi_M_isSigner rfl) e_M_isSigner dM_commit_3 rfl rfl rfl rfl (Nat.le_of_ble_eq_true rfl) ⟨Nat.le_of_ble_eq_true rfl, Nat.le_of_ble_eq_true rfl⟩ ⟨Nat.zero_le _, Nat.zero_le _⟩ ?_
  refine xa_if_ne C dM_commit_6 (tgt := 13) rfl (fun h6 => ?_) (fun h6 => ?_)
  · exact absurd (xb_f hx) h6
  · refine xa_icN C 1 dM_commit_9 ?_
    refine xa_goto C dM_commit_10 (tgt := 25) rfl ?_
    refine xa_put C f_M_63 u_M_0 dM_commit_25 rfl (Nat.le_of_ble_eq_true rfl) rfl rfl (fun _ h => by cases h) ?_
    refine xa_aload_n C dM_commit_28 rfl ?_
    refine xa_get C f_M_63 dM_commit_29 rfl rfl ?_
    refine xa_if_eq C dM_commit_32 (tgt := 37) rfl (fun h32 => ?_) (fun h32 => ?_)
    · exact absurd h32 (by decide)
    · refine xa_lcN C 0 dM_commit_35 ?_
      exact xa_eq rfl rfl rfl (xa_lret C hr hk dM_commit_36)
set_option maxHeartbeats 4000000 in
set_option maxRecDepth 100000 in
theorem p_M_commit_b (g : xw_G) (l : Launch) {c0 c1 c2 c3 c4 c5 c6 c7 c8 c9 c10 c11 c12 c13 c14 c15 : va_E} {n t : Nat} {se ke f1 f2 e1 e2 y1 y2 fa we sh to : Nat → Nat} {oz sz mz : Nat → Int32} {th dl ms tk bl : Int32} {al ch : Nat} {mi : Int64} {rest : List va_E} (hn : n ≤ 6) {i : Nat} (h1 : 1 ≤ i) (hi : i ≤ n) (hd : dl = 0) (w : Int64) : xm_R g l false m_M_commit [.ref 16, .int (nI i), .long w] (hQ c0 c1 c2 c3 c4 c5 c6 c7 c8 c9 c10 c11 c12 c13 c14 c15 (hM g th n t dl se ke oz f1 f2 e1 e2 ms al ch y1 y2 fa we sz mz sh to tk bl mi ++ rest)) (some (.long (lN 0))) (hQ c0 c1 c2 c3 c4 c5 c6 c7 c8 c9 c10 c11 c12 c13 c14 c15 (hM g (nI 2) n t dl se ke oz f1 f2 e1 e2 ms al ch y1 y2 fa we sz mz sh to tk bl mi ++ rest)) := by
  refine xm_of [some (.ref 16), some (.int (nI i)), some (.long w), none] rfl (Nat.le_of_ble_eq_true rfl) rfl ?_
  intro p e s m args below meth c C hr hk
  refine xa_aload_n C dM_commit_0 rfl ?_
  refine xa_aload_n C dM_commit_1 rfl ?_
  refine xa_iload_n C dM_commit_2 rfl ?_
  refine xa_callV1 C (p_M_isSigner g l _) b_M_116 (xw_in wi_M_isSigner rfl) e_M_isSigner dM_commit_3 rfl rfl rfl rfl (Nat.le_of_ble_eq_true rfl) ⟨Nat.le_of_ble_eq_true rfl, Nat.le_of_ble_eq_true rfl⟩ ⟨Nat.zero_le _, Nat.zero_le _⟩ ?_
  refine xa_if_ne C dM_commit_6 (tgt := 13) rfl (fun h6 => ?_) (fun h6 => ?_)
  · refine xa_aload_n C dM_commit_13 rfl ?_
    refine xa_get C f_M_103 dM_commit_14 rfl rfl ?_
    refine xa_if_ne C dM_commit_17 (tgt := 24) rfl (fun h17 => ?_) (fun h17 => ?_)
    · exact absurd hd h17
    · refine xa_icN C 2 dM_commit_20 ?_
      refine xa_goto C dM_commit_21 (tgt := 25) rfl ?_
      refine xa_put C f_M_63 u_M_0 dM_commit_25 rfl (Nat.le_of_ble_eq_true rfl) rfl rfl (fun _ h => by cases h) ?_
      refine xa_aload_n C dM_commit_28 rfl ?_
      refine xa_get C f_M_63 dM_commit_29 rfl rfl ?_
      refine xa_if_eq C dM_commit_32 (tgt := 37) rfl (fun h32 => ?_) (fun h32 => ?_)
      · exact absurd h32 (by decide)
      · refine xa_lcN C 0 dM_commit_35 ?_
        exact xa_eq rfl rfl rfl (xa_lret C hr hk dM_commit_36)
  · exact absurd (sg_nI hn h1 hi) (xb_eq0.mp h6)
set_option maxHeartbeats 4000000 in
set_option maxRecDepth 100000 in
theorem p_M_commit_c (g : xw_G) (l : Launch) {c0 c1 c2 c3 c4 c5 c6 c7 c8 c9 c10 c11 c12 c13 c14 c15 : va_E} {n t : Nat} {se ke f1 f2 e1 e2 y1 y2 fa we sh to : Nat → Nat} {oz sz mz : Nat → Int32} {th dl ms tk bl : Int32} {al ch : Nat} {mi : Int64} {rest : List va_E} (hn : n ≤ 6) {i : Nat} (h1 : 1 ≤ i) (hi : i ≤ n) (hd : ¬ dl = 0) (w : Int64) : xm_R g l false m_M_commit [.ref 16, .int (nI i), .long w] (hQ c0 c1 c2 c3 c4 c5 c6 c7 c8 c9 c10 c11 c12 c13 c14 c15 (hM g th n t dl se ke oz f1 f2 e1 e2 ms al ch y1 y2 fa we sz mz sh to tk bl mi ++ rest)) (some (.long (lN (4 ^ pd_ 2 w i % 2147483579)))) (hQ c0 c1 c2 c3 c4 c5 c6 c7 c8 c9 c10 c11 c12 c13 c14 c15 (hM g (nI 0) n t dl se ke (upd oz i (nI 1)) (va_up f1 i (pd_ 2 w i)) (va_up f2 i (pd_ 3 w i)) (va_up e1 i (4 ^ pd_ 2 w i % 2147483579)) (va_up e2 i (4 ^ pd_ 3 w i % 2147483579)) ms al ch y1 y2 fa we (upd sz i (nI 0)) mz sh to tk bl (dg_m (dg_m (dg_m 0 3) w) (lN i)) ++ rest)) := by
  refine xm_of [some (.ref 16), some (.int (nI i)), some (.long w), none] rfl (Nat.le_of_ble_eq_true rfl) rfl ?_
  intro p e s m args below meth c C hr hk
  refine xa_aload_n C dM_commit_0 rfl ?_
  refine xa_aload_n C dM_commit_1 rfl ?_
  refine xa_iload_n C dM_commit_2 rfl ?_
  refine xa_callV1 C (p_M_isSigner g l _) b_M_116 (xw_in wi_M_isSigner rfl) e_M_isSigner dM_commit_3 rfl rfl rfl rfl (Nat.le_of_ble_eq_true rfl) ⟨Nat.le_of_ble_eq_true rfl, Nat.le_of_ble_eq_true rfl⟩ ⟨Nat.zero_le _, Nat.zero_le _⟩ ?_
  refine xa_if_ne C dM_commit_6 (tgt := 13) rfl (fun h6 => ?_) (fun h6 => ?_)
  · refine xa_aload_n C dM_commit_13 rfl ?_
    refine xa_get C f_M_103 dM_commit_14 rfl rfl ?_
    refine xa_if_ne C dM_commit_17 (tgt := 24) rfl (fun h17 => ?_) (fun h17 => ?_)
    · refine xa_icN C 0 dM_commit_24 ?_
      refine xa_put C f_M_63 u_M_0 dM_commit_25 rfl (Nat.le_of_ble_eq_true rfl) rfl rfl (fun _ h => by cases h) ?_
      refine xa_aload_n C dM_commit_28 rfl ?_
      refine xa_get C f_M_63 dM_commit_29 rfl rfl ?_
      refine xa_if_eq C dM_commit_32 (tgt := 37) rfl (fun h32 => ?_) (fun h32 => ?_)
      · refine xa_aload_n C dM_commit_37 rfl ?_
        refine xa_get C f_M_16 dM_commit_38 rfl rfl ?_
        refine xa_iload_n C dM_commit_41 rfl ?_
        refine xa_icN C 1 dM_commit_42 ?_
        refine xa_bastoreN C dM_commit_43 rfl ?_ (by omega) (by decide) ?_
        · omega
        refine xa_aload_n C dM_commit_44 rfl ?_
        refine xa_get C f_M_44 dM_commit_45 rfl rfl ?_
        refine xa_iload_n C dM_commit_48 rfl ?_
        refine xa_icN C 0 dM_commit_49 ?_
        refine xa_bastoreN C dM_commit_50 rfl ?_ (by omega) (by decide) ?_
        · omega
        refine xa_eq rfl rfl (hp' := (hQ c0 c1 c2 c3 c4 c5 c6 c7 c8 c9 c10 c11 c12 c13 c14 c15 (hM g (nI 0) n t dl se ke (upd oz i (nI 1)) f1 f2 e1 e2 ms al ch y1 y2 fa we (upd sz i (nI 0)) mz sh to tk bl mi ++ rest))) rfl ?_
        refine xa_aload_n C dM_commit_51 rfl ?_
        refine xa_get C f_M_20 dM_commit_52 rfl rfl ?_
        refine xa_iload_n C dM_commit_55 rfl ?_
        refine xa_aload_n C dM_commit_56 rfl ?_
        refine xa_ldcN C 2 (xw_in wk_M_120 rfl) dM_commit_57 ?_
        refine xa_lload_n C dM_commit_60 rfl ?_
        refine xa_iload_n C dM_commit_61 rfl ?_
        refine xa_callV1 C (p_M_pairNumber g l _ w (by omega)) b_M_122 (xw_in wi_M_pairNumber rfl) e_M_pairNumber dM_commit_62 rfl rfl rfl rfl (Nat.le_of_ble_eq_true rfl) ⟨Nat.le_of_ble_eq_true rfl, Nat.le_of_ble_eq_true rfl⟩ ⟨Nat.zero_le _, Nat.zero_le _⟩ ?_
        refine xa_lastoreN C dM_commit_65 rfl ?_ (by omega) ?_
        · omega
        refine xa_eq rfl rfl (hp' := (hQ c0 c1 c2 c3 c4 c5 c6 c7 c8 c9 c10 c11 c12 c13 c14 c15 (hM g (nI 0) n t dl se ke (upd oz i (nI 1)) (va_up f1 i (pd_ 2 w i)) f2 e1 e2 ms al ch y1 y2 fa we (upd sz i (nI 0)) mz sh to tk bl (dg_m (dg_m (dg_m 0 2) w) (lN i)) ++ rest))) rfl ?_
        refine xa_aload_n C dM_commit_66 rfl ?_
        refine xa_get C f_M_23 dM_commit_67 rfl rfl ?_
        refine xa_iload_n C dM_commit_70 rfl ?_
        refine xa_aload_n C dM_commit_71 rfl ?_
        refine xa_ldcN C 3 (xw_in wk_M_66 rfl) dM_commit_72 ?_
        refine xa_lload_n C dM_commit_75 rfl ?_
        refine xa_iload_n C dM_commit_76 rfl ?_
        refine xa_callV1 C (p_M_pairNumber g l _ w (by omega)) b_M_122 (xw_in wi_M_pairNumber rfl) e_M_pairNumber dM_commit_77 rfl rfl rfl rfl (Nat.le_of_ble_eq_true rfl) ⟨Nat.le_of_ble_eq_true rfl, Nat.le_of_ble_eq_true rfl⟩ ⟨Nat.zero_le _, Nat.zero_le _⟩ ?_
        refine xa_lastoreN C dM_commit_80 rfl ?_ (by omega) ?_
        · omega
        refine xa_eq rfl rfl (hp' := (hQ c0 c1 c2 c3 c4 c5 c6 c7 c8 c9 c10 c11 c12 c13 c14 c15 (hM g (nI 0) n t dl se ke (upd oz i (nI 1)) (va_up f1 i (pd_ 2 w i)) (va_up f2 i (pd_ 3 w i)) e1 e2 ms al ch y1 y2 fa we (upd sz i (nI 0)) mz sh to tk bl (dg_m (dg_m (dg_m 0 3) w) (lN i)) ++ rest))) rfl ?_
        refine xa_aload_n C dM_commit_81 rfl ?_
        refine xa_get C f_M_26 dM_commit_82 rfl rfl ?_
        refine xa_iload_n C dM_commit_85 rfl ?_
        refine xa_ldcN C 4 (xw_in wk_M_99 rfl) dM_commit_86 ?_
        refine xa_aload_n C dM_commit_89 rfl ?_
        refine xa_get C f_M_20 dM_commit_90 rfl rfl ?_
        refine xa_iload_n C dM_commit_93 rfl ?_
        refine xa_laloadN C dM_commit_94 rfl ?_ (by omega) ?_
        · omega
        rw [va_up_s]
        refine xa_ldcN C 2147483579 (xw_in wk_M_101 rfl) dM_commit_95 ?_
        refine xa_callS1 C (p_M_power g l (by decide) (Nat.lt_trans (pd_lt _ _ _) (by decide)) (by decide) (by decide) _) b_M_95 (xw_in wt_M_power rfl) dM_commit_98 rfl (Nat.le_of_ble_eq_true rfl) ⟨Nat.le_of_ble_eq_true rfl, Nat.le_of_ble_eq_true rfl⟩ ⟨Nat.zero_le _, Nat.zero_le _⟩ ?_
        refine xa_lastoreN C dM_commit_101 rfl ?_ (by omega) ?_
        · omega
        refine xa_eq rfl rfl (hp' := (hQ c0 c1 c2 c3 c4 c5 c6 c7 c8 c9 c10 c11 c12 c13 c14 c15 (hM g (nI 0) n t dl se ke (upd oz i (nI 1)) (va_up f1 i (pd_ 2 w i)) (va_up f2 i (pd_ 3 w i)) (va_up e1 i (4 ^ pd_ 2 w i % 2147483579)) e2 ms al ch y1 y2 fa we (upd sz i (nI 0)) mz sh to tk bl (dg_m (dg_m (dg_m 0 3) w) (lN i)) ++ rest))) rfl ?_
        refine xa_aload_n C dM_commit_102 rfl ?_
        refine xa_get C f_M_29 dM_commit_103 rfl rfl ?_
        refine xa_iload_n C dM_commit_106 rfl ?_
        refine xa_ldcN C 4 (xw_in wk_M_99 rfl) dM_commit_107 ?_
        refine xa_aload_n C dM_commit_110 rfl ?_
        refine xa_get C f_M_23 dM_commit_111 rfl rfl ?_
        refine xa_iload_n C dM_commit_114 rfl ?_
        refine xa_laloadN C dM_commit_115 rfl ?_ (by omega) ?_
        · omega
        rw [va_up_s]
        refine xa_ldcN C 2147483579 (xw_in wk_M_101 rfl) dM_commit_116 ?_
        refine xa_callS1 C (p_M_power g l (by decide) (Nat.lt_trans (pd_lt _ _ _) (by decide)) (by decide) (by decide) _) b_M_95 (xw_in wt_M_power rfl) dM_commit_119 rfl (Nat.le_of_ble_eq_true rfl) ⟨Nat.le_of_ble_eq_true rfl, Nat.le_of_ble_eq_true rfl⟩ ⟨Nat.zero_le _, Nat.zero_le _⟩ ?_
        refine xa_lastoreN C dM_commit_122 rfl ?_ (by omega) ?_
        · omega
        refine xa_aload_n C dM_commit_123 rfl ?_
        refine xa_get C f_M_26 dM_commit_124 rfl rfl ?_
        refine xa_iload_n C dM_commit_127 rfl ?_
        refine xa_laloadN C dM_commit_128 rfl ?_ (by omega) ?_
        · omega
        rw [va_up_s]
        exact xa_eq rfl rfl rfl (xa_lret C hr hk dM_commit_129)
      · exact absurd rfl h32
    · exact absurd h17 hd
  · exact absurd (sg_nI hn h1 hi) (xb_eq0.mp h6)
end
section
/-! the reference: begin -/
def ao_ (x : Int32) (oz : Nat → Int32) : Nat → Bool
  | 0 => true
  | k + 1 => ao_ x oz k && (!hs x (k + 1) || decide (¬ oz (k + 1) = 0))
set_option maxHeartbeats 4000000 in
set_option maxRecDepth 100000 in
theorem p_M_allOpen (g : xw_G) (l : Launch) {c0 c1 c2 c3 c4 c5 c6 c7 c8 c9 c10 c11 c12 c13 c14 c15 : va_E} {n t : Nat} {se ke f1 f2 e1 e2 y1 y2 fa we sh to : Nat → Nat} {oz sz mz : Nat → Int32} {th dl ms tk bl : Int32} {al ch : Nat} {mi : Int64} {rest : List va_E} (hn : n ≤ 6) (x : Int32) : xm_R g l true m_M_allOpen [.ref 16, .int x] (hQ c0 c1 c2 c3 c4 c5 c6 c7 c8 c9 c10 c11 c12 c13 c14 c15 (hM g th n t dl se ke oz f1 f2 e1 e2 ms al ch y1 y2 fa we sz mz sh to tk bl mi ++ rest)) (some (.int (xb (ao_ x oz n = true)))) (hQ c0 c1 c2 c3 c4 c5 c6 c7 c8 c9 c10 c11 c12 c13 c14 c15 (hM g th n t dl se ke oz f1 f2 e1 e2 ms al ch y1 y2 fa we sz mz sh to tk bl mi ++ rest)) := by
  refine xm_of [some (.ref 16), some (.int x), none, none] rfl (Nat.le_of_ble_eq_true rfl) rfl ?_
  intro p e s m args below meth c C hr hk
  have loop : ∀ d k : Nat, k + d = n → xw_At g true 4 p l e (xm_rm m_M_allOpen 0) s m args below meth c 0 0 (MQ below (xm_Q g true (some (.int (xb (ao_ x oz n = true)))) (hQ c0 c1 c2 c3 c4 c5 c6 c7 c8 c9 c10 c11 c12 c13 c14 c15 (hM g th n t dl se ke oz f1 f2 e1 e2 ms al ch y1 y2 fa we sz mz sh to tk bl mi ++ rest))) args s 0 0 (xm_fr g true)) 4 [some (.ref 16), some (.int x), some (.int (xb (ao_ x oz k = true))), some (.int (nI (k + 1)))] [] (hQ c0 c1 c2 c3 c4 c5 c6 c7 c8 c9 c10 c11 c12 c13 c14 c15 (hM g th n t dl se ke oz f1 f2 e1 e2 ms al ch y1 y2 fa we sz mz sh to tk bl mi ++ rest)) := by
    intro d
    induction d with
    | zero =>
      intro k hk9
      obtain rfl : k = n := by omega
      refine xa_iload_n C dM_allOpen_4 rfl ?_
      refine xa_aload_n C dM_allOpen_5 rfl ?_
      refine xa_get C f_M_56 dM_allOpen_6 rfl rfl ?_
      refine xa_icmp_gt C dM_allOpen_9 (tgt := 45) rfl (fun h9 => ?_) (fun h9 => ?_)
      · refine xa_iload_n C dM_allOpen_45 rfl ?_
        exact xa_zret C hr hk (xb_nar _) dM_allOpen_46
      · exact absurd (nI_lt (by omega) (by omega)) h9
    | succ d ih =>
      intro k hk9
      refine xa_iload_n C dM_allOpen_4 rfl ?_
      refine xa_aload_n C dM_allOpen_5 rfl ?_
      refine xa_get C f_M_56 dM_allOpen_6 rfl rfl ?_
      refine xa_icmp_gt C dM_allOpen_9 (tgt := 45) rfl (fun h9 => ?_) (fun h9 => ?_)
      · exact absurd h9 (nI_nlt (by omega) (by omega))
      · refine xa_iload_n C dM_allOpen_12 rfl ?_
        refine xa_if_eq C dM_allOpen_13 (tgt := 37) rfl (fun h13 => ?_) (fun h13 => ?_)
        · have ha : ao_ x oz k = false := by have := xb_eq0.mp h13; simpa using this
          refine xa_icN C 0 dM_allOpen_37 ?_
          refine xa_istore_n C dM_allOpen_38 (Nat.le_of_ble_eq_true rfl) ?_
          refine xa_incN C dM_allOpen_39 rfl (Nat.le_of_ble_eq_true rfl) ?_
          refine xa_goto C dM_allOpen_42 (tgt := 4) rfl ?_
          have h := ih (k + 1) (by omega)
          rw [show xb (ao_ x oz (k + 1) = true) = 0 from xb_f (by rw [ao_, ha, Bool.false_and]; decide)] at h
          exact h
        · have ha : ao_ x oz k = true := Decidable.byContradiction (fun q => h13 (xb_f q))
          refine xa_iload_n C dM_allOpen_16 rfl ?_
          refine xa_iload_n C dM_allOpen_17 rfl ?_
          refine xa_callS1 C (p_M_inN g l _ (by omega) (by omega) _) b_M_89 (xw_in wt_M_in rfl) dM_allOpen_18 rfl (Nat.le_of_ble_eq_true rfl) ⟨Nat.le_of_ble_eq_true rfl, Nat.le_of_ble_eq_true rfl⟩ ⟨Nat.zero_le _, Nat.zero_le _⟩ ?_
          refine xa_if_eq C dM_allOpen_21 (tgt := 33) rfl (fun h21 => ?_) (fun h21 => ?_)
          · have hb := xb_hs0 h21
            refine xa_icN C 1 dM_allOpen_33 ?_
            refine xa_goto C dM_allOpen_34 (tgt := 38) rfl ?_
            refine xa_istore_n C dM_allOpen_38 (Nat.le_of_ble_eq_true rfl) ?_
            refine xa_incN C dM_allOpen_39 rfl (Nat.le_of_ble_eq_true rfl) ?_
            refine xa_goto C dM_allOpen_42 (tgt := 4) rfl ?_
            have h := ih (k + 1) (by omega)
            rw [show xb (ao_ x oz (k + 1) = true) = 1 from xb_t (by rw [ao_, ha, hb]; rfl)] at h
            exact h
          · have hb := xb_hs1 h21
            refine xa_aload_n C dM_allOpen_24 rfl ?_
            refine xa_get C f_M_16 dM_allOpen_25 rfl rfl ?_
            refine xa_iload_n C dM_allOpen_28 rfl ?_
            refine xa_baloadN C dM_allOpen_29 rfl ?_ (by omega) ?_
            · omega
            refine xa_if_eq C dM_allOpen_30 (tgt := 37) rfl (fun h30 => ?_) (fun h30 => ?_)
            · refine xa_icN C 0 dM_allOpen_37 ?_
              refine xa_istore_n C dM_allOpen_38 (Nat.le_of_ble_eq_true rfl) ?_
              refine xa_incN C dM_allOpen_39 rfl (Nat.le_of_ble_eq_true rfl) ?_
              refine xa_goto C dM_allOpen_42 (tgt := 4) rfl ?_
              have h := ih (k + 1) (by omega)
              rw [show xb (ao_ x oz (k + 1) = true) = 0 from xb_f (by rw [ao_, ha, hb, h30]; decide)] at h
              exact h
            · refine xa_icN C 1 dM_allOpen_33 ?_
              refine xa_goto C dM_allOpen_34 (tgt := 38) rfl ?_
              refine xa_istore_n C dM_allOpen_38 (Nat.le_of_ble_eq_true rfl) ?_
              refine xa_incN C dM_allOpen_39 rfl (Nat.le_of_ble_eq_true rfl) ?_
              refine xa_goto C dM_allOpen_42 (tgt := 4) rfl ?_
              have h := ih (k + 1) (by omega)
              rw [show xb (ao_ x oz (k + 1) = true) = 1 from xb_t (by rw [ao_, ha, hb]; simp [h30])] at h
              exact h
  refine xa_icN C 1 dM_allOpen_0 ?_
  refine xa_istore_n C dM_allOpen_1 (Nat.le_of_ble_eq_true rfl) ?_
  refine xa_icN C 1 dM_allOpen_2 ?_
  refine xa_istore_n C dM_allOpen_3 (Nat.le_of_ble_eq_true rfl) ?_
  exact loop n 0 (by omega)
set_option maxHeartbeats 4000000 in
set_option maxRecDepth 100000 in
theorem p_M_factorOf (g : xw_G) (l : Launch) {c0 c1 c2 c3 c4 c5 c6 c7 c8 c9 c10 c11 c12 c13 c14 c15 : va_E} {n t : Nat} {se ke f1 f2 e1 e2 y1 y2 fa we sh to : Nat → Nat} {oz sz mz : Nat → Int32} {th dl ms tk bl : Int32} {al ch : Nat} {mi : Int64} {rest : List va_E} (hn : n ≤ 6) (x : Int32) (w : Int64) {i : Nat} (hi : i ≤ 6) : xm_R g l false m_M_factorOf [.ref 16, .int x, .long w, .int (nI i)] (hQ c0 c1 c2 c3 c4 c5 c6 c7 c8 c9 c10 c11 c12 c13 c14 c15 (hM g th n t dl se ke oz f1 f2 e1 e2 ms al ch y1 y2 fa we sz mz sh to tk bl mi ++ rest)) (some (.long (lN (ff_ x e1 e2 n w (ke 0) i)))) (hQ c0 c1 c2 c3 c4 c5 c6 c7 c8 c9 c10 c11 c12 c13 c14 c15 (hM g th n t dl se ke oz f1 f2 e1 e2 ms al ch y1 y2 fa we sz mz sh to tk bl (fh_ x e1 e2 (dg_m (dg_m (dg_m (dg_m 0 4) (lN (ke 0))) w) (lN i)) n) ++ rest)) := by
  refine xm_of [some (.ref 16), some (.int x), some (.long w), none, some (.int (nI i)), none] rfl (Nat.le_of_ble_eq_true rfl) rfl ?_
  intro p e s m args below meth c C hr hk
  have loop : ∀ d k : Nat, k + d = n → xw_At g false 6 p l e (xm_rm m_M_factorOf 0) s m args below meth c 0 0 (MQ below (xm_Q g false (some (.long (lN (ff_ x e1 e2 n w (ke 0) i)))) (hQ c0 c1 c2 c3 c4 c5 c6 c7 c8 c9 c10 c11 c12 c13 c14 c15 (hM g th n t dl se ke oz f1 f2 e1 e2 ms al ch y1 y2 fa we sz mz sh to tk bl (fh_ x e1 e2 (dg_m (dg_m (dg_m (dg_m 0 4) (lN (ke 0))) w) (lN i)) n) ++ rest))) args s 0 0 (xm_fr g false)) 32 [some (.ref 16), some (.int x), some (.long w), none, some (.int (nI i)), some (.int (nI (k + 1)))] [] (hQ c0 c1 c2 c3 c4 c5 c6 c7 c8 c9 c10 c11 c12 c13 c14 c15 (hM g th n t dl se ke oz f1 f2 e1 e2 ms al ch y1 y2 fa we sz mz sh to tk bl (fh_ x e1 e2 (dg_m (dg_m (dg_m (dg_m 0 4) (lN (ke 0))) w) (lN i)) k) ++ rest)) := by
    intro d
    induction d with
    | zero =>
      intro k hk9
      obtain rfl : k = n := by omega
      refine xa_iload C dM_factorOf_32 rfl ?_
      refine xa_aload_n C dM_factorOf_34 rfl ?_
      refine xa_get C f_M_56 dM_factorOf_35 rfl rfl ?_
      refine xa_icmp_gt C dM_factorOf_38 (tgt := 85) rfl (fun h38 => ?_) (fun h38 => ?_)
      · refine xa_aload_n C dM_factorOf_85 rfl ?_
        refine xa_callV1 C (p_M_digest g l) b_M_83 (xw_in wi_M_digest rfl) e_M_digest dM_factorOf_86 rfl rfl rfl rfl (Nat.le_of_ble_eq_true rfl) ⟨Nat.le_of_ble_eq_true rfl, Nat.le_of_ble_eq_true rfl⟩ ⟨Nat.zero_le _, Nat.zero_le _⟩ ?_
        exact xa_lret C hr hk dM_factorOf_89
      · exact absurd (nI_lt (by omega) (by omega)) h38
    | succ d ih =>
      intro k hk9
      refine xa_iload C dM_factorOf_32 rfl ?_
      refine xa_aload_n C dM_factorOf_34 rfl ?_
      refine xa_get C f_M_56 dM_factorOf_35 rfl rfl ?_
      refine xa_icmp_gt C dM_factorOf_38 (tgt := 85) rfl (fun h38 => ?_) (fun h38 => ?_)
      · exact absurd h38 (nI_nlt (by omega) (by omega))
      · refine xa_iload_n C dM_factorOf_41 rfl ?_
        refine xa_iload C dM_factorOf_42 rfl ?_
        refine xa_callS1 C (p_M_inN g l _ (by omega) (by omega) _) b_M_89 (xw_in wt_M_in rfl) dM_factorOf_44 rfl (Nat.le_of_ble_eq_true rfl) ⟨Nat.le_of_ble_eq_true rfl, Nat.le_of_ble_eq_true rfl⟩ ⟨Nat.zero_le _, Nat.zero_le _⟩ ?_
        refine xa_if_eq C dM_factorOf_47 (tgt := 79) rfl (fun h47 => ?_) (fun h47 => ?_)
        · have hb := xb_hs0 h47
          refine xa_incN C dM_factorOf_79 rfl (Nat.le_of_ble_eq_true rfl) ?_
          refine xa_goto C dM_factorOf_82 (tgt := 32) rfl ?_
          have h := ih (k + 1) (by omega)
          rw [fh_, if_neg (by rw [hb]; decide)] at h
          exact h
        · have hb := xb_hs1 h47
          refine xa_aload_n C dM_factorOf_50 rfl ?_
          refine xa_iload C dM_factorOf_51 rfl ?_
          refine xa_i2lN C dM_factorOf_53 (by omega) ?_
          refine xa_callVv C (p_M_mix g l _) b_M_74 (xw_in wi_M_mix rfl) e_M_mix dM_factorOf_54 rfl rfl rfl rfl (Nat.le_of_ble_eq_true rfl) ⟨Nat.le_of_ble_eq_true rfl, Nat.le_of_ble_eq_true rfl⟩ ⟨Nat.zero_le _, Nat.zero_le _⟩ ?_
          refine xa_aload_n C dM_factorOf_57 rfl ?_
          refine xa_aload_n C dM_factorOf_58 rfl ?_
          refine xa_get C f_M_26 dM_factorOf_59 rfl rfl ?_
          refine xa_iload C dM_factorOf_62 rfl ?_
          refine xa_laloadN C dM_factorOf_64 rfl ?_ (by omega) ?_
          · omega
          refine xa_callVv C (p_M_mix g l _) b_M_74 (xw_in wi_M_mix rfl) e_M_mix dM_factorOf_65 rfl rfl rfl rfl (Nat.le_of_ble_eq_true rfl) ⟨Nat.le_of_ble_eq_true rfl, Nat.le_of_ble_eq_true rfl⟩ ⟨Nat.zero_le _, Nat.zero_le _⟩ ?_
          refine xa_aload_n C dM_factorOf_68 rfl ?_
          refine xa_aload_n C dM_factorOf_69 rfl ?_
          refine xa_get C f_M_29 dM_factorOf_70 rfl rfl ?_
          refine xa_iload C dM_factorOf_73 rfl ?_
          refine xa_laloadN C dM_factorOf_75 rfl ?_ (by omega) ?_
          · omega
          refine xa_callVv C (p_M_mix g l _) b_M_74 (xw_in wi_M_mix rfl) e_M_mix dM_factorOf_76 rfl rfl rfl rfl (Nat.le_of_ble_eq_true rfl) ⟨Nat.le_of_ble_eq_true rfl, Nat.le_of_ble_eq_true rfl⟩ ⟨Nat.zero_le _, Nat.zero_le _⟩ ?_
          refine xa_incN C dM_factorOf_79 rfl (Nat.le_of_ble_eq_true rfl) ?_
          refine xa_goto C dM_factorOf_82 (tgt := 32) rfl ?_
          have h := ih (k + 1) (by omega)
          rw [fh_, if_pos hb] at h
          exact h
  refine xa_aload_n C dM_factorOf_0 rfl ?_
  refine xa_ldcN C 4 (xw_in wk_M_99 rfl) dM_factorOf_1 ?_
  refine xa_callVv C (p_M_begins g l _) b_M_80 (xw_in wi_M_begins rfl) e_M_begins dM_factorOf_4 rfl rfl rfl rfl (Nat.le_of_ble_eq_true rfl) ⟨Nat.le_of_ble_eq_true rfl, Nat.le_of_ble_eq_true rfl⟩ ⟨Nat.zero_le _, Nat.zero_le _⟩ ?_
  refine xa_aload_n C dM_factorOf_7 rfl ?_
  refine xa_aload_n C dM_factorOf_8 rfl ?_
  refine xa_get C f_M_13 dM_factorOf_9 rfl rfl ?_
  refine xa_icN C 0 dM_factorOf_12 ?_
  refine xa_laloadN C dM_factorOf_13 rfl ?_ (by omega) ?_
  · omega
  refine xa_callVv C (p_M_mix g l _) b_M_74 (xw_in wi_M_mix rfl) e_M_mix dM_factorOf_14 rfl rfl rfl rfl (Nat.le_of_ble_eq_true rfl) ⟨Nat.le_of_ble_eq_true rfl, Nat.le_of_ble_eq_true rfl⟩ ⟨Nat.zero_le _, Nat.zero_le _⟩ ?_
  refine xa_aload_n C dM_factorOf_17 rfl ?_
  refine xa_lload_n C dM_factorOf_18 rfl ?_
  refine xa_callVv C (p_M_mix g l _) b_M_74 (xw_in wi_M_mix rfl) e_M_mix dM_factorOf_19 rfl rfl rfl rfl (Nat.le_of_ble_eq_true rfl) ⟨Nat.le_of_ble_eq_true rfl, Nat.le_of_ble_eq_true rfl⟩ ⟨Nat.zero_le _, Nat.zero_le _⟩ ?_
  refine xa_aload_n C dM_factorOf_22 rfl ?_
  refine xa_iload C dM_factorOf_23 rfl ?_
  refine xa_i2lN C dM_factorOf_25 (by omega) ?_
  refine xa_callVv C (p_M_mix g l _) b_M_74 (xw_in wi_M_mix rfl) e_M_mix dM_factorOf_26 rfl rfl rfl rfl (Nat.le_of_ble_eq_true rfl) ⟨Nat.le_of_ble_eq_true rfl, Nat.le_of_ble_eq_true rfl⟩ ⟨Nat.zero_le _, Nat.zero_le _⟩ ?_
  refine xa_icN C 1 dM_factorOf_29 ?_
  refine xa_istore C dM_factorOf_30 (Nat.le_of_ble_eq_true rfl) ?_
  exact loop n 0 (by omega)
set_option maxHeartbeats 4000000 in
set_option maxRecDepth 100000 in
theorem p_M_begin_a (g : xw_G) (l : Launch) {c0 c1 c2 c3 c4 c5 c6 c7 c8 c9 c10 c11 c12 c13 c14 c15 : va_E} {n t : Nat} {se ke f1 f2 e1 e2 y1 y2 fa we sh to : Nat → Nat} {oz sz mz : Nat → Int32} {th dl ms tk bl : Int32} {al ch : Nat} {mi : Int64} {rest : List va_E} (hn : n ≤ 6) (x : Int32) (hx : ¬ em n t x) (w : Int64) : xm_R g l false m_M_begin [.ref 16, .int x, .long w] (hQ c0 c1 c2 c3 c4 c5 c6 c7 c8 c9 c10 c11 c12 c13 c14 c15 (hM g th n t dl se ke oz f1 f2 e1 e2 ms al ch y1 y2 fa we sz mz sh to tk bl mi ++ rest)) (some (.long (lN 0))) (hQ c0 c1 c2 c3 c4 c5 c6 c7 c8 c9 c10 c11 c12 c13 c14 c15 (hM g (nI 1) n t dl se ke oz f1 f2 e1 e2 ms al ch y1 y2 fa we sz mz sh to tk bl mi ++ rest)) := by
  refine xm_of [some (.ref 16), some (.int x), some (.long w), none, none] rfl (Nat.le_of_ble_eq_true rfl) rfl ?_
  intro p e s m args below meth c C hr hk
  refine xa_aload_n C dM_begin_0 rfl ?_
  refine xa_aload_n C dM_begin_1 rfl ?_
  refine xa_iload_n C dM_begin_2 rfl ?_
  refine xa_callV1 C (p_M_isSet g l hn _) b_M_126 (xw_in wi_M_isSet rfl) e_M_isSet dM_begin_3 rfl rfl rfl rfl (Nat.le_of_ble_eq_true rfl) ⟨Nat.le_of_ble_eq_true rfl, Nat.le_of_ble_eq_true rfl⟩ ⟨Nat.zero_le _, Nat.zero_le _⟩ ?_
  refine xa_if_ne C dM_begin_6 (tgt := 13) rfl (fun h6 => ?_) (fun h6 => ?_)
  · exact absurd (xb_f hx) h6
  · refine xa_icN C 1 dM_begin_9 ?_
    refine xa_goto C dM_begin_10 (tgt := 33) rfl ?_
    refine xa_put C f_M_63 u_M_0 dM_begin_33 rfl (Nat.le_of_ble_eq_true rfl) rfl rfl (fun _ h => by cases h) ?_
    refine xa_aload_n C dM_begin_36 rfl ?_
    refine xa_get C f_M_63 dM_begin_37 rfl rfl ?_
    refine xa_if_eq C dM_begin_40 (tgt := 45) rfl (fun h40 => ?_) (fun h40 => ?_)
    · exact absurd h40 (by decide)
    · refine xa_lcN C 0 dM_begin_43 ?_
      exact xa_eq rfl rfl rfl (xa_lret C hr hk dM_begin_44)
set_option maxHeartbeats 4000000 in
set_option maxRecDepth 100000 in
theorem p_M_begin_b (g : xw_G) (l : Launch) {c0 c1 c2 c3 c4 c5 c6 c7 c8 c9 c10 c11 c12 c13 c14 c15 : va_E} {n t : Nat} {se ke f1 f2 e1 e2 y1 y2 fa we sh to : Nat → Nat} {oz sz mz : Nat → Int32} {th dl ms tk bl : Int32} {al ch : Nat} {mi : Int64} {rest : List va_E} (hn : n ≤ 6) (x : Int32) (hx : em n t x) (hd : dl = 0) (w : Int64) : xm_R g l false m_M_begin [.ref 16, .int x, .long w] (hQ c0 c1 c2 c3 c4 c5 c6 c7 c8 c9 c10 c11 c12 c13 c14 c15 (hM g th n t dl se ke oz f1 f2 e1 e2 ms al ch y1 y2 fa we sz mz sh to tk bl mi ++ rest)) (some (.long (lN 0))) (hQ c0 c1 c2 c3 c4 c5 c6 c7 c8 c9 c10 c11 c12 c13 c14 c15 (hM g (nI 2) n t dl se ke oz f1 f2 e1 e2 ms al ch y1 y2 fa we sz mz sh to tk bl mi ++ rest)) := by
  refine xm_of [some (.ref 16), some (.int x), some (.long w), none, none] rfl (Nat.le_of_ble_eq_true rfl) rfl ?_
  intro p e s m args below meth c C hr hk
  refine xa_aload_n C dM_begin_0 rfl ?_
  refine xa_aload_n C dM_begin_1 rfl ?_
  refine xa_iload_n C dM_begin_2 rfl ?_
  refine xa_callV1 C (p_M_isSet g l hn _) b_M_126 (xw_in wi_M_isSet rfl) e_M_isSet dM_begin_3 rfl rfl rfl rfl (Nat.le_of_ble_eq_true rfl) ⟨Nat.le_of_ble_eq_true rfl, Nat.le_of_ble_eq_true rfl⟩ ⟨Nat.zero_le _, Nat.zero_le _⟩ ?_
  refine xa_if_ne C dM_begin_6 (tgt := 13) rfl (fun h6 => ?_) (fun h6 => ?_)
  · refine xa_aload_n C dM_begin_13 rfl ?_
    refine xa_get C f_M_103 dM_begin_14 rfl rfl ?_
    refine xa_if_eq C dM_begin_17 (tgt := 28) rfl (fun h17 => ?_) (fun h17 => ?_)
    · refine xa_icN C 2 dM_begin_28 ?_
      refine xa_goto C dM_begin_29 (tgt := 33) rfl ?_
      refine xa_put C f_M_63 u_M_0 dM_begin_33 rfl (Nat.le_of_ble_eq_true rfl) rfl rfl (fun _ h => by cases h) ?_
      refine xa_aload_n C dM_begin_36 rfl ?_
      refine xa_get C f_M_63 dM_begin_37 rfl rfl ?_
      refine xa_if_eq C dM_begin_40 (tgt := 45) rfl (fun h40 => ?_) (fun h40 => ?_)
      · exact absurd h40 (by decide)
      · refine xa_lcN C 0 dM_begin_43 ?_
        exact xa_eq rfl rfl rfl (xa_lret C hr hk dM_begin_44)
    · exact absurd hd h17
  · exact absurd hx (xb_eq0.mp h6)
set_option maxHeartbeats 4000000 in
set_option maxRecDepth 100000 in
theorem p_M_begin_c (g : xw_G) (l : Launch) {c0 c1 c2 c3 c4 c5 c6 c7 c8 c9 c10 c11 c12 c13 c14 c15 : va_E} {n t : Nat} {se ke f1 f2 e1 e2 y1 y2 fa we sh to : Nat → Nat} {oz sz mz : Nat → Int32} {th dl ms tk bl : Int32} {al ch : Nat} {mi : Int64} {rest : List va_E} (hn : n ≤ 6) (x : Int32) (hx : em n t x) (hd : ¬ dl = 0) (ho : ao_ x oz n = false) (w : Int64) : xm_R g l false m_M_begin [.ref 16, .int x, .long w] (hQ c0 c1 c2 c3 c4 c5 c6 c7 c8 c9 c10 c11 c12 c13 c14 c15 (hM g th n t dl se ke oz f1 f2 e1 e2 ms al ch y1 y2 fa we sz mz sh to tk bl mi ++ rest)) (some (.long (lN 0))) (hQ c0 c1 c2 c3 c4 c5 c6 c7 c8 c9 c10 c11 c12 c13 c14 c15 (hM g (nI 2) n t dl se ke oz f1 f2 e1 e2 ms al ch y1 y2 fa we sz mz sh to tk bl mi ++ rest)) := by
  refine xm_of [some (.ref 16), some (.int x), some (.long w), none, none] rfl (Nat.le_of_ble_eq_true rfl) rfl ?_
  intro p e s m args below meth c C hr hk
  refine xa_aload_n C dM_begin_0 rfl ?_
  refine xa_aload_n C dM_begin_1 rfl ?_
  refine xa_iload_n C dM_begin_2 rfl ?_
  refine xa_callV1 C (p_M_isSet g l hn _) b_M_126 (xw_in wi_M_isSet rfl) e_M_isSet dM_begin_3 rfl rfl rfl rfl (Nat.le_of_ble_eq_true rfl) ⟨Nat.le_of_ble_eq_true rfl, Nat.le_of_ble_eq_true rfl⟩ ⟨Nat.zero_le _, Nat.zero_le _⟩ ?_
  refine xa_if_ne C dM_begin_6 (tgt := 13) rfl (fun h6 => ?_) (fun h6 => ?_)
  · refine xa_aload_n C dM_begin_13 rfl ?_
    refine xa_get C f_M_103 dM_begin_14 rfl rfl ?_
    refine xa_if_eq C dM_begin_17 (tgt := 28) rfl (fun h17 => ?_) (fun h17 => ?_)
    · exact absurd h17 hd
    · refine xa_aload_n C dM_begin_20 rfl ?_
      refine xa_iload_n C dM_begin_21 rfl ?_
      refine xa_callV1 C (p_M_allOpen g l hn _) b_M_129 (xw_in wi_M_allOpen rfl) e_M_allOpen dM_begin_22 rfl rfl rfl rfl (Nat.le_of_ble_eq_true rfl) ⟨Nat.le_of_ble_eq_true rfl, Nat.le_of_ble_eq_true rfl⟩ ⟨Nat.zero_le _, Nat.zero_le _⟩ ?_
      refine xa_if_ne C dM_begin_25 (tgt := 32) rfl (fun h25 => ?_) (fun h25 => ?_)
      · exact absurd (xb_f (by rw [ho]; decide)) h25
      · refine xa_icN C 2 dM_begin_28 ?_
        refine xa_goto C dM_begin_29 (tgt := 33) rfl ?_
        refine xa_put C f_M_63 u_M_0 dM_begin_33 rfl (Nat.le_of_ble_eq_true rfl) rfl rfl (fun _ h => by cases h) ?_
        refine xa_aload_n C dM_begin_36 rfl ?_
        refine xa_get C f_M_63 dM_begin_37 rfl rfl ?_
        refine xa_if_eq C dM_begin_40 (tgt := 45) rfl (fun h40 => ?_) (fun h40 => ?_)
        · exact absurd h40 (by decide)
        · refine xa_lcN C 0 dM_begin_43 ?_
          exact xa_eq rfl rfl rfl (xa_lret C hr hk dM_begin_44)
  · exact absurd hx (xb_eq0.mp h6)
def slz (p : Nat → Bool) (v : Int32) (f : Nat → Int32) (k : Nat) : Nat → Int32 := fun j => if 1 ≤ j ∧ j ≤ k ∧ p j = true then v else f j
theorem slz_up {p : Nat → Bool} {v : Int32} {f : Nat → Int32} {k : Nat} (h : p (k + 1) = true) : upd (slz p v f k) (k + 1) v = slz p v f (k + 1) := by
  funext j
  unfold upd slz
  by_cases e : j = k + 1
  · subst e
    rw [if_pos rfl, if_pos ⟨by omega, by omega, h⟩]
  · rw [if_neg e]
    by_cases q : 1 ≤ j ∧ j ≤ k ∧ p j = true
    · rw [if_pos q, if_pos ⟨q.1, by omega, q.2.2⟩]
    · rw [if_neg q, if_neg (fun z => q ⟨z.1, by omega, z.2.2⟩)]
theorem slz_no {p : Nat → Bool} {v : Int32} {f : Nat → Int32} {k : Nat} (h : p (k + 1) = false) : slz p v f (k + 1) = slz p v f k := by
  funext j
  unfold slz
  by_cases q : 1 ≤ j ∧ j ≤ k ∧ p j = true
  · rw [if_pos q, if_pos ⟨q.1, by omega, q.2.2⟩]
  · rw [if_neg q, if_neg (fun z => ?_)]
    by_cases e : j = k + 1
    · subst e; rw [h] at z; exact absurd z.2.2 (by decide)
    · exact q ⟨z.1, by omega, z.2.2⟩
theorem slz_0 (p : Nat → Bool) (v : Int32) (f : Nat → Int32) : slz p v f 0 = f := by
  funext j
  unfold slz
  rw [if_neg (fun z => by omega)]
def mb_ (x : Int32) (e1 e2 : Nat → Nat) (n : Nat) (w : Int64) (key : Nat) (m0 : Int64) : Nat → Int64
  | 0 => m0
  | k + 1 => if hs x (k + 1) = true then fh_ x e1 e2 (dg_m (dg_m (dg_m (dg_m 0 4) (lN key)) w) (lN (k + 1))) n else mb_ x e1 e2 n w key m0 k
set_option maxHeartbeats 4000000 in
set_option maxRecDepth 100000 in
theorem p_M_begin_d (g : xw_G) (l : Launch) {c0 c1 c2 c3 c4 c5 c6 c7 c8 c9 c10 c11 c12 c13 c14 c15 : va_E} {n t : Nat} {se ke f1 f2 e1 e2 y1 y2 fa we sh to : Nat → Nat} {oz sz mz : Nat → Int32} {th dl ms tk bl : Int32} {al ch : Nat} {mi : Int64} {rest : List va_E} (hn : n ≤ 6) (ht : t ≤ 6) (he1 : ∀ j, e1 j < 2 ^ 31) (he2 : ∀ j, e2 j < 2 ^ 31) (x : Int32) (hx : em n t x) (hd : ¬ dl = 0) (ho : ao_ x oz n = true) (w : Int64) : xm_R g l false m_M_begin [.ref 16, .int x, .long w] (hQ c0 c1 c2 c3 c4 c5 c6 c7 c8 c9 c10 c11 c12 c13 c14 c15 (hM g th n t dl se ke oz f1 f2 e1 e2 ms al ch y1 y2 fa we sz mz sh to tk bl mi ++ rest)) (some (.long (lN (pp_ x e1 e2 (ff_ x e1 e2 n w (ke 0)) n)))) (hQ c0 c1 c2 c3 c4 c5 c6 c7 c8 c9 c10 c11 c12 c13 c14 c15 (hM g (nI 0) n t dl se ke oz f1 f2 e1 e2 x (pp_ x e1 e2 (ff_ x e1 e2 n w (ke 0)) n) (cs_ (pp_ x e1 e2 (ff_ x e1 e2 n w (ke 0)) n) (ke 0) w) (sl_ (hs x) e1 y1 n) (sl_ (hs x) e2 y2 n) (sl_ (hs x) (ff_ x e1 e2 n w (ke 0)) fa n) (sl_ (hs x) (wt_ x n) we n) (slz (hs x) (nI 1) sz n) (slz (hs x) (nI 0) mz n) sh to 0 0 (dg_m (dg_m (dg_m (dg_m 0 5) (lN (pp_ x e1 e2 (ff_ x e1 e2 n w (ke 0)) n))) (lN (ke 0))) w) ++ rest)) := by
  refine xm_of [some (.ref 16), some (.int x), some (.long w), none, none] rfl (Nat.le_of_ble_eq_true rfl) rfl ?_
  intro p e s m args below meth c C hr hk
  have loop : ∀ d k : Nat, k + d = n → xw_At g false 5 p l e (xm_rm m_M_begin 0) s m args below meth c 0 0 (MQ below (xm_Q g false (some (.long (lN (pp_ x e1 e2 (ff_ x e1 e2 n w (ke 0)) n)))) (hQ c0 c1 c2 c3 c4 c5 c6 c7 c8 c9 c10 c11 c12 c13 c14 c15 (hM g (nI 0) n t dl se ke oz f1 f2 e1 e2 x (pp_ x e1 e2 (ff_ x e1 e2 n w (ke 0)) n) (cs_ (pp_ x e1 e2 (ff_ x e1 e2 n w (ke 0)) n) (ke 0) w) (sl_ (hs x) e1 y1 n) (sl_ (hs x) e2 y2 n) (sl_ (hs x) (ff_ x e1 e2 n w (ke 0)) fa n) (sl_ (hs x) (wt_ x n) we n) (slz (hs x) (nI 1) sz n) (slz (hs x) (nI 0) mz n) sh to 0 0 (dg_m (dg_m (dg_m (dg_m 0 5) (lN (pp_ x e1 e2 (ff_ x e1 e2 n w (ke 0)) n))) (lN (ke 0))) w) ++ rest))) args s 0 0 (xm_fr g false)) 68 [some (.ref 16), some (.int x), some (.long w), none, some (.int (nI (k + 1)))] [] (hQ c0 c1 c2 c3 c4 c5 c6 c7 c8 c9 c10 c11 c12 c13 c14 c15 (hM g (nI 0) n t dl se ke oz f1 f2 e1 e2 x (pp_ x e1 e2 (ff_ x e1 e2 n w (ke 0)) k) ch (sl_ (hs x) e1 y1 k) (sl_ (hs x) e2 y2 k) (sl_ (hs x) (ff_ x e1 e2 n w (ke 0)) fa k) (sl_ (hs x) (wt_ x n) we k) (slz (hs x) (nI 1) sz k) (slz (hs x) (nI 0) mz k) sh to 0 0 (mb_ x e1 e2 n w (ke 0) mi k) ++ rest)) := by
    intro d
    induction d with
    | zero =>
      intro k hk9
      obtain rfl : k = n := by omega
      refine xa_iload C dM_begin_68 rfl ?_
      refine xa_aload_n C dM_begin_70 rfl ?_
      refine xa_get C f_M_56 dM_begin_71 rfl rfl ?_
      refine xa_icmp_gt C dM_begin_74 (tgt := 210) rfl (fun h74 => ?_) (fun h74 => ?_)
      · refine xa_aload_n C dM_begin_210 rfl ?_
        refine xa_aload_n C dM_begin_211 rfl ?_
        refine xa_aload_n C dM_begin_212 rfl ?_
        refine xa_get C f_M_132 dM_begin_213 rfl rfl ?_
        refine xa_lload_n C dM_begin_216 rfl ?_
        refine xa_callV1 C (p_M_challengeOf g l _ w) b_M_143 (xw_in wi_M_challengeOf rfl) e_M_challengeOf dM_begin_217 rfl rfl rfl rfl (Nat.le_of_ble_eq_true rfl) ⟨Nat.le_of_ble_eq_true rfl, Nat.le_of_ble_eq_true rfl⟩ ⟨Nat.zero_le _, Nat.zero_le _⟩ ?_
        refine xa_put C f_M_147 u_M_13 dM_begin_220 rfl (Nat.le_of_ble_eq_true rfl) rfl rfl (fun _ h => by cases h) ?_
        refine xa_aload_n C dM_begin_223 rfl ?_
        refine xa_get C f_M_132 dM_begin_224 rfl rfl ?_
        exact xa_eq rfl rfl rfl (xa_lret C hr hk dM_begin_227)
      · exact absurd (nI_lt (by omega) (by omega)) h74
    | succ d ih =>
      intro k hk9
      refine xa_iload C dM_begin_68 rfl ?_
      refine xa_aload_n C dM_begin_70 rfl ?_
      refine xa_get C f_M_56 dM_begin_71 rfl rfl ?_
      refine xa_icmp_gt C dM_begin_74 (tgt := 210) rfl (fun h74 => ?_) (fun h74 => ?_)
      · exact absurd h74 (nI_nlt (by omega) (by omega))
      · refine xa_iload_n C dM_begin_77 rfl ?_
        refine xa_iload C dM_begin_78 rfl ?_
        refine xa_callS1 C (p_M_inN g l _ (by omega) (by omega) _) b_M_89 (xw_in wt_M_in rfl) dM_begin_80 rfl (Nat.le_of_ble_eq_true rfl) ⟨Nat.le_of_ble_eq_true rfl, Nat.le_of_ble_eq_true rfl⟩ ⟨Nat.zero_le _, Nat.zero_le _⟩ ?_
        refine xa_if_eq C dM_begin_83 (tgt := 204) rfl (fun h83 => ?_) (fun h83 => ?_)
        · have hb := xb_hs0 h83
          refine xa_incN C dM_begin_204 rfl (Nat.le_of_ble_eq_true rfl) ?_
          refine xa_goto C dM_begin_207 (tgt := 68) rfl ?_
          have h := ih (k + 1) (by omega)
          rw [sl_no (p := hs x) hb, sl_no (p := hs x) hb, sl_no (p := hs x) hb, sl_no (p := hs x) hb, slz_no (p := hs x) hb, slz_no (p := hs x) hb, pp_, if_neg (by rw [hb]; decide), mb_, if_neg (by rw [hb]; decide)] at h
          exact h
        · have hb := xb_hs1 h83
          refine xa_aload_n C dM_begin_86 rfl ?_
          refine xa_get C f_M_32 dM_begin_87 rfl rfl ?_
          refine xa_iload C dM_begin_90 rfl ?_
          refine xa_aload_n C dM_begin_92 rfl ?_
          refine xa_get C f_M_26 dM_begin_93 rfl rfl ?_
          refine xa_iload C dM_begin_96 rfl ?_
          refine xa_laloadN C dM_begin_98 rfl ?_ (by omega) ?_
          · omega
          refine xa_lastoreN C dM_begin_99 rfl ?_ (by omega) ?_
          · omega
          rw [sl_up (p := hs x) (v := e1) hb]
          refine xa_eq rfl rfl (hp' := (hQ c0 c1 c2 c3 c4 c5 c6 c7 c8 c9 c10 c11 c12 c13 c14 c15 (hM g (nI 0) n t dl se ke oz f1 f2 e1 e2 x (pp_ x e1 e2 (ff_ x e1 e2 n w (ke 0)) k) ch (sl_ (hs x) e1 y1 (k + 1)) (sl_ (hs x) e2 y2 k) (sl_ (hs x) (ff_ x e1 e2 n w (ke 0)) fa k) (sl_ (hs x) (wt_ x n) we k) (slz (hs x) (nI 1) sz k) (slz (hs x) (nI 0) mz k) sh to 0 0 (mb_ x e1 e2 n w (ke 0) mi k) ++ rest))) rfl ?_
          refine xa_aload_n C dM_begin_100 rfl ?_
          refine xa_get C f_M_35 dM_begin_101 rfl rfl ?_
          refine xa_iload C dM_begin_104 rfl ?_
          refine xa_aload_n C dM_begin_106 rfl ?_
          refine xa_get C f_M_29 dM_begin_107 rfl rfl ?_
          refine xa_iload C dM_begin_110 rfl ?_
          refine xa_laloadN C dM_begin_112 rfl ?_ (by omega) ?_
          · omega
          refine xa_lastoreN C dM_begin_113 rfl ?_ (by omega) ?_
          · omega
          rw [sl_up (p := hs x) (v := e2) hb]
          refine xa_eq rfl rfl (hp' := (hQ c0 c1 c2 c3 c4 c5 c6 c7 c8 c9 c10 c11 c12 c13 c14 c15 (hM g (nI 0) n t dl se ke oz f1 f2 e1 e2 x (pp_ x e1 e2 (ff_ x e1 e2 n w (ke 0)) k) ch (sl_ (hs x) e1 y1 (k + 1)) (sl_ (hs x) e2 y2 (k + 1)) (sl_ (hs x) (ff_ x e1 e2 n w (ke 0)) fa k) (sl_ (hs x) (wt_ x n) we k) (slz (hs x) (nI 1) sz k) (slz (hs x) (nI 0) mz k) sh to 0 0 (mb_ x e1 e2 n w (ke 0) mi k) ++ rest))) rfl ?_
          refine xa_aload_n C dM_begin_114 rfl ?_
          refine xa_get C f_M_38 dM_begin_115 rfl rfl ?_
          refine xa_iload C dM_begin_118 rfl ?_
          refine xa_aload_n C dM_begin_120 rfl ?_
          refine xa_iload_n C dM_begin_121 rfl ?_
          refine xa_lload_n C dM_begin_122 rfl ?_
          refine xa_iload C dM_begin_123 rfl ?_
          refine xa_callV1 C (p_M_factorOf g l hn _ w (by omega)) b_M_135 (xw_in wi_M_factorOf rfl) e_M_factorOf dM_begin_125 rfl rfl rfl rfl (Nat.le_of_ble_eq_true rfl) ⟨Nat.le_of_ble_eq_true rfl, Nat.le_of_ble_eq_true rfl⟩ ⟨Nat.zero_le _, Nat.zero_le _⟩ ?_
          refine xa_lastoreN C dM_begin_128 rfl ?_ (by omega) ?_
          · omega
          rw [sl_up (p := hs x) (v := (ff_ x e1 e2 n w (ke 0))) hb]
          refine xa_eq rfl rfl (hp' := (hQ c0 c1 c2 c3 c4 c5 c6 c7 c8 c9 c10 c11 c12 c13 c14 c15 (hM g (nI 0) n t dl se ke oz f1 f2 e1 e2 x (pp_ x e1 e2 (ff_ x e1 e2 n w (ke 0)) k) ch (sl_ (hs x) e1 y1 (k + 1)) (sl_ (hs x) e2 y2 (k + 1)) (sl_ (hs x) (ff_ x e1 e2 n w (ke 0)) fa (k + 1)) (sl_ (hs x) (wt_ x n) we k) (slz (hs x) (nI 1) sz k) (slz (hs x) (nI 0) mz k) sh to 0 0 (fh_ x e1 e2 (dg_m (dg_m (dg_m (dg_m 0 4) (lN (ke 0))) w) (lN (k + 1))) n) ++ rest))) rfl ?_
          refine xa_aload_n C dM_begin_129 rfl ?_
          refine xa_get C f_M_41 dM_begin_130 rfl rfl ?_
          refine xa_iload C dM_begin_133 rfl ?_
          refine xa_aload_n C dM_begin_135 rfl ?_
          refine xa_iload_n C dM_begin_136 rfl ?_
          refine xa_iload C dM_begin_137 rfl ?_
          refine xa_callV1 C (p_M_weightIn g l hn _ (by omega)) b_M_139 (xw_in wi_M_weightIn rfl) e_M_weightIn dM_begin_139 rfl rfl rfl rfl (Nat.le_of_ble_eq_true rfl) ⟨Nat.le_of_ble_eq_true rfl, Nat.le_of_ble_eq_true rfl⟩ ⟨Nat.zero_le _, Nat.zero_le _⟩ ?_
          refine xa_lastoreN C dM_begin_142 rfl ?_ (by omega) ?_
          · omega
          rw [sl_up (p := hs x) (v := wt_ x n) hb]
          refine xa_eq rfl rfl (hp' := (hQ c0 c1 c2 c3 c4 c5 c6 c7 c8 c9 c10 c11 c12 c13 c14 c15 (hM g (nI 0) n t dl se ke oz f1 f2 e1 e2 x (pp_ x e1 e2 (ff_ x e1 e2 n w (ke 0)) k) ch (sl_ (hs x) e1 y1 (k + 1)) (sl_ (hs x) e2 y2 (k + 1)) (sl_ (hs x) (ff_ x e1 e2 n w (ke 0)) fa (k + 1)) (sl_ (hs x) (wt_ x n) we (k + 1)) (slz (hs x) (nI 1) sz k) (slz (hs x) (nI 0) mz k) sh to 0 0 (fh_ x e1 e2 (dg_m (dg_m (dg_m (dg_m 0 4) (lN (ke 0))) w) (lN (k + 1))) n) ++ rest))) rfl ?_
          refine xa_aload_n C dM_begin_143 rfl ?_
          refine xa_get C f_M_44 dM_begin_144 rfl rfl ?_
          refine xa_iload C dM_begin_147 rfl ?_
          refine xa_icN C 1 dM_begin_149 ?_
          refine xa_bastoreN C dM_begin_150 rfl ?_ (by omega) (by decide) ?_
          · omega
          rw [slz_up (p := hs x) hb]
          refine xa_eq rfl rfl (hp' := (hQ c0 c1 c2 c3 c4 c5 c6 c7 c8 c9 c10 c11 c12 c13 c14 c15 (hM g (nI 0) n t dl se ke oz f1 f2 e1 e2 x (pp_ x e1 e2 (ff_ x e1 e2 n w (ke 0)) k) ch (sl_ (hs x) e1 y1 (k + 1)) (sl_ (hs x) e2 y2 (k + 1)) (sl_ (hs x) (ff_ x e1 e2 n w (ke 0)) fa (k + 1)) (sl_ (hs x) (wt_ x n) we (k + 1)) (slz (hs x) (nI 1) sz (k + 1)) (slz (hs x) (nI 0) mz k) sh to 0 0 (fh_ x e1 e2 (dg_m (dg_m (dg_m (dg_m 0 4) (lN (ke 0))) w) (lN (k + 1))) n) ++ rest))) rfl ?_
          refine xa_aload_n C dM_begin_151 rfl ?_
          refine xa_get C f_M_47 dM_begin_152 rfl rfl ?_
          refine xa_iload C dM_begin_155 rfl ?_
          refine xa_icN C 0 dM_begin_157 ?_
          refine xa_bastoreN C dM_begin_158 rfl ?_ (by omega) (by decide) ?_
          · omega
          rw [slz_up (p := hs x) hb]
          refine xa_eq rfl rfl (hp' := (hQ c0 c1 c2 c3 c4 c5 c6 c7 c8 c9 c10 c11 c12 c13 c14 c15 (hM g (nI 0) n t dl se ke oz f1 f2 e1 e2 x (pp_ x e1 e2 (ff_ x e1 e2 n w (ke 0)) k) ch (sl_ (hs x) e1 y1 (k + 1)) (sl_ (hs x) e2 y2 (k + 1)) (sl_ (hs x) (ff_ x e1 e2 n w (ke 0)) fa (k + 1)) (sl_ (hs x) (wt_ x n) we (k + 1)) (slz (hs x) (nI 1) sz (k + 1)) (slz (hs x) (nI 0) mz (k + 1)) sh to 0 0 (fh_ x e1 e2 (dg_m (dg_m (dg_m (dg_m 0 4) (lN (ke 0))) w) (lN (k + 1))) n) ++ rest))) rfl ?_
          refine xa_aload_n C dM_begin_159 rfl ?_
          refine xa_aload_n C dM_begin_160 rfl ?_
          refine xa_get C f_M_132 dM_begin_161 rfl rfl ?_
          refine xa_aload_n C dM_begin_164 rfl ?_
          refine xa_get C f_M_32 dM_begin_165 rfl rfl ?_
          refine xa_iload C dM_begin_168 rfl ?_
          refine xa_laloadN C dM_begin_170 rfl ?_ (by omega) ?_
          · omega
          rw [sl_at (p := hs x) (v := e1) (by omega) (Nat.le_refl _) hb]
          refine xa_mulN C dM_begin_171 ?_
          refine xa_ldcN C 2147483579 (xw_in wk_M_101 rfl) dM_begin_172 ?_
          refine xa_remN C dM_begin_175 (by first | exact tm_62 (pp_lt _ _ _ _ _) (he1 _) | exact tm_62 (tb_p _) (tb_p _) | omega) (by decide) (by decide) ?_
          refine xa_aload_n C dM_begin_176 rfl ?_
          refine xa_get C f_M_35 dM_begin_177 rfl rfl ?_
          refine xa_iload C dM_begin_180 rfl ?_
          refine xa_laloadN C dM_begin_182 rfl ?_ (by omega) ?_
          · omega
          refine xa_aload_n C dM_begin_183 rfl ?_
          refine xa_get C f_M_38 dM_begin_184 rfl rfl ?_
          refine xa_iload C dM_begin_187 rfl ?_
          refine xa_laloadN C dM_begin_189 rfl ?_ (by omega) ?_
          · omega
          rw [sl_at (p := hs x) (v := e2) (by omega) (Nat.le_refl _) hb, sl_at (p := hs x) (v := (ff_ x e1 e2 n w (ke 0))) (by omega) (Nat.le_refl _) hb]
          refine xa_ldcN C 2147483579 (xw_in wk_M_101 rfl) dM_begin_190 ?_
          refine xa_callS1 C (p_M_power g l (he2 _) (Nat.lt_trans (ff_lt _ _ _ _ _ _ _) (by decide)) (by decide) (by decide) _) b_M_95 (xw_in wt_M_power rfl) dM_begin_193 rfl (Nat.le_of_ble_eq_true rfl) ⟨Nat.le_of_ble_eq_true rfl, Nat.le_of_ble_eq_true rfl⟩ ⟨Nat.zero_le _, Nat.zero_le _⟩ ?_
          refine xa_mulN C dM_begin_196 ?_
          refine xa_ldcN C 2147483579 (xw_in wk_M_101 rfl) dM_begin_197 ?_
          refine xa_remN C dM_begin_200 (by first | exact tm_62 (pp_lt _ _ _ _ _) (he1 _) | exact tm_62 (tb_p _) (tb_p _) | omega) (by decide) (by decide) ?_
          rw [← tm_prod]
          refine xa_put C f_M_132 u_M_12 dM_begin_201 rfl (Nat.le_of_ble_eq_true rfl) rfl rfl (fun _ h => by cases h) ?_
          refine xa_eq rfl rfl (hp' := (hQ c0 c1 c2 c3 c4 c5 c6 c7 c8 c9 c10 c11 c12 c13 c14 c15 (hM g (nI 0) n t dl se ke oz f1 f2 e1 e2 x (pp_ x e1 e2 (ff_ x e1 e2 n w (ke 0)) k * (e1 (k + 1) * (e2 (k + 1) ^ (ff_ x e1 e2 n w (ke 0)) (k + 1) % 2147483579) % 2147483579) % 2147483579) ch (sl_ (hs x) e1 y1 (k + 1)) (sl_ (hs x) e2 y2 (k + 1)) (sl_ (hs x) (ff_ x e1 e2 n w (ke 0)) fa (k + 1)) (sl_ (hs x) (wt_ x n) we (k + 1)) (slz (hs x) (nI 1) sz (k + 1)) (slz (hs x) (nI 0) mz (k + 1)) sh to 0 0 (fh_ x e1 e2 (dg_m (dg_m (dg_m (dg_m 0 4) (lN (ke 0))) w) (lN (k + 1))) n) ++ rest))) rfl ?_
          refine xa_incN C dM_begin_204 rfl (Nat.le_of_ble_eq_true rfl) ?_
          refine xa_goto C dM_begin_207 (tgt := 68) rfl ?_
          have h := ih (k + 1) (by omega)
          rw [pp_, if_pos hb, mb_, if_pos hb] at h
          exact h
  refine xa_aload_n C dM_begin_0 rfl ?_
  refine xa_aload_n C dM_begin_1 rfl ?_
  refine xa_iload_n C dM_begin_2 rfl ?_
  refine xa_callV1 C (p_M_isSet g l hn _) b_M_126 (xw_in wi_M_isSet rfl) e_M_isSet dM_begin_3 rfl rfl rfl rfl (Nat.le_of_ble_eq_true rfl) ⟨Nat.le_of_ble_eq_true rfl, Nat.le_of_ble_eq_true rfl⟩ ⟨Nat.zero_le _, Nat.zero_le _⟩ ?_
  refine xa_if_ne C dM_begin_6 (tgt := 13) rfl (fun h6 => ?_) (fun h6 => ?_)
  · refine xa_aload_n C dM_begin_13 rfl ?_
    refine xa_get C f_M_103 dM_begin_14 rfl rfl ?_
    refine xa_if_eq C dM_begin_17 (tgt := 28) rfl (fun h17 => ?_) (fun h17 => ?_)
    · exact absurd h17 hd
    · refine xa_aload_n C dM_begin_20 rfl ?_
      refine xa_iload_n C dM_begin_21 rfl ?_
      refine xa_callV1 C (p_M_allOpen g l hn _) b_M_129 (xw_in wi_M_allOpen rfl) e_M_allOpen dM_begin_22 rfl rfl rfl rfl (Nat.le_of_ble_eq_true rfl) ⟨Nat.le_of_ble_eq_true rfl, Nat.le_of_ble_eq_true rfl⟩ ⟨Nat.zero_le _, Nat.zero_le _⟩ ?_
      refine xa_if_ne C dM_begin_25 (tgt := 32) rfl (fun h25 => ?_) (fun h25 => ?_)
      · refine xa_icN C 0 dM_begin_32 ?_
        refine xa_put C f_M_63 u_M_0 dM_begin_33 rfl (Nat.le_of_ble_eq_true rfl) rfl rfl (fun _ h => by cases h) ?_
        refine xa_aload_n C dM_begin_36 rfl ?_
        refine xa_get C f_M_63 dM_begin_37 rfl rfl ?_
        refine xa_if_eq C dM_begin_40 (tgt := 45) rfl (fun h40 => ?_) (fun h40 => ?_)
        · refine xa_aload_n C dM_begin_45 rfl ?_
          refine xa_iload_n C dM_begin_46 rfl ?_
          refine xa_put C f_M_107 u_M_11 dM_begin_47 rfl (Nat.le_of_ble_eq_true rfl) rfl rfl (fun _ h => by cases h) ?_
          refine xa_aload_n C dM_begin_50 rfl ?_
          refine xa_icN C 0 dM_begin_51 ?_
          refine xa_put C f_M_110 u_M_22 dM_begin_52 rfl (Nat.le_of_ble_eq_true rfl) rfl rfl (fun _ h => by cases h) ?_
          refine xa_aload_n C dM_begin_55 rfl ?_
          refine xa_icN C 0 dM_begin_56 ?_
          refine xa_put C f_M_113 u_M_23 dM_begin_57 rfl (Nat.le_of_ble_eq_true rfl) rfl rfl (fun _ h => by cases h) ?_
          refine xa_aload_n C dM_begin_60 rfl ?_
          refine xa_lcN C 1 dM_begin_61 ?_
          refine xa_put C f_M_132 u_M_12 dM_begin_62 rfl (Nat.le_of_ble_eq_true rfl) rfl rfl (fun _ h => by cases h) ?_
          refine xa_icN C 1 dM_begin_65 ?_
          refine xa_istore C dM_begin_66 (Nat.le_of_ble_eq_true rfl) ?_
          have h := loop n 0 (by omega)
          rw [sl_0, sl_0, sl_0, sl_0, slz_0, slz_0] at h
          exact h
        · exact absurd rfl h40
      · exact absurd ho (xb_eq0.mp h25)
  · exact absurd hx (xb_eq0.mp h6)
end
section
/-! the reference: sign, tell, submit, relay, seal, checks, what is told -/
theorem tm_ss {a b c : Nat} (ha : a < 2 ^ 31) : a + b % 1073741789 + c % 1073741789 < 2 ^ 63 := by
  have h1 := tb_q b
  have h2 := tb_q c
  omega
set_option maxHeartbeats 4000000 in
set_option maxRecDepth 100000 in
theorem p_M_sign_a (g : xw_G) (l : Launch) {c0 c1 c2 c3 c4 c5 c6 c7 c8 c9 c10 c11 c12 c13 c14 c15 : va_E} {n t : Nat} {se ke f1 f2 e1 e2 y1 y2 fa we sh to : Nat → Nat} {oz sz mz : Nat → Int32} {th dl ms tk bl : Int32} {al ch : Nat} {mi : Int64} {rest : List va_E} (x : Int32) (hx : ¬ sg n x) : xm_R g l false m_M_sign [.ref 16, .int x] (hQ c0 c1 c2 c3 c4 c5 c6 c7 c8 c9 c10 c11 c12 c13 c14 c15 (hM g th n t dl se ke oz f1 f2 e1 e2 ms al ch y1 y2 fa we sz mz sh to tk bl mi ++ rest)) (some (.long (lN 0))) (hQ c0 c1 c2 c3 c4 c5 c6 c7 c8 c9 c10 c11 c12 c13 c14 c15 (hM g (nI 1) n t dl se ke oz f1 f2 e1 e2 ms al ch y1 y2 fa we sz mz sh to tk bl mi ++ rest)) := by
  refine xm_of [some (.ref 16), some (.int x), none, none, none, none] rfl (Nat.le_of_ble_eq_true rfl) rfl ?_
  intro p e s m args below meth c C hr hk
  refine xa_aload_n C dM_sign_0 rfl ?_
  refine xa_aload_n C dM_sign_1 rfl ?_
  refine xa_iload_n C dM_sign_2 rfl ?_
  refine xa_callV1 C (p_M_isSigner g l _) b_M_116 (xw_in wi_M_isSigner rfl) e_M_isSigner dM_sign_3 rfl rfl rfl rfl (Nat.le_of_ble_eq_true rfl) ⟨Nat.le_of_ble_eq_true rfl, Nat.le_of_ble_eq_true rfl⟩ ⟨Nat.zero_le _, Nat.zero_le _⟩ ?_
  refine xa_if_ne C dM_sign_6 (tgt := 13) rfl (fun h6 => ?_) (fun h6 => ?_)
  · exact absurd (xb_f hx) h6
  · refine xa_icN C 1 dM_sign_9 ?_
    refine xa_goto C dM_sign_10 (tgt := 35) rfl ?_
    refine xa_put C f_M_63 u_M_0 dM_sign_35 rfl (Nat.le_of_ble_eq_true rfl) rfl rfl (fun _ h => by cases h) ?_
    refine xa_aload_n C dM_sign_38 rfl ?_
    refine xa_get C f_M_63 dM_sign_39 rfl rfl ?_
    refine xa_if_eq C dM_sign_42 (tgt := 47) rfl (fun h42 => ?_) (fun h42 => ?_)
    · exact absurd h42 (by decide)
    · refine xa_lcN C 0 dM_sign_45 ?_
      exact xa_eq rfl rfl rfl (xa_lret C hr hk dM_sign_46)
set_option maxHeartbeats 4000000 in
set_option maxRecDepth 100000 in
theorem p_M_sign_b (g : xw_G) (l : Launch) {c0 c1 c2 c3 c4 c5 c6 c7 c8 c9 c10 c11 c12 c13 c14 c15 : va_E} {n t : Nat} {se ke f1 f2 e1 e2 y1 y2 fa we sh to : Nat → Nat} {oz sz mz : Nat → Int32} {th dl ms tk bl : Int32} {al ch : Nat} {mi : Int64} {rest : List va_E} (hn : n ≤ 6) {i : Nat} (h1 : 1 ≤ i) (hi : i ≤ n) (hm : hs ms i = false) : xm_R g l false m_M_sign [.ref 16, .int (nI i)] (hQ c0 c1 c2 c3 c4 c5 c6 c7 c8 c9 c10 c11 c12 c13 c14 c15 (hM g th n t dl se ke oz f1 f2 e1 e2 ms al ch y1 y2 fa we sz mz sh to tk bl mi ++ rest)) (some (.long (lN 0))) (hQ c0 c1 c2 c3 c4 c5 c6 c7 c8 c9 c10 c11 c12 c13 c14 c15 (hM g (nI 2) n t dl se ke oz f1 f2 e1 e2 ms al ch y1 y2 fa we sz mz sh to tk bl mi ++ rest)) := by
  refine xm_of [some (.ref 16), some (.int (nI i)), none, none, none, none] rfl (Nat.le_of_ble_eq_true rfl) rfl ?_
  intro p e s m args below meth c C hr hk
  refine xa_aload_n C dM_sign_0 rfl ?_
  refine xa_aload_n C dM_sign_1 rfl ?_
  refine xa_iload_n C dM_sign_2 rfl ?_
  refine xa_callV1 C (p_M_isSigner g l _) b_M_116 (xw_in wi_M_isSigner rfl) e_M_isSigner dM_sign_3 rfl rfl rfl rfl (Nat.le_of_ble_eq_true rfl) ⟨Nat.le_of_ble_eq_true rfl, Nat.le_of_ble_eq_true rfl⟩ ⟨Nat.zero_le _, Nat.zero_le _⟩ ?_
  refine xa_if_ne C dM_sign_6 (tgt := 13) rfl (fun h6 => ?_) (fun h6 => ?_)
  · refine xa_aload_n C dM_sign_13 rfl ?_
    refine xa_iload_n C dM_sign_14 rfl ?_
    refine xa_callV1 C (p_M_isMember g l hn h1 hi) b_M_150 (xw_in wi_M_isMember rfl) e_M_isMember dM_sign_15 rfl rfl rfl rfl (Nat.le_of_ble_eq_true rfl) ⟨Nat.le_of_ble_eq_true rfl, Nat.le_of_ble_eq_true rfl⟩ ⟨Nat.zero_le _, Nat.zero_le _⟩ ?_
    refine xa_if_eq C dM_sign_18 (tgt := 30) rfl (fun h18 => ?_) (fun h18 => ?_)
    · refine xa_icN C 2 dM_sign_30 ?_
      refine xa_goto C dM_sign_31 (tgt := 35) rfl ?_
      refine xa_put C f_M_63 u_M_0 dM_sign_35 rfl (Nat.le_of_ble_eq_true rfl) rfl rfl (fun _ h => by cases h) ?_
      refine xa_aload_n C dM_sign_38 rfl ?_
      refine xa_get C f_M_63 dM_sign_39 rfl rfl ?_
      refine xa_if_eq C dM_sign_42 (tgt := 47) rfl (fun h42 => ?_) (fun h42 => ?_)
      · exact absurd h42 (by decide)
      · refine xa_lcN C 0 dM_sign_45 ?_
        exact xa_eq rfl rfl rfl (xa_lret C hr hk dM_sign_46)
    · exact absurd (xb_f (by rw [hm]; decide)) h18
  · exact absurd (sg_nI hn h1 hi) (xb_eq0.mp h6)
set_option maxHeartbeats 4000000 in
set_option maxRecDepth 100000 in
theorem p_M_sign_c (g : xw_G) (l : Launch) {c0 c1 c2 c3 c4 c5 c6 c7 c8 c9 c10 c11 c12 c13 c14 c15 : va_E} {n t : Nat} {se ke f1 f2 e1 e2 y1 y2 fa we sh to : Nat → Nat} {oz sz mz : Nat → Int32} {th dl ms tk bl : Int32} {al ch : Nat} {mi : Int64} {rest : List va_E} (hn : n ≤ 6) {i : Nat} (h1 : 1 ≤ i) (hi : i ≤ n) (hm : hs ms i = true) (hz : sz i = 0) : xm_R g l false m_M_sign [.ref 16, .int (nI i)] (hQ c0 c1 c2 c3 c4 c5 c6 c7 c8 c9 c10 c11 c12 c13 c14 c15 (hM g th n t dl se ke oz f1 f2 e1 e2 ms al ch y1 y2 fa we sz mz sh to tk bl mi ++ rest)) (some (.long (lN 0))) (hQ c0 c1 c2 c3 c4 c5 c6 c7 c8 c9 c10 c11 c12 c13 c14 c15 (hM g (nI 2) n t dl se ke oz f1 f2 e1 e2 ms al ch y1 y2 fa we sz mz sh to tk bl mi ++ rest)) := by
  refine xm_of [some (.ref 16), some (.int (nI i)), none, none, none, none] rfl (Nat.le_of_ble_eq_true rfl) rfl ?_
  intro p e s m args below meth c C hr hk
  refine xa_aload_n C dM_sign_0 rfl ?_
  refine xa_aload_n C dM_sign_1 rfl ?_
  refine xa_iload_n C dM_sign_2 rfl ?_
  refine xa_callV1 C (p_M_isSigner g l _) b_M_116 (xw_in wi_M_isSigner rfl) e_M_isSigner dM_sign_3 rfl rfl rfl rfl (Nat.le_of_ble_eq_true rfl) ⟨Nat.le_of_ble_eq_true rfl, Nat.le_of_ble_eq_true rfl⟩ ⟨Nat.zero_le _, Nat.zero_le _⟩ ?_
  refine xa_if_ne C dM_sign_6 (tgt := 13) rfl (fun h6 => ?_) (fun h6 => ?_)
  · refine xa_aload_n C dM_sign_13 rfl ?_
    refine xa_iload_n C dM_sign_14 rfl ?_
    refine xa_callV1 C (p_M_isMember g l hn h1 hi) b_M_150 (xw_in wi_M_isMember rfl) e_M_isMember dM_sign_15 rfl rfl rfl rfl (Nat.le_of_ble_eq_true rfl) ⟨Nat.le_of_ble_eq_true rfl, Nat.le_of_ble_eq_true rfl⟩ ⟨Nat.zero_le _, Nat.zero_le _⟩ ?_
    refine xa_if_eq C dM_sign_18 (tgt := 30) rfl (fun h18 => ?_) (fun h18 => ?_)
    · exact absurd hm (xb_eq0.mp h18)
    · refine xa_aload_n C dM_sign_21 rfl ?_
      refine xa_get C f_M_44 dM_sign_22 rfl rfl ?_
      refine xa_iload_n C dM_sign_25 rfl ?_
      refine xa_baloadN C dM_sign_26 rfl ?_ (by omega) ?_
      · omega
      refine xa_if_ne C dM_sign_27 (tgt := 34) rfl (fun h27 => ?_) (fun h27 => ?_)
      · exact absurd hz h27
      · refine xa_icN C 2 dM_sign_30 ?_
        refine xa_goto C dM_sign_31 (tgt := 35) rfl ?_
        refine xa_put C f_M_63 u_M_0 dM_sign_35 rfl (Nat.le_of_ble_eq_true rfl) rfl rfl (fun _ h => by cases h) ?_
        refine xa_aload_n C dM_sign_38 rfl ?_
        refine xa_get C f_M_63 dM_sign_39 rfl rfl ?_
        refine xa_if_eq C dM_sign_42 (tgt := 47) rfl (fun h42 => ?_) (fun h42 => ?_)
        · exact absurd h42 (by decide)
        · refine xa_lcN C 0 dM_sign_45 ?_
          exact xa_eq rfl rfl rfl (xa_lret C hr hk dM_sign_46)
  · exact absurd (sg_nI hn h1 hi) (xb_eq0.mp h6)
set_option maxHeartbeats 4000000 in
set_option maxRecDepth 100000 in
theorem p_M_sign_d (g : xw_G) (l : Launch) {c0 c1 c2 c3 c4 c5 c6 c7 c8 c9 c10 c11 c12 c13 c14 c15 : va_E} {n t : Nat} {se ke f1 f2 e1 e2 y1 y2 fa we sh to : Nat → Nat} {oz sz mz : Nat → Int32} {th dl ms tk bl : Int32} {al ch : Nat} {mi : Int64} {rest : List va_E} (hn : n ≤ 6) {i : Nat} (h1 : 1 ≤ i) (hi : i ≤ n) (hse : ∀ j, se j < 2 ^ 31) (hke : ∀ j, ke j < 2 ^ 31) (hf1 : ∀ j, f1 j < 2 ^ 31) (hf2 : ∀ j, f2 j < 2 ^ 31) (he1 : ∀ j, e1 j < 2 ^ 31) (he2 : ∀ j, e2 j < 2 ^ 31) (hy1 : ∀ j, y1 j < 2 ^ 31) (hy2 : ∀ j, y2 j < 2 ^ 31) (hfa : ∀ j, fa j < 2 ^ 30) (hwe : ∀ j, we j < 2 ^ 31) (hsh : ∀ j, sh j < 2 ^ 31) (hto : ∀ j, to j < 2 ^ 31) (hal : al < 2 ^ 31) (hch : ch < 2 ^ 31) (hm : hs ms i = true) (hz : ¬ sz i = 0) : xm_R g l false m_M_sign [.ref 16, .int (nI i)] (hQ c0 c1 c2 c3 c4 c5 c6 c7 c8 c9 c10 c11 c12 c13 c14 c15 (hM g th n t dl se ke oz f1 f2 e1 e2 ms al ch y1 y2 fa we sz mz sh to tk bl mi ++ rest)) (some (.long (lN (((f1 i + f2 i * fa i % 1073741789) % 1073741789 + ch * we i % 1073741789 * se i % 1073741789) % 1073741789)))) (hQ c0 c1 c2 c3 c4 c5 c6 c7 c8 c9 c10 c11 c12 c13 c14 c15 (hM g (nI 0) n t dl se ke (upd oz i (nI 0)) f1 f2 e1 e2 ms al ch y1 y2 fa we (upd sz i (nI 0)) (upd mz i (nI 1)) (va_up sh i (((f1 i + f2 i * fa i % 1073741789) % 1073741789 + ch * we i % 1073741789 * se i % 1073741789) % 1073741789)) to tk bl mi ++ rest)) := by
  refine xm_of [some (.ref 16), some (.int (nI i)), none, none, none, none] rfl (Nat.le_of_ble_eq_true rfl) rfl ?_
  intro p e s m args below meth c C hr hk
  refine xa_aload_n C dM_sign_0 rfl ?_
  refine xa_aload_n C dM_sign_1 rfl ?_
  refine xa_iload_n C dM_sign_2 rfl ?_
  refine xa_callV1 C (p_M_isSigner g l _) b_M_116 (xw_in wi_M_isSigner rfl) e_M_isSigner dM_sign_3 rfl rfl rfl rfl (Nat.le_of_ble_eq_true rfl) ⟨Nat.le_of_ble_eq_true rfl, Nat.le_of_ble_eq_true rfl⟩ ⟨Nat.zero_le _, Nat.zero_le _⟩ ?_
  refine xa_if_ne C dM_sign_6 (tgt := 13) rfl (fun h6 => ?_) (fun h6 => ?_)
  · refine xa_aload_n C dM_sign_13 rfl ?_
    refine xa_iload_n C dM_sign_14 rfl ?_
    refine xa_callV1 C (p_M_isMember g l hn h1 hi) b_M_150 (xw_in wi_M_isMember rfl) e_M_isMember dM_sign_15 rfl rfl rfl rfl (Nat.le_of_ble_eq_true rfl) ⟨Nat.le_of_ble_eq_true rfl, Nat.le_of_ble_eq_true rfl⟩ ⟨Nat.zero_le _, Nat.zero_le _⟩ ?_
    refine xa_if_eq C dM_sign_18 (tgt := 30) rfl (fun h18 => ?_) (fun h18 => ?_)
    · exact absurd hm (xb_eq0.mp h18)
    · refine xa_aload_n C dM_sign_21 rfl ?_
      refine xa_get C f_M_44 dM_sign_22 rfl rfl ?_
      refine xa_iload_n C dM_sign_25 rfl ?_
      refine xa_baloadN C dM_sign_26 rfl ?_ (by omega) ?_
      · omega
      refine xa_if_ne C dM_sign_27 (tgt := 34) rfl (fun h27 => ?_) (fun h27 => ?_)
      · refine xa_icN C 0 dM_sign_34 ?_
        refine xa_put C f_M_63 u_M_0 dM_sign_35 rfl (Nat.le_of_ble_eq_true rfl) rfl rfl (fun _ h => by cases h) ?_
        refine xa_aload_n C dM_sign_38 rfl ?_
        refine xa_get C f_M_63 dM_sign_39 rfl rfl ?_
        refine xa_if_eq C dM_sign_42 (tgt := 47) rfl (fun h42 => ?_) (fun h42 => ?_)
        · refine xa_aload_n C dM_sign_47 rfl ?_
          refine xa_get C f_M_23 dM_sign_48 rfl rfl ?_
          refine xa_iload_n C dM_sign_51 rfl ?_
          refine xa_laloadN C dM_sign_52 rfl ?_ (by omega) ?_
          · omega
          refine xa_aload_n C dM_sign_53 rfl ?_
          refine xa_get C f_M_38 dM_sign_54 rfl rfl ?_
          refine xa_iload_n C dM_sign_57 rfl ?_
          refine xa_laloadN C dM_sign_58 rfl ?_ (by omega) ?_
          · omega
          refine xa_mulN C dM_sign_59 ?_
          refine xa_ldcN C 1073741789 (xw_in wk_M_68 rfl) dM_sign_60 ?_
          refine xa_remN C dM_sign_63 (by first | exact tm_62 (hf2 _) (Nat.lt_trans (hfa _) (by decide)) | exact tm_62 hch (hwe _) | exact tm_62 (tb_q _) (hse _) | exact tm_ss (hf1 _) | omega) (by decide) (by decide) ?_
          refine xa_lstore_n C dM_sign_64 (Nat.le_of_ble_eq_true rfl) ?_
          refine xa_aload_n C dM_sign_65 rfl ?_
          refine xa_get C f_M_147 dM_sign_66 rfl rfl ?_
          refine xa_aload_n C dM_sign_69 rfl ?_
          refine xa_get C f_M_41 dM_sign_70 rfl rfl ?_
          refine xa_iload_n C dM_sign_73 rfl ?_
          refine xa_laloadN C dM_sign_74 rfl ?_ (by omega) ?_
          · omega
          refine xa_mulN C dM_sign_75 ?_
          refine xa_ldcN C 1073741789 (xw_in wk_M_68 rfl) dM_sign_76 ?_
          refine xa_remN C dM_sign_79 (by first | exact tm_62 (hf2 _) (Nat.lt_trans (hfa _) (by decide)) | exact tm_62 hch (hwe _) | exact tm_62 (tb_q _) (hse _) | exact tm_ss (hf1 _) | omega) (by decide) (by decide) ?_
          refine xa_aload_n C dM_sign_80 rfl ?_
          refine xa_get C f_M_7 dM_sign_81 rfl rfl ?_
          refine xa_iload_n C dM_sign_84 rfl ?_
          refine xa_laloadN C dM_sign_85 rfl ?_ (by omega) ?_
          · omega
          refine xa_mulN C dM_sign_86 ?_
          refine xa_ldcN C 1073741789 (xw_in wk_M_68 rfl) dM_sign_87 ?_
          refine xa_remN C dM_sign_90 (by first | exact tm_62 (hf2 _) (Nat.lt_trans (hfa _) (by decide)) | exact tm_62 hch (hwe _) | exact tm_62 (tb_q _) (hse _) | exact tm_ss (hf1 _) | omega) (by decide) (by decide) ?_
          refine xa_lstore C dM_sign_91 (Nat.le_of_ble_eq_true rfl) ?_
          refine xa_aload_n C dM_sign_93 rfl ?_
          refine xa_get C f_M_50 dM_sign_94 rfl rfl ?_
          refine xa_iload_n C dM_sign_97 rfl ?_
          refine xa_aload_n C dM_sign_98 rfl ?_
          refine xa_get C f_M_20 dM_sign_99 rfl rfl ?_
          refine xa_iload_n C dM_sign_102 rfl ?_
          refine xa_laloadN C dM_sign_103 rfl ?_ (by omega) ?_
          · omega
          refine xa_lload_n C dM_sign_104 rfl ?_
          refine xa_addN C dM_sign_105 ?_
          refine xa_lload C dM_sign_106 rfl ?_
          refine xa_addN C dM_sign_108 ?_
          refine xa_ldcN C 1073741789 (xw_in wk_M_68 rfl) dM_sign_109 ?_
          refine xa_remN C dM_sign_112 (by first | exact tm_62 (hf2 _) (Nat.lt_trans (hfa _) (by decide)) | exact tm_62 hch (hwe _) | exact tm_62 (tb_q _) (hse _) | exact tm_ss (hf1 _) | omega) (by decide) (by decide) ?_
          rw [← tm_share]
          refine xa_lastoreN C dM_sign_113 rfl ?_ (by omega) ?_
          · omega
          refine xa_eq rfl rfl (hp' := (hQ c0 c1 c2 c3 c4 c5 c6 c7 c8 c9 c10 c11 c12 c13 c14 c15 (hM g (nI 0) n t dl se ke oz f1 f2 e1 e2 ms al ch y1 y2 fa we sz mz (va_up sh i (((f1 i + f2 i * fa i % 1073741789) % 1073741789 + ch * we i % 1073741789 * se i % 1073741789) % 1073741789)) to tk bl mi ++ rest))) rfl ?_
          refine xa_aload_n C dM_sign_114 rfl ?_
          refine xa_get C f_M_47 dM_sign_115 rfl rfl ?_
          refine xa_iload_n C dM_sign_118 rfl ?_
          refine xa_icN C 1 dM_sign_119 ?_
          refine xa_bastoreN C dM_sign_120 rfl ?_ (by omega) (by decide) ?_
          · omega
          refine xa_aload_n C dM_sign_121 rfl ?_
          refine xa_get C f_M_44 dM_sign_122 rfl rfl ?_
          refine xa_iload_n C dM_sign_125 rfl ?_
          refine xa_icN C 0 dM_sign_126 ?_
          refine xa_bastoreN C dM_sign_127 rfl ?_ (by omega) (by decide) ?_
          · omega
          refine xa_aload_n C dM_sign_128 rfl ?_
          refine xa_get C f_M_16 dM_sign_129 rfl rfl ?_
          refine xa_iload_n C dM_sign_132 rfl ?_
          refine xa_icN C 0 dM_sign_133 ?_
          refine xa_bastoreN C dM_sign_134 rfl ?_ (by omega) (by decide) ?_
          · omega
          refine xa_aload_n C dM_sign_135 rfl ?_
          refine xa_get C f_M_50 dM_sign_136 rfl rfl ?_
          refine xa_iload_n C dM_sign_139 rfl ?_
          refine xa_laloadN C dM_sign_140 rfl ?_ (by omega) ?_
          · omega
          rw [va_up_s]
          exact xa_eq rfl rfl rfl (xa_lret C hr hk dM_sign_141)
        · exact absurd rfl h42
      · exact absurd h27 hz
  · exact absurd (sg_nI hn h1 hi) (xb_eq0.mp h6)
set_option maxHeartbeats 4000000 in
set_option maxRecDepth 100000 in
theorem p_M_tell_t (g : xw_G) (l : Launch) {c0 c1 c2 c3 c4 c5 c6 c7 c8 c9 c10 c11 c12 c13 c14 c15 : va_E} {n t : Nat} {se ke f1 f2 e1 e2 y1 y2 fa we sh to : Nat → Nat} {oz sz mz : Nat → Int32} {th dl ms tk bl : Int32} {al ch : Nat} {mi : Int64} {rest : List va_E} (hn : n ≤ 6) {i : Nat} (h1 : 1 ≤ i) (hi : i ≤ n) (hse : ∀ j, se j < 2 ^ 31) (hke : ∀ j, ke j < 2 ^ 31) (hf1 : ∀ j, f1 j < 2 ^ 31) (hf2 : ∀ j, f2 j < 2 ^ 31) (he1 : ∀ j, e1 j < 2 ^ 31) (he2 : ∀ j, e2 j < 2 ^ 31) (hy1 : ∀ j, y1 j < 2 ^ 31) (hy2 : ∀ j, y2 j < 2 ^ 31) (hfa : ∀ j, fa j < 2 ^ 30) (hwe : ∀ j, we j < 2 ^ 31) (hsh : ∀ j, sh j < 2 ^ 31) (hto : ∀ j, to j < 2 ^ 31) (hal : al < 2 ^ 31) (hch : ch < 2 ^ 31) {z : Nat} (hz : z < 2 ^ 30) (hR : 4 ^ z % 2147483579 = y1 i * (y2 i ^ fa i % 2147483579) % 2147483579 * (ke i ^ (ch * we i % 1073741789) % 2147483579) % 2147483579) : xm_R g l false m_M_tell [.ref 16, .int (nI i), .long (lN z)] (hQ c0 c1 c2 c3 c4 c5 c6 c7 c8 c9 c10 c11 c12 c13 c14 c15 (hM g th n t dl se ke oz f1 f2 e1 e2 ms al ch y1 y2 fa we sz mz sh to tk bl mi ++ rest)) (some (.int 1)) (hQ c0 c1 c2 c3 c4 c5 c6 c7 c8 c9 c10 c11 c12 c13 c14 c15 (hM g th n t dl se ke oz f1 f2 e1 e2 ms al ch y1 y2 fa we sz mz sh (va_up to i z) (tk ||| on_ i) bl mi ++ rest)) := by
  refine xm_of [some (.ref 16), some (.int (nI i)), some (.long (lN z)), none, none, none, none, none, none] rfl (Nat.le_of_ble_eq_true rfl) rfl ?_
  intro p e s m args below meth c C hr hk
  refine xa_aload_n C dM_tell_0 rfl ?_
  refine xa_get C f_M_32 dM_tell_1 rfl rfl ?_
  refine xa_iload_n C dM_tell_4 rfl ?_
  refine xa_laloadN C dM_tell_5 rfl ?_ (by omega) ?_
  · omega
  refine xa_aload_n C dM_tell_6 rfl ?_
  refine xa_get C f_M_35 dM_tell_7 rfl rfl ?_
  refine xa_iload_n C dM_tell_10 rfl ?_
  refine xa_laloadN C dM_tell_11 rfl ?_ (by omega) ?_
  · omega
  refine xa_aload_n C dM_tell_12 rfl ?_
  refine xa_get C f_M_38 dM_tell_13 rfl rfl ?_
  refine xa_iload_n C dM_tell_16 rfl ?_
  refine xa_laloadN C dM_tell_17 rfl ?_ (by omega) ?_
  · omega
  refine xa_ldcN C 2147483579 (xw_in wk_M_101 rfl) dM_tell_18 ?_
  refine xa_callS1 C (p_M_power g l (by first | exact hy2 _ | exact hke _ | decide) (by first | exact Nat.lt_trans (hfa _) (by decide) | exact Nat.lt_trans (tb_q _) (by decide) | omega) (by decide) (by decide) _) b_M_95 (xw_in wt_M_power rfl) dM_tell_21 rfl (Nat.le_of_ble_eq_true rfl) ⟨Nat.le_of_ble_eq_true rfl, Nat.le_of_ble_eq_true rfl⟩ ⟨Nat.zero_le _, Nat.zero_le _⟩ ?_
  refine xa_mulN C dM_tell_24 ?_
  refine xa_ldcN C 2147483579 (xw_in wk_M_101 rfl) dM_tell_25 ?_
  refine xa_remN C dM_tell_28 (by first | exact tm_62 (hy1 _) (tb_p _) | exact tm_62 hch (hwe _) | exact tm_62 (tb_p _) (tb_p _) | omega) (by decide) (by decide) ?_
  refine xa_lstore C dM_tell_29 (Nat.le_of_ble_eq_true rfl) ?_
  refine xa_aload_n C dM_tell_31 rfl ?_
  refine xa_get C f_M_147 dM_tell_32 rfl rfl ?_
  refine xa_aload_n C dM_tell_35 rfl ?_
  refine xa_get C f_M_41 dM_tell_36 rfl rfl ?_
  refine xa_iload_n C dM_tell_39 rfl ?_
  refine xa_laloadN C dM_tell_40 rfl ?_ (by omega) ?_
  · omega
  refine xa_mulN C dM_tell_41 ?_
  refine xa_ldcN C 1073741789 (xw_in wk_M_68 rfl) dM_tell_42 ?_
  refine xa_remN C dM_tell_45 (by first | exact tm_62 (hy1 _) (tb_p _) | exact tm_62 hch (hwe _) | exact tm_62 (tb_p _) (tb_p _) | omega) (by decide) (by decide) ?_
  refine xa_lstore C dM_tell_46 (Nat.le_of_ble_eq_true rfl) ?_
  refine xa_lload C dM_tell_48 rfl ?_
  refine xa_aload_n C dM_tell_50 rfl ?_
  refine xa_get C f_M_13 dM_tell_51 rfl rfl ?_
  refine xa_iload_n C dM_tell_54 rfl ?_
  refine xa_laloadN C dM_tell_55 rfl ?_ (by omega) ?_
  · omega
  refine xa_lload C dM_tell_56 rfl ?_
  refine xa_ldcN C 2147483579 (xw_in wk_M_101 rfl) dM_tell_58 ?_
  refine xa_callS1 C (p_M_power g l (by first | exact hy2 _ | exact hke _ | decide) (by first | exact Nat.lt_trans (hfa _) (by decide) | exact Nat.lt_trans (tb_q _) (by decide) | omega) (by decide) (by decide) _) b_M_95 (xw_in wt_M_power rfl) dM_tell_61 rfl (Nat.le_of_ble_eq_true rfl) ⟨Nat.le_of_ble_eq_true rfl, Nat.le_of_ble_eq_true rfl⟩ ⟨Nat.zero_le _, Nat.zero_le _⟩ ?_
  refine xa_mulN C dM_tell_64 ?_
  refine xa_ldcN C 2147483579 (xw_in wk_M_101 rfl) dM_tell_65 ?_
  refine xa_remN C dM_tell_68 (by first | exact tm_62 (hy1 _) (tb_p _) | exact tm_62 hch (hwe _) | exact tm_62 (tb_p _) (tb_p _) | omega) (by decide) (by decide) ?_
  refine xa_lstore C dM_tell_69 (Nat.le_of_ble_eq_true rfl) ?_
  refine xa_icN C 1 dM_tell_71 ?_
  refine xa_iload_n C dM_tell_72 rfl ?_
  refine xa_icN C 1 dM_tell_73 ?_
  refine xa_isub C dM_tell_74 ?_
  refine xa_ishl C dM_tell_75 ?_
  refine xa_istore C dM_tell_76 (Nat.le_of_ble_eq_true rfl) ?_
  refine xa_ldcN C 4 (xw_in wk_M_99 rfl) dM_tell_78 ?_
  refine xa_lload_n C dM_tell_81 rfl ?_
  refine xa_ldcN C 2147483579 (xw_in wk_M_101 rfl) dM_tell_82 ?_
  refine xa_callS1 C (p_M_power g l (by first | exact hy2 _ | exact hke _ | decide) (by first | exact Nat.lt_trans (hfa _) (by decide) | exact Nat.lt_trans (tb_q _) (by decide) | omega) (by decide) (by decide) _) b_M_95 (xw_in wt_M_power rfl) dM_tell_85 rfl (Nat.le_of_ble_eq_true rfl) ⟨Nat.le_of_ble_eq_true rfl, Nat.le_of_ble_eq_true rfl⟩ ⟨Nat.zero_le _, Nat.zero_le _⟩ ?_
  refine xa_lload C dM_tell_88 rfl ?_
  refine xa_lcmp C dM_tell_90 ?_
  refine xa_if_eq C dM_tell_91 (tgt := 107) rfl (fun h91 => ?_) (fun h91 => ?_)
  · refine xa_aload_n C dM_tell_107 rfl ?_
    refine xa_aload_n C dM_tell_108 rfl ?_
    refine xa_get C f_M_110 dM_tell_109 rfl rfl ?_
    refine xa_iload C dM_tell_112 rfl ?_
    refine xa_ior C dM_tell_114 ?_
    refine xa_put C f_M_110 u_M_22 dM_tell_115 rfl (Nat.le_of_ble_eq_true rfl) rfl rfl (fun _ h => by cases h) ?_
    refine xa_aload_n C dM_tell_118 rfl ?_
    refine xa_get C f_M_53 dM_tell_119 rfl rfl ?_
    refine xa_iload_n C dM_tell_122 rfl ?_
    refine xa_lload_n C dM_tell_123 rfl ?_
    refine xa_lastoreN C dM_tell_124 rfl ?_ (by omega) ?_
    · omega
    refine xa_icN C 1 dM_tell_125 ?_
    exact xa_eq rfl rfl rfl (xa_zret C hr hk rfl dM_tell_126)
  · exact absurd ((tp_eq (tb_p _) (tb_p _)).mpr hR) h91
set_option maxHeartbeats 4000000 in
set_option maxRecDepth 100000 in
theorem p_M_tell_f (g : xw_G) (l : Launch) {c0 c1 c2 c3 c4 c5 c6 c7 c8 c9 c10 c11 c12 c13 c14 c15 : va_E} {n t : Nat} {se ke f1 f2 e1 e2 y1 y2 fa we sh to : Nat → Nat} {oz sz mz : Nat → Int32} {th dl ms tk bl : Int32} {al ch : Nat} {mi : Int64} {rest : List va_E} (hn : n ≤ 6) {i : Nat} (h1 : 1 ≤ i) (hi : i ≤ n) (hse : ∀ j, se j < 2 ^ 31) (hke : ∀ j, ke j < 2 ^ 31) (hf1 : ∀ j, f1 j < 2 ^ 31) (hf2 : ∀ j, f2 j < 2 ^ 31) (he1 : ∀ j, e1 j < 2 ^ 31) (he2 : ∀ j, e2 j < 2 ^ 31) (hy1 : ∀ j, y1 j < 2 ^ 31) (hy2 : ∀ j, y2 j < 2 ^ 31) (hfa : ∀ j, fa j < 2 ^ 30) (hwe : ∀ j, we j < 2 ^ 31) (hsh : ∀ j, sh j < 2 ^ 31) (hto : ∀ j, to j < 2 ^ 31) (hal : al < 2 ^ 31) (hch : ch < 2 ^ 31) {z : Nat} (hz : z < 2 ^ 30) (hR : ¬ 4 ^ z % 2147483579 = y1 i * (y2 i ^ fa i % 2147483579) % 2147483579 * (ke i ^ (ch * we i % 1073741789) % 2147483579) % 2147483579) : xm_R g l false m_M_tell [.ref 16, .int (nI i), .long (lN z)] (hQ c0 c1 c2 c3 c4 c5 c6 c7 c8 c9 c10 c11 c12 c13 c14 c15 (hM g th n t dl se ke oz f1 f2 e1 e2 ms al ch y1 y2 fa we sz mz sh to tk bl mi ++ rest)) (some (.int 0)) (hQ c0 c1 c2 c3 c4 c5 c6 c7 c8 c9 c10 c11 c12 c13 c14 c15 (hM g th n t dl se ke oz f1 f2 e1 e2 ms al ch y1 y2 fa we sz mz sh to tk (bl ||| on_ i) mi ++ rest)) := by
  refine xm_of [some (.ref 16), some (.int (nI i)), some (.long (lN z)), none, none, none, none, none, none] rfl (Nat.le_of_ble_eq_true rfl) rfl ?_
  intro p e s m args below meth c C hr hk
  refine xa_aload_n C dM_tell_0 rfl ?_
  refine xa_get C f_M_32 dM_tell_1 rfl rfl ?_
  refine xa_iload_n C dM_tell_4 rfl ?_
  refine xa_laloadN C dM_tell_5 rfl ?_ (by omega) ?_
  · omega
  refine xa_aload_n C dM_tell_6 rfl ?_
  refine xa_get C f_M_35 dM_tell_7 rfl rfl ?_
  refine xa_iload_n C dM_tell_10 rfl ?_
  refine xa_laloadN C dM_tell_11 rfl ?_ (by omega) ?_
  · omega
  refine xa_aload_n C dM_tell_12 rfl ?_
  refine xa_get C f_M_38 dM_tell_13 rfl rfl ?_
  refine xa_iload_n C dM_tell_16 rfl ?_
  refine xa_laloadN C dM_tell_17 rfl ?_ (by omega) ?_
  · omega
  refine xa_ldcN C 2147483579 (xw_in wk_M_101 rfl) dM_tell_18 ?_
  refine xa_callS1 C (p_M_power g l (by first | exact hy2 _ | exact hke _ | decide) (by first | exact Nat.lt_trans (hfa _) (by decide) | exact Nat.lt_trans (tb_q _) (by decide) | omega) (by decide) (by decide) _) b_M_95 (xw_in wt_M_power rfl) dM_tell_21 rfl (Nat.le_of_ble_eq_true rfl) ⟨Nat.le_of_ble_eq_true rfl, Nat.le_of_ble_eq_true rfl⟩ ⟨Nat.zero_le _, Nat.zero_le _⟩ ?_
  refine xa_mulN C dM_tell_24 ?_
  refine xa_ldcN C 2147483579 (xw_in wk_M_101 rfl) dM_tell_25 ?_
  refine xa_remN C dM_tell_28 (by first | exact tm_62 (hy1 _) (tb_p _) | exact tm_62 hch (hwe _) | exact tm_62 (tb_p _) (tb_p _) | omega) (by decide) (by decide) ?_
  refine xa_lstore C dM_tell_29 (Nat.le_of_ble_eq_true rfl) ?_
  refine xa_aload_n C dM_tell_31 rfl ?_
  refine xa_get C f_M_147 dM_tell_32 rfl rfl ?_
  refine xa_aload_n C dM_tell_35 rfl ?_
  refine xa_get C f_M_41 dM_tell_36 rfl rfl ?_
  refine xa_iload_n C dM_tell_39 rfl ?_
  refine xa_laloadN C dM_tell_40 rfl ?_ (by omega) ?_
  · omega
  refine xa_mulN C dM_tell_41 ?_
  refine xa_ldcN C 1073741789 (xw_in wk_M_68 rfl) dM_tell_42 ?_
  refine xa_remN C dM_tell_45 (by first | exact tm_62 (hy1 _) (tb_p _) | exact tm_62 hch (hwe _) | exact tm_62 (tb_p _) (tb_p _) | omega) (by decide) (by decide) ?_
  refine xa_lstore C dM_tell_46 (Nat.le_of_ble_eq_true rfl) ?_
  refine xa_lload C dM_tell_48 rfl ?_
  refine xa_aload_n C dM_tell_50 rfl ?_
  refine xa_get C f_M_13 dM_tell_51 rfl rfl ?_
  refine xa_iload_n C dM_tell_54 rfl ?_
  refine xa_laloadN C dM_tell_55 rfl ?_ (by omega) ?_
  · omega
  refine xa_lload C dM_tell_56 rfl ?_
  refine xa_ldcN C 2147483579 (xw_in wk_M_101 rfl) dM_tell_58 ?_
  refine xa_callS1 C (p_M_power g l (by first | exact hy2 _ | exact hke _ | decide) (by first | exact Nat.lt_trans (hfa _) (by decide) | exact Nat.lt_trans (tb_q _) (by decide) | omega) (by decide) (by decide) _) b_M_95 (xw_in wt_M_power rfl) dM_tell_61 rfl (Nat.le_of_ble_eq_true rfl) ⟨Nat.le_of_ble_eq_true rfl, Nat.le_of_ble_eq_true rfl⟩ ⟨Nat.zero_le _, Nat.zero_le _⟩ ?_
  refine xa_mulN C dM_tell_64 ?_
  refine xa_ldcN C 2147483579 (xw_in wk_M_101 rfl) dM_tell_65 ?_
  refine xa_remN C dM_tell_68 (by first | exact tm_62 (hy1 _) (tb_p _) | exact tm_62 hch (hwe _) | exact tm_62 (tb_p _) (tb_p _) | omega) (by decide) (by decide) ?_
  refine xa_lstore C dM_tell_69 (Nat.le_of_ble_eq_true rfl) ?_
  refine xa_icN C 1 dM_tell_71 ?_
  refine xa_iload_n C dM_tell_72 rfl ?_
  refine xa_icN C 1 dM_tell_73 ?_
  refine xa_isub C dM_tell_74 ?_
  refine xa_ishl C dM_tell_75 ?_
  refine xa_istore C dM_tell_76 (Nat.le_of_ble_eq_true rfl) ?_
  refine xa_ldcN C 4 (xw_in wk_M_99 rfl) dM_tell_78 ?_
  refine xa_lload_n C dM_tell_81 rfl ?_
  refine xa_ldcN C 2147483579 (xw_in wk_M_101 rfl) dM_tell_82 ?_
  refine xa_callS1 C (p_M_power g l (by first | exact hy2 _ | exact hke _ | decide) (by first | exact Nat.lt_trans (hfa _) (by decide) | exact Nat.lt_trans (tb_q _) (by decide) | omega) (by decide) (by decide) _) b_M_95 (xw_in wt_M_power rfl) dM_tell_85 rfl (Nat.le_of_ble_eq_true rfl) ⟨Nat.le_of_ble_eq_true rfl, Nat.le_of_ble_eq_true rfl⟩ ⟨Nat.zero_le _, Nat.zero_le _⟩ ?_
  refine xa_lload C dM_tell_88 rfl ?_
  refine xa_lcmp C dM_tell_90 ?_
  refine xa_if_eq C dM_tell_91 (tgt := 107) rfl (fun h91 => ?_) (fun h91 => ?_)
  · exact absurd ((tp_eq (tb_p _) (tb_p _)).mp h91) hR
  · refine xa_aload_n C dM_tell_94 rfl ?_
    refine xa_aload_n C dM_tell_95 rfl ?_
    refine xa_get C f_M_113 dM_tell_96 rfl rfl ?_
    refine xa_iload C dM_tell_99 rfl ?_
    refine xa_ior C dM_tell_101 ?_
    refine xa_put C f_M_113 u_M_23 dM_tell_102 rfl (Nat.le_of_ble_eq_true rfl) rfl rfl (fun _ h => by cases h) ?_
    refine xa_icN C 0 dM_tell_105 ?_
    exact xa_eq rfl rfl rfl (xa_zret C hr hk rfl dM_tell_106)
set_option maxHeartbeats 4000000 in
set_option maxRecDepth 100000 in
theorem p_M_submit_a (g : xw_G) (l : Launch) {c0 c1 c2 c3 c4 c5 c6 c7 c8 c9 c10 c11 c12 c13 c14 c15 : va_E} {n t : Nat} {se ke f1 f2 e1 e2 y1 y2 fa we sh to : Nat → Nat} {oz sz mz : Nat → Int32} {th dl ms tk bl : Int32} {al ch : Nat} {mi : Int64} {rest : List va_E} (x : Int32) (hx : ¬ sg n x) (w : Int64) : xm_R g l false m_M_submit [.ref 16, .int x, .long w] (hQ c0 c1 c2 c3 c4 c5 c6 c7 c8 c9 c10 c11 c12 c13 c14 c15 (hM g th n t dl se ke oz f1 f2 e1 e2 ms al ch y1 y2 fa we sz mz sh to tk bl mi ++ rest)) (some (.int 0)) (hQ c0 c1 c2 c3 c4 c5 c6 c7 c8 c9 c10 c11 c12 c13 c14 c15 (hM g (nI 1) n t dl se ke oz f1 f2 e1 e2 ms al ch y1 y2 fa we sz mz sh to tk bl mi ++ rest)) := by
  refine xm_of [some (.ref 16), some (.int x), some (.long w), none] rfl (Nat.le_of_ble_eq_true rfl) rfl ?_
  intro p e s m args below meth c C hr hk
  refine xa_aload_n C dM_submit_0 rfl ?_
  refine xa_aload_n C dM_submit_1 rfl ?_
  refine xa_iload_n C dM_submit_2 rfl ?_
  refine xa_callV1 C (p_M_isSigner g l _) b_M_116 (xw_in wi_M_isSigner rfl) e_M_isSigner dM_submit_3 rfl rfl rfl rfl (Nat.le_of_ble_eq_true rfl) ⟨Nat.le_of_ble_eq_true rfl, Nat.le_of_ble_eq_true rfl⟩ ⟨Nat.zero_le _, Nat.zero_le _⟩ ?_
  refine xa_if_eq C dM_submit_6 (tgt := 16) rfl (fun h6 => ?_) (fun h6 => ?_)
  · refine xa_icN C 1 dM_submit_16 ?_
    refine xa_goto C dM_submit_17 (tgt := 44) rfl ?_
    refine xa_put C f_M_63 u_M_0 dM_submit_44 rfl (Nat.le_of_ble_eq_true rfl) rfl rfl (fun _ h => by cases h) ?_
    refine xa_aload_n C dM_submit_47 rfl ?_
    refine xa_get C f_M_63 dM_submit_48 rfl rfl ?_
    refine xa_if_ne C dM_submit_51 (tgt := 67) rfl (fun h51 => ?_) (fun h51 => ?_)
    · refine xa_icN C 0 dM_submit_67 ?_
      exact xa_eq rfl rfl rfl (xa_zret C hr hk (by first | exact xb_nar _ | rfl) dM_submit_68)
    · exact absurd h51 (by decide)
  · exact absurd (xb_f hx) h6
set_option maxHeartbeats 4000000 in
set_option maxRecDepth 100000 in
theorem p_M_submit_b (g : xw_G) (l : Launch) {c0 c1 c2 c3 c4 c5 c6 c7 c8 c9 c10 c11 c12 c13 c14 c15 : va_E} {n t : Nat} {se ke f1 f2 e1 e2 y1 y2 fa we sh to : Nat → Nat} {oz sz mz : Nat → Int32} {th dl ms tk bl : Int32} {al ch : Nat} {mi : Int64} {rest : List va_E} (hn : n ≤ 6) {i : Nat} (h1 : 1 ≤ i) (hi : i ≤ n) (w : Int64) (hw : ¬ (0 ≤ w ∧ w < 1073741789)) : xm_R g l false m_M_submit [.ref 16, .int (nI i), .long w] (hQ c0 c1 c2 c3 c4 c5 c6 c7 c8 c9 c10 c11 c12 c13 c14 c15 (hM g th n t dl se ke oz f1 f2 e1 e2 ms al ch y1 y2 fa we sz mz sh to tk bl mi ++ rest)) (some (.int 0)) (hQ c0 c1 c2 c3 c4 c5 c6 c7 c8 c9 c10 c11 c12 c13 c14 c15 (hM g (nI 1) n t dl se ke oz f1 f2 e1 e2 ms al ch y1 y2 fa we sz mz sh to tk bl mi ++ rest)) := by
  refine xm_of [some (.ref 16), some (.int (nI i)), some (.long w), none] rfl (Nat.le_of_ble_eq_true rfl) rfl ?_
  intro p e s m args below meth c C hr hk
  refine xa_aload_n C dM_submit_0 rfl ?_
  refine xa_aload_n C dM_submit_1 rfl ?_
  refine xa_iload_n C dM_submit_2 rfl ?_
  refine xa_callV1 C (p_M_isSigner g l _) b_M_116 (xw_in wi_M_isSigner rfl) e_M_isSigner dM_submit_3 rfl rfl rfl rfl (Nat.le_of_ble_eq_true rfl) ⟨Nat.le_of_ble_eq_true rfl, Nat.le_of_ble_eq_true rfl⟩ ⟨Nat.zero_le _, Nat.zero_le _⟩ ?_
  refine xa_if_eq C dM_submit_6 (tgt := 16) rfl (fun h6 => ?_) (fun h6 => ?_)
  · exact absurd (sg_nI hn h1 hi) (xb_eq0.mp h6)
  · refine xa_lload_n C dM_submit_9 rfl ?_
    refine xa_callS1 C (p_M_isNumber g l _ _) b_M_153 (xw_in wt_M_isNumber rfl) dM_submit_10 rfl (Nat.le_of_ble_eq_true rfl) ⟨Nat.le_of_ble_eq_true rfl, Nat.le_of_ble_eq_true rfl⟩ ⟨Nat.zero_le _, Nat.zero_le _⟩ ?_
    refine xa_if_ne C dM_submit_13 (tgt := 20) rfl (fun h13 => ?_) (fun h13 => ?_)
    · exact absurd (xb_f hw) h13
    · refine xa_icN C 1 dM_submit_16 ?_
      refine xa_goto C dM_submit_17 (tgt := 44) rfl ?_
      refine xa_put C f_M_63 u_M_0 dM_submit_44 rfl (Nat.le_of_ble_eq_true rfl) rfl rfl (fun _ h => by cases h) ?_
      refine xa_aload_n C dM_submit_47 rfl ?_
      refine xa_get C f_M_63 dM_submit_48 rfl rfl ?_
      refine xa_if_ne C dM_submit_51 (tgt := 67) rfl (fun h51 => ?_) (fun h51 => ?_)
      · refine xa_icN C 0 dM_submit_67 ?_
        exact xa_eq rfl rfl rfl (xa_zret C hr hk (by first | exact xb_nar _ | rfl) dM_submit_68)
      · exact absurd h51 (by decide)
set_option maxHeartbeats 4000000 in
set_option maxRecDepth 100000 in
theorem p_M_submit_c (g : xw_G) (l : Launch) {c0 c1 c2 c3 c4 c5 c6 c7 c8 c9 c10 c11 c12 c13 c14 c15 : va_E} {n t : Nat} {se ke f1 f2 e1 e2 y1 y2 fa we sh to : Nat → Nat} {oz sz mz : Nat → Int32} {th dl ms tk bl : Int32} {al ch : Nat} {mi : Int64} {rest : List va_E} (hn : n ≤ 6) {i : Nat} (h1 : 1 ≤ i) (hi : i ≤ n) {z : Nat} (hz : z < 1073741789) (hm : hs ms i = false) : xm_R g l false m_M_submit [.ref 16, .int (nI i), .long (lN z)] (hQ c0 c1 c2 c3 c4 c5 c6 c7 c8 c9 c10 c11 c12 c13 c14 c15 (hM g th n t dl se ke oz f1 f2 e1 e2 ms al ch y1 y2 fa we sz mz sh to tk bl mi ++ rest)) (some (.int 0)) (hQ c0 c1 c2 c3 c4 c5 c6 c7 c8 c9 c10 c11 c12 c13 c14 c15 (hM g (nI 2) n t dl se ke oz f1 f2 e1 e2 ms al ch y1 y2 fa we sz mz sh to tk bl mi ++ rest)) := by
  refine xm_of [some (.ref 16), some (.int (nI i)), some (.long (lN z)), none] rfl (Nat.le_of_ble_eq_true rfl) rfl ?_
  intro p e s m args below meth c C hr hk
  refine xa_aload_n C dM_submit_0 rfl ?_
  refine xa_aload_n C dM_submit_1 rfl ?_
  refine xa_iload_n C dM_submit_2 rfl ?_
  refine xa_callV1 C (p_M_isSigner g l _) b_M_116 (xw_in wi_M_isSigner rfl) e_M_isSigner dM_submit_3 rfl rfl rfl rfl (Nat.le_of_ble_eq_true rfl) ⟨Nat.le_of_ble_eq_true rfl, Nat.le_of_ble_eq_true rfl⟩ ⟨Nat.zero_le _, Nat.zero_le _⟩ ?_
  refine xa_if_eq C dM_submit_6 (tgt := 16) rfl (fun h6 => ?_) (fun h6 => ?_)
  · exact absurd (sg_nI hn h1 hi) (xb_eq0.mp h6)
  · refine xa_lload_n C dM_submit_9 rfl ?_
    refine xa_callS1 C (p_M_isNumber g l _ _) b_M_153 (xw_in wt_M_isNumber rfl) dM_submit_10 rfl (Nat.le_of_ble_eq_true rfl) ⟨Nat.le_of_ble_eq_true rfl, Nat.le_of_ble_eq_true rfl⟩ ⟨Nat.zero_le _, Nat.zero_le _⟩ ?_
    refine xa_if_ne C dM_submit_13 (tgt := 20) rfl (fun h13 => ?_) (fun h13 => ?_)
    · refine xa_aload_n C dM_submit_20 rfl ?_
      refine xa_iload_n C dM_submit_21 rfl ?_
      refine xa_callV1 C (p_M_isMember g l hn h1 hi) b_M_150 (xw_in wi_M_isMember rfl) e_M_isMember dM_submit_22 rfl rfl rfl rfl (Nat.le_of_ble_eq_true rfl) ⟨Nat.le_of_ble_eq_true rfl, Nat.le_of_ble_eq_true rfl⟩ ⟨Nat.zero_le _, Nat.zero_le _⟩ ?_
      refine xa_if_eq C dM_submit_25 (tgt := 39) rfl (fun h25 => ?_) (fun h25 => ?_)
      · refine xa_icN C 2 dM_submit_39 ?_
        refine xa_goto C dM_submit_40 (tgt := 44) rfl ?_
        refine xa_put C f_M_63 u_M_0 dM_submit_44 rfl (Nat.le_of_ble_eq_true rfl) rfl rfl (fun _ h => by cases h) ?_
        refine xa_aload_n C dM_submit_47 rfl ?_
        refine xa_get C f_M_63 dM_submit_48 rfl rfl ?_
        refine xa_if_ne C dM_submit_51 (tgt := 67) rfl (fun h51 => ?_) (fun h51 => ?_)
        · refine xa_icN C 0 dM_submit_67 ?_
          exact xa_eq rfl rfl rfl (xa_zret C hr hk (by first | exact xb_nar _ | rfl) dM_submit_68)
        · exact absurd h51 (by decide)
      · exact absurd (xb_f (by rw [hm]; decide)) h25
    · exact absurd (nm_lt hz) (xb_eq0.mp h13)
set_option maxHeartbeats 4000000 in
set_option maxRecDepth 100000 in
theorem p_M_submit_d (g : xw_G) (l : Launch) {c0 c1 c2 c3 c4 c5 c6 c7 c8 c9 c10 c11 c12 c13 c14 c15 : va_E} {n t : Nat} {se ke f1 f2 e1 e2 y1 y2 fa we sh to : Nat → Nat} {oz sz mz : Nat → Int32} {th dl ms tk bl : Int32} {al ch : Nat} {mi : Int64} {rest : List va_E} (hn : n ≤ 6) {i : Nat} (h1 : 1 ≤ i) (hi : i ≤ n) {z : Nat} (hz : z < 1073741789) (hm : hs ms i = true) (ht9 : hs tk i = true) : xm_R g l false m_M_submit [.ref 16, .int (nI i), .long (lN z)] (hQ c0 c1 c2 c3 c4 c5 c6 c7 c8 c9 c10 c11 c12 c13 c14 c15 (hM g th n t dl se ke oz f1 f2 e1 e2 ms al ch y1 y2 fa we sz mz sh to tk bl mi ++ rest)) (some (.int 0)) (hQ c0 c1 c2 c3 c4 c5 c6 c7 c8 c9 c10 c11 c12 c13 c14 c15 (hM g (nI 2) n t dl se ke oz f1 f2 e1 e2 ms al ch y1 y2 fa we sz mz sh to tk bl mi ++ rest)) := by
  refine xm_of [some (.ref 16), some (.int (nI i)), some (.long (lN z)), none] rfl (Nat.le_of_ble_eq_true rfl) rfl ?_
  intro p e s m args below meth c C hr hk
  refine xa_aload_n C dM_submit_0 rfl ?_
  refine xa_aload_n C dM_submit_1 rfl ?_
  refine xa_iload_n C dM_submit_2 rfl ?_
  refine xa_callV1 C (p_M_isSigner g l _) b_M_116 (xw_in wi_M_isSigner rfl) e_M_isSigner dM_submit_3 rfl rfl rfl rfl (Nat.le_of_ble_eq_true rfl) ⟨Nat.le_of_ble_eq_true rfl, Nat.le_of_ble_eq_true rfl⟩ ⟨Nat.zero_le _, Nat.zero_le _⟩ ?_
  refine xa_if_eq C dM_submit_6 (tgt := 16) rfl (fun h6 => ?_) (fun h6 => ?_)
  · exact absurd (sg_nI hn h1 hi) (xb_eq0.mp h6)
  · refine xa_lload_n C dM_submit_9 rfl ?_
    refine xa_callS1 C (p_M_isNumber g l _ _) b_M_153 (xw_in wt_M_isNumber rfl) dM_submit_10 rfl (Nat.le_of_ble_eq_true rfl) ⟨Nat.le_of_ble_eq_true rfl, Nat.le_of_ble_eq_true rfl⟩ ⟨Nat.zero_le _, Nat.zero_le _⟩ ?_
    refine xa_if_ne C dM_submit_13 (tgt := 20) rfl (fun h13 => ?_) (fun h13 => ?_)
    · refine xa_aload_n C dM_submit_20 rfl ?_
      refine xa_iload_n C dM_submit_21 rfl ?_
      refine xa_callV1 C (p_M_isMember g l hn h1 hi) b_M_150 (xw_in wi_M_isMember rfl) e_M_isMember dM_submit_22 rfl rfl rfl rfl (Nat.le_of_ble_eq_true rfl) ⟨Nat.le_of_ble_eq_true rfl, Nat.le_of_ble_eq_true rfl⟩ ⟨Nat.zero_le _, Nat.zero_le _⟩ ?_
      refine xa_if_eq C dM_submit_25 (tgt := 39) rfl (fun h25 => ?_) (fun h25 => ?_)
      · exact absurd hm (xb_eq0.mp h25)
      · refine xa_aload_n C dM_submit_28 rfl ?_
        refine xa_get C f_M_110 dM_submit_29 rfl rfl ?_
        refine xa_iload_n C dM_submit_32 rfl ?_
        refine xa_callS1 C (p_M_inN g l _ (by omega) (by omega) _) b_M_89 (xw_in wt_M_in rfl) dM_submit_33 rfl (Nat.le_of_ble_eq_true rfl) ⟨Nat.le_of_ble_eq_true rfl, Nat.le_of_ble_eq_true rfl⟩ ⟨Nat.zero_le _, Nat.zero_le _⟩ ?_
        refine xa_if_eq C dM_submit_36 (tgt := 43) rfl (fun h36 => ?_) (fun h36 => ?_)
        · exact absurd ht9 (xb_eq0.mp h36)
        · refine xa_icN C 2 dM_submit_39 ?_
          refine xa_goto C dM_submit_40 (tgt := 44) rfl ?_
          refine xa_put C f_M_63 u_M_0 dM_submit_44 rfl (Nat.le_of_ble_eq_true rfl) rfl rfl (fun _ h => by cases h) ?_
          refine xa_aload_n C dM_submit_47 rfl ?_
          refine xa_get C f_M_63 dM_submit_48 rfl rfl ?_
          refine xa_if_ne C dM_submit_51 (tgt := 67) rfl (fun h51 => ?_) (fun h51 => ?_)
          · refine xa_icN C 0 dM_submit_67 ?_
            exact xa_eq rfl rfl rfl (xa_zret C hr hk (by first | exact xb_nar _ | rfl) dM_submit_68)
          · exact absurd h51 (by decide)
    · exact absurd (nm_lt hz) (xb_eq0.mp h13)
set_option maxHeartbeats 4000000 in
set_option maxRecDepth 100000 in
theorem p_M_submit_t (g : xw_G) (l : Launch) {c0 c1 c2 c3 c4 c5 c6 c7 c8 c9 c10 c11 c12 c13 c14 c15 : va_E} {n t : Nat} {se ke f1 f2 e1 e2 y1 y2 fa we sh to : Nat → Nat} {oz sz mz : Nat → Int32} {th dl ms tk bl : Int32} {al ch : Nat} {mi : Int64} {rest : List va_E} (hn : n ≤ 6) {i : Nat} (h1 : 1 ≤ i) (hi : i ≤ n) (hse : ∀ j, se j < 2 ^ 31) (hke : ∀ j, ke j < 2 ^ 31) (hf1 : ∀ j, f1 j < 2 ^ 31) (hf2 : ∀ j, f2 j < 2 ^ 31) (he1 : ∀ j, e1 j < 2 ^ 31) (he2 : ∀ j, e2 j < 2 ^ 31) (hy1 : ∀ j, y1 j < 2 ^ 31) (hy2 : ∀ j, y2 j < 2 ^ 31) (hfa : ∀ j, fa j < 2 ^ 30) (hwe : ∀ j, we j < 2 ^ 31) (hsh : ∀ j, sh j < 2 ^ 31) (hto : ∀ j, to j < 2 ^ 31) (hal : al < 2 ^ 31) (hch : ch < 2 ^ 31) {z : Nat} (hz : z < 1073741789) (hm : hs ms i = true) (ht9 : hs tk i = false) (hR : 4 ^ z % 2147483579 = y1 i * (y2 i ^ fa i % 2147483579) % 2147483579 * (ke i ^ (ch * we i % 1073741789) % 2147483579) % 2147483579) : xm_R g l false m_M_submit [.ref 16, .int (nI i), .long (lN z)] (hQ c0 c1 c2 c3 c4 c5 c6 c7 c8 c9 c10 c11 c12 c13 c14 c15 (hM g th n t dl se ke oz f1 f2 e1 e2 ms al ch y1 y2 fa we sz mz sh to tk bl mi ++ rest)) (some (.int 1)) (hQ c0 c1 c2 c3 c4 c5 c6 c7 c8 c9 c10 c11 c12 c13 c14 c15 (hM g (nI 0) n t dl se ke oz f1 f2 e1 e2 ms al ch y1 y2 fa we sz mz sh (va_up to i z) (tk ||| on_ i) bl mi ++ rest)) := by
  refine xm_of [some (.ref 16), some (.int (nI i)), some (.long (lN z)), none] rfl (Nat.le_of_ble_eq_true rfl) rfl ?_
  intro p e s m args below meth c C hr hk
  refine xa_aload_n C dM_submit_0 rfl ?_
  refine xa_aload_n C dM_submit_1 rfl ?_
  refine xa_iload_n C dM_submit_2 rfl ?_
  refine xa_callV1 C (p_M_isSigner g l _) b_M_116 (xw_in wi_M_isSigner rfl) e_M_isSigner dM_submit_3 rfl rfl rfl rfl (Nat.le_of_ble_eq_true rfl) ⟨Nat.le_of_ble_eq_true rfl, Nat.le_of_ble_eq_true rfl⟩ ⟨Nat.zero_le _, Nat.zero_le _⟩ ?_
  refine xa_if_eq C dM_submit_6 (tgt := 16) rfl (fun h6 => ?_) (fun h6 => ?_)
  · exact absurd (sg_nI hn h1 hi) (xb_eq0.mp h6)
  · refine xa_lload_n C dM_submit_9 rfl ?_
    refine xa_callS1 C (p_M_isNumber g l _ _) b_M_153 (xw_in wt_M_isNumber rfl) dM_submit_10 rfl (Nat.le_of_ble_eq_true rfl) ⟨Nat.le_of_ble_eq_true rfl, Nat.le_of_ble_eq_true rfl⟩ ⟨Nat.zero_le _, Nat.zero_le _⟩ ?_
    refine xa_if_ne C dM_submit_13 (tgt := 20) rfl (fun h13 => ?_) (fun h13 => ?_)
    · refine xa_aload_n C dM_submit_20 rfl ?_
      refine xa_iload_n C dM_submit_21 rfl ?_
      refine xa_callV1 C (p_M_isMember g l hn h1 hi) b_M_150 (xw_in wi_M_isMember rfl) e_M_isMember dM_submit_22 rfl rfl rfl rfl (Nat.le_of_ble_eq_true rfl) ⟨Nat.le_of_ble_eq_true rfl, Nat.le_of_ble_eq_true rfl⟩ ⟨Nat.zero_le _, Nat.zero_le _⟩ ?_
      refine xa_if_eq C dM_submit_25 (tgt := 39) rfl (fun h25 => ?_) (fun h25 => ?_)
      · exact absurd hm (xb_eq0.mp h25)
      · refine xa_aload_n C dM_submit_28 rfl ?_
        refine xa_get C f_M_110 dM_submit_29 rfl rfl ?_
        refine xa_iload_n C dM_submit_32 rfl ?_
        refine xa_callS1 C (p_M_inN g l _ (by omega) (by omega) _) b_M_89 (xw_in wt_M_in rfl) dM_submit_33 rfl (Nat.le_of_ble_eq_true rfl) ⟨Nat.le_of_ble_eq_true rfl, Nat.le_of_ble_eq_true rfl⟩ ⟨Nat.zero_le _, Nat.zero_le _⟩ ?_
        refine xa_if_eq C dM_submit_36 (tgt := 43) rfl (fun h36 => ?_) (fun h36 => ?_)
        · refine xa_icN C 0 dM_submit_43 ?_
          refine xa_put C f_M_63 u_M_0 dM_submit_44 rfl (Nat.le_of_ble_eq_true rfl) rfl rfl (fun _ h => by cases h) ?_
          refine xa_aload_n C dM_submit_47 rfl ?_
          refine xa_get C f_M_63 dM_submit_48 rfl rfl ?_
          refine xa_if_ne C dM_submit_51 (tgt := 67) rfl (fun h51 => ?_) (fun h51 => ?_)
          · exact absurd rfl h51
          · refine xa_aload_n C dM_submit_54 rfl ?_
            refine xa_iload_n C dM_submit_55 rfl ?_
            refine xa_lload_n C dM_submit_56 rfl ?_
            refine xa_callV1 C (p_M_tell_t g l hn h1 hi hse hke hf1 hf2 he1 he2 hy1 hy2 hfa hwe hsh hto hal hch (by first | omega | exact Nat.lt_trans (Nat.mod_lt _ (by decide)) (by decide)) hR) b_M_157 (xw_in wi_M_tell rfl) e_M_tell dM_submit_57 rfl rfl rfl rfl (Nat.le_of_ble_eq_true rfl) ⟨Nat.le_of_ble_eq_true rfl, Nat.le_of_ble_eq_true rfl⟩ ⟨Nat.zero_le _, Nat.zero_le _⟩ ?_
            refine xa_if_eq C dM_submit_60 (tgt := 67) rfl (fun h60 => ?_) (fun h60 => ?_)
            · exact absurd h60 (by decide)
            · refine xa_icN C 1 dM_submit_63 ?_
              refine xa_goto C dM_submit_64 (tgt := 68) rfl ?_
              exact xa_eq rfl rfl rfl (xa_zret C hr hk (by first | exact xb_nar _ | rfl) dM_submit_68)
        · exact absurd (xb_f (by rw [ht9]; decide)) h36
    · exact absurd (nm_lt hz) (xb_eq0.mp h13)
set_option maxHeartbeats 4000000 in
set_option maxRecDepth 100000 in
theorem p_M_submit_f (g : xw_G) (l : Launch) {c0 c1 c2 c3 c4 c5 c6 c7 c8 c9 c10 c11 c12 c13 c14 c15 : va_E} {n t : Nat} {se ke f1 f2 e1 e2 y1 y2 fa we sh to : Nat → Nat} {oz sz mz : Nat → Int32} {th dl ms tk bl : Int32} {al ch : Nat} {mi : Int64} {rest : List va_E} (hn : n ≤ 6) {i : Nat} (h1 : 1 ≤ i) (hi : i ≤ n) (hse : ∀ j, se j < 2 ^ 31) (hke : ∀ j, ke j < 2 ^ 31) (hf1 : ∀ j, f1 j < 2 ^ 31) (hf2 : ∀ j, f2 j < 2 ^ 31) (he1 : ∀ j, e1 j < 2 ^ 31) (he2 : ∀ j, e2 j < 2 ^ 31) (hy1 : ∀ j, y1 j < 2 ^ 31) (hy2 : ∀ j, y2 j < 2 ^ 31) (hfa : ∀ j, fa j < 2 ^ 30) (hwe : ∀ j, we j < 2 ^ 31) (hsh : ∀ j, sh j < 2 ^ 31) (hto : ∀ j, to j < 2 ^ 31) (hal : al < 2 ^ 31) (hch : ch < 2 ^ 31) {z : Nat} (hz : z < 1073741789) (hm : hs ms i = true) (ht9 : hs tk i = false) (hR : ¬ 4 ^ z % 2147483579 = y1 i * (y2 i ^ fa i % 2147483579) % 2147483579 * (ke i ^ (ch * we i % 1073741789) % 2147483579) % 2147483579) : xm_R g l false m_M_submit [.ref 16, .int (nI i), .long (lN z)] (hQ c0 c1 c2 c3 c4 c5 c6 c7 c8 c9 c10 c11 c12 c13 c14 c15 (hM g th n t dl se ke oz f1 f2 e1 e2 ms al ch y1 y2 fa we sz mz sh to tk bl mi ++ rest)) (some (.int 0)) (hQ c0 c1 c2 c3 c4 c5 c6 c7 c8 c9 c10 c11 c12 c13 c14 c15 (hM g (nI 0) n t dl se ke oz f1 f2 e1 e2 ms al ch y1 y2 fa we sz mz sh to tk (bl ||| on_ i) mi ++ rest)) := by
  refine xm_of [some (.ref 16), some (.int (nI i)), some (.long (lN z)), none] rfl (Nat.le_of_ble_eq_true rfl) rfl ?_
  intro p e s m args below meth c C hr hk
  refine xa_aload_n C dM_submit_0 rfl ?_
  refine xa_aload_n C dM_submit_1 rfl ?_
  refine xa_iload_n C dM_submit_2 rfl ?_
  refine xa_callV1 C (p_M_isSigner g l _) b_M_116 (xw_in wi_M_isSigner rfl) e_M_isSigner dM_submit_3 rfl rfl rfl rfl (Nat.le_of_ble_eq_true rfl) ⟨Nat.le_of_ble_eq_true rfl, Nat.le_of_ble_eq_true rfl⟩ ⟨Nat.zero_le _, Nat.zero_le _⟩ ?_
  refine xa_if_eq C dM_submit_6 (tgt := 16) rfl (fun h6 => ?_) (fun h6 => ?_)
  · exact absurd (sg_nI hn h1 hi) (xb_eq0.mp h6)
  · refine xa_lload_n C dM_submit_9 rfl ?_
    refine xa_callS1 C (p_M_isNumber g l _ _) b_M_153 (xw_in wt_M_isNumber rfl) dM_submit_10 rfl (Nat.le_of_ble_eq_true rfl) ⟨Nat.le_of_ble_eq_true rfl, Nat.le_of_ble_eq_true rfl⟩ ⟨Nat.zero_le _, Nat.zero_le _⟩ ?_
    refine xa_if_ne C dM_submit_13 (tgt := 20) rfl (fun h13 => ?_) (fun h13 => ?_)
    · refine xa_aload_n C dM_submit_20 rfl ?_
      refine xa_iload_n C dM_submit_21 rfl ?_
      refine xa_callV1 C (p_M_isMember g l hn h1 hi) b_M_150 (xw_in wi_M_isMember rfl) e_M_isMember dM_submit_22 rfl rfl rfl rfl (Nat.le_of_ble_eq_true rfl) ⟨Nat.le_of_ble_eq_true rfl, Nat.le_of_ble_eq_true rfl⟩ ⟨Nat.zero_le _, Nat.zero_le _⟩ ?_
      refine xa_if_eq C dM_submit_25 (tgt := 39) rfl (fun h25 => ?_) (fun h25 => ?_)
      · exact absurd hm (xb_eq0.mp h25)
      · refine xa_aload_n C dM_submit_28 rfl ?_
        refine xa_get C f_M_110 dM_submit_29 rfl rfl ?_
        refine xa_iload_n C dM_submit_32 rfl ?_
        refine xa_callS1 C (p_M_inN g l _ (by omega) (by omega) _) b_M_89 (xw_in wt_M_in rfl) dM_submit_33 rfl (Nat.le_of_ble_eq_true rfl) ⟨Nat.le_of_ble_eq_true rfl, Nat.le_of_ble_eq_true rfl⟩ ⟨Nat.zero_le _, Nat.zero_le _⟩ ?_
        refine xa_if_eq C dM_submit_36 (tgt := 43) rfl (fun h36 => ?_) (fun h36 => ?_)
        · refine xa_icN C 0 dM_submit_43 ?_
          refine xa_put C f_M_63 u_M_0 dM_submit_44 rfl (Nat.le_of_ble_eq_true rfl) rfl rfl (fun _ h => by cases h) ?_
          refine xa_aload_n C dM_submit_47 rfl ?_
          refine xa_get C f_M_63 dM_submit_48 rfl rfl ?_
          refine xa_if_ne C dM_submit_51 (tgt := 67) rfl (fun h51 => ?_) (fun h51 => ?_)
          · exact absurd rfl h51
          · refine xa_aload_n C dM_submit_54 rfl ?_
            refine xa_iload_n C dM_submit_55 rfl ?_
            refine xa_lload_n C dM_submit_56 rfl ?_
            refine xa_callV1 C (p_M_tell_f g l hn h1 hi hse hke hf1 hf2 he1 he2 hy1 hy2 hfa hwe hsh hto hal hch (by first | omega | exact Nat.lt_trans (Nat.mod_lt _ (by decide)) (by decide)) hR) b_M_157 (xw_in wi_M_tell rfl) e_M_tell dM_submit_57 rfl rfl rfl rfl (Nat.le_of_ble_eq_true rfl) ⟨Nat.le_of_ble_eq_true rfl, Nat.le_of_ble_eq_true rfl⟩ ⟨Nat.zero_le _, Nat.zero_le _⟩ ?_
            refine xa_if_eq C dM_submit_60 (tgt := 67) rfl (fun h60 => ?_) (fun h60 => ?_)
            · refine xa_icN C 0 dM_submit_67 ?_
              exact xa_eq rfl rfl rfl (xa_zret C hr hk (by first | exact xb_nar _ | rfl) dM_submit_68)
            · exact absurd rfl h60
        · exact absurd (xb_f (by rw [ht9]; decide)) h36
    · exact absurd (nm_lt hz) (xb_eq0.mp h13)
set_option maxHeartbeats 4000000 in
set_option maxRecDepth 100000 in
theorem p_M_relay_a (g : xw_G) (l : Launch) {c0 c1 c2 c3 c4 c5 c6 c7 c8 c9 c10 c11 c12 c13 c14 c15 : va_E} {n t : Nat} {se ke f1 f2 e1 e2 y1 y2 fa we sh to : Nat → Nat} {oz sz mz : Nat → Int32} {th dl ms tk bl : Int32} {al ch : Nat} {mi : Int64} {rest : List va_E} (x : Int32) (hx : ¬ sg n x) (w : Int64) : xm_R g l false m_M_relay [.ref 16, .int x, .long w] (hQ c0 c1 c2 c3 c4 c5 c6 c7 c8 c9 c10 c11 c12 c13 c14 c15 (hM g th n t dl se ke oz f1 f2 e1 e2 ms al ch y1 y2 fa we sz mz sh to tk bl mi ++ rest)) (some (.int 0)) (hQ c0 c1 c2 c3 c4 c5 c6 c7 c8 c9 c10 c11 c12 c13 c14 c15 (hM g (nI 1) n t dl se ke oz f1 f2 e1 e2 ms al ch y1 y2 fa we sz mz sh to tk bl mi ++ rest)) := by
  refine xm_of [some (.ref 16), some (.int x), some (.long w), none] rfl (Nat.le_of_ble_eq_true rfl) rfl ?_
  intro p e s m args below meth c C hr hk
  refine xa_aload_n C dM_relay_0 rfl ?_
  refine xa_aload_n C dM_relay_1 rfl ?_
  refine xa_iload_n C dM_relay_2 rfl ?_
  refine xa_callV1 C (p_M_isSigner g l _) b_M_116 (xw_in wi_M_isSigner rfl) e_M_isSigner dM_relay_3 rfl rfl rfl rfl (Nat.le_of_ble_eq_true rfl) ⟨Nat.le_of_ble_eq_true rfl, Nat.le_of_ble_eq_true rfl⟩ ⟨Nat.zero_le _, Nat.zero_le _⟩ ?_
  refine xa_if_eq C dM_relay_6 (tgt := 16) rfl (fun h6 => ?_) (fun h6 => ?_)
  · refine xa_icN C 1 dM_relay_16 ?_
    refine xa_goto C dM_relay_17 (tgt := 53) rfl ?_
    refine xa_put C f_M_63 u_M_0 dM_relay_53 rfl (Nat.le_of_ble_eq_true rfl) rfl rfl (fun _ h => by cases h) ?_
    refine xa_aload_n C dM_relay_56 rfl ?_
    refine xa_get C f_M_63 dM_relay_57 rfl rfl ?_
    refine xa_if_ne C dM_relay_60 (tgt := 87) rfl (fun h60 => ?_) (fun h60 => ?_)
    · refine xa_icN C 0 dM_relay_87 ?_
      exact xa_eq rfl rfl rfl (xa_zret C hr hk (by first | exact xb_nar _ | rfl) dM_relay_88)
    · exact absurd h60 (by decide)
  · exact absurd (xb_f hx) h6
set_option maxHeartbeats 4000000 in
set_option maxRecDepth 100000 in
theorem p_M_relay_b (g : xw_G) (l : Launch) {c0 c1 c2 c3 c4 c5 c6 c7 c8 c9 c10 c11 c12 c13 c14 c15 : va_E} {n t : Nat} {se ke f1 f2 e1 e2 y1 y2 fa we sh to : Nat → Nat} {oz sz mz : Nat → Int32} {th dl ms tk bl : Int32} {al ch : Nat} {mi : Int64} {rest : List va_E} (hn : n ≤ 6) {i : Nat} (h1 : 1 ≤ i) (hi : i ≤ n) (w : Int64) (hw : ¬ (0 ≤ w ∧ w < 1073741789)) : xm_R g l false m_M_relay [.ref 16, .int (nI i), .long w] (hQ c0 c1 c2 c3 c4 c5 c6 c7 c8 c9 c10 c11 c12 c13 c14 c15 (hM g th n t dl se ke oz f1 f2 e1 e2 ms al ch y1 y2 fa we sz mz sh to tk bl mi ++ rest)) (some (.int 0)) (hQ c0 c1 c2 c3 c4 c5 c6 c7 c8 c9 c10 c11 c12 c13 c14 c15 (hM g (nI 1) n t dl se ke oz f1 f2 e1 e2 ms al ch y1 y2 fa we sz mz sh to tk bl mi ++ rest)) := by
  refine xm_of [some (.ref 16), some (.int (nI i)), some (.long w), none] rfl (Nat.le_of_ble_eq_true rfl) rfl ?_
  intro p e s m args below meth c C hr hk
  refine xa_aload_n C dM_relay_0 rfl ?_
  refine xa_aload_n C dM_relay_1 rfl ?_
  refine xa_iload_n C dM_relay_2 rfl ?_
  refine xa_callV1 C (p_M_isSigner g l _) b_M_116 (xw_in wi_M_isSigner rfl) e_M_isSigner dM_relay_3 rfl rfl rfl rfl (Nat.le_of_ble_eq_true rfl) ⟨Nat.le_of_ble_eq_true rfl, Nat.le_of_ble_eq_true rfl⟩ ⟨Nat.zero_le _, Nat.zero_le _⟩ ?_
  refine xa_if_eq C dM_relay_6 (tgt := 16) rfl (fun h6 => ?_) (fun h6 => ?_)
  · exact absurd (sg_nI hn h1 hi) (xb_eq0.mp h6)
  · refine xa_lload_n C dM_relay_9 rfl ?_
    refine xa_callS1 C (p_M_isNumber g l _ _) b_M_153 (xw_in wt_M_isNumber rfl) dM_relay_10 rfl (Nat.le_of_ble_eq_true rfl) ⟨Nat.le_of_ble_eq_true rfl, Nat.le_of_ble_eq_true rfl⟩ ⟨Nat.zero_le _, Nat.zero_le _⟩ ?_
    refine xa_if_ne C dM_relay_13 (tgt := 20) rfl (fun h13 => ?_) (fun h13 => ?_)
    · exact absurd (xb_f hw) h13
    · refine xa_icN C 1 dM_relay_16 ?_
      refine xa_goto C dM_relay_17 (tgt := 53) rfl ?_
      refine xa_put C f_M_63 u_M_0 dM_relay_53 rfl (Nat.le_of_ble_eq_true rfl) rfl rfl (fun _ h => by cases h) ?_
      refine xa_aload_n C dM_relay_56 rfl ?_
      refine xa_get C f_M_63 dM_relay_57 rfl rfl ?_
      refine xa_if_ne C dM_relay_60 (tgt := 87) rfl (fun h60 => ?_) (fun h60 => ?_)
      · refine xa_icN C 0 dM_relay_87 ?_
        exact xa_eq rfl rfl rfl (xa_zret C hr hk (by first | exact xb_nar _ | rfl) dM_relay_88)
      · exact absurd h60 (by decide)
set_option maxHeartbeats 4000000 in
set_option maxRecDepth 100000 in
theorem p_M_relay_c (g : xw_G) (l : Launch) {c0 c1 c2 c3 c4 c5 c6 c7 c8 c9 c10 c11 c12 c13 c14 c15 : va_E} {n t : Nat} {se ke f1 f2 e1 e2 y1 y2 fa we sh to : Nat → Nat} {oz sz mz : Nat → Int32} {th dl ms tk bl : Int32} {al ch : Nat} {mi : Int64} {rest : List va_E} (hn : n ≤ 6) {i : Nat} (h1 : 1 ≤ i) (hi : i ≤ n) {z : Nat} (hz : z < 1073741789) (hm : hs ms i = false) : xm_R g l false m_M_relay [.ref 16, .int (nI i), .long (lN z)] (hQ c0 c1 c2 c3 c4 c5 c6 c7 c8 c9 c10 c11 c12 c13 c14 c15 (hM g th n t dl se ke oz f1 f2 e1 e2 ms al ch y1 y2 fa we sz mz sh to tk bl mi ++ rest)) (some (.int 0)) (hQ c0 c1 c2 c3 c4 c5 c6 c7 c8 c9 c10 c11 c12 c13 c14 c15 (hM g (nI 2) n t dl se ke oz f1 f2 e1 e2 ms al ch y1 y2 fa we sz mz sh to tk bl mi ++ rest)) := by
  refine xm_of [some (.ref 16), some (.int (nI i)), some (.long (lN z)), none] rfl (Nat.le_of_ble_eq_true rfl) rfl ?_
  intro p e s m args below meth c C hr hk
  refine xa_aload_n C dM_relay_0 rfl ?_
  refine xa_aload_n C dM_relay_1 rfl ?_
  refine xa_iload_n C dM_relay_2 rfl ?_
  refine xa_callV1 C (p_M_isSigner g l _) b_M_116 (xw_in wi_M_isSigner rfl) e_M_isSigner dM_relay_3 rfl rfl rfl rfl (Nat.le_of_ble_eq_true rfl) ⟨Nat.le_of_ble_eq_true rfl, Nat.le_of_ble_eq_true rfl⟩ ⟨Nat.zero_le _, Nat.zero_le _⟩ ?_
  refine xa_if_eq C dM_relay_6 (tgt := 16) rfl (fun h6 => ?_) (fun h6 => ?_)
  · exact absurd (sg_nI hn h1 hi) (xb_eq0.mp h6)
  · refine xa_lload_n C dM_relay_9 rfl ?_
    refine xa_callS1 C (p_M_isNumber g l _ _) b_M_153 (xw_in wt_M_isNumber rfl) dM_relay_10 rfl (Nat.le_of_ble_eq_true rfl) ⟨Nat.le_of_ble_eq_true rfl, Nat.le_of_ble_eq_true rfl⟩ ⟨Nat.zero_le _, Nat.zero_le _⟩ ?_
    refine xa_if_ne C dM_relay_13 (tgt := 20) rfl (fun h13 => ?_) (fun h13 => ?_)
    · refine xa_aload_n C dM_relay_20 rfl ?_
      refine xa_iload_n C dM_relay_21 rfl ?_
      refine xa_callV1 C (p_M_isMember g l hn h1 hi) b_M_150 (xw_in wi_M_isMember rfl) e_M_isMember dM_relay_22 rfl rfl rfl rfl (Nat.le_of_ble_eq_true rfl) ⟨Nat.le_of_ble_eq_true rfl, Nat.le_of_ble_eq_true rfl⟩ ⟨Nat.zero_le _, Nat.zero_le _⟩ ?_
      refine xa_if_eq C dM_relay_25 (tgt := 48) rfl (fun h25 => ?_) (fun h25 => ?_)
      · refine xa_icN C 2 dM_relay_48 ?_
        refine xa_goto C dM_relay_49 (tgt := 53) rfl ?_
        refine xa_put C f_M_63 u_M_0 dM_relay_53 rfl (Nat.le_of_ble_eq_true rfl) rfl rfl (fun _ h => by cases h) ?_
        refine xa_aload_n C dM_relay_56 rfl ?_
        refine xa_get C f_M_63 dM_relay_57 rfl rfl ?_
        refine xa_if_ne C dM_relay_60 (tgt := 87) rfl (fun h60 => ?_) (fun h60 => ?_)
        · refine xa_icN C 0 dM_relay_87 ?_
          exact xa_eq rfl rfl rfl (xa_zret C hr hk (by first | exact xb_nar _ | rfl) dM_relay_88)
        · exact absurd h60 (by decide)
      · exact absurd (xb_f (by rw [hm]; decide)) h25
    · exact absurd (nm_lt hz) (xb_eq0.mp h13)
set_option maxHeartbeats 4000000 in
set_option maxRecDepth 100000 in
theorem p_M_relay_d (g : xw_G) (l : Launch) {c0 c1 c2 c3 c4 c5 c6 c7 c8 c9 c10 c11 c12 c13 c14 c15 : va_E} {n t : Nat} {se ke f1 f2 e1 e2 y1 y2 fa we sh to : Nat → Nat} {oz sz mz : Nat → Int32} {th dl ms tk bl : Int32} {al ch : Nat} {mi : Int64} {rest : List va_E} (hn : n ≤ 6) {i : Nat} (h1 : 1 ≤ i) (hi : i ≤ n) {z : Nat} (hz : z < 1073741789) (hm : hs ms i = true) (hmz : mz i = 0) : xm_R g l false m_M_relay [.ref 16, .int (nI i), .long (lN z)] (hQ c0 c1 c2 c3 c4 c5 c6 c7 c8 c9 c10 c11 c12 c13 c14 c15 (hM g th n t dl se ke oz f1 f2 e1 e2 ms al ch y1 y2 fa we sz mz sh to tk bl mi ++ rest)) (some (.int 0)) (hQ c0 c1 c2 c3 c4 c5 c6 c7 c8 c9 c10 c11 c12 c13 c14 c15 (hM g (nI 2) n t dl se ke oz f1 f2 e1 e2 ms al ch y1 y2 fa we sz mz sh to tk bl mi ++ rest)) := by
  refine xm_of [some (.ref 16), some (.int (nI i)), some (.long (lN z)), none] rfl (Nat.le_of_ble_eq_true rfl) rfl ?_
  intro p e s m args below meth c C hr hk
  refine xa_aload_n C dM_relay_0 rfl ?_
  refine xa_aload_n C dM_relay_1 rfl ?_
  refine xa_iload_n C dM_relay_2 rfl ?_
  refine xa_callV1 C (p_M_isSigner g l _) b_M_116 (xw_in wi_M_isSigner rfl) e_M_isSigner dM_relay_3 rfl rfl rfl rfl (Nat.le_of_ble_eq_true rfl) ⟨Nat.le_of_ble_eq_true rfl, Nat.le_of_ble_eq_true rfl⟩ ⟨Nat.zero_le _, Nat.zero_le _⟩ ?_
  refine xa_if_eq C dM_relay_6 (tgt := 16) rfl (fun h6 => ?_) (fun h6 => ?_)
  · exact absurd (sg_nI hn h1 hi) (xb_eq0.mp h6)
  · refine xa_lload_n C dM_relay_9 rfl ?_
    refine xa_callS1 C (p_M_isNumber g l _ _) b_M_153 (xw_in wt_M_isNumber rfl) dM_relay_10 rfl (Nat.le_of_ble_eq_true rfl) ⟨Nat.le_of_ble_eq_true rfl, Nat.le_of_ble_eq_true rfl⟩ ⟨Nat.zero_le _, Nat.zero_le _⟩ ?_
    refine xa_if_ne C dM_relay_13 (tgt := 20) rfl (fun h13 => ?_) (fun h13 => ?_)
    · refine xa_aload_n C dM_relay_20 rfl ?_
      refine xa_iload_n C dM_relay_21 rfl ?_
      refine xa_callV1 C (p_M_isMember g l hn h1 hi) b_M_150 (xw_in wi_M_isMember rfl) e_M_isMember dM_relay_22 rfl rfl rfl rfl (Nat.le_of_ble_eq_true rfl) ⟨Nat.le_of_ble_eq_true rfl, Nat.le_of_ble_eq_true rfl⟩ ⟨Nat.zero_le _, Nat.zero_le _⟩ ?_
      refine xa_if_eq C dM_relay_25 (tgt := 48) rfl (fun h25 => ?_) (fun h25 => ?_)
      · exact absurd hm (xb_eq0.mp h25)
      · refine xa_aload_n C dM_relay_28 rfl ?_
        refine xa_get C f_M_47 dM_relay_29 rfl rfl ?_
        refine xa_iload_n C dM_relay_32 rfl ?_
        refine xa_baloadN C dM_relay_33 rfl ?_ (by omega) ?_
        · omega
        refine xa_if_eq C dM_relay_34 (tgt := 48) rfl (fun h34 => ?_) (fun h34 => ?_)
        · refine xa_icN C 2 dM_relay_48 ?_
          refine xa_goto C dM_relay_49 (tgt := 53) rfl ?_
          refine xa_put C f_M_63 u_M_0 dM_relay_53 rfl (Nat.le_of_ble_eq_true rfl) rfl rfl (fun _ h => by cases h) ?_
          refine xa_aload_n C dM_relay_56 rfl ?_
          refine xa_get C f_M_63 dM_relay_57 rfl rfl ?_
          refine xa_if_ne C dM_relay_60 (tgt := 87) rfl (fun h60 => ?_) (fun h60 => ?_)
          · refine xa_icN C 0 dM_relay_87 ?_
            exact xa_eq rfl rfl rfl (xa_zret C hr hk (by first | exact xb_nar _ | rfl) dM_relay_88)
          · exact absurd h60 (by decide)
        · exact absurd hmz h34
    · exact absurd (nm_lt hz) (xb_eq0.mp h13)
set_option maxHeartbeats 4000000 in
set_option maxRecDepth 100000 in
theorem p_M_relay_e (g : xw_G) (l : Launch) {c0 c1 c2 c3 c4 c5 c6 c7 c8 c9 c10 c11 c12 c13 c14 c15 : va_E} {n t : Nat} {se ke f1 f2 e1 e2 y1 y2 fa we sh to : Nat → Nat} {oz sz mz : Nat → Int32} {th dl ms tk bl : Int32} {al ch : Nat} {mi : Int64} {rest : List va_E} (hn : n ≤ 6) {i : Nat} (h1 : 1 ≤ i) (hi : i ≤ n) {z : Nat} (hz : z < 1073741789) (hm : hs ms i = true) (hmz : ¬ mz i = 0) (ht9 : hs tk i = true) : xm_R g l false m_M_relay [.ref 16, .int (nI i), .long (lN z)] (hQ c0 c1 c2 c3 c4 c5 c6 c7 c8 c9 c10 c11 c12 c13 c14 c15 (hM g th n t dl se ke oz f1 f2 e1 e2 ms al ch y1 y2 fa we sz mz sh to tk bl mi ++ rest)) (some (.int 0)) (hQ c0 c1 c2 c3 c4 c5 c6 c7 c8 c9 c10 c11 c12 c13 c14 c15 (hM g (nI 2) n t dl se ke oz f1 f2 e1 e2 ms al ch y1 y2 fa we sz mz sh to tk bl mi ++ rest)) := by
  refine xm_of [some (.ref 16), some (.int (nI i)), some (.long (lN z)), none] rfl (Nat.le_of_ble_eq_true rfl) rfl ?_
  intro p e s m args below meth c C hr hk
  refine xa_aload_n C dM_relay_0 rfl ?_
  refine xa_aload_n C dM_relay_1 rfl ?_
  refine xa_iload_n C dM_relay_2 rfl ?_
  refine xa_callV1 C (p_M_isSigner g l _) b_M_116 (xw_in wi_M_isSigner rfl) e_M_isSigner dM_relay_3 rfl rfl rfl rfl (Nat.le_of_ble_eq_true rfl) ⟨Nat.le_of_ble_eq_true rfl, Nat.le_of_ble_eq_true rfl⟩ ⟨Nat.zero_le _, Nat.zero_le _⟩ ?_
  refine xa_if_eq C dM_relay_6 (tgt := 16) rfl (fun h6 => ?_) (fun h6 => ?_)
  · exact absurd (sg_nI hn h1 hi) (xb_eq0.mp h6)
  · refine xa_lload_n C dM_relay_9 rfl ?_
    refine xa_callS1 C (p_M_isNumber g l _ _) b_M_153 (xw_in wt_M_isNumber rfl) dM_relay_10 rfl (Nat.le_of_ble_eq_true rfl) ⟨Nat.le_of_ble_eq_true rfl, Nat.le_of_ble_eq_true rfl⟩ ⟨Nat.zero_le _, Nat.zero_le _⟩ ?_
    refine xa_if_ne C dM_relay_13 (tgt := 20) rfl (fun h13 => ?_) (fun h13 => ?_)
    · refine xa_aload_n C dM_relay_20 rfl ?_
      refine xa_iload_n C dM_relay_21 rfl ?_
      refine xa_callV1 C (p_M_isMember g l hn h1 hi) b_M_150 (xw_in wi_M_isMember rfl) e_M_isMember dM_relay_22 rfl rfl rfl rfl (Nat.le_of_ble_eq_true rfl) ⟨Nat.le_of_ble_eq_true rfl, Nat.le_of_ble_eq_true rfl⟩ ⟨Nat.zero_le _, Nat.zero_le _⟩ ?_
      refine xa_if_eq C dM_relay_25 (tgt := 48) rfl (fun h25 => ?_) (fun h25 => ?_)
      · exact absurd hm (xb_eq0.mp h25)
      · refine xa_aload_n C dM_relay_28 rfl ?_
        refine xa_get C f_M_47 dM_relay_29 rfl rfl ?_
        refine xa_iload_n C dM_relay_32 rfl ?_
        refine xa_baloadN C dM_relay_33 rfl ?_ (by omega) ?_
        · omega
        refine xa_if_eq C dM_relay_34 (tgt := 48) rfl (fun h34 => ?_) (fun h34 => ?_)
        · exact absurd h34 hmz
        · refine xa_aload_n C dM_relay_37 rfl ?_
          refine xa_get C f_M_110 dM_relay_38 rfl rfl ?_
          refine xa_iload_n C dM_relay_41 rfl ?_
          refine xa_callS1 C (p_M_inN g l _ (by omega) (by omega) _) b_M_89 (xw_in wt_M_in rfl) dM_relay_42 rfl (Nat.le_of_ble_eq_true rfl) ⟨Nat.le_of_ble_eq_true rfl, Nat.le_of_ble_eq_true rfl⟩ ⟨Nat.zero_le _, Nat.zero_le _⟩ ?_
          refine xa_if_eq C dM_relay_45 (tgt := 52) rfl (fun h45 => ?_) (fun h45 => ?_)
          · exact absurd ht9 (xb_eq0.mp h45)
          · refine xa_icN C 2 dM_relay_48 ?_
            refine xa_goto C dM_relay_49 (tgt := 53) rfl ?_
            refine xa_put C f_M_63 u_M_0 dM_relay_53 rfl (Nat.le_of_ble_eq_true rfl) rfl rfl (fun _ h => by cases h) ?_
            refine xa_aload_n C dM_relay_56 rfl ?_
            refine xa_get C f_M_63 dM_relay_57 rfl rfl ?_
            refine xa_if_ne C dM_relay_60 (tgt := 87) rfl (fun h60 => ?_) (fun h60 => ?_)
            · refine xa_icN C 0 dM_relay_87 ?_
              exact xa_eq rfl rfl rfl (xa_zret C hr hk (by first | exact xb_nar _ | rfl) dM_relay_88)
            · exact absurd h60 (by decide)
    · exact absurd (nm_lt hz) (xb_eq0.mp h13)
set_option maxHeartbeats 4000000 in
set_option maxRecDepth 100000 in
theorem p_M_relay_t (g : xw_G) (l : Launch) {c0 c1 c2 c3 c4 c5 c6 c7 c8 c9 c10 c11 c12 c13 c14 c15 : va_E} {n t : Nat} {se ke f1 f2 e1 e2 y1 y2 fa we sh to : Nat → Nat} {oz sz mz : Nat → Int32} {th dl ms tk bl : Int32} {al ch : Nat} {mi : Int64} {rest : List va_E} (hn : n ≤ 6) {i : Nat} (h1 : 1 ≤ i) (hi : i ≤ n) (hse : ∀ j, se j < 2 ^ 31) (hke : ∀ j, ke j < 2 ^ 31) (hf1 : ∀ j, f1 j < 2 ^ 31) (hf2 : ∀ j, f2 j < 2 ^ 31) (he1 : ∀ j, e1 j < 2 ^ 31) (he2 : ∀ j, e2 j < 2 ^ 31) (hy1 : ∀ j, y1 j < 2 ^ 31) (hy2 : ∀ j, y2 j < 2 ^ 31) (hfa : ∀ j, fa j < 2 ^ 30) (hwe : ∀ j, we j < 2 ^ 31) (hsh : ∀ j, sh j < 2 ^ 31) (hto : ∀ j, to j < 2 ^ 31) (hal : al < 2 ^ 31) (hch : ch < 2 ^ 31) {z : Nat} (hz : z < 1073741789) (hm : hs ms i = true) (hmz : ¬ mz i = 0) (ht9 : hs tk i = false) (hR : 4 ^ ((sh i + z) % 1073741789) % 2147483579 = y1 i * (y2 i ^ fa i % 2147483579) % 2147483579 * (ke i ^ (ch * we i % 1073741789) % 2147483579) % 2147483579) : xm_R g l false m_M_relay [.ref 16, .int (nI i), .long (lN z)] (hQ c0 c1 c2 c3 c4 c5 c6 c7 c8 c9 c10 c11 c12 c13 c14 c15 (hM g th n t dl se ke oz f1 f2 e1 e2 ms al ch y1 y2 fa we sz mz sh to tk bl mi ++ rest)) (some (.int 1)) (hQ c0 c1 c2 c3 c4 c5 c6 c7 c8 c9 c10 c11 c12 c13 c14 c15 (hM g (nI 0) n t dl se ke oz f1 f2 e1 e2 ms al ch y1 y2 fa we sz mz sh (va_up to i ((sh i + z) % 1073741789)) (tk ||| on_ i) bl mi ++ rest)) := by
  refine xm_of [some (.ref 16), some (.int (nI i)), some (.long (lN z)), none] rfl (Nat.le_of_ble_eq_true rfl) rfl ?_
  intro p e s m args below meth c C hr hk
  refine xa_aload_n C dM_relay_0 rfl ?_
  refine xa_aload_n C dM_relay_1 rfl ?_
  refine xa_iload_n C dM_relay_2 rfl ?_
  refine xa_callV1 C (p_M_isSigner g l _) b_M_116 (xw_in wi_M_isSigner rfl) e_M_isSigner dM_relay_3 rfl rfl rfl rfl (Nat.le_of_ble_eq_true rfl) ⟨Nat.le_of_ble_eq_true rfl, Nat.le_of_ble_eq_true rfl⟩ ⟨Nat.zero_le _, Nat.zero_le _⟩ ?_
  refine xa_if_eq C dM_relay_6 (tgt := 16) rfl (fun h6 => ?_) (fun h6 => ?_)
  · exact absurd (sg_nI hn h1 hi) (xb_eq0.mp h6)
  · refine xa_lload_n C dM_relay_9 rfl ?_
    refine xa_callS1 C (p_M_isNumber g l _ _) b_M_153 (xw_in wt_M_isNumber rfl) dM_relay_10 rfl (Nat.le_of_ble_eq_true rfl) ⟨Nat.le_of_ble_eq_true rfl, Nat.le_of_ble_eq_true rfl⟩ ⟨Nat.zero_le _, Nat.zero_le _⟩ ?_
    refine xa_if_ne C dM_relay_13 (tgt := 20) rfl (fun h13 => ?_) (fun h13 => ?_)
    · refine xa_aload_n C dM_relay_20 rfl ?_
      refine xa_iload_n C dM_relay_21 rfl ?_
      refine xa_callV1 C (p_M_isMember g l hn h1 hi) b_M_150 (xw_in wi_M_isMember rfl) e_M_isMember dM_relay_22 rfl rfl rfl rfl (Nat.le_of_ble_eq_true rfl) ⟨Nat.le_of_ble_eq_true rfl, Nat.le_of_ble_eq_true rfl⟩ ⟨Nat.zero_le _, Nat.zero_le _⟩ ?_
      refine xa_if_eq C dM_relay_25 (tgt := 48) rfl (fun h25 => ?_) (fun h25 => ?_)
      · exact absurd hm (xb_eq0.mp h25)
      · refine xa_aload_n C dM_relay_28 rfl ?_
        refine xa_get C f_M_47 dM_relay_29 rfl rfl ?_
        refine xa_iload_n C dM_relay_32 rfl ?_
        refine xa_baloadN C dM_relay_33 rfl ?_ (by omega) ?_
        · omega
        refine xa_if_eq C dM_relay_34 (tgt := 48) rfl (fun h34 => ?_) (fun h34 => ?_)
        · exact absurd h34 hmz
        · refine xa_aload_n C dM_relay_37 rfl ?_
          refine xa_get C f_M_110 dM_relay_38 rfl rfl ?_
          refine xa_iload_n C dM_relay_41 rfl ?_
          refine xa_callS1 C (p_M_inN g l _ (by omega) (by omega) _) b_M_89 (xw_in wt_M_in rfl) dM_relay_42 rfl (Nat.le_of_ble_eq_true rfl) ⟨Nat.le_of_ble_eq_true rfl, Nat.le_of_ble_eq_true rfl⟩ ⟨Nat.zero_le _, Nat.zero_le _⟩ ?_
          refine xa_if_eq C dM_relay_45 (tgt := 52) rfl (fun h45 => ?_) (fun h45 => ?_)
          · refine xa_icN C 0 dM_relay_52 ?_
            refine xa_put C f_M_63 u_M_0 dM_relay_53 rfl (Nat.le_of_ble_eq_true rfl) rfl rfl (fun _ h => by cases h) ?_
            refine xa_aload_n C dM_relay_56 rfl ?_
            refine xa_get C f_M_63 dM_relay_57 rfl rfl ?_
            refine xa_if_ne C dM_relay_60 (tgt := 87) rfl (fun h60 => ?_) (fun h60 => ?_)
            · exact absurd rfl h60
            · refine xa_aload_n C dM_relay_63 rfl ?_
              refine xa_iload_n C dM_relay_64 rfl ?_
              refine xa_aload_n C dM_relay_65 rfl ?_
              refine xa_get C f_M_50 dM_relay_66 rfl rfl ?_
              refine xa_iload_n C dM_relay_69 rfl ?_
              refine xa_laloadN C dM_relay_70 rfl ?_ (by omega) ?_
              · omega
              refine xa_lload_n C dM_relay_71 rfl ?_
              refine xa_addN C dM_relay_72 ?_
              refine xa_ldcN C 1073741789 (xw_in wk_M_68 rfl) dM_relay_73 ?_
              refine xa_remN C dM_relay_76 (by first | (have := hsh i; omega) | omega) (by decide) (by decide) ?_
              refine xa_callV1 C (p_M_tell_t g l hn h1 hi hse hke hf1 hf2 he1 he2 hy1 hy2 hfa hwe hsh hto hal hch (by first | omega | exact Nat.lt_trans (Nat.mod_lt _ (by decide)) (by decide)) hR) b_M_157 (xw_in wi_M_tell rfl) e_M_tell dM_relay_77 rfl rfl rfl rfl (Nat.le_of_ble_eq_true rfl) ⟨Nat.le_of_ble_eq_true rfl, Nat.le_of_ble_eq_true rfl⟩ ⟨Nat.zero_le _, Nat.zero_le _⟩ ?_
              refine xa_if_eq C dM_relay_80 (tgt := 87) rfl (fun h80 => ?_) (fun h80 => ?_)
              · exact absurd h80 (by decide)
              · refine xa_icN C 1 dM_relay_83 ?_
                refine xa_goto C dM_relay_84 (tgt := 88) rfl ?_
                exact xa_eq rfl rfl rfl (xa_zret C hr hk (by first | exact xb_nar _ | rfl) dM_relay_88)
          · exact absurd (xb_f (by rw [ht9]; decide)) h45
    · exact absurd (nm_lt hz) (xb_eq0.mp h13)
set_option maxHeartbeats 4000000 in
set_option maxRecDepth 100000 in
theorem p_M_relay_f (g : xw_G) (l : Launch) {c0 c1 c2 c3 c4 c5 c6 c7 c8 c9 c10 c11 c12 c13 c14 c15 : va_E} {n t : Nat} {se ke f1 f2 e1 e2 y1 y2 fa we sh to : Nat → Nat} {oz sz mz : Nat → Int32} {th dl ms tk bl : Int32} {al ch : Nat} {mi : Int64} {rest : List va_E} (hn : n ≤ 6) {i : Nat} (h1 : 1 ≤ i) (hi : i ≤ n) (hse : ∀ j, se j < 2 ^ 31) (hke : ∀ j, ke j < 2 ^ 31) (hf1 : ∀ j, f1 j < 2 ^ 31) (hf2 : ∀ j, f2 j < 2 ^ 31) (he1 : ∀ j, e1 j < 2 ^ 31) (he2 : ∀ j, e2 j < 2 ^ 31) (hy1 : ∀ j, y1 j < 2 ^ 31) (hy2 : ∀ j, y2 j < 2 ^ 31) (hfa : ∀ j, fa j < 2 ^ 30) (hwe : ∀ j, we j < 2 ^ 31) (hsh : ∀ j, sh j < 2 ^ 31) (hto : ∀ j, to j < 2 ^ 31) (hal : al < 2 ^ 31) (hch : ch < 2 ^ 31) {z : Nat} (hz : z < 1073741789) (hm : hs ms i = true) (hmz : ¬ mz i = 0) (ht9 : hs tk i = false) (hR : ¬ 4 ^ ((sh i + z) % 1073741789) % 2147483579 = y1 i * (y2 i ^ fa i % 2147483579) % 2147483579 * (ke i ^ (ch * we i % 1073741789) % 2147483579) % 2147483579) : xm_R g l false m_M_relay [.ref 16, .int (nI i), .long (lN z)] (hQ c0 c1 c2 c3 c4 c5 c6 c7 c8 c9 c10 c11 c12 c13 c14 c15 (hM g th n t dl se ke oz f1 f2 e1 e2 ms al ch y1 y2 fa we sz mz sh to tk bl mi ++ rest)) (some (.int 0)) (hQ c0 c1 c2 c3 c4 c5 c6 c7 c8 c9 c10 c11 c12 c13 c14 c15 (hM g (nI 0) n t dl se ke oz f1 f2 e1 e2 ms al ch y1 y2 fa we sz mz sh to tk (bl ||| on_ i) mi ++ rest)) := by
  refine xm_of [some (.ref 16), some (.int (nI i)), some (.long (lN z)), none] rfl (Nat.le_of_ble_eq_true rfl) rfl ?_
  intro p e s m args below meth c C hr hk
  refine xa_aload_n C dM_relay_0 rfl ?_
  refine xa_aload_n C dM_relay_1 rfl ?_
  refine xa_iload_n C dM_relay_2 rfl ?_
  refine xa_callV1 C (p_M_isSigner g l _) b_M_116 (xw_in wi_M_isSigner rfl) e_M_isSigner dM_relay_3 rfl rfl rfl rfl (Nat.le_of_ble_eq_true rfl) ⟨Nat.le_of_ble_eq_true rfl, Nat.le_of_ble_eq_true rfl⟩ ⟨Nat.zero_le _, Nat.zero_le _⟩ ?_
  refine xa_if_eq C dM_relay_6 (tgt := 16) rfl (fun h6 => ?_) (fun h6 => ?_)
  · exact absurd (sg_nI hn h1 hi) (xb_eq0.mp h6)
  · refine xa_lload_n C dM_relay_9 rfl ?_
    refine xa_callS1 C (p_M_isNumber g l _ _) b_M_153 (xw_in wt_M_isNumber rfl) dM_relay_10 rfl (Nat.le_of_ble_eq_true rfl) ⟨Nat.le_of_ble_eq_true rfl, Nat.le_of_ble_eq_true rfl⟩ ⟨Nat.zero_le _, Nat.zero_le _⟩ ?_
    refine xa_if_ne C dM_relay_13 (tgt := 20) rfl (fun h13 => ?_) (fun h13 => ?_)
    · refine xa_aload_n C dM_relay_20 rfl ?_
      refine xa_iload_n C dM_relay_21 rfl ?_
      refine xa_callV1 C (p_M_isMember g l hn h1 hi) b_M_150 (xw_in wi_M_isMember rfl) e_M_isMember dM_relay_22 rfl rfl rfl rfl (Nat.le_of_ble_eq_true rfl) ⟨Nat.le_of_ble_eq_true rfl, Nat.le_of_ble_eq_true rfl⟩ ⟨Nat.zero_le _, Nat.zero_le _⟩ ?_
      refine xa_if_eq C dM_relay_25 (tgt := 48) rfl (fun h25 => ?_) (fun h25 => ?_)
      · exact absurd hm (xb_eq0.mp h25)
      · refine xa_aload_n C dM_relay_28 rfl ?_
        refine xa_get C f_M_47 dM_relay_29 rfl rfl ?_
        refine xa_iload_n C dM_relay_32 rfl ?_
        refine xa_baloadN C dM_relay_33 rfl ?_ (by omega) ?_
        · omega
        refine xa_if_eq C dM_relay_34 (tgt := 48) rfl (fun h34 => ?_) (fun h34 => ?_)
        · exact absurd h34 hmz
        · refine xa_aload_n C dM_relay_37 rfl ?_
          refine xa_get C f_M_110 dM_relay_38 rfl rfl ?_
          refine xa_iload_n C dM_relay_41 rfl ?_
          refine xa_callS1 C (p_M_inN g l _ (by omega) (by omega) _) b_M_89 (xw_in wt_M_in rfl) dM_relay_42 rfl (Nat.le_of_ble_eq_true rfl) ⟨Nat.le_of_ble_eq_true rfl, Nat.le_of_ble_eq_true rfl⟩ ⟨Nat.zero_le _, Nat.zero_le _⟩ ?_
          refine xa_if_eq C dM_relay_45 (tgt := 52) rfl (fun h45 => ?_) (fun h45 => ?_)
          · refine xa_icN C 0 dM_relay_52 ?_
            refine xa_put C f_M_63 u_M_0 dM_relay_53 rfl (Nat.le_of_ble_eq_true rfl) rfl rfl (fun _ h => by cases h) ?_
            refine xa_aload_n C dM_relay_56 rfl ?_
            refine xa_get C f_M_63 dM_relay_57 rfl rfl ?_
            refine xa_if_ne C dM_relay_60 (tgt := 87) rfl (fun h60 => ?_) (fun h60 => ?_)
            · exact absurd rfl h60
            · refine xa_aload_n C dM_relay_63 rfl ?_
              refine xa_iload_n C dM_relay_64 rfl ?_
              refine xa_aload_n C dM_relay_65 rfl ?_
              refine xa_get C f_M_50 dM_relay_66 rfl rfl ?_
              refine xa_iload_n C dM_relay_69 rfl ?_
              refine xa_laloadN C dM_relay_70 rfl ?_ (by omega) ?_
              · omega
              refine xa_lload_n C dM_relay_71 rfl ?_
              refine xa_addN C dM_relay_72 ?_
              refine xa_ldcN C 1073741789 (xw_in wk_M_68 rfl) dM_relay_73 ?_
              refine xa_remN C dM_relay_76 (by first | (have := hsh i; omega) | omega) (by decide) (by decide) ?_
              refine xa_callV1 C (p_M_tell_f g l hn h1 hi hse hke hf1 hf2 he1 he2 hy1 hy2 hfa hwe hsh hto hal hch (by first | omega | exact Nat.lt_trans (Nat.mod_lt _ (by decide)) (by decide)) hR) b_M_157 (xw_in wi_M_tell rfl) e_M_tell dM_relay_77 rfl rfl rfl rfl (Nat.le_of_ble_eq_true rfl) ⟨Nat.le_of_ble_eq_true rfl, Nat.le_of_ble_eq_true rfl⟩ ⟨Nat.zero_le _, Nat.zero_le _⟩ ?_
              refine xa_if_eq C dM_relay_80 (tgt := 87) rfl (fun h80 => ?_) (fun h80 => ?_)
              · refine xa_icN C 0 dM_relay_87 ?_
                exact xa_eq rfl rfl rfl (xa_zret C hr hk (by first | exact xb_nar _ | rfl) dM_relay_88)
              · exact absurd rfl h80
          · exact absurd (xb_f (by rw [ht9]; decide)) h45
    · exact absurd (nm_lt hz) (xb_eq0.mp h13)
end
