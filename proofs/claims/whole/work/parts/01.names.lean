/-! names, printed by wip/whole/gen_names.py -/
abbrev yS_init : MethodName := ⟨"ThresholdSeal", "<init>", "(II)V"⟩
abbrev yJO_init : MethodName := ⟨"java/lang/Object", "<init>", "()V"⟩
abbrev yJM_max : MethodName := ⟨"java/lang/Math", "max", "(II)I"⟩
abbrev yJM_min : MethodName := ⟨"java/lang/Math", "min", "(II)I"⟩
abbrev yD_init : MethodName := ⟨"ThresholdSeal$Dealing", "<init>", "(II)V"⟩
abbrev yP_init : MethodName := ⟨"ThresholdSeal$Pairs", "<init>", "(I)V"⟩
abbrev yX_init : MethodName := ⟨"ThresholdSeal$Session", "<init>", "(I)V"⟩
abbrev yS_deal : MethodName := ⟨"ThresholdSeal", "deal", "(J)J"⟩
abbrev yD_make : MethodName := ⟨"ThresholdSeal$Dealing", "make", "(J)V"⟩
abbrev yG_ofThree : MethodName := ⟨"ThresholdSeal$Digest", "ofThree", "(JJJ)J"⟩
abbrev yG_mix : MethodName := ⟨"ThresholdSeal$Digest", "mix", "(JJ)J"⟩
abbrev yG_finish : MethodName := ⟨"ThresholdSeal$Digest", "finish", "(J)J"⟩
abbrev yD_valueAt : MethodName := ⟨"ThresholdSeal$Dealing", "valueAt", "(I)J"⟩
abbrev yN_times : MethodName := ⟨"ThresholdSeal$Numbers", "times", "(JJ)J"⟩
abbrev yN_plus : MethodName := ⟨"ThresholdSeal$Numbers", "plus", "(JJ)J"⟩
abbrev yE_ofNumber : MethodName := ⟨"ThresholdSeal$Elements", "ofNumber", "(J)J"⟩
abbrev yE_power : MethodName := ⟨"ThresholdSeal$Elements", "power", "(JJ)J"⟩
abbrev yE_times : MethodName := ⟨"ThresholdSeal$Elements", "times", "(JJ)J"⟩
abbrev yP_dropAll : MethodName := ⟨"ThresholdSeal$Pairs", "dropAll", "()V"⟩
abbrev yX_end : MethodName := ⟨"ThresholdSeal$Session", "end", "()V"⟩
abbrev yX_reset : MethodName := ⟨"ThresholdSeal$Session", "reset", "(I)V"⟩
abbrev yD_keyOfAll : MethodName := ⟨"ThresholdSeal$Dealing", "keyOfAll", "()J"⟩
abbrev yS_check : MethodName := ⟨"ThresholdSeal", "check", "(JJJ)Z"⟩
abbrev yS_sealHolds : MethodName := ⟨"ThresholdSeal", "sealHolds", "(JJJ)Z"⟩
abbrev yE_isElement : MethodName := ⟨"ThresholdSeal$Elements", "isElement", "(J)Z"⟩
abbrev yN_isNumber : MethodName := ⟨"ThresholdSeal$Numbers", "isNumber", "(J)Z"⟩
abbrev yG_ofSeal : MethodName := ⟨"ThresholdSeal$Digest", "ofSeal", "(JJJ)J"⟩
abbrev yS_key : MethodName := ⟨"ThresholdSeal", "key", "(I)J"⟩
abbrev yS_isSigner : MethodName := ⟨"ThresholdSeal", "isSigner", "(I)Z"⟩
abbrev yS_secret : MethodName := ⟨"ThresholdSeal", "secret", "(I)J"⟩
abbrev yS_commitment : MethodName := ⟨"ThresholdSeal", "commitment", "(IZ)J"⟩
abbrev yI_has : MethodName := ⟨"ThresholdSeal$Signers", "has", "(II)Z"⟩
abbrev yI_only : MethodName := ⟨"ThresholdSeal$Signers", "only", "(I)I"⟩
abbrev yS_factor : MethodName := ⟨"ThresholdSeal", "factor", "(I)J"⟩
abbrev yS_isMember : MethodName := ⟨"ThresholdSeal", "isMember", "(I)Z"⟩
abbrev yS_weight : MethodName := ⟨"ThresholdSeal", "weight", "(I)J"⟩
abbrev yS_challenge : MethodName := ⟨"ThresholdSeal", "challenge", "()J"⟩
abbrev yX_isOn : MethodName := ⟨"ThresholdSeal$Session", "isOn", "()Z"⟩
abbrev yS_members : MethodName := ⟨"ThresholdSeal", "members", "()I"⟩
abbrev yS_taken : MethodName := ⟨"ThresholdSeal", "taken", "()I"⟩
abbrev yS_blamed : MethodName := ⟨"ThresholdSeal", "blamed", "()I"⟩
abbrev yL_cell : MethodName := ⟨"ThresholdSealLaw", "cell", "([II)I"⟩
abbrev yL_commit : MethodName := ⟨"ThresholdSealLaw", "commit", "(LThresholdSeal;IJ[J)I"⟩
abbrev yS_commit : MethodName := ⟨"ThresholdSeal", "commit", "(IJ)J"⟩
abbrev yS_requireSigner : MethodName := ⟨"ThresholdSeal", "requireSigner", "(I)V"⟩
abbrev yJR_init : MethodName := ⟨"java/lang/RuntimeException", "<init>", "()V"⟩
abbrev yJR_init2 : MethodName := ⟨"java/lang/RuntimeException", "<init>", "(Ljava/lang/String;)V"⟩
abbrev yJE_init : MethodName := ⟨"java/lang/Exception", "<init>", "()V"⟩
abbrev yJE_init2 : MethodName := ⟨"java/lang/Exception", "<init>", "(Ljava/lang/String;)V"⟩
abbrev yJT_init : MethodName := ⟨"java/lang/Throwable", "<init>", "()V"⟩
abbrev yJT_init2 : MethodName := ⟨"java/lang/Throwable", "<init>", "(Ljava/lang/String;)V"⟩
abbrev yJT_fillInStackTrace : MethodName := ⟨"java/lang/Throwable", "fillInStackTrace", "(I)Ljava/lang/Throwable;"⟩
abbrev yJT_fillInStackTrace2 : MethodName := ⟨"java/lang/Throwable", "fillInStackTrace", "()Ljava/lang/Throwable;"⟩
abbrev yJA_init : MethodName := ⟨"java/lang/IllegalArgumentException", "<init>", "(Ljava/lang/String;)V"⟩
abbrev yS_requireDealt : MethodName := ⟨"ThresholdSeal", "requireDealt", "()V"⟩
abbrev yJS_init : MethodName := ⟨"java/lang/IllegalStateException", "<init>", "(Ljava/lang/String;)V"⟩
abbrev yP_open : MethodName := ⟨"ThresholdSeal$Pairs", "open", "(IJ)V"⟩
abbrev yX_losePair : MethodName := ⟨"ThresholdSeal$Session", "losePair", "(I)V"⟩
abbrev yL_begin : MethodName := ⟨"ThresholdSealLaw", "begin", "(LThresholdSeal;IJ[J)I"⟩
abbrev yS_begin : MethodName := ⟨"ThresholdSeal", "begin", "(IJ)J"⟩
abbrev yS_requireEnough : MethodName := ⟨"ThresholdSeal", "requireEnough", "(I)V"⟩
abbrev yJI_bitCount : MethodName := ⟨"java/lang/Integer", "bitCount", "(I)I"⟩
abbrev yP_areOpen : MethodName := ⟨"ThresholdSeal$Pairs", "areOpen", "(I)Z"⟩
abbrev yX_start : MethodName := ⟨"ThresholdSeal$Session", "start", "(IJJLThresholdSeal$Pairs;)V"⟩
abbrev yX_factorFor : MethodName := ⟨"ThresholdSeal$Session", "factorFor", "(IJJ)J"⟩
abbrev yI_weightIn : MethodName := ⟨"ThresholdSeal$Signers", "weightIn", "(III)J"⟩
abbrev yN_minus : MethodName := ⟨"ThresholdSeal$Numbers", "minus", "(JJ)J"⟩
abbrev yN_inverse : MethodName := ⟨"ThresholdSeal$Numbers", "inverse", "(J)J"⟩
abbrev yX_toldPart : MethodName := ⟨"ThresholdSeal$Session", "toldPart", "(I)J"⟩
abbrev yL_sign : MethodName := ⟨"ThresholdSealLaw", "sign", "(LThresholdSeal;I[J)I"⟩
abbrev yS_sign : MethodName := ⟨"ThresholdSeal", "sign", "(I)J"⟩
abbrev yX_makeShare : MethodName := ⟨"ThresholdSeal$Session", "makeShare", "(IJLThresholdSeal$Pairs;)V"⟩
abbrev yX_keyExponent : MethodName := ⟨"ThresholdSeal$Session", "keyExponent", "(I)J"⟩
abbrev yP_drop : MethodName := ⟨"ThresholdSeal$Pairs", "drop", "(I)V"⟩
abbrev yL_submit : MethodName := ⟨"ThresholdSealLaw", "submit", "(LThresholdSeal;IJ[J)I"⟩
abbrev yS_submit : MethodName := ⟨"ThresholdSeal", "submit", "(IJ)Z"⟩
abbrev yS_requireNumber : MethodName := ⟨"ThresholdSeal", "requireNumber", "(J)V"⟩
abbrev yS_requireUntaken : MethodName := ⟨"ThresholdSeal", "requireUntaken", "(I)V"⟩
abbrev yX_tell : MethodName := ⟨"ThresholdSeal$Session", "tell", "(IJJ)Z"⟩
abbrev yX_isRight : MethodName := ⟨"ThresholdSeal$Session", "isRight", "(IJJ)Z"⟩
abbrev yL_relay : MethodName := ⟨"ThresholdSealLaw", "relay", "(LThresholdSeal;IJ[J)I"⟩
abbrev yS_relay : MethodName := ⟨"ThresholdSeal", "relay", "(IJ)Z"⟩
abbrev yL_seal : MethodName := ⟨"ThresholdSealLaw", "seal", "(LThresholdSeal;[J)I"⟩
abbrev yS_seal : MethodName := ⟨"ThresholdSeal", "seal", "()J"⟩
abbrev yS_requireSealed : MethodName := ⟨"ThresholdSeal", "requireSealed", "()V"⟩
abbrev yL_holds : MethodName := ⟨"ThresholdSealLaw", "holds", "(LThresholdSeal;JJ[J)I"⟩
abbrev yS_holds : MethodName := ⟨"ThresholdSeal", "holds", "(JJ)Z"⟩
abbrev yL_recover : MethodName := ⟨"ThresholdSealLaw", "recover", "(LThresholdSeal;I[J)I"⟩
abbrev yS_recover : MethodName := ⟨"ThresholdSeal", "recover", "(I)J"⟩
abbrev yM_init : MethodName := ⟨"ThresholdSealModel", "<init>", "(II)V"⟩
abbrev yM_thrown : MethodName := ⟨"ThresholdSealModel", "thrown", "()I"⟩
abbrev yM_deal : MethodName := ⟨"ThresholdSealModel", "deal", "(J)J"⟩
abbrev yM_begins : MethodName := ⟨"ThresholdSealModel", "begins", "(J)V"⟩
abbrev yM_mix : MethodName := ⟨"ThresholdSealModel", "mix", "(J)V"⟩
abbrev yM_digest : MethodName := ⟨"ThresholdSealModel", "digest", "()J"⟩
abbrev yM_power : MethodName := ⟨"ThresholdSealModel", "power", "(JJJ)J"⟩
abbrev yM_commit : MethodName := ⟨"ThresholdSealModel", "commit", "(IJ)J"⟩
abbrev yM_isSigner : MethodName := ⟨"ThresholdSealModel", "isSigner", "(I)Z"⟩
abbrev yM_pairNumber : MethodName := ⟨"ThresholdSealModel", "pairNumber", "(JJI)J"⟩
abbrev yM_begin : MethodName := ⟨"ThresholdSealModel", "begin", "(IJ)J"⟩
abbrev yM_isSet : MethodName := ⟨"ThresholdSealModel", "isSet", "(I)Z"⟩
abbrev yM_in : MethodName := ⟨"ThresholdSealModel", "in", "(II)Z"⟩
abbrev yM_allOpen : MethodName := ⟨"ThresholdSealModel", "allOpen", "(I)Z"⟩
abbrev yM_factorOf : MethodName := ⟨"ThresholdSealModel", "factorOf", "(IJI)J"⟩
abbrev yM_weightIn : MethodName := ⟨"ThresholdSealModel", "weightIn", "(II)J"⟩
abbrev yM_challengeOf : MethodName := ⟨"ThresholdSealModel", "challengeOf", "(JJ)J"⟩
abbrev yM_sign : MethodName := ⟨"ThresholdSealModel", "sign", "(I)J"⟩
abbrev yM_isMember : MethodName := ⟨"ThresholdSealModel", "isMember", "(I)Z"⟩
abbrev yM_submit : MethodName := ⟨"ThresholdSealModel", "submit", "(IJ)Z"⟩
abbrev yM_isNumber : MethodName := ⟨"ThresholdSealModel", "isNumber", "(J)Z"⟩
abbrev yM_tell : MethodName := ⟨"ThresholdSealModel", "tell", "(IJ)Z"⟩
abbrev yM_relay : MethodName := ⟨"ThresholdSealModel", "relay", "(IJ)Z"⟩
abbrev yM_seal : MethodName := ⟨"ThresholdSealModel", "seal", "()J"⟩
abbrev yM_isWhole : MethodName := ⟨"ThresholdSealModel", "isWhole", "()Z"⟩
abbrev yM_sum : MethodName := ⟨"ThresholdSealModel", "sum", "()J"⟩
abbrev yM_check : MethodName := ⟨"ThresholdSealModel", "check", "(JJJ)Z"⟩
abbrev yM_isSealOf : MethodName := ⟨"ThresholdSealModel", "isSealOf", "(JJJ)Z"⟩
abbrev yM_holds : MethodName := ⟨"ThresholdSealModel", "holds", "(JJ)Z"⟩
abbrev yM_recover : MethodName := ⟨"ThresholdSealModel", "recover", "(I)J"⟩
abbrev yM_key : MethodName := ⟨"ThresholdSealModel", "key", "(I)J"⟩
abbrev yM_secret : MethodName := ⟨"ThresholdSealModel", "secret", "(I)J"⟩
abbrev yM_commitment : MethodName := ⟨"ThresholdSealModel", "commitment", "(IZ)J"⟩
abbrev yM_factor : MethodName := ⟨"ThresholdSealModel", "factor", "(I)J"⟩
abbrev yM_weight : MethodName := ⟨"ThresholdSealModel", "weight", "(I)J"⟩
abbrev yM_challenge : MethodName := ⟨"ThresholdSealModel", "challenge", "()J"⟩
abbrev yM_members : MethodName := ⟨"ThresholdSealModel", "members", "()I"⟩
abbrev yM_taken : MethodName := ⟨"ThresholdSealModel", "taken", "()I"⟩
abbrev yM_blamed : MethodName := ⟨"ThresholdSealModel", "blamed", "()I"⟩
abbrev cS_init : ByteArray := prog_1_method_1_code
abbrev cJO_init : ByteArray := object_method_1_code
abbrev cJM_max : ByteArray := prog_15_method_65_code
abbrev cJM_min : ByteArray := prog_15_method_69_code
abbrev cD_init : ByteArray := prog_2_method_1_code
abbrev cP_init : ByteArray := prog_6_method_1_code
abbrev cX_init : ByteArray := prog_7_method_1_code
abbrev cS_deal : ByteArray := prog_1_method_2_code
abbrev cD_make : ByteArray := prog_2_method_2_code
abbrev cG_ofThree : ByteArray := prog_3_method_4_code
abbrev cG_mix : ByteArray := prog_3_method_2_code
abbrev cG_finish : ByteArray := prog_3_method_3_code
abbrev cD_valueAt : ByteArray := prog_2_method_4_code
abbrev cN_times : ByteArray := prog_5_method_5_code
abbrev cN_plus : ByteArray := prog_5_method_3_code
abbrev cE_ofNumber : ByteArray := prog_4_method_5_code
abbrev cE_power : ByteArray := prog_4_method_4_code
abbrev cE_times : ByteArray := prog_4_method_3_code
abbrev cP_dropAll : ByteArray := prog_6_method_5_code
abbrev cX_end : ByteArray := prog_7_method_3_code
abbrev cX_reset : ByteArray := prog_7_method_8_code
abbrev cD_keyOfAll : ByteArray := prog_2_method_3_code
abbrev cS_check : ByteArray := prog_1_method_9_code
abbrev cS_sealHolds : ByteArray := prog_1_method_23_code
abbrev cE_isElement : ByteArray := prog_4_method_2_code
abbrev cN_isNumber : ByteArray := prog_5_method_2_code
abbrev cG_ofSeal : ByteArray := prog_3_method_5_code
abbrev cS_key : ByteArray := prog_1_method_12_code
abbrev cS_isSigner : ByteArray := prog_1_method_21_code
abbrev cS_secret : ByteArray := prog_1_method_13_code
abbrev cS_commitment : ByteArray := prog_1_method_14_code
abbrev cI_has : ByteArray := prog_8_method_3_code
abbrev cI_only : ByteArray := prog_8_method_2_code
abbrev cS_factor : ByteArray := prog_1_method_15_code
abbrev cS_isMember : ByteArray := prog_1_method_22_code
abbrev cS_weight : ByteArray := prog_1_method_16_code
abbrev cS_challenge : ByteArray := prog_1_method_17_code
abbrev cX_isOn : ByteArray := prog_7_method_2_code
abbrev cS_members : ByteArray := prog_1_method_18_code
abbrev cS_taken : ByteArray := prog_1_method_19_code
abbrev cS_blamed : ByteArray := prog_1_method_20_code
abbrev cL_cell : ByteArray := method_2_code
abbrev cL_commit : ByteArray := method_3_code
abbrev cS_commit : ByteArray := prog_1_method_3_code
abbrev cS_requireSigner : ByteArray := prog_1_method_24_code
abbrev cJT_init : ByteArray := prog_18_method_1_code
abbrev cJT_fillInStackTrace2 : ByteArray := prog_18_method_18_code
abbrev cJA_init : ByteArray := prog_12_method_2_code
abbrev cJR_init2 : ByteArray := prog_16_method_2_code
abbrev cJE_init2 : ByteArray := prog_11_method_2_code
abbrev cJT_init2 : ByteArray := prog_18_method_2_code
abbrev cS_requireDealt : ByteArray := prog_1_method_27_code
abbrev cJS_init : ByteArray := prog_13_method_2_code
abbrev cP_open : ByteArray := prog_6_method_2_code
abbrev cX_losePair : ByteArray := prog_7_method_5_code
abbrev cL_begin : ByteArray := method_4_code
abbrev cS_begin : ByteArray := prog_1_method_4_code
abbrev cS_requireEnough : ByteArray := prog_1_method_26_code
abbrev cJI_bitCount : ByteArray := prog_14_method_49_code
abbrev cP_areOpen : ByteArray := prog_6_method_3_code
abbrev cX_start : ByteArray := prog_7_method_4_code
abbrev cX_factorFor : ByteArray := prog_7_method_9_code
abbrev cI_weightIn : ByteArray := prog_8_method_4_code
abbrev cN_minus : ByteArray := prog_5_method_4_code
abbrev cN_inverse : ByteArray := prog_5_method_6_code
abbrev cX_toldPart : ByteArray := prog_7_method_10_code
abbrev cL_sign : ByteArray := method_5_code
abbrev cS_sign : ByteArray := prog_1_method_5_code
abbrev cX_makeShare : ByteArray := prog_7_method_6_code
abbrev cX_keyExponent : ByteArray := prog_7_method_11_code
abbrev cP_drop : ByteArray := prog_6_method_4_code
abbrev cL_submit : ByteArray := method_6_code
abbrev cS_submit : ByteArray := prog_1_method_6_code
abbrev cS_requireNumber : ByteArray := prog_1_method_25_code
abbrev cS_requireUntaken : ByteArray := prog_1_method_28_code
abbrev cX_tell : ByteArray := prog_7_method_7_code
abbrev cX_isRight : ByteArray := prog_7_method_12_code
abbrev cL_relay : ByteArray := method_7_code
abbrev cS_relay : ByteArray := prog_1_method_7_code
abbrev cL_seal : ByteArray := method_8_code
abbrev cS_seal : ByteArray := prog_1_method_8_code
abbrev cS_requireSealed : ByteArray := prog_1_method_29_code
abbrev cL_holds : ByteArray := method_9_code
abbrev cS_holds : ByteArray := prog_1_method_10_code
abbrev cL_recover : ByteArray := method_10_code
abbrev cS_recover : ByteArray := prog_1_method_11_code
abbrev cM_init : ByteArray := prog_10_method_1_code
abbrev cM_thrown : ByteArray := prog_10_method_2_code
abbrev cM_deal : ByteArray := prog_10_method_14_code
abbrev cM_begins : ByteArray := prog_10_method_5_code
abbrev cM_mix : ByteArray := prog_10_method_6_code
abbrev cM_digest : ByteArray := prog_10_method_7_code
abbrev cM_power : ByteArray := prog_10_method_3_code
abbrev cM_commit : ByteArray := prog_10_method_15_code
abbrev cM_isSigner : ByteArray := prog_10_method_10_code
abbrev cM_pairNumber : ByteArray := prog_10_method_8_code
abbrev cM_begin : ByteArray := prog_10_method_18_code
abbrev cM_isSet : ByteArray := prog_10_method_12_code
abbrev cM_in : ByteArray := prog_10_method_11_code
abbrev cM_allOpen : ByteArray := prog_10_method_16_code
abbrev cM_factorOf : ByteArray := prog_10_method_17_code
abbrev cM_weightIn : ByteArray := prog_10_method_13_code
abbrev cM_challengeOf : ByteArray := prog_10_method_9_code
abbrev cM_sign : ByteArray := prog_10_method_20_code
abbrev cM_isMember : ByteArray := prog_10_method_19_code
abbrev cM_submit : ByteArray := prog_10_method_22_code
abbrev cM_isNumber : ByteArray := prog_10_method_4_code
abbrev cM_tell : ByteArray := prog_10_method_21_code
abbrev cM_relay : ByteArray := prog_10_method_23_code
abbrev cM_seal : ByteArray := prog_10_method_26_code
abbrev cM_isWhole : ByteArray := prog_10_method_24_code
abbrev cM_sum : ByteArray := prog_10_method_25_code
abbrev cM_check : ByteArray := prog_10_method_28_code
abbrev cM_isSealOf : ByteArray := prog_10_method_27_code
abbrev cM_holds : ByteArray := prog_10_method_29_code
abbrev cM_recover : ByteArray := prog_10_method_30_code
abbrev cM_key : ByteArray := prog_10_method_31_code
abbrev cM_secret : ByteArray := prog_10_method_32_code
abbrev cM_commitment : ByteArray := prog_10_method_33_code
abbrev cM_factor : ByteArray := prog_10_method_34_code
abbrev cM_weight : ByteArray := prog_10_method_35_code
abbrev cM_challenge : ByteArray := prog_10_method_36_code
abbrev cM_members : ByteArray := prog_10_method_37_code
abbrev cM_taken : ByteArray := prog_10_method_38_code
abbrev cM_blamed : ByteArray := prog_10_method_39_code
abbrev cL_law : ByteArray := code
def TD_ : u_T := fun k => match k with
  | 0 => ("ThresholdSeal$Dealing", "signers", "I", true)
  | 1 => ("ThresholdSeal$Dealing", "enough", "I", true)
  | 2 => ("ThresholdSeal$Dealing", "coefficients", "[J", true)
  | 3 => ("ThresholdSeal$Dealing", "secrets", "[J", true)
  | 4 => ("ThresholdSeal$Dealing", "keys", "[J", true)
  | _ => ("ThresholdSeal$Dealing", "done", "Z", false)
def tD_ : Nat → FieldType := fun k => match k with
  | 0 => .int
  | 1 => .int
  | 2 => .array .long
  | 3 => .array .long
  | 4 => .array .long
  | _ => .boolean
theorem nD_ : ∀ a, a < 6 → ∀ b, b < 6 → a ≠ b → (TD_ a).2.1 ≠ (TD_ b).2.1 := by decide +kernel
theorem tD_ok : ∀ k, k < 6 → parseFieldDescriptor (TD_ k).2.2.1 = some (tD_ k) := by decide +kernel
def TP_ : u_T := fun k => match k with
  | 0 => ("ThresholdSeal$Pairs", "firstNumbers", "[J", true)
  | 1 => ("ThresholdSeal$Pairs", "secondNumbers", "[J", true)
  | 2 => ("ThresholdSeal$Pairs", "firstElements", "[J", true)
  | 3 => ("ThresholdSeal$Pairs", "secondElements", "[J", true)
  | _ => ("ThresholdSeal$Pairs", "openSet", "I", false)
def tP_ : Nat → FieldType := fun k => match k with
  | 0 => .array .long
  | 1 => .array .long
  | 2 => .array .long
  | 3 => .array .long
  | _ => .int
theorem nP_ : ∀ a, a < 5 → ∀ b, b < 5 → a ≠ b → (TP_ a).2.1 ≠ (TP_ b).2.1 := by decide +kernel
theorem tP_ok : ∀ k, k < 5 → parseFieldDescriptor (TP_ k).2.2.1 = some (tP_ k) := by decide +kernel
def TX_ : u_T := fun k => match k with
  | 0 => ("ThresholdSeal$Session", "signers", "I", true)
  | 1 => ("ThresholdSeal$Session", "firstElements", "[J", true)
  | 2 => ("ThresholdSeal$Session", "secondElements", "[J", true)
  | 3 => ("ThresholdSeal$Session", "factors", "[J", true)
  | 4 => ("ThresholdSeal$Session", "weights", "[J", true)
  | 5 => ("ThresholdSeal$Session", "shares", "[J", true)
  | 6 => ("ThresholdSeal$Session", "memberSet", "I", false)
  | 7 => ("ThresholdSeal$Session", "pairSet", "I", false)
  | 8 => ("ThresholdSeal$Session", "madeSet", "I", false)
  | 9 => ("ThresholdSeal$Session", "takenSet", "I", false)
  | 10 => ("ThresholdSeal$Session", "blamedSet", "I", false)
  | 11 => ("ThresholdSeal$Session", "product", "J", false)
  | 12 => ("ThresholdSeal$Session", "challengeNumber", "J", false)
  | _ => ("ThresholdSeal$Session", "sum", "J", false)
def tX_ : Nat → FieldType := fun k => match k with
  | 0 => .int
  | 1 => .array .long
  | 2 => .array .long
  | 3 => .array .long
  | 4 => .array .long
  | 5 => .array .long
  | 6 => .int
  | 7 => .int
  | 8 => .int
  | 9 => .int
  | 10 => .int
  | 11 => .long
  | 12 => .long
  | _ => .long
theorem nX_ : ∀ a, a < 14 → ∀ b, b < 14 → a ≠ b → (TX_ a).2.1 ≠ (TX_ b).2.1 := by decide +kernel
theorem tX_ok : ∀ k, k < 14 → parseFieldDescriptor (TX_ k).2.2.1 = some (tX_ k) := by decide +kernel
def TS_ : u_T := fun k => match k with
  | 0 => ("ThresholdSeal", "signers", "I", true)
  | 1 => ("ThresholdSeal", "enough", "I", true)
  | 2 => ("ThresholdSeal", "dealing", "LThresholdSeal$Dealing;", true)
  | 3 => ("ThresholdSeal", "pairs", "LThresholdSeal$Pairs;", true)
  | _ => ("ThresholdSeal", "session", "LThresholdSeal$Session;", true)
def tS_ : Nat → FieldType := fun k => match k with
  | 0 => .int
  | 1 => .int
  | 2 => .object "ThresholdSeal$Dealing"
  | 3 => .object "ThresholdSeal$Pairs"
  | _ => .object "ThresholdSeal$Session"
theorem nS_ : ∀ a, a < 5 → ∀ b, b < 5 → a ≠ b → (TS_ a).2.1 ≠ (TS_ b).2.1 := by decide +kernel
theorem tS_ok : ∀ k, k < 5 → parseFieldDescriptor (TS_ k).2.2.1 = some (tS_ k) := by decide +kernel
def TM_ : u_T := fun k => match k with
  | 0 => ("ThresholdSealModel", "thrown", "I", false)
  | 1 => ("ThresholdSealModel", "signers", "I", true)
  | 2 => ("ThresholdSealModel", "enough", "I", true)
  | 3 => ("ThresholdSealModel", "dealt", "Z", false)
  | 4 => ("ThresholdSealModel", "secrets", "[J", true)
  | 5 => ("ThresholdSealModel", "keys", "[J", true)
  | 6 => ("ThresholdSealModel", "open", "[Z", true)
  | 7 => ("ThresholdSealModel", "firstNumber", "[J", true)
  | 8 => ("ThresholdSealModel", "secondNumber", "[J", true)
  | 9 => ("ThresholdSealModel", "firstElement", "[J", true)
  | 10 => ("ThresholdSealModel", "secondElement", "[J", true)
  | 11 => ("ThresholdSealModel", "session", "I", false)
  | 12 => ("ThresholdSealModel", "all", "J", false)
  | 13 => ("ThresholdSealModel", "challenged", "J", false)
  | 14 => ("ThresholdSealModel", "firstThen", "[J", true)
  | 15 => ("ThresholdSealModel", "secondThen", "[J", true)
  | 16 => ("ThresholdSealModel", "factors", "[J", true)
  | 17 => ("ThresholdSealModel", "weights", "[J", true)
  | 18 => ("ThresholdSealModel", "still", "[Z", true)
  | 19 => ("ThresholdSealModel", "made", "[Z", true)
  | 20 => ("ThresholdSealModel", "shares", "[J", true)
  | 21 => ("ThresholdSealModel", "told", "[J", true)
  | 22 => ("ThresholdSealModel", "takenNow", "I", false)
  | 23 => ("ThresholdSealModel", "blamedNow", "I", false)
  | _ => ("ThresholdSealModel", "mixed", "J", false)
def tM_ : Nat → FieldType := fun k => match k with
  | 0 => .int
  | 1 => .int
  | 2 => .int
  | 3 => .boolean
  | 4 => .array .long
  | 5 => .array .long
  | 6 => .array .boolean
  | 7 => .array .long
  | 8 => .array .long
  | 9 => .array .long
  | 10 => .array .long
  | 11 => .int
  | 12 => .long
  | 13 => .long
  | 14 => .array .long
  | 15 => .array .long
  | 16 => .array .long
  | 17 => .array .long
  | 18 => .array .boolean
  | 19 => .array .boolean
  | 20 => .array .long
  | 21 => .array .long
  | 22 => .int
  | 23 => .int
  | _ => .long
theorem nM_ : ∀ a, a < 25 → ∀ b, b < 25 → a ≠ b → (TM_ a).2.1 ≠ (TM_ b).2.1 := by decide +kernel
theorem tM_ok : ∀ k, k < 25 → parseFieldDescriptor (TM_ k).2.2.1 = some (tM_ k) := by decide +kernel
theorem wn_L : Cond.initialized "ThresholdSealLaw" ∈ lw_tbl := List.mem_append_right _ (List.mem_of_getElem? (i := 0) (by decide +kernel))
theorem wn_S : Cond.initialized "ThresholdSeal" ∈ lw_tbl := List.mem_append_right _ (List.mem_of_getElem? (i := 1) (by decide +kernel))
theorem wn_JM : Cond.initialized "java/lang/Math" ∈ lw_tbl := List.mem_append_right _ (List.mem_of_getElem? (i := 2) (by decide +kernel))
theorem wn_D : Cond.initialized "ThresholdSeal$Dealing" ∈ lw_tbl := List.mem_append_right _ (List.mem_of_getElem? (i := 3) (by decide +kernel))
theorem wn_P : Cond.initialized "ThresholdSeal$Pairs" ∈ lw_tbl := List.mem_append_right _ (List.mem_of_getElem? (i := 4) (by decide +kernel))
theorem wn_X : Cond.initialized "ThresholdSeal$Session" ∈ lw_tbl := List.mem_append_right _ (List.mem_of_getElem? (i := 5) (by decide +kernel))
theorem wn_M : Cond.initialized "ThresholdSealModel" ∈ lw_tbl := List.mem_append_right _ (List.mem_of_getElem? (i := 6) (by decide +kernel))
theorem wn_G : Cond.initialized "ThresholdSeal$Digest" ∈ lw_tbl := List.mem_append_right _ (List.mem_of_getElem? (i := 7) (by decide +kernel))
theorem wn_N : Cond.initialized "ThresholdSeal$Numbers" ∈ lw_tbl := List.mem_append_right _ (List.mem_of_getElem? (i := 8) (by decide +kernel))
theorem wn_E : Cond.initialized "ThresholdSeal$Elements" ∈ lw_tbl := List.mem_append_right _ (List.mem_of_getElem? (i := 9) (by decide +kernel))
theorem wn_JT : Cond.initialized "java/lang/Throwable" ∈ lw_tbl := List.mem_append_right _ (List.mem_of_getElem? (i := 10) (by decide +kernel))
theorem wn_JE : Cond.initialized "java/lang/Exception" ∈ lw_tbl := List.mem_append_right _ (List.mem_of_getElem? (i := 11) (by decide +kernel))
theorem wn_JR : Cond.initialized "java/lang/RuntimeException" ∈ lw_tbl := List.mem_append_right _ (List.mem_of_getElem? (i := 12) (by decide +kernel))
theorem wn_JA : Cond.initialized "java/lang/IllegalArgumentException" ∈ lw_tbl := List.mem_append_right _ (List.mem_of_getElem? (i := 13) (by decide +kernel))
theorem wn_JS : Cond.initialized "java/lang/IllegalStateException" ∈ lw_tbl := List.mem_append_right _ (List.mem_of_getElem? (i := 14) (by decide +kernel))
theorem wn_I : Cond.initialized "ThresholdSeal$Signers" ∈ lw_tbl := List.mem_append_right _ (List.mem_of_getElem? (i := 15) (by decide +kernel))
theorem wn_JI : Cond.initialized "java/lang/Integer" ∈ lw_tbl := List.mem_append_right _ (List.mem_of_getElem? (i := 16) (by decide +kernel))
theorem wl_L_8 : Cond.classLink "ThresholdSealLaw" 8 "ThresholdSeal" ∈ lw_tbl := List.mem_append_right _ (List.mem_of_getElem? (i := 17) (by decide +kernel))
theorem wz_S : Cond.instantiable "ThresholdSeal" 5 ∈ lw_tbl := List.mem_append_right _ (List.mem_of_getElem? (i := 18) (by decide +kernel))
theorem wm_L_48 : Cond.methodLink "ThresholdSealLaw" 48 yS_init ∈ lw_tbl := List.mem_append_right _ (List.mem_of_getElem? (i := 19) (by decide +kernel))
theorem wi_S_init : Cond.instanceMethod yS_init ∈ lw_tbl := List.mem_append_right _ (List.mem_of_getElem? (i := 20) (by decide +kernel))
theorem wc_S_init : Cond.code yS_init prog_1_method_1_code 3 (Option.none : Option ClassFile.FieldType) ∈ lw_tbl := List.mem_append_right _ (List.mem_of_getElem? (i := 21) (by decide +kernel))
theorem wm_S_1 : Cond.methodLink "ThresholdSeal" 1 yJO_init ∈ lw_tbl := List.mem_append_right _ (List.mem_of_getElem? (i := 22) (by decide +kernel))
theorem wi_JO_init : Cond.instanceMethod yJO_init ∈ lw_tbl := List.mem_append_right _ (List.mem_of_getElem? (i := 23) (by decide +kernel))
theorem wc_JO_init : Cond.code yJO_init object_method_1_code 1 (Option.none : Option ClassFile.FieldType) ∈ lw_tbl := List.mem_append_right _ (List.mem_of_getElem? (i := 24) (by decide +kernel))
theorem wm_S_7 : Cond.methodLink "ThresholdSeal" 7 yJM_max ∈ lw_tbl := List.mem_append_right _ (List.mem_of_getElem? (i := 25) (by decide +kernel))
theorem wt_JM_max : Cond.static yJM_max ∈ lw_tbl := List.mem_append_right _ (List.mem_of_getElem? (i := 26) (by decide +kernel))
theorem wc_JM_max : Cond.code yJM_max prog_15_method_65_code 2 (Option.some ClassFile.FieldType.int) ∈ lw_tbl := List.mem_append_right _ (List.mem_of_getElem? (i := 27) (by decide +kernel))
theorem wm_S_15 : Cond.methodLink "ThresholdSeal" 15 yJM_min ∈ lw_tbl := List.mem_append_right _ (List.mem_of_getElem? (i := 28) (by decide +kernel))
theorem wt_JM_min : Cond.static yJM_min ∈ lw_tbl := List.mem_append_right _ (List.mem_of_getElem? (i := 29) (by decide +kernel))
theorem wc_JM_min : Cond.code yJM_min prog_15_method_69_code 2 (Option.some ClassFile.FieldType.int) ∈ lw_tbl := List.mem_append_right _ (List.mem_of_getElem? (i := 30) (by decide +kernel))
theorem wl_S_25 : Cond.classLink "ThresholdSeal" 25 "ThresholdSeal$Dealing" ∈ lw_tbl := List.mem_append_right _ (List.mem_of_getElem? (i := 31) (by decide +kernel))
theorem wz_D : Cond.instantiable "ThresholdSeal$Dealing" 6 ∈ lw_tbl := List.mem_append_right _ (List.mem_of_getElem? (i := 32) (by decide +kernel))
theorem wm_S_27 : Cond.methodLink "ThresholdSeal" 27 yD_init ∈ lw_tbl := List.mem_append_right _ (List.mem_of_getElem? (i := 33) (by decide +kernel))
theorem wi_D_init : Cond.instanceMethod yD_init ∈ lw_tbl := List.mem_append_right _ (List.mem_of_getElem? (i := 34) (by decide +kernel))
theorem wc_D_init : Cond.code yD_init prog_2_method_1_code 3 (Option.none : Option ClassFile.FieldType) ∈ lw_tbl := List.mem_append_right _ (List.mem_of_getElem? (i := 35) (by decide +kernel))
theorem wm_D_1 : Cond.methodLink "ThresholdSeal$Dealing" 1 yJO_init ∈ lw_tbl := List.mem_append_right _ (List.mem_of_getElem? (i := 36) (by decide +kernel))
theorem wf_D_7 : Cond.fieldLink "ThresholdSeal$Dealing" 7 "ThresholdSeal$Dealing" "signers" "I" ∈ lw_tbl := List.mem_append_right _ (List.mem_of_getElem? (i := 37) (by decide +kernel))
theorem wf_D_13 : Cond.fieldLink "ThresholdSeal$Dealing" 13 "ThresholdSeal$Dealing" "enough" "I" ∈ lw_tbl := List.mem_append_right _ (List.mem_of_getElem? (i := 38) (by decide +kernel))
theorem wf_D_16 : Cond.fieldLink "ThresholdSeal$Dealing" 16 "ThresholdSeal$Dealing" "coefficients" "[J" ∈ lw_tbl := List.mem_append_right _ (List.mem_of_getElem? (i := 39) (by decide +kernel))
theorem wf_D_20 : Cond.fieldLink "ThresholdSeal$Dealing" 20 "ThresholdSeal$Dealing" "secrets" "[J" ∈ lw_tbl := List.mem_append_right _ (List.mem_of_getElem? (i := 40) (by decide +kernel))
theorem wf_S_114 : Cond.fieldLink "ThresholdSeal" 114 "ThresholdSeal$Dealing" "secrets" "[J" ∈ lw_tbl := List.mem_append_right _ (List.mem_of_getElem? (i := 41) (by decide +kernel))
theorem wf_D_23 : Cond.fieldLink "ThresholdSeal$Dealing" 23 "ThresholdSeal$Dealing" "keys" "[J" ∈ lw_tbl := List.mem_append_right _ (List.mem_of_getElem? (i := 42) (by decide +kernel))
theorem wf_S_133 : Cond.fieldLink "ThresholdSeal" 133 "ThresholdSeal$Dealing" "keys" "[J" ∈ lw_tbl := List.mem_append_right _ (List.mem_of_getElem? (i := 43) (by decide +kernel))
theorem wf_D_42 : Cond.fieldLink "ThresholdSeal$Dealing" 42 "ThresholdSeal$Dealing" "done" "Z" ∈ lw_tbl := List.mem_append_right _ (List.mem_of_getElem? (i := 44) (by decide +kernel))
theorem wf_S_157 : Cond.fieldLink "ThresholdSeal" 157 "ThresholdSeal$Dealing" "done" "Z" ∈ lw_tbl := List.mem_append_right _ (List.mem_of_getElem? (i := 45) (by decide +kernel))
theorem wy_D_signers : Cond.laysFinal "ThresholdSeal$Dealing" "ThresholdSeal$Dealing" "signers" "I" ∈ lw_tbl := List.mem_append_right _ (List.mem_of_getElem? (i := 46) (by decide +kernel))
theorem wx_47 : Cond.soleField "ThresholdSeal$Dealing" "signers" ∈ lw_tbl := List.mem_append_right _ (List.mem_of_getElem? (i := 47) (by decide +kernel))
theorem wy_D_enough : Cond.laysFinal "ThresholdSeal$Dealing" "ThresholdSeal$Dealing" "enough" "I" ∈ lw_tbl := List.mem_append_right _ (List.mem_of_getElem? (i := 48) (by decide +kernel))
theorem wx_49 : Cond.soleField "ThresholdSeal$Dealing" "enough" ∈ lw_tbl := List.mem_append_right _ (List.mem_of_getElem? (i := 49) (by decide +kernel))
theorem wy_D_coefficients : Cond.laysFinal "ThresholdSeal$Dealing" "ThresholdSeal$Dealing" "coefficients" "[J" ∈ lw_tbl := List.mem_append_right _ (List.mem_of_getElem? (i := 50) (by decide +kernel))
theorem wx_51 : Cond.soleField "ThresholdSeal$Dealing" "coefficients" ∈ lw_tbl := List.mem_append_right _ (List.mem_of_getElem? (i := 51) (by decide +kernel))
theorem wy_D_secrets : Cond.laysFinal "ThresholdSeal$Dealing" "ThresholdSeal$Dealing" "secrets" "[J" ∈ lw_tbl := List.mem_append_right _ (List.mem_of_getElem? (i := 52) (by decide +kernel))
theorem wx_53 : Cond.soleField "ThresholdSeal$Dealing" "secrets" ∈ lw_tbl := List.mem_append_right _ (List.mem_of_getElem? (i := 53) (by decide +kernel))
theorem wy_D_keys : Cond.laysFinal "ThresholdSeal$Dealing" "ThresholdSeal$Dealing" "keys" "[J" ∈ lw_tbl := List.mem_append_right _ (List.mem_of_getElem? (i := 54) (by decide +kernel))
theorem wx_55 : Cond.soleField "ThresholdSeal$Dealing" "keys" ∈ lw_tbl := List.mem_append_right _ (List.mem_of_getElem? (i := 55) (by decide +kernel))
theorem wy_D_done : Cond.lays "ThresholdSeal$Dealing" "ThresholdSeal$Dealing" "done" "Z" ∈ lw_tbl := List.mem_append_right _ (List.mem_of_getElem? (i := 56) (by decide +kernel))
theorem wx_57 : Cond.soleField "ThresholdSeal$Dealing" "done" ∈ lw_tbl := List.mem_append_right _ (List.mem_of_getElem? (i := 57) (by decide +kernel))
theorem wx_58 : Cond.superclass "ThresholdSeal$Dealing" "java/lang/Object" ∈ lw_tbl := List.mem_append_right _ (List.mem_of_getElem? (i := 58) (by decide +kernel))
theorem wa_long : Cond.arrayClass ClassFile.FieldType.long ∈ lw_tbl := List.mem_append_right _ (List.mem_of_getElem? (i := 59) (by decide +kernel))
theorem wl_S_34 : Cond.classLink "ThresholdSeal" 34 "ThresholdSeal$Pairs" ∈ lw_tbl := List.mem_append_right _ (List.mem_of_getElem? (i := 60) (by decide +kernel))
theorem wz_P : Cond.instantiable "ThresholdSeal$Pairs" 5 ∈ lw_tbl := List.mem_append_right _ (List.mem_of_getElem? (i := 61) (by decide +kernel))
theorem wm_S_36 : Cond.methodLink "ThresholdSeal" 36 yP_init ∈ lw_tbl := List.mem_append_right _ (List.mem_of_getElem? (i := 62) (by decide +kernel))
theorem wi_P_init : Cond.instanceMethod yP_init ∈ lw_tbl := List.mem_append_right _ (List.mem_of_getElem? (i := 63) (by decide +kernel))
theorem wc_P_init : Cond.code yP_init prog_6_method_1_code 2 (Option.none : Option ClassFile.FieldType) ∈ lw_tbl := List.mem_append_right _ (List.mem_of_getElem? (i := 64) (by decide +kernel))
theorem wm_P_1 : Cond.methodLink "ThresholdSeal$Pairs" 1 yJO_init ∈ lw_tbl := List.mem_append_right _ (List.mem_of_getElem? (i := 65) (by decide +kernel))
theorem wf_P_7 : Cond.fieldLink "ThresholdSeal$Pairs" 7 "ThresholdSeal$Pairs" "firstNumbers" "[J" ∈ lw_tbl := List.mem_append_right _ (List.mem_of_getElem? (i := 66) (by decide +kernel))
theorem wf_X_84 : Cond.fieldLink "ThresholdSeal$Session" 84 "ThresholdSeal$Pairs" "firstNumbers" "[J" ∈ lw_tbl := List.mem_append_right _ (List.mem_of_getElem? (i := 67) (by decide +kernel))
theorem wf_P_13 : Cond.fieldLink "ThresholdSeal$Pairs" 13 "ThresholdSeal$Pairs" "secondNumbers" "[J" ∈ lw_tbl := List.mem_append_right _ (List.mem_of_getElem? (i := 68) (by decide +kernel))
theorem wf_X_87 : Cond.fieldLink "ThresholdSeal$Session" 87 "ThresholdSeal$Pairs" "secondNumbers" "[J" ∈ lw_tbl := List.mem_append_right _ (List.mem_of_getElem? (i := 69) (by decide +kernel))
theorem wf_P_16 : Cond.fieldLink "ThresholdSeal$Pairs" 16 "ThresholdSeal$Pairs" "firstElements" "[J" ∈ lw_tbl := List.mem_append_right _ (List.mem_of_getElem? (i := 70) (by decide +kernel))
theorem wf_S_77 : Cond.fieldLink "ThresholdSeal" 77 "ThresholdSeal$Pairs" "firstElements" "[J" ∈ lw_tbl := List.mem_append_right _ (List.mem_of_getElem? (i := 71) (by decide +kernel))
theorem wf_X_36 : Cond.fieldLink "ThresholdSeal$Session" 36 "ThresholdSeal$Pairs" "firstElements" "[J" ∈ lw_tbl := List.mem_append_right _ (List.mem_of_getElem? (i := 72) (by decide +kernel))
theorem wf_P_19 : Cond.fieldLink "ThresholdSeal$Pairs" 19 "ThresholdSeal$Pairs" "secondElements" "[J" ∈ lw_tbl := List.mem_append_right _ (List.mem_of_getElem? (i := 73) (by decide +kernel))
theorem wf_X_39 : Cond.fieldLink "ThresholdSeal$Session" 39 "ThresholdSeal$Pairs" "secondElements" "[J" ∈ lw_tbl := List.mem_append_right _ (List.mem_of_getElem? (i := 74) (by decide +kernel))
theorem wf_S_180 : Cond.fieldLink "ThresholdSeal" 180 "ThresholdSeal$Pairs" "secondElements" "[J" ∈ lw_tbl := List.mem_append_right _ (List.mem_of_getElem? (i := 75) (by decide +kernel))
theorem wf_P_38 : Cond.fieldLink "ThresholdSeal$Pairs" 38 "ThresholdSeal$Pairs" "openSet" "I" ∈ lw_tbl := List.mem_append_right _ (List.mem_of_getElem? (i := 76) (by decide +kernel))
theorem wf_S_177 : Cond.fieldLink "ThresholdSeal" 177 "ThresholdSeal$Pairs" "openSet" "I" ∈ lw_tbl := List.mem_append_right _ (List.mem_of_getElem? (i := 77) (by decide +kernel))
theorem wy_P_firstNumbers : Cond.laysFinal "ThresholdSeal$Pairs" "ThresholdSeal$Pairs" "firstNumbers" "[J" ∈ lw_tbl := List.mem_append_right _ (List.mem_of_getElem? (i := 78) (by decide +kernel))
theorem wx_79 : Cond.soleField "ThresholdSeal$Pairs" "firstNumbers" ∈ lw_tbl := List.mem_append_right _ (List.mem_of_getElem? (i := 79) (by decide +kernel))
theorem wy_P_secondNumbers : Cond.laysFinal "ThresholdSeal$Pairs" "ThresholdSeal$Pairs" "secondNumbers" "[J" ∈ lw_tbl := List.mem_append_right _ (List.mem_of_getElem? (i := 80) (by decide +kernel))
theorem wx_81 : Cond.soleField "ThresholdSeal$Pairs" "secondNumbers" ∈ lw_tbl := List.mem_append_right _ (List.mem_of_getElem? (i := 81) (by decide +kernel))
theorem wy_P_firstElements : Cond.laysFinal "ThresholdSeal$Pairs" "ThresholdSeal$Pairs" "firstElements" "[J" ∈ lw_tbl := List.mem_append_right _ (List.mem_of_getElem? (i := 82) (by decide +kernel))
theorem wx_83 : Cond.soleField "ThresholdSeal$Pairs" "firstElements" ∈ lw_tbl := List.mem_append_right _ (List.mem_of_getElem? (i := 83) (by decide +kernel))
theorem wy_P_secondElements : Cond.laysFinal "ThresholdSeal$Pairs" "ThresholdSeal$Pairs" "secondElements" "[J" ∈ lw_tbl := List.mem_append_right _ (List.mem_of_getElem? (i := 84) (by decide +kernel))
theorem wx_85 : Cond.soleField "ThresholdSeal$Pairs" "secondElements" ∈ lw_tbl := List.mem_append_right _ (List.mem_of_getElem? (i := 85) (by decide +kernel))
theorem wy_P_openSet : Cond.lays "ThresholdSeal$Pairs" "ThresholdSeal$Pairs" "openSet" "I" ∈ lw_tbl := List.mem_append_right _ (List.mem_of_getElem? (i := 86) (by decide +kernel))
theorem wx_87 : Cond.soleField "ThresholdSeal$Pairs" "openSet" ∈ lw_tbl := List.mem_append_right _ (List.mem_of_getElem? (i := 87) (by decide +kernel))
theorem wx_88 : Cond.superclass "ThresholdSeal$Pairs" "java/lang/Object" ∈ lw_tbl := List.mem_append_right _ (List.mem_of_getElem? (i := 88) (by decide +kernel))
theorem wl_S_43 : Cond.classLink "ThresholdSeal" 43 "ThresholdSeal$Session" ∈ lw_tbl := List.mem_append_right _ (List.mem_of_getElem? (i := 89) (by decide +kernel))
theorem wz_X : Cond.instantiable "ThresholdSeal$Session" 14 ∈ lw_tbl := List.mem_append_right _ (List.mem_of_getElem? (i := 90) (by decide +kernel))
theorem wm_S_45 : Cond.methodLink "ThresholdSeal" 45 yX_init ∈ lw_tbl := List.mem_append_right _ (List.mem_of_getElem? (i := 91) (by decide +kernel))
theorem wi_X_init : Cond.instanceMethod yX_init ∈ lw_tbl := List.mem_append_right _ (List.mem_of_getElem? (i := 92) (by decide +kernel))
theorem wc_X_init : Cond.code yX_init prog_7_method_1_code 2 (Option.none : Option ClassFile.FieldType) ∈ lw_tbl := List.mem_append_right _ (List.mem_of_getElem? (i := 93) (by decide +kernel))
theorem wm_X_1 : Cond.methodLink "ThresholdSeal$Session" 1 yJO_init ∈ lw_tbl := List.mem_append_right _ (List.mem_of_getElem? (i := 94) (by decide +kernel))
theorem wf_X_7 : Cond.fieldLink "ThresholdSeal$Session" 7 "ThresholdSeal$Session" "signers" "I" ∈ lw_tbl := List.mem_append_right _ (List.mem_of_getElem? (i := 95) (by decide +kernel))
theorem wf_X_13 : Cond.fieldLink "ThresholdSeal$Session" 13 "ThresholdSeal$Session" "firstElements" "[J" ∈ lw_tbl := List.mem_append_right _ (List.mem_of_getElem? (i := 96) (by decide +kernel))
theorem wf_X_17 : Cond.fieldLink "ThresholdSeal$Session" 17 "ThresholdSeal$Session" "secondElements" "[J" ∈ lw_tbl := List.mem_append_right _ (List.mem_of_getElem? (i := 97) (by decide +kernel))
theorem wf_X_20 : Cond.fieldLink "ThresholdSeal$Session" 20 "ThresholdSeal$Session" "factors" "[J" ∈ lw_tbl := List.mem_append_right _ (List.mem_of_getElem? (i := 98) (by decide +kernel))
theorem wf_S_186 : Cond.fieldLink "ThresholdSeal" 186 "ThresholdSeal$Session" "factors" "[J" ∈ lw_tbl := List.mem_append_right _ (List.mem_of_getElem? (i := 99) (by decide +kernel))
theorem wf_X_23 : Cond.fieldLink "ThresholdSeal$Session" 23 "ThresholdSeal$Session" "weights" "[J" ∈ lw_tbl := List.mem_append_right _ (List.mem_of_getElem? (i := 100) (by decide +kernel))
theorem wf_S_189 : Cond.fieldLink "ThresholdSeal" 189 "ThresholdSeal$Session" "weights" "[J" ∈ lw_tbl := List.mem_append_right _ (List.mem_of_getElem? (i := 101) (by decide +kernel))
theorem wf_X_26 : Cond.fieldLink "ThresholdSeal$Session" 26 "ThresholdSeal$Session" "shares" "[J" ∈ lw_tbl := List.mem_append_right _ (List.mem_of_getElem? (i := 102) (by decide +kernel))
theorem wf_S_124 : Cond.fieldLink "ThresholdSeal" 124 "ThresholdSeal$Session" "shares" "[J" ∈ lw_tbl := List.mem_append_right _ (List.mem_of_getElem? (i := 103) (by decide +kernel))
theorem wf_X_29 : Cond.fieldLink "ThresholdSeal$Session" 29 "ThresholdSeal$Session" "memberSet" "I" ∈ lw_tbl := List.mem_append_right _ (List.mem_of_getElem? (i := 104) (by decide +kernel))
theorem wf_S_199 : Cond.fieldLink "ThresholdSeal" 199 "ThresholdSeal$Session" "memberSet" "I" ∈ lw_tbl := List.mem_append_right _ (List.mem_of_getElem? (i := 105) (by decide +kernel))
theorem wf_X_77 : Cond.fieldLink "ThresholdSeal$Session" 77 "ThresholdSeal$Session" "pairSet" "I" ∈ lw_tbl := List.mem_append_right _ (List.mem_of_getElem? (i := 106) (by decide +kernel))
theorem wf_S_103 : Cond.fieldLink "ThresholdSeal" 103 "ThresholdSeal$Session" "pairSet" "I" ∈ lw_tbl := List.mem_append_right _ (List.mem_of_getElem? (i := 107) (by decide +kernel))
theorem wf_X_99 : Cond.fieldLink "ThresholdSeal$Session" 99 "ThresholdSeal$Session" "madeSet" "I" ∈ lw_tbl := List.mem_append_right _ (List.mem_of_getElem? (i := 108) (by decide +kernel))
theorem wf_S_140 : Cond.fieldLink "ThresholdSeal" 140 "ThresholdSeal$Session" "madeSet" "I" ∈ lw_tbl := List.mem_append_right _ (List.mem_of_getElem? (i := 109) (by decide +kernel))
theorem wf_X_109 : Cond.fieldLink "ThresholdSeal$Session" 109 "ThresholdSeal$Session" "takenSet" "I" ∈ lw_tbl := List.mem_append_right _ (List.mem_of_getElem? (i := 110) (by decide +kernel))
theorem wf_S_202 : Cond.fieldLink "ThresholdSeal" 202 "ThresholdSeal$Session" "takenSet" "I" ∈ lw_tbl := List.mem_append_right _ (List.mem_of_getElem? (i := 111) (by decide +kernel))
theorem wf_X_106 : Cond.fieldLink "ThresholdSeal$Session" 106 "ThresholdSeal$Session" "blamedSet" "I" ∈ lw_tbl := List.mem_append_right _ (List.mem_of_getElem? (i := 112) (by decide +kernel))
theorem wf_S_205 : Cond.fieldLink "ThresholdSeal" 205 "ThresholdSeal$Session" "blamedSet" "I" ∈ lw_tbl := List.mem_append_right _ (List.mem_of_getElem? (i := 113) (by decide +kernel))
theorem wf_S_99 : Cond.fieldLink "ThresholdSeal" 99 "ThresholdSeal$Session" "product" "J" ∈ lw_tbl := List.mem_append_right _ (List.mem_of_getElem? (i := 114) (by decide +kernel))
theorem wf_X_54 : Cond.fieldLink "ThresholdSeal$Session" 54 "ThresholdSeal$Session" "product" "J" ∈ lw_tbl := List.mem_append_right _ (List.mem_of_getElem? (i := 115) (by decide +kernel))
theorem wf_X_74 : Cond.fieldLink "ThresholdSeal$Session" 74 "ThresholdSeal$Session" "challengeNumber" "J" ∈ lw_tbl := List.mem_append_right _ (List.mem_of_getElem? (i := 116) (by decide +kernel))
theorem wf_S_196 : Cond.fieldLink "ThresholdSeal" 196 "ThresholdSeal$Session" "challengeNumber" "J" ∈ lw_tbl := List.mem_append_right _ (List.mem_of_getElem? (i := 117) (by decide +kernel))
theorem wf_X_112 : Cond.fieldLink "ThresholdSeal$Session" 112 "ThresholdSeal$Session" "sum" "J" ∈ lw_tbl := List.mem_append_right _ (List.mem_of_getElem? (i := 118) (by decide +kernel))
theorem wf_S_154 : Cond.fieldLink "ThresholdSeal" 154 "ThresholdSeal$Session" "sum" "J" ∈ lw_tbl := List.mem_append_right _ (List.mem_of_getElem? (i := 119) (by decide +kernel))
theorem wy_X_signers : Cond.laysFinal "ThresholdSeal$Session" "ThresholdSeal$Session" "signers" "I" ∈ lw_tbl := List.mem_append_right _ (List.mem_of_getElem? (i := 120) (by decide +kernel))
theorem wx_121 : Cond.soleField "ThresholdSeal$Session" "signers" ∈ lw_tbl := List.mem_append_right _ (List.mem_of_getElem? (i := 121) (by decide +kernel))
theorem wy_X_firstElements : Cond.laysFinal "ThresholdSeal$Session" "ThresholdSeal$Session" "firstElements" "[J" ∈ lw_tbl := List.mem_append_right _ (List.mem_of_getElem? (i := 122) (by decide +kernel))
theorem wx_123 : Cond.soleField "ThresholdSeal$Session" "firstElements" ∈ lw_tbl := List.mem_append_right _ (List.mem_of_getElem? (i := 123) (by decide +kernel))
theorem wy_X_secondElements : Cond.laysFinal "ThresholdSeal$Session" "ThresholdSeal$Session" "secondElements" "[J" ∈ lw_tbl := List.mem_append_right _ (List.mem_of_getElem? (i := 124) (by decide +kernel))
theorem wx_125 : Cond.soleField "ThresholdSeal$Session" "secondElements" ∈ lw_tbl := List.mem_append_right _ (List.mem_of_getElem? (i := 125) (by decide +kernel))
theorem wy_X_factors : Cond.laysFinal "ThresholdSeal$Session" "ThresholdSeal$Session" "factors" "[J" ∈ lw_tbl := List.mem_append_right _ (List.mem_of_getElem? (i := 126) (by decide +kernel))
theorem wx_127 : Cond.soleField "ThresholdSeal$Session" "factors" ∈ lw_tbl := List.mem_append_right _ (List.mem_of_getElem? (i := 127) (by decide +kernel))
theorem wy_X_weights : Cond.laysFinal "ThresholdSeal$Session" "ThresholdSeal$Session" "weights" "[J" ∈ lw_tbl := List.mem_append_right _ (List.mem_of_getElem? (i := 128) (by decide +kernel))
theorem wx_129 : Cond.soleField "ThresholdSeal$Session" "weights" ∈ lw_tbl := List.mem_append_right _ (List.mem_of_getElem? (i := 129) (by decide +kernel))
theorem wy_X_shares : Cond.laysFinal "ThresholdSeal$Session" "ThresholdSeal$Session" "shares" "[J" ∈ lw_tbl := List.mem_append_right _ (List.mem_of_getElem? (i := 130) (by decide +kernel))
theorem wx_131 : Cond.soleField "ThresholdSeal$Session" "shares" ∈ lw_tbl := List.mem_append_right _ (List.mem_of_getElem? (i := 131) (by decide +kernel))
theorem wy_X_memberSet : Cond.lays "ThresholdSeal$Session" "ThresholdSeal$Session" "memberSet" "I" ∈ lw_tbl := List.mem_append_right _ (List.mem_of_getElem? (i := 132) (by decide +kernel))
theorem wx_133 : Cond.soleField "ThresholdSeal$Session" "memberSet" ∈ lw_tbl := List.mem_append_right _ (List.mem_of_getElem? (i := 133) (by decide +kernel))
theorem wy_X_pairSet : Cond.lays "ThresholdSeal$Session" "ThresholdSeal$Session" "pairSet" "I" ∈ lw_tbl := List.mem_append_right _ (List.mem_of_getElem? (i := 134) (by decide +kernel))
theorem wx_135 : Cond.soleField "ThresholdSeal$Session" "pairSet" ∈ lw_tbl := List.mem_append_right _ (List.mem_of_getElem? (i := 135) (by decide +kernel))
theorem wy_X_madeSet : Cond.lays "ThresholdSeal$Session" "ThresholdSeal$Session" "madeSet" "I" ∈ lw_tbl := List.mem_append_right _ (List.mem_of_getElem? (i := 136) (by decide +kernel))
theorem wx_137 : Cond.soleField "ThresholdSeal$Session" "madeSet" ∈ lw_tbl := List.mem_append_right _ (List.mem_of_getElem? (i := 137) (by decide +kernel))
theorem wy_X_takenSet : Cond.lays "ThresholdSeal$Session" "ThresholdSeal$Session" "takenSet" "I" ∈ lw_tbl := List.mem_append_right _ (List.mem_of_getElem? (i := 138) (by decide +kernel))
theorem wx_139 : Cond.soleField "ThresholdSeal$Session" "takenSet" ∈ lw_tbl := List.mem_append_right _ (List.mem_of_getElem? (i := 139) (by decide +kernel))
theorem wy_X_blamedSet : Cond.lays "ThresholdSeal$Session" "ThresholdSeal$Session" "blamedSet" "I" ∈ lw_tbl := List.mem_append_right _ (List.mem_of_getElem? (i := 140) (by decide +kernel))
theorem wx_141 : Cond.soleField "ThresholdSeal$Session" "blamedSet" ∈ lw_tbl := List.mem_append_right _ (List.mem_of_getElem? (i := 141) (by decide +kernel))
theorem wy_X_product : Cond.lays "ThresholdSeal$Session" "ThresholdSeal$Session" "product" "J" ∈ lw_tbl := List.mem_append_right _ (List.mem_of_getElem? (i := 142) (by decide +kernel))
theorem wx_143 : Cond.soleField "ThresholdSeal$Session" "product" ∈ lw_tbl := List.mem_append_right _ (List.mem_of_getElem? (i := 143) (by decide +kernel))
theorem wy_X_challengeNumber : Cond.lays "ThresholdSeal$Session" "ThresholdSeal$Session" "challengeNumber" "J" ∈ lw_tbl := List.mem_append_right _ (List.mem_of_getElem? (i := 144) (by decide +kernel))
theorem wx_145 : Cond.soleField "ThresholdSeal$Session" "challengeNumber" ∈ lw_tbl := List.mem_append_right _ (List.mem_of_getElem? (i := 145) (by decide +kernel))
theorem wy_X_sum : Cond.lays "ThresholdSeal$Session" "ThresholdSeal$Session" "sum" "J" ∈ lw_tbl := List.mem_append_right _ (List.mem_of_getElem? (i := 146) (by decide +kernel))
theorem wx_147 : Cond.soleField "ThresholdSeal$Session" "sum" ∈ lw_tbl := List.mem_append_right _ (List.mem_of_getElem? (i := 147) (by decide +kernel))
theorem wx_148 : Cond.superclass "ThresholdSeal$Session" "java/lang/Object" ∈ lw_tbl := List.mem_append_right _ (List.mem_of_getElem? (i := 148) (by decide +kernel))
theorem wf_S_18 : Cond.fieldLink "ThresholdSeal" 18 "ThresholdSeal" "signers" "I" ∈ lw_tbl := List.mem_append_right _ (List.mem_of_getElem? (i := 149) (by decide +kernel))
theorem wf_S_22 : Cond.fieldLink "ThresholdSeal" 22 "ThresholdSeal" "enough" "I" ∈ lw_tbl := List.mem_append_right _ (List.mem_of_getElem? (i := 150) (by decide +kernel))
theorem wf_S_30 : Cond.fieldLink "ThresholdSeal" 30 "ThresholdSeal" "dealing" "LThresholdSeal$Dealing;" ∈ lw_tbl := List.mem_append_right _ (List.mem_of_getElem? (i := 151) (by decide +kernel))
theorem wf_S_39 : Cond.fieldLink "ThresholdSeal" 39 "ThresholdSeal" "pairs" "LThresholdSeal$Pairs;" ∈ lw_tbl := List.mem_append_right _ (List.mem_of_getElem? (i := 152) (by decide +kernel))
theorem wf_S_46 : Cond.fieldLink "ThresholdSeal" 46 "ThresholdSeal" "session" "LThresholdSeal$Session;" ∈ lw_tbl := List.mem_append_right _ (List.mem_of_getElem? (i := 153) (by decide +kernel))
theorem wy_S_signers : Cond.laysFinal "ThresholdSeal" "ThresholdSeal" "signers" "I" ∈ lw_tbl := List.mem_append_right _ (List.mem_of_getElem? (i := 154) (by decide +kernel))
theorem wx_155 : Cond.soleField "ThresholdSeal" "signers" ∈ lw_tbl := List.mem_append_right _ (List.mem_of_getElem? (i := 155) (by decide +kernel))
theorem wy_S_enough : Cond.laysFinal "ThresholdSeal" "ThresholdSeal" "enough" "I" ∈ lw_tbl := List.mem_append_right _ (List.mem_of_getElem? (i := 156) (by decide +kernel))
theorem wx_157 : Cond.soleField "ThresholdSeal" "enough" ∈ lw_tbl := List.mem_append_right _ (List.mem_of_getElem? (i := 157) (by decide +kernel))
theorem wy_S_dealing : Cond.laysFinal "ThresholdSeal" "ThresholdSeal" "dealing" "LThresholdSeal$Dealing;" ∈ lw_tbl := List.mem_append_right _ (List.mem_of_getElem? (i := 158) (by decide +kernel))
theorem wx_159 : Cond.soleField "ThresholdSeal" "dealing" ∈ lw_tbl := List.mem_append_right _ (List.mem_of_getElem? (i := 159) (by decide +kernel))
theorem wy_S_pairs : Cond.laysFinal "ThresholdSeal" "ThresholdSeal" "pairs" "LThresholdSeal$Pairs;" ∈ lw_tbl := List.mem_append_right _ (List.mem_of_getElem? (i := 160) (by decide +kernel))
theorem wx_161 : Cond.soleField "ThresholdSeal" "pairs" ∈ lw_tbl := List.mem_append_right _ (List.mem_of_getElem? (i := 161) (by decide +kernel))
theorem wy_S_session : Cond.laysFinal "ThresholdSeal" "ThresholdSeal" "session" "LThresholdSeal$Session;" ∈ lw_tbl := List.mem_append_right _ (List.mem_of_getElem? (i := 162) (by decide +kernel))
theorem wx_163 : Cond.soleField "ThresholdSeal" "session" ∈ lw_tbl := List.mem_append_right _ (List.mem_of_getElem? (i := 163) (by decide +kernel))
theorem wx_164 : Cond.superclass "ThresholdSeal" "java/lang/Object" ∈ lw_tbl := List.mem_append_right _ (List.mem_of_getElem? (i := 164) (by decide +kernel))
theorem wm_L_56 : Cond.methodLink "ThresholdSealLaw" 56 yS_deal ∈ lw_tbl := List.mem_append_right _ (List.mem_of_getElem? (i := 165) (by decide +kernel))
theorem wi_S_deal : Cond.instanceMethod yS_deal ∈ lw_tbl := List.mem_append_right _ (List.mem_of_getElem? (i := 166) (by decide +kernel))
theorem ws_S_S_deal : Cond.selects "ThresholdSeal" yS_deal yS_deal ∈ lw_tbl := List.mem_append_right _ (List.mem_of_getElem? (i := 167) (by decide +kernel))
theorem wc_S_deal : Cond.code yS_deal prog_1_method_2_code 3 (Option.some ClassFile.FieldType.long) ∈ lw_tbl := List.mem_append_right _ (List.mem_of_getElem? (i := 168) (by decide +kernel))
theorem wm_S_50 : Cond.methodLink "ThresholdSeal" 50 yD_make ∈ lw_tbl := List.mem_append_right _ (List.mem_of_getElem? (i := 169) (by decide +kernel))
theorem wi_D_make : Cond.instanceMethod yD_make ∈ lw_tbl := List.mem_append_right _ (List.mem_of_getElem? (i := 170) (by decide +kernel))
theorem ws_D_D_make : Cond.selects "ThresholdSeal$Dealing" yD_make yD_make ∈ lw_tbl := List.mem_append_right _ (List.mem_of_getElem? (i := 171) (by decide +kernel))
theorem wc_D_make : Cond.code yD_make prog_2_method_2_code 4 (Option.none : Option ClassFile.FieldType) ∈ lw_tbl := List.mem_append_right _ (List.mem_of_getElem? (i := 172) (by decide +kernel))
theorem wm_D_26 : Cond.methodLink "ThresholdSeal$Dealing" 26 yG_ofThree ∈ lw_tbl := List.mem_append_right _ (List.mem_of_getElem? (i := 173) (by decide +kernel))
theorem wt_G_ofThree : Cond.static yG_ofThree ∈ lw_tbl := List.mem_append_right _ (List.mem_of_getElem? (i := 174) (by decide +kernel))
theorem wc_G_ofThree : Cond.code yG_ofThree prog_3_method_4_code 6 (Option.some ClassFile.FieldType.long) ∈ lw_tbl := List.mem_append_right _ (List.mem_of_getElem? (i := 175) (by decide +kernel))
theorem wm_G_15 : Cond.methodLink "ThresholdSeal$Digest" 15 yG_mix ∈ lw_tbl := List.mem_append_right _ (List.mem_of_getElem? (i := 176) (by decide +kernel))
theorem wt_G_mix : Cond.static yG_mix ∈ lw_tbl := List.mem_append_right _ (List.mem_of_getElem? (i := 177) (by decide +kernel))
theorem wc_G_mix : Cond.code yG_mix prog_3_method_2_code 6 (Option.some ClassFile.FieldType.long) ∈ lw_tbl := List.mem_append_right _ (List.mem_of_getElem? (i := 178) (by decide +kernel))
theorem wk_G_9 : Cond.constantLong "ThresholdSeal$Digest" 9 (-7046029254386353131 : Int64) ∈ lw_tbl := List.mem_append_right _ (List.mem_of_getElem? (i := 179) (by decide +kernel))
theorem wm_G_19 : Cond.methodLink "ThresholdSeal$Digest" 19 yG_finish ∈ lw_tbl := List.mem_append_right _ (List.mem_of_getElem? (i := 180) (by decide +kernel))
theorem wt_G_finish : Cond.static yG_finish ∈ lw_tbl := List.mem_append_right _ (List.mem_of_getElem? (i := 181) (by decide +kernel))
theorem wc_G_finish : Cond.code yG_finish prog_3_method_3_code 2 (Option.some ClassFile.FieldType.long) ∈ lw_tbl := List.mem_append_right _ (List.mem_of_getElem? (i := 182) (by decide +kernel))
theorem wk_G_13 : Cond.constantLong "ThresholdSeal$Digest" 13 (1073741789 : Int64) ∈ lw_tbl := List.mem_append_right _ (List.mem_of_getElem? (i := 183) (by decide +kernel))
theorem wm_D_32 : Cond.methodLink "ThresholdSeal$Dealing" 32 yD_valueAt ∈ lw_tbl := List.mem_append_right _ (List.mem_of_getElem? (i := 184) (by decide +kernel))
theorem wv_D_valueAt : Cond.privateMethod yD_valueAt ∈ lw_tbl := List.mem_append_right _ (List.mem_of_getElem? (i := 185) (by decide +kernel))
theorem wi_D_valueAt : Cond.instanceMethod yD_valueAt ∈ lw_tbl := List.mem_append_right _ (List.mem_of_getElem? (i := 186) (by decide +kernel))
theorem wc_D_valueAt : Cond.code yD_valueAt prog_2_method_4_code 5 (Option.some ClassFile.FieldType.long) ∈ lw_tbl := List.mem_append_right _ (List.mem_of_getElem? (i := 187) (by decide +kernel))
theorem wm_D_46 : Cond.methodLink "ThresholdSeal$Dealing" 46 yN_times ∈ lw_tbl := List.mem_append_right _ (List.mem_of_getElem? (i := 188) (by decide +kernel))
theorem wt_N_times : Cond.static yN_times ∈ lw_tbl := List.mem_append_right _ (List.mem_of_getElem? (i := 189) (by decide +kernel))
theorem wc_N_times : Cond.code yN_times prog_5_method_5_code 4 (Option.some ClassFile.FieldType.long) ∈ lw_tbl := List.mem_append_right _ (List.mem_of_getElem? (i := 190) (by decide +kernel))
theorem wk_N_9 : Cond.constantLong "ThresholdSeal$Numbers" 9 (1073741789 : Int64) ∈ lw_tbl := List.mem_append_right _ (List.mem_of_getElem? (i := 191) (by decide +kernel))
theorem wm_D_52 : Cond.methodLink "ThresholdSeal$Dealing" 52 yN_plus ∈ lw_tbl := List.mem_append_right _ (List.mem_of_getElem? (i := 192) (by decide +kernel))
theorem wt_N_plus : Cond.static yN_plus ∈ lw_tbl := List.mem_append_right _ (List.mem_of_getElem? (i := 193) (by decide +kernel))
theorem wc_N_plus : Cond.code yN_plus prog_5_method_3_code 4 (Option.some ClassFile.FieldType.long) ∈ lw_tbl := List.mem_append_right _ (List.mem_of_getElem? (i := 194) (by decide +kernel))
theorem wm_D_36 : Cond.methodLink "ThresholdSeal$Dealing" 36 yE_ofNumber ∈ lw_tbl := List.mem_append_right _ (List.mem_of_getElem? (i := 195) (by decide +kernel))
theorem wt_E_ofNumber : Cond.static yE_ofNumber ∈ lw_tbl := List.mem_append_right _ (List.mem_of_getElem? (i := 196) (by decide +kernel))
theorem wc_E_ofNumber : Cond.code yE_ofNumber prog_4_method_5_code 2 (Option.some ClassFile.FieldType.long) ∈ lw_tbl := List.mem_append_right _ (List.mem_of_getElem? (i := 197) (by decide +kernel))
theorem wk_E_17 : Cond.constantLong "ThresholdSeal$Elements" 17 (4 : Int64) ∈ lw_tbl := List.mem_append_right _ (List.mem_of_getElem? (i := 198) (by decide +kernel))
theorem wm_E_19 : Cond.methodLink "ThresholdSeal$Elements" 19 yE_power ∈ lw_tbl := List.mem_append_right _ (List.mem_of_getElem? (i := 199) (by decide +kernel))
theorem wt_E_power : Cond.static yE_power ∈ lw_tbl := List.mem_append_right _ (List.mem_of_getElem? (i := 200) (by decide +kernel))
theorem wc_E_power : Cond.code yE_power prog_4_method_4_code 7 (Option.some ClassFile.FieldType.long) ∈ lw_tbl := List.mem_append_right _ (List.mem_of_getElem? (i := 201) (by decide +kernel))
theorem wm_E_13 : Cond.methodLink "ThresholdSeal$Elements" 13 yE_times ∈ lw_tbl := List.mem_append_right _ (List.mem_of_getElem? (i := 202) (by decide +kernel))
theorem wt_E_times : Cond.static yE_times ∈ lw_tbl := List.mem_append_right _ (List.mem_of_getElem? (i := 203) (by decide +kernel))
theorem wc_E_times : Cond.code yE_times prog_4_method_3_code 4 (Option.some ClassFile.FieldType.long) ∈ lw_tbl := List.mem_append_right _ (List.mem_of_getElem? (i := 204) (by decide +kernel))
theorem wk_E_9 : Cond.constantLong "ThresholdSeal$Elements" 9 (2147483579 : Int64) ∈ lw_tbl := List.mem_append_right _ (List.mem_of_getElem? (i := 205) (by decide +kernel))
theorem wm_S_54 : Cond.methodLink "ThresholdSeal" 54 yP_dropAll ∈ lw_tbl := List.mem_append_right _ (List.mem_of_getElem? (i := 206) (by decide +kernel))
theorem wi_P_dropAll : Cond.instanceMethod yP_dropAll ∈ lw_tbl := List.mem_append_right _ (List.mem_of_getElem? (i := 207) (by decide +kernel))
theorem ws_P_P_dropAll : Cond.selects "ThresholdSeal$Pairs" yP_dropAll yP_dropAll ∈ lw_tbl := List.mem_append_right _ (List.mem_of_getElem? (i := 208) (by decide +kernel))
theorem wc_P_dropAll : Cond.code yP_dropAll prog_6_method_5_code 1 (Option.none : Option ClassFile.FieldType) ∈ lw_tbl := List.mem_append_right _ (List.mem_of_getElem? (i := 209) (by decide +kernel))
theorem wm_S_57 : Cond.methodLink "ThresholdSeal" 57 yX_end ∈ lw_tbl := List.mem_append_right _ (List.mem_of_getElem? (i := 210) (by decide +kernel))
theorem wi_X_end : Cond.instanceMethod yX_end ∈ lw_tbl := List.mem_append_right _ (List.mem_of_getElem? (i := 211) (by decide +kernel))
theorem ws_X_X_end : Cond.selects "ThresholdSeal$Session" yX_end yX_end ∈ lw_tbl := List.mem_append_right _ (List.mem_of_getElem? (i := 212) (by decide +kernel))
theorem wc_X_end : Cond.code yX_end prog_7_method_3_code 1 (Option.none : Option ClassFile.FieldType) ∈ lw_tbl := List.mem_append_right _ (List.mem_of_getElem? (i := 213) (by decide +kernel))
theorem wm_X_32 : Cond.methodLink "ThresholdSeal$Session" 32 yX_reset ∈ lw_tbl := List.mem_append_right _ (List.mem_of_getElem? (i := 214) (by decide +kernel))
theorem wv_X_reset : Cond.privateMethod yX_reset ∈ lw_tbl := List.mem_append_right _ (List.mem_of_getElem? (i := 215) (by decide +kernel))
theorem wi_X_reset : Cond.instanceMethod yX_reset ∈ lw_tbl := List.mem_append_right _ (List.mem_of_getElem? (i := 216) (by decide +kernel))
theorem wc_X_reset : Cond.code yX_reset prog_7_method_8_code 2 (Option.none : Option ClassFile.FieldType) ∈ lw_tbl := List.mem_append_right _ (List.mem_of_getElem? (i := 217) (by decide +kernel))
theorem wm_S_60 : Cond.methodLink "ThresholdSeal" 60 yD_keyOfAll ∈ lw_tbl := List.mem_append_right _ (List.mem_of_getElem? (i := 218) (by decide +kernel))
theorem wi_D_keyOfAll : Cond.instanceMethod yD_keyOfAll ∈ lw_tbl := List.mem_append_right _ (List.mem_of_getElem? (i := 219) (by decide +kernel))
theorem ws_D_D_keyOfAll : Cond.selects "ThresholdSeal$Dealing" yD_keyOfAll yD_keyOfAll ∈ lw_tbl := List.mem_append_right _ (List.mem_of_getElem? (i := 220) (by decide +kernel))
theorem wc_D_keyOfAll : Cond.code yD_keyOfAll prog_2_method_3_code 1 (Option.some ClassFile.FieldType.long) ∈ lw_tbl := List.mem_append_right _ (List.mem_of_getElem? (i := 221) (by decide +kernel))
theorem wm_L_86 : Cond.methodLink "ThresholdSealLaw" 86 yS_check ∈ lw_tbl := List.mem_append_right _ (List.mem_of_getElem? (i := 222) (by decide +kernel))
theorem wi_S_check : Cond.instanceMethod yS_check ∈ lw_tbl := List.mem_append_right _ (List.mem_of_getElem? (i := 223) (by decide +kernel))
theorem ws_S_S_check : Cond.selects "ThresholdSeal" yS_check yS_check ∈ lw_tbl := List.mem_append_right _ (List.mem_of_getElem? (i := 224) (by decide +kernel))
theorem wc_S_check : Cond.code yS_check prog_1_method_9_code 7 (Option.some ClassFile.FieldType.boolean) ∈ lw_tbl := List.mem_append_right _ (List.mem_of_getElem? (i := 225) (by decide +kernel))
theorem wm_S_161 : Cond.methodLink "ThresholdSeal" 161 yS_sealHolds ∈ lw_tbl := List.mem_append_right _ (List.mem_of_getElem? (i := 226) (by decide +kernel))
theorem wv_S_sealHolds : Cond.privateMethod yS_sealHolds ∈ lw_tbl := List.mem_append_right _ (List.mem_of_getElem? (i := 227) (by decide +kernel))
theorem wi_S_sealHolds : Cond.instanceMethod yS_sealHolds ∈ lw_tbl := List.mem_append_right _ (List.mem_of_getElem? (i := 228) (by decide +kernel))
theorem wc_S_sealHolds : Cond.code yS_sealHolds prog_1_method_23_code 11 (Option.some ClassFile.FieldType.boolean) ∈ lw_tbl := List.mem_append_right _ (List.mem_of_getElem? (i := 229) (by decide +kernel))
theorem wm_S_208 : Cond.methodLink "ThresholdSeal" 208 yE_isElement ∈ lw_tbl := List.mem_append_right _ (List.mem_of_getElem? (i := 230) (by decide +kernel))
theorem wt_E_isElement : Cond.static yE_isElement ∈ lw_tbl := List.mem_append_right _ (List.mem_of_getElem? (i := 231) (by decide +kernel))
theorem wc_E_isElement : Cond.code yE_isElement prog_4_method_2_code 2 (Option.some ClassFile.FieldType.boolean) ∈ lw_tbl := List.mem_append_right _ (List.mem_of_getElem? (i := 232) (by decide +kernel))
theorem wm_S_214 : Cond.methodLink "ThresholdSeal" 214 yN_isNumber ∈ lw_tbl := List.mem_append_right _ (List.mem_of_getElem? (i := 233) (by decide +kernel))
theorem wt_N_isNumber : Cond.static yN_isNumber ∈ lw_tbl := List.mem_append_right _ (List.mem_of_getElem? (i := 234) (by decide +kernel))
theorem wc_N_isNumber : Cond.code yN_isNumber prog_5_method_2_code 2 (Option.some ClassFile.FieldType.boolean) ∈ lw_tbl := List.mem_append_right _ (List.mem_of_getElem? (i := 235) (by decide +kernel))
theorem wm_S_217 : Cond.methodLink "ThresholdSeal" 217 yG_ofSeal ∈ lw_tbl := List.mem_append_right _ (List.mem_of_getElem? (i := 236) (by decide +kernel))
theorem wt_G_ofSeal : Cond.static yG_ofSeal ∈ lw_tbl := List.mem_append_right _ (List.mem_of_getElem? (i := 237) (by decide +kernel))
theorem wc_G_ofSeal : Cond.code yG_ofSeal prog_3_method_5_code 6 (Option.some ClassFile.FieldType.long) ∈ lw_tbl := List.mem_append_right _ (List.mem_of_getElem? (i := 238) (by decide +kernel))
theorem wk_G_23 : Cond.constantLong "ThresholdSeal$Digest" 23 (5 : Int64) ∈ lw_tbl := List.mem_append_right _ (List.mem_of_getElem? (i := 239) (by decide +kernel))
theorem wm_S_223 : Cond.methodLink "ThresholdSeal" 223 yE_ofNumber ∈ lw_tbl := List.mem_append_right _ (List.mem_of_getElem? (i := 240) (by decide +kernel))
theorem wm_S_227 : Cond.methodLink "ThresholdSeal" 227 yE_power ∈ lw_tbl := List.mem_append_right _ (List.mem_of_getElem? (i := 241) (by decide +kernel))
theorem wm_S_230 : Cond.methodLink "ThresholdSeal" 230 yE_times ∈ lw_tbl := List.mem_append_right _ (List.mem_of_getElem? (i := 242) (by decide +kernel))
theorem wm_L_98 : Cond.methodLink "ThresholdSealLaw" 98 yS_key ∈ lw_tbl := List.mem_append_right _ (List.mem_of_getElem? (i := 243) (by decide +kernel))
theorem wi_S_key : Cond.instanceMethod yS_key ∈ lw_tbl := List.mem_append_right _ (List.mem_of_getElem? (i := 244) (by decide +kernel))
theorem ws_S_S_key : Cond.selects "ThresholdSeal" yS_key yS_key ∈ lw_tbl := List.mem_append_right _ (List.mem_of_getElem? (i := 245) (by decide +kernel))
theorem wc_S_key : Cond.code yS_key prog_1_method_12_code 3 (Option.some ClassFile.FieldType.long) ∈ lw_tbl := List.mem_append_right _ (List.mem_of_getElem? (i := 246) (by decide +kernel))
theorem wm_S_172 : Cond.methodLink "ThresholdSeal" 172 yS_isSigner ∈ lw_tbl := List.mem_append_right _ (List.mem_of_getElem? (i := 247) (by decide +kernel))
theorem wv_S_isSigner : Cond.privateMethod yS_isSigner ∈ lw_tbl := List.mem_append_right _ (List.mem_of_getElem? (i := 248) (by decide +kernel))
theorem wi_S_isSigner : Cond.instanceMethod yS_isSigner ∈ lw_tbl := List.mem_append_right _ (List.mem_of_getElem? (i := 249) (by decide +kernel))
theorem wc_S_isSigner : Cond.code yS_isSigner prog_1_method_21_code 2 (Option.some ClassFile.FieldType.boolean) ∈ lw_tbl := List.mem_append_right _ (List.mem_of_getElem? (i := 250) (by decide +kernel))
theorem wk_S_175 : Cond.constantLong "ThresholdSeal" 175 (-1 : Int64) ∈ lw_tbl := List.mem_append_right _ (List.mem_of_getElem? (i := 251) (by decide +kernel))
theorem wm_L_102 : Cond.methodLink "ThresholdSealLaw" 102 yS_secret ∈ lw_tbl := List.mem_append_right _ (List.mem_of_getElem? (i := 252) (by decide +kernel))
theorem wi_S_secret : Cond.instanceMethod yS_secret ∈ lw_tbl := List.mem_append_right _ (List.mem_of_getElem? (i := 253) (by decide +kernel))
theorem ws_S_S_secret : Cond.selects "ThresholdSeal" yS_secret yS_secret ∈ lw_tbl := List.mem_append_right _ (List.mem_of_getElem? (i := 254) (by decide +kernel))
theorem wc_S_secret : Cond.code yS_secret prog_1_method_13_code 2 (Option.some ClassFile.FieldType.long) ∈ lw_tbl := List.mem_append_right _ (List.mem_of_getElem? (i := 255) (by decide +kernel))
theorem wm_L_106 : Cond.methodLink "ThresholdSealLaw" 106 yS_commitment ∈ lw_tbl := List.mem_append_right _ (List.mem_of_getElem? (i := 256) (by decide +kernel))
theorem wi_S_commitment : Cond.instanceMethod yS_commitment ∈ lw_tbl := List.mem_append_right _ (List.mem_of_getElem? (i := 257) (by decide +kernel))
theorem ws_S_S_commitment : Cond.selects "ThresholdSeal" yS_commitment yS_commitment ∈ lw_tbl := List.mem_append_right _ (List.mem_of_getElem? (i := 258) (by decide +kernel))
theorem wc_S_commitment : Cond.code yS_commitment prog_1_method_14_code 3 (Option.some ClassFile.FieldType.long) ∈ lw_tbl := List.mem_append_right _ (List.mem_of_getElem? (i := 259) (by decide +kernel))
theorem wm_S_106 : Cond.methodLink "ThresholdSeal" 106 yI_has ∈ lw_tbl := List.mem_append_right _ (List.mem_of_getElem? (i := 260) (by decide +kernel))
theorem wt_I_has : Cond.static yI_has ∈ lw_tbl := List.mem_append_right _ (List.mem_of_getElem? (i := 261) (by decide +kernel))
theorem wc_I_has : Cond.code yI_has prog_8_method_3_code 2 (Option.some ClassFile.FieldType.boolean) ∈ lw_tbl := List.mem_append_right _ (List.mem_of_getElem? (i := 262) (by decide +kernel))
theorem wm_I_7 : Cond.methodLink "ThresholdSeal$Signers" 7 yI_only ∈ lw_tbl := List.mem_append_right _ (List.mem_of_getElem? (i := 263) (by decide +kernel))
theorem wt_I_only : Cond.static yI_only ∈ lw_tbl := List.mem_append_right _ (List.mem_of_getElem? (i := 264) (by decide +kernel))
theorem wc_I_only : Cond.code yI_only prog_8_method_2_code 1 (Option.some ClassFile.FieldType.int) ∈ lw_tbl := List.mem_append_right _ (List.mem_of_getElem? (i := 265) (by decide +kernel))
theorem wm_L_111 : Cond.methodLink "ThresholdSealLaw" 111 yS_factor ∈ lw_tbl := List.mem_append_right _ (List.mem_of_getElem? (i := 266) (by decide +kernel))
theorem wi_S_factor : Cond.instanceMethod yS_factor ∈ lw_tbl := List.mem_append_right _ (List.mem_of_getElem? (i := 267) (by decide +kernel))
theorem ws_S_S_factor : Cond.selects "ThresholdSeal" yS_factor yS_factor ∈ lw_tbl := List.mem_append_right _ (List.mem_of_getElem? (i := 268) (by decide +kernel))
theorem wc_S_factor : Cond.code yS_factor prog_1_method_15_code 2 (Option.some ClassFile.FieldType.long) ∈ lw_tbl := List.mem_append_right _ (List.mem_of_getElem? (i := 269) (by decide +kernel))
theorem wm_S_183 : Cond.methodLink "ThresholdSeal" 183 yS_isMember ∈ lw_tbl := List.mem_append_right _ (List.mem_of_getElem? (i := 270) (by decide +kernel))
theorem wv_S_isMember : Cond.privateMethod yS_isMember ∈ lw_tbl := List.mem_append_right _ (List.mem_of_getElem? (i := 271) (by decide +kernel))
theorem wi_S_isMember : Cond.instanceMethod yS_isMember ∈ lw_tbl := List.mem_append_right _ (List.mem_of_getElem? (i := 272) (by decide +kernel))
theorem wc_S_isMember : Cond.code yS_isMember prog_1_method_22_code 2 (Option.some ClassFile.FieldType.boolean) ∈ lw_tbl := List.mem_append_right _ (List.mem_of_getElem? (i := 273) (by decide +kernel))
theorem wm_L_115 : Cond.methodLink "ThresholdSealLaw" 115 yS_weight ∈ lw_tbl := List.mem_append_right _ (List.mem_of_getElem? (i := 274) (by decide +kernel))
theorem wi_S_weight : Cond.instanceMethod yS_weight ∈ lw_tbl := List.mem_append_right _ (List.mem_of_getElem? (i := 275) (by decide +kernel))
theorem ws_S_S_weight : Cond.selects "ThresholdSeal" yS_weight yS_weight ∈ lw_tbl := List.mem_append_right _ (List.mem_of_getElem? (i := 276) (by decide +kernel))
theorem wc_S_weight : Cond.code yS_weight prog_1_method_16_code 2 (Option.some ClassFile.FieldType.long) ∈ lw_tbl := List.mem_append_right _ (List.mem_of_getElem? (i := 277) (by decide +kernel))
theorem wm_L_119 : Cond.methodLink "ThresholdSealLaw" 119 yS_challenge ∈ lw_tbl := List.mem_append_right _ (List.mem_of_getElem? (i := 278) (by decide +kernel))
theorem wi_S_challenge : Cond.instanceMethod yS_challenge ∈ lw_tbl := List.mem_append_right _ (List.mem_of_getElem? (i := 279) (by decide +kernel))
theorem ws_S_S_challenge : Cond.selects "ThresholdSeal" yS_challenge yS_challenge ∈ lw_tbl := List.mem_append_right _ (List.mem_of_getElem? (i := 280) (by decide +kernel))
theorem wc_S_challenge : Cond.code yS_challenge prog_1_method_17_code 1 (Option.some ClassFile.FieldType.long) ∈ lw_tbl := List.mem_append_right _ (List.mem_of_getElem? (i := 281) (by decide +kernel))
theorem wm_S_192 : Cond.methodLink "ThresholdSeal" 192 yX_isOn ∈ lw_tbl := List.mem_append_right _ (List.mem_of_getElem? (i := 282) (by decide +kernel))
theorem wi_X_isOn : Cond.instanceMethod yX_isOn ∈ lw_tbl := List.mem_append_right _ (List.mem_of_getElem? (i := 283) (by decide +kernel))
theorem ws_X_X_isOn : Cond.selects "ThresholdSeal$Session" yX_isOn yX_isOn ∈ lw_tbl := List.mem_append_right _ (List.mem_of_getElem? (i := 284) (by decide +kernel))
theorem wc_X_isOn : Cond.code yX_isOn prog_7_method_2_code 1 (Option.some ClassFile.FieldType.boolean) ∈ lw_tbl := List.mem_append_right _ (List.mem_of_getElem? (i := 285) (by decide +kernel))
theorem wm_L_123 : Cond.methodLink "ThresholdSealLaw" 123 yS_members ∈ lw_tbl := List.mem_append_right _ (List.mem_of_getElem? (i := 286) (by decide +kernel))
theorem wi_S_members : Cond.instanceMethod yS_members ∈ lw_tbl := List.mem_append_right _ (List.mem_of_getElem? (i := 287) (by decide +kernel))
theorem ws_S_S_members : Cond.selects "ThresholdSeal" yS_members yS_members ∈ lw_tbl := List.mem_append_right _ (List.mem_of_getElem? (i := 288) (by decide +kernel))
theorem wc_S_members : Cond.code yS_members prog_1_method_18_code 1 (Option.some ClassFile.FieldType.int) ∈ lw_tbl := List.mem_append_right _ (List.mem_of_getElem? (i := 289) (by decide +kernel))
theorem wm_L_127 : Cond.methodLink "ThresholdSealLaw" 127 yS_taken ∈ lw_tbl := List.mem_append_right _ (List.mem_of_getElem? (i := 290) (by decide +kernel))
theorem wi_S_taken : Cond.instanceMethod yS_taken ∈ lw_tbl := List.mem_append_right _ (List.mem_of_getElem? (i := 291) (by decide +kernel))
theorem ws_S_S_taken : Cond.selects "ThresholdSeal" yS_taken yS_taken ∈ lw_tbl := List.mem_append_right _ (List.mem_of_getElem? (i := 292) (by decide +kernel))
theorem wc_S_taken : Cond.code yS_taken prog_1_method_19_code 1 (Option.some ClassFile.FieldType.int) ∈ lw_tbl := List.mem_append_right _ (List.mem_of_getElem? (i := 293) (by decide +kernel))
theorem wm_L_131 : Cond.methodLink "ThresholdSealLaw" 131 yS_blamed ∈ lw_tbl := List.mem_append_right _ (List.mem_of_getElem? (i := 294) (by decide +kernel))
theorem wi_S_blamed : Cond.instanceMethod yS_blamed ∈ lw_tbl := List.mem_append_right _ (List.mem_of_getElem? (i := 295) (by decide +kernel))
theorem ws_S_S_blamed : Cond.selects "ThresholdSeal" yS_blamed yS_blamed ∈ lw_tbl := List.mem_append_right _ (List.mem_of_getElem? (i := 296) (by decide +kernel))
theorem wc_S_blamed : Cond.code yS_blamed prog_1_method_20_code 1 (Option.some ClassFile.FieldType.int) ∈ lw_tbl := List.mem_append_right _ (List.mem_of_getElem? (i := 297) (by decide +kernel))
theorem wm_L_42 : Cond.methodLink "ThresholdSealLaw" 42 yL_cell ∈ lw_tbl := List.mem_append_right _ (List.mem_of_getElem? (i := 298) (by decide +kernel))
theorem wt_L_cell : Cond.static yL_cell ∈ lw_tbl := List.mem_append_right _ (List.mem_of_getElem? (i := 299) (by decide +kernel))
theorem wc_L_cell : Cond.code yL_cell method_2_code 2 (Option.some ClassFile.FieldType.int) ∈ lw_tbl := List.mem_append_right _ (List.mem_of_getElem? (i := 300) (by decide +kernel))
theorem wm_L_61 : Cond.methodLink "ThresholdSealLaw" 61 yL_commit ∈ lw_tbl := List.mem_append_right _ (List.mem_of_getElem? (i := 301) (by decide +kernel))
theorem wt_L_commit : Cond.static yL_commit ∈ lw_tbl := List.mem_append_right _ (List.mem_of_getElem? (i := 302) (by decide +kernel))
theorem wc_L_commit : Cond.codeWith yL_commit method_3_code 6 (Option.some ClassFile.FieldType.int) [(0, 10, 13, 13), (0, 10, 17, 15)] ∈ lw_tbl := List.mem_append_right _ (List.mem_of_getElem? (i := 303) (by decide +kernel))
theorem wl_L_13 : Cond.classLink "ThresholdSealLaw" 13 "java/lang/IllegalArgumentException" ∈ lw_tbl := List.mem_append_right _ (List.mem_of_getElem? (i := 304) (by decide +kernel))
theorem wl_L_15 : Cond.classLink "ThresholdSealLaw" 15 "java/lang/IllegalStateException" ∈ lw_tbl := List.mem_append_right _ (List.mem_of_getElem? (i := 305) (by decide +kernel))
theorem wm_L_7 : Cond.methodLink "ThresholdSealLaw" 7 yS_commit ∈ lw_tbl := List.mem_append_right _ (List.mem_of_getElem? (i := 306) (by decide +kernel))
theorem wi_S_commit : Cond.instanceMethod yS_commit ∈ lw_tbl := List.mem_append_right _ (List.mem_of_getElem? (i := 307) (by decide +kernel))
theorem ws_S_S_commit : Cond.selects "ThresholdSeal" yS_commit yS_commit ∈ lw_tbl := List.mem_append_right _ (List.mem_of_getElem? (i := 308) (by decide +kernel))
theorem wc_S_commit : Cond.code yS_commit prog_1_method_3_code 4 (Option.some ClassFile.FieldType.long) ∈ lw_tbl := List.mem_append_right _ (List.mem_of_getElem? (i := 309) (by decide +kernel))
theorem wm_S_64 : Cond.methodLink "ThresholdSeal" 64 yS_requireSigner ∈ lw_tbl := List.mem_append_right _ (List.mem_of_getElem? (i := 310) (by decide +kernel))
theorem wv_S_requireSigner : Cond.privateMethod yS_requireSigner ∈ lw_tbl := List.mem_append_right _ (List.mem_of_getElem? (i := 311) (by decide +kernel))
theorem wi_S_requireSigner : Cond.instanceMethod yS_requireSigner ∈ lw_tbl := List.mem_append_right _ (List.mem_of_getElem? (i := 312) (by decide +kernel))
theorem wc_S_requireSigner : Cond.code yS_requireSigner prog_1_method_24_code 2 (Option.none : Option ClassFile.FieldType) ∈ lw_tbl := List.mem_append_right _ (List.mem_of_getElem? (i := 313) (by decide +kernel))
theorem wl_S_231 : Cond.classLink "ThresholdSeal" 231 "java/lang/IllegalArgumentException" ∈ lw_tbl := List.mem_append_right _ (List.mem_of_getElem? (i := 314) (by decide +kernel))
theorem wz_JA : Cond.instantiable "java/lang/IllegalArgumentException" 6 ∈ lw_tbl := List.mem_append_right _ (List.mem_of_getElem? (i := 315) (by decide +kernel))
theorem wx_316 : Cond.castable "java/lang/IllegalArgumentException" "java/lang/IllegalArgumentException" ∈ lw_tbl := List.mem_append_right _ (List.mem_of_getElem? (i := 316) (by decide +kernel))
theorem wx_317 : Cond.declares yJR_init ∈ lw_tbl := List.mem_append_right _ (List.mem_of_getElem? (i := 317) (by decide +kernel))
theorem wx_318 : Cond.declares yJR_init2 ∈ lw_tbl := List.mem_append_right _ (List.mem_of_getElem? (i := 318) (by decide +kernel))
theorem wx_319 : Cond.declares yJE_init ∈ lw_tbl := List.mem_append_right _ (List.mem_of_getElem? (i := 319) (by decide +kernel))
theorem wx_320 : Cond.declares yJE_init2 ∈ lw_tbl := List.mem_append_right _ (List.mem_of_getElem? (i := 320) (by decide +kernel))
theorem wx_321 : Cond.declares yJT_init ∈ lw_tbl := List.mem_append_right _ (List.mem_of_getElem? (i := 321) (by decide +kernel))
theorem wx_322 : Cond.declares yJT_init2 ∈ lw_tbl := List.mem_append_right _ (List.mem_of_getElem? (i := 322) (by decide +kernel))
theorem ws_JA_JT_fillInStackTrace : Cond.selects "java/lang/IllegalArgumentException" yJT_fillInStackTrace yJT_fillInStackTrace ∈ lw_tbl := List.mem_append_right _ (List.mem_of_getElem? (i := 323) (by decide +kernel))
theorem ws_JA_JT_fillInStackTrace2 : Cond.selects "java/lang/IllegalArgumentException" yJT_fillInStackTrace2 yJT_fillInStackTrace2 ∈ lw_tbl := List.mem_append_right _ (List.mem_of_getElem? (i := 324) (by decide +kernel))
theorem wy_JA_cause : Cond.lays "java/lang/IllegalArgumentException" "java/lang/Throwable" "cause" "Ljava/lang/Throwable;" ∈ lw_tbl := List.mem_append_right _ (List.mem_of_getElem? (i := 325) (by decide +kernel))
theorem wy_JT_cause : Cond.lays "java/lang/Throwable" "java/lang/Throwable" "cause" "Ljava/lang/Throwable;" ∈ lw_tbl := List.mem_append_right _ (List.mem_of_getElem? (i := 326) (by decide +kernel))
theorem wy_JA_stackTrace : Cond.lays "java/lang/IllegalArgumentException" "java/lang/Throwable" "stackTrace" "[Ljava/lang/StackTraceElement;" ∈ lw_tbl := List.mem_append_right _ (List.mem_of_getElem? (i := 327) (by decide +kernel))
theorem wy_JT_stackTrace : Cond.lays "java/lang/Throwable" "java/lang/Throwable" "stackTrace" "[Ljava/lang/StackTraceElement;" ∈ lw_tbl := List.mem_append_right _ (List.mem_of_getElem? (i := 328) (by decide +kernel))
theorem wy_JA_suppressedExceptions : Cond.lays "java/lang/IllegalArgumentException" "java/lang/Throwable" "suppressedExceptions" "Ljava/util/List;" ∈ lw_tbl := List.mem_append_right _ (List.mem_of_getElem? (i := 329) (by decide +kernel))
theorem wy_JT_suppressedExceptions : Cond.lays "java/lang/Throwable" "java/lang/Throwable" "suppressedExceptions" "Ljava/util/List;" ∈ lw_tbl := List.mem_append_right _ (List.mem_of_getElem? (i := 330) (by decide +kernel))
theorem wy_JA_detailMessage : Cond.lays "java/lang/IllegalArgumentException" "java/lang/Throwable" "detailMessage" "Ljava/lang/String;" ∈ lw_tbl := List.mem_append_right _ (List.mem_of_getElem? (i := 331) (by decide +kernel))
theorem wy_JT_detailMessage : Cond.lays "java/lang/Throwable" "java/lang/Throwable" "detailMessage" "Ljava/lang/String;" ∈ lw_tbl := List.mem_append_right _ (List.mem_of_getElem? (i := 332) (by decide +kernel))
theorem wy_JA_backtrace : Cond.lays "java/lang/IllegalArgumentException" "java/lang/Throwable" "backtrace" "Ljava/lang/Object;" ∈ lw_tbl := List.mem_append_right _ (List.mem_of_getElem? (i := 333) (by decide +kernel))
theorem wy_JT_backtrace : Cond.lays "java/lang/Throwable" "java/lang/Throwable" "backtrace" "Ljava/lang/Object;" ∈ lw_tbl := List.mem_append_right _ (List.mem_of_getElem? (i := 334) (by decide +kernel))
theorem wf_JT_198 : Cond.fieldLink "java/lang/Throwable" 198 "java/lang/Throwable" "backtrace" "Ljava/lang/Object;" ∈ lw_tbl := List.mem_append_right _ (List.mem_of_getElem? (i := 335) (by decide +kernel))
theorem wx_336 : Cond.superclass "java/lang/Throwable" "java/lang/Object" ∈ lw_tbl := List.mem_append_right _ (List.mem_of_getElem? (i := 336) (by decide +kernel))
theorem wi_JT_init : Cond.instanceMethod yJT_init ∈ lw_tbl := List.mem_append_right _ (List.mem_of_getElem? (i := 337) (by decide +kernel))
theorem wc_JT_init : Cond.code yJT_init prog_18_method_1_code 1 (Option.none : Option ClassFile.FieldType) ∈ lw_tbl := List.mem_append_right _ (List.mem_of_getElem? (i := 338) (by decide +kernel))
theorem wm_JT_1 : Cond.methodLink "java/lang/Throwable" 1 yJO_init ∈ lw_tbl := List.mem_append_right _ (List.mem_of_getElem? (i := 339) (by decide +kernel))
theorem wf_JT_13 : Cond.fieldLink "java/lang/Throwable" 13 "java/lang/Throwable" "UNASSIGNED_STACK" "[Ljava/lang/StackTraceElement;" ∈ lw_tbl := List.mem_append_right _ (List.mem_of_getElem? (i := 340) (by decide +kernel))
theorem wy_JT_UNASSIGNED_STACK : Cond.laysStatic "java/lang/Throwable" "UNASSIGNED_STACK" "[Ljava/lang/StackTraceElement;" ∈ lw_tbl := List.mem_append_right _ (List.mem_of_getElem? (i := 341) (by decide +kernel))
theorem wf_JT_20 : Cond.fieldLink "java/lang/Throwable" 20 "java/lang/Throwable" "SUPPRESSED_SENTINEL" "Ljava/util/List;" ∈ lw_tbl := List.mem_append_right _ (List.mem_of_getElem? (i := 342) (by decide +kernel))
theorem wy_JT_SUPPRESSED_SENTINEL : Cond.laysStatic "java/lang/Throwable" "SUPPRESSED_SENTINEL" "Ljava/util/List;" ∈ lw_tbl := List.mem_append_right _ (List.mem_of_getElem? (i := 343) (by decide +kernel))
theorem wm_JT_27 : Cond.methodLink "java/lang/Throwable" 27 yJT_fillInStackTrace2 ∈ lw_tbl := List.mem_append_right _ (List.mem_of_getElem? (i := 344) (by decide +kernel))
theorem wi_JT_fillInStackTrace2 : Cond.instanceMethod yJT_fillInStackTrace2 ∈ lw_tbl := List.mem_append_right _ (List.mem_of_getElem? (i := 345) (by decide +kernel))
theorem wx_346 : Cond.sameMethod "java/lang/Throwable" "java/lang/Throwable" "fillInStackTrace" "()Ljava/lang/Throwable;" ∈ lw_tbl := List.mem_append_right _ (List.mem_of_getElem? (i := 346) (by decide +kernel))
theorem ws_JS_JT_fillInStackTrace2 : Cond.selects "java/lang/IllegalStateException" yJT_fillInStackTrace2 yJT_fillInStackTrace2 ∈ lw_tbl := List.mem_append_right _ (List.mem_of_getElem? (i := 347) (by decide +kernel))
theorem wc_JT_fillInStackTrace2 : Cond.codeSync yJT_fillInStackTrace2 prog_18_method_18_code 1 (Option.some (ClassFile.FieldType.object "java/lang/Throwable")) ∈ lw_tbl := List.mem_append_right _ (List.mem_of_getElem? (i := 348) (by decide +kernel))
theorem wm_JT_202 : Cond.methodLink "java/lang/Throwable" 202 yJT_fillInStackTrace ∈ lw_tbl := List.mem_append_right _ (List.mem_of_getElem? (i := 349) (by decide +kernel))
theorem wv_JT_fillInStackTrace : Cond.privateMethod yJT_fillInStackTrace ∈ lw_tbl := List.mem_append_right _ (List.mem_of_getElem? (i := 350) (by decide +kernel))
theorem wi_JT_fillInStackTrace : Cond.instanceMethod yJT_fillInStackTrace ∈ lw_tbl := List.mem_append_right _ (List.mem_of_getElem? (i := 351) (by decide +kernel))
theorem wz_JT : Cond.instantiable "java/lang/Throwable" 6 ∈ lw_tbl := List.mem_append_right _ (List.mem_of_getElem? (i := 352) (by decide +kernel))
theorem wx_353 : Cond.native yJT_fillInStackTrace ∈ lw_tbl := List.mem_append_right _ (List.mem_of_getElem? (i := 353) (by decide +kernel))
theorem wq_S_233 : Cond.stringRef "ThresholdSeal" 233 "no such signer" ∈ lw_tbl := List.mem_append_right _ (List.mem_of_getElem? (i := 354) (by decide +kernel))
theorem wm_S_235 : Cond.methodLink "ThresholdSeal" 235 yJA_init ∈ lw_tbl := List.mem_append_right _ (List.mem_of_getElem? (i := 355) (by decide +kernel))
theorem wi_JA_init : Cond.instanceMethod yJA_init ∈ lw_tbl := List.mem_append_right _ (List.mem_of_getElem? (i := 356) (by decide +kernel))
theorem wc_JA_init : Cond.code yJA_init prog_12_method_2_code 2 (Option.none : Option ClassFile.FieldType) ∈ lw_tbl := List.mem_append_right _ (List.mem_of_getElem? (i := 357) (by decide +kernel))
theorem wm_JA_7 : Cond.methodLink "java/lang/IllegalArgumentException" 7 yJR_init2 ∈ lw_tbl := List.mem_append_right _ (List.mem_of_getElem? (i := 358) (by decide +kernel))
theorem wi_JR_init2 : Cond.instanceMethod yJR_init2 ∈ lw_tbl := List.mem_append_right _ (List.mem_of_getElem? (i := 359) (by decide +kernel))
theorem wc_JR_init2 : Cond.code yJR_init2 prog_16_method_2_code 2 (Option.none : Option ClassFile.FieldType) ∈ lw_tbl := List.mem_append_right _ (List.mem_of_getElem? (i := 360) (by decide +kernel))
theorem wm_JR_7 : Cond.methodLink "java/lang/RuntimeException" 7 yJE_init2 ∈ lw_tbl := List.mem_append_right _ (List.mem_of_getElem? (i := 361) (by decide +kernel))
theorem wi_JE_init2 : Cond.instanceMethod yJE_init2 ∈ lw_tbl := List.mem_append_right _ (List.mem_of_getElem? (i := 362) (by decide +kernel))
theorem wc_JE_init2 : Cond.code yJE_init2 prog_11_method_2_code 2 (Option.none : Option ClassFile.FieldType) ∈ lw_tbl := List.mem_append_right _ (List.mem_of_getElem? (i := 363) (by decide +kernel))
theorem wm_JE_7 : Cond.methodLink "java/lang/Exception" 7 yJT_init2 ∈ lw_tbl := List.mem_append_right _ (List.mem_of_getElem? (i := 364) (by decide +kernel))
theorem wi_JT_init2 : Cond.instanceMethod yJT_init2 ∈ lw_tbl := List.mem_append_right _ (List.mem_of_getElem? (i := 365) (by decide +kernel))
theorem wc_JT_init2 : Cond.code yJT_init2 prog_18_method_2_code 2 (Option.none : Option ClassFile.FieldType) ∈ lw_tbl := List.mem_append_right _ (List.mem_of_getElem? (i := 366) (by decide +kernel))
theorem wf_JT_31 : Cond.fieldLink "java/lang/Throwable" 31 "java/lang/Throwable" "detailMessage" "Ljava/lang/String;" ∈ lw_tbl := List.mem_append_right _ (List.mem_of_getElem? (i := 368) (by decide +kernel))
theorem wf_JT_7 : Cond.fieldLink "java/lang/Throwable" 7 "java/lang/Throwable" "cause" "Ljava/lang/Throwable;" ∈ lw_tbl := List.mem_append_right _ (List.mem_of_getElem? (i := 369) (by decide +kernel))
theorem wf_JT_17 : Cond.fieldLink "java/lang/Throwable" 17 "java/lang/Throwable" "stackTrace" "[Ljava/lang/StackTraceElement;" ∈ lw_tbl := List.mem_append_right _ (List.mem_of_getElem? (i := 370) (by decide +kernel))
theorem wf_JT_24 : Cond.fieldLink "java/lang/Throwable" 24 "java/lang/Throwable" "suppressedExceptions" "Ljava/util/List;" ∈ lw_tbl := List.mem_append_right _ (List.mem_of_getElem? (i := 371) (by decide +kernel))
theorem wx_372 : Cond.soleField "java/lang/Throwable" "backtrace" ∈ lw_tbl := List.mem_append_right _ (List.mem_of_getElem? (i := 372) (by decide +kernel))
theorem wx_373 : Cond.soleField "java/lang/Throwable" "detailMessage" ∈ lw_tbl := List.mem_append_right _ (List.mem_of_getElem? (i := 373) (by decide +kernel))
theorem wx_374 : Cond.soleField "java/lang/Throwable" "cause" ∈ lw_tbl := List.mem_append_right _ (List.mem_of_getElem? (i := 374) (by decide +kernel))
theorem wx_375 : Cond.soleField "java/lang/Throwable" "stackTrace" ∈ lw_tbl := List.mem_append_right _ (List.mem_of_getElem? (i := 375) (by decide +kernel))
theorem wy_JA_depth : Cond.lays "java/lang/IllegalArgumentException" "java/lang/Throwable" "depth" "I" ∈ lw_tbl := List.mem_append_right _ (List.mem_of_getElem? (i := 376) (by decide +kernel))
theorem wx_377 : Cond.soleField "java/lang/Throwable" "depth" ∈ lw_tbl := List.mem_append_right _ (List.mem_of_getElem? (i := 377) (by decide +kernel))
theorem wx_378 : Cond.soleField "java/lang/Throwable" "suppressedExceptions" ∈ lw_tbl := List.mem_append_right _ (List.mem_of_getElem? (i := 378) (by decide +kernel))
theorem wx_379 : Cond.superclass "java/lang/IllegalArgumentException" "java/lang/RuntimeException" ∈ lw_tbl := List.mem_append_right _ (List.mem_of_getElem? (i := 379) (by decide +kernel))
theorem wa_byte : Cond.arrayClass ClassFile.FieldType.byte ∈ lw_tbl := List.mem_append_right _ (List.mem_of_getElem? (i := 380) (by decide +kernel))
theorem wm_S_67 : Cond.methodLink "ThresholdSeal" 67 yS_requireDealt ∈ lw_tbl := List.mem_append_right _ (List.mem_of_getElem? (i := 381) (by decide +kernel))
theorem wv_S_requireDealt : Cond.privateMethod yS_requireDealt ∈ lw_tbl := List.mem_append_right _ (List.mem_of_getElem? (i := 382) (by decide +kernel))
theorem wi_S_requireDealt : Cond.instanceMethod yS_requireDealt ∈ lw_tbl := List.mem_append_right _ (List.mem_of_getElem? (i := 383) (by decide +kernel))
theorem wc_S_requireDealt : Cond.code yS_requireDealt prog_1_method_27_code 1 (Option.none : Option ClassFile.FieldType) ∈ lw_tbl := List.mem_append_right _ (List.mem_of_getElem? (i := 384) (by decide +kernel))
theorem wl_S_88 : Cond.classLink "ThresholdSeal" 88 "java/lang/IllegalStateException" ∈ lw_tbl := List.mem_append_right _ (List.mem_of_getElem? (i := 385) (by decide +kernel))
theorem wz_JS : Cond.instantiable "java/lang/IllegalStateException" 6 ∈ lw_tbl := List.mem_append_right _ (List.mem_of_getElem? (i := 386) (by decide +kernel))
theorem wx_387 : Cond.castable "java/lang/IllegalStateException" "java/lang/IllegalStateException" ∈ lw_tbl := List.mem_append_right _ (List.mem_of_getElem? (i := 387) (by decide +kernel))
theorem ws_JS_JT_fillInStackTrace : Cond.selects "java/lang/IllegalStateException" yJT_fillInStackTrace yJT_fillInStackTrace ∈ lw_tbl := List.mem_append_right _ (List.mem_of_getElem? (i := 388) (by decide +kernel))
theorem wy_JS_cause : Cond.lays "java/lang/IllegalStateException" "java/lang/Throwable" "cause" "Ljava/lang/Throwable;" ∈ lw_tbl := List.mem_append_right _ (List.mem_of_getElem? (i := 389) (by decide +kernel))
theorem wy_JS_stackTrace : Cond.lays "java/lang/IllegalStateException" "java/lang/Throwable" "stackTrace" "[Ljava/lang/StackTraceElement;" ∈ lw_tbl := List.mem_append_right _ (List.mem_of_getElem? (i := 390) (by decide +kernel))
theorem wy_JS_suppressedExceptions : Cond.lays "java/lang/IllegalStateException" "java/lang/Throwable" "suppressedExceptions" "Ljava/util/List;" ∈ lw_tbl := List.mem_append_right _ (List.mem_of_getElem? (i := 391) (by decide +kernel))
theorem wy_JS_detailMessage : Cond.lays "java/lang/IllegalStateException" "java/lang/Throwable" "detailMessage" "Ljava/lang/String;" ∈ lw_tbl := List.mem_append_right _ (List.mem_of_getElem? (i := 392) (by decide +kernel))
theorem wy_JS_backtrace : Cond.lays "java/lang/IllegalStateException" "java/lang/Throwable" "backtrace" "Ljava/lang/Object;" ∈ lw_tbl := List.mem_append_right _ (List.mem_of_getElem? (i := 393) (by decide +kernel))
theorem wq_S_246 : Cond.stringRef "ThresholdSeal" 246 "nothing is dealt" ∈ lw_tbl := List.mem_append_right _ (List.mem_of_getElem? (i := 394) (by decide +kernel))
theorem wm_S_92 : Cond.methodLink "ThresholdSeal" 92 yJS_init ∈ lw_tbl := List.mem_append_right _ (List.mem_of_getElem? (i := 395) (by decide +kernel))
theorem wi_JS_init : Cond.instanceMethod yJS_init ∈ lw_tbl := List.mem_append_right _ (List.mem_of_getElem? (i := 396) (by decide +kernel))
theorem wc_JS_init : Cond.code yJS_init prog_13_method_2_code 2 (Option.none : Option ClassFile.FieldType) ∈ lw_tbl := List.mem_append_right _ (List.mem_of_getElem? (i := 397) (by decide +kernel))
theorem wm_JS_7 : Cond.methodLink "java/lang/IllegalStateException" 7 yJR_init2 ∈ lw_tbl := List.mem_append_right _ (List.mem_of_getElem? (i := 398) (by decide +kernel))
theorem wy_JS_depth : Cond.lays "java/lang/IllegalStateException" "java/lang/Throwable" "depth" "I" ∈ lw_tbl := List.mem_append_right _ (List.mem_of_getElem? (i := 399) (by decide +kernel))
theorem wx_400 : Cond.superclass "java/lang/IllegalStateException" "java/lang/RuntimeException" ∈ lw_tbl := List.mem_append_right _ (List.mem_of_getElem? (i := 400) (by decide +kernel))
theorem wm_S_70 : Cond.methodLink "ThresholdSeal" 70 yP_open ∈ lw_tbl := List.mem_append_right _ (List.mem_of_getElem? (i := 401) (by decide +kernel))
theorem wi_P_open : Cond.instanceMethod yP_open ∈ lw_tbl := List.mem_append_right _ (List.mem_of_getElem? (i := 402) (by decide +kernel))
theorem ws_P_P_open : Cond.selects "ThresholdSeal$Pairs" yP_open yP_open ∈ lw_tbl := List.mem_append_right _ (List.mem_of_getElem? (i := 403) (by decide +kernel))
theorem wc_P_open : Cond.code yP_open prog_6_method_2_code 4 (Option.none : Option ClassFile.FieldType) ∈ lw_tbl := List.mem_append_right _ (List.mem_of_getElem? (i := 404) (by decide +kernel))
theorem wk_P_22 : Cond.constantLong "ThresholdSeal$Pairs" 22 (2 : Int64) ∈ lw_tbl := List.mem_append_right _ (List.mem_of_getElem? (i := 405) (by decide +kernel))
theorem wm_P_24 : Cond.methodLink "ThresholdSeal$Pairs" 24 yG_ofThree ∈ lw_tbl := List.mem_append_right _ (List.mem_of_getElem? (i := 406) (by decide +kernel))
theorem wk_P_30 : Cond.constantLong "ThresholdSeal$Pairs" 30 (3 : Int64) ∈ lw_tbl := List.mem_append_right _ (List.mem_of_getElem? (i := 407) (by decide +kernel))
theorem wm_P_32 : Cond.methodLink "ThresholdSeal$Pairs" 32 yE_ofNumber ∈ lw_tbl := List.mem_append_right _ (List.mem_of_getElem? (i := 408) (by decide +kernel))
theorem wm_P_42 : Cond.methodLink "ThresholdSeal$Pairs" 42 yI_only ∈ lw_tbl := List.mem_append_right _ (List.mem_of_getElem? (i := 409) (by decide +kernel))
theorem wm_S_74 : Cond.methodLink "ThresholdSeal" 74 yX_losePair ∈ lw_tbl := List.mem_append_right _ (List.mem_of_getElem? (i := 410) (by decide +kernel))
theorem wi_X_losePair : Cond.instanceMethod yX_losePair ∈ lw_tbl := List.mem_append_right _ (List.mem_of_getElem? (i := 411) (by decide +kernel))
theorem ws_X_X_losePair : Cond.selects "ThresholdSeal$Session" yX_losePair yX_losePair ∈ lw_tbl := List.mem_append_right _ (List.mem_of_getElem? (i := 412) (by decide +kernel))
theorem wc_X_losePair : Cond.code yX_losePair prog_7_method_5_code 2 (Option.none : Option ClassFile.FieldType) ∈ lw_tbl := List.mem_append_right _ (List.mem_of_getElem? (i := 413) (by decide +kernel))
theorem wm_X_80 : Cond.methodLink "ThresholdSeal$Session" 80 yI_only ∈ lw_tbl := List.mem_append_right _ (List.mem_of_getElem? (i := 414) (by decide +kernel))
theorem wm_L_69 : Cond.methodLink "ThresholdSealLaw" 69 yL_begin ∈ lw_tbl := List.mem_append_right _ (List.mem_of_getElem? (i := 415) (by decide +kernel))
theorem wt_L_begin : Cond.static yL_begin ∈ lw_tbl := List.mem_append_right _ (List.mem_of_getElem? (i := 416) (by decide +kernel))
theorem wc_L_begin : Cond.codeWith yL_begin method_4_code 6 (Option.some ClassFile.FieldType.int) [(0, 10, 13, 13), (0, 10, 17, 15)] ∈ lw_tbl := List.mem_append_right _ (List.mem_of_getElem? (i := 417) (by decide +kernel))
theorem wm_L_17 : Cond.methodLink "ThresholdSealLaw" 17 yS_begin ∈ lw_tbl := List.mem_append_right _ (List.mem_of_getElem? (i := 418) (by decide +kernel))
theorem wi_S_begin : Cond.instanceMethod yS_begin ∈ lw_tbl := List.mem_append_right _ (List.mem_of_getElem? (i := 419) (by decide +kernel))
theorem ws_S_S_begin : Cond.selects "ThresholdSeal" yS_begin yS_begin ∈ lw_tbl := List.mem_append_right _ (List.mem_of_getElem? (i := 420) (by decide +kernel))
theorem wc_S_begin : Cond.code yS_begin prog_1_method_4_code 4 (Option.some ClassFile.FieldType.long) ∈ lw_tbl := List.mem_append_right _ (List.mem_of_getElem? (i := 421) (by decide +kernel))
theorem wm_S_81 : Cond.methodLink "ThresholdSeal" 81 yS_requireEnough ∈ lw_tbl := List.mem_append_right _ (List.mem_of_getElem? (i := 422) (by decide +kernel))
theorem wv_S_requireEnough : Cond.privateMethod yS_requireEnough ∈ lw_tbl := List.mem_append_right _ (List.mem_of_getElem? (i := 423) (by decide +kernel))
theorem wi_S_requireEnough : Cond.instanceMethod yS_requireEnough ∈ lw_tbl := List.mem_append_right _ (List.mem_of_getElem? (i := 424) (by decide +kernel))
theorem wc_S_requireEnough : Cond.code yS_requireEnough prog_1_method_26_code 2 (Option.none : Option ClassFile.FieldType) ∈ lw_tbl := List.mem_append_right _ (List.mem_of_getElem? (i := 425) (by decide +kernel))
theorem wm_S_238 : Cond.methodLink "ThresholdSeal" 238 yJI_bitCount ∈ lw_tbl := List.mem_append_right _ (List.mem_of_getElem? (i := 426) (by decide +kernel))
theorem wt_JI_bitCount : Cond.static yJI_bitCount ∈ lw_tbl := List.mem_append_right _ (List.mem_of_getElem? (i := 427) (by decide +kernel))
theorem wc_JI_bitCount : Cond.code yJI_bitCount prog_14_method_49_code 1 (Option.some ClassFile.FieldType.int) ∈ lw_tbl := List.mem_append_right _ (List.mem_of_getElem? (i := 428) (by decide +kernel))
theorem wk_JI_265 : Cond.constant "java/lang/Integer" 265 (1431655765 : Int32) ∈ lw_tbl := List.mem_append_right _ (List.mem_of_getElem? (i := 429) (by decide +kernel))
theorem wk_JI_266 : Cond.constant "java/lang/Integer" 266 (858993459 : Int32) ∈ lw_tbl := List.mem_append_right _ (List.mem_of_getElem? (i := 430) (by decide +kernel))
theorem wk_JI_267 : Cond.constant "java/lang/Integer" 267 (252645135 : Int32) ∈ lw_tbl := List.mem_append_right _ (List.mem_of_getElem? (i := 431) (by decide +kernel))
theorem wq_S_244 : Cond.stringRef "ThresholdSeal" 244 "a signer that there is none, or too few" ∈ lw_tbl := List.mem_append_right _ (List.mem_of_getElem? (i := 432) (by decide +kernel))
theorem wm_S_84 : Cond.methodLink "ThresholdSeal" 84 yP_areOpen ∈ lw_tbl := List.mem_append_right _ (List.mem_of_getElem? (i := 433) (by decide +kernel))
theorem wi_P_areOpen : Cond.instanceMethod yP_areOpen ∈ lw_tbl := List.mem_append_right _ (List.mem_of_getElem? (i := 434) (by decide +kernel))
theorem ws_P_P_areOpen : Cond.selects "ThresholdSeal$Pairs" yP_areOpen yP_areOpen ∈ lw_tbl := List.mem_append_right _ (List.mem_of_getElem? (i := 435) (by decide +kernel))
theorem wc_P_areOpen : Cond.code yP_areOpen prog_6_method_3_code 2 (Option.some ClassFile.FieldType.boolean) ∈ lw_tbl := List.mem_append_right _ (List.mem_of_getElem? (i := 436) (by decide +kernel))
theorem wq_S_90 : Cond.stringRef "ThresholdSeal" 90 "a member has no open pair" ∈ lw_tbl := List.mem_append_right _ (List.mem_of_getElem? (i := 437) (by decide +kernel))
theorem wm_S_95 : Cond.methodLink "ThresholdSeal" 95 yX_start ∈ lw_tbl := List.mem_append_right _ (List.mem_of_getElem? (i := 438) (by decide +kernel))
theorem wi_X_start : Cond.instanceMethod yX_start ∈ lw_tbl := List.mem_append_right _ (List.mem_of_getElem? (i := 439) (by decide +kernel))
theorem ws_X_X_start : Cond.selects "ThresholdSeal$Session" yX_start yX_start ∈ lw_tbl := List.mem_append_right _ (List.mem_of_getElem? (i := 440) (by decide +kernel))
theorem wc_X_start : Cond.code yX_start prog_7_method_4_code 8 (Option.none : Option ClassFile.FieldType) ∈ lw_tbl := List.mem_append_right _ (List.mem_of_getElem? (i := 441) (by decide +kernel))
theorem wm_X_40 : Cond.methodLink "ThresholdSeal$Session" 40 yI_has ∈ lw_tbl := List.mem_append_right _ (List.mem_of_getElem? (i := 442) (by decide +kernel))
theorem wm_X_46 : Cond.methodLink "ThresholdSeal$Session" 46 yX_factorFor ∈ lw_tbl := List.mem_append_right _ (List.mem_of_getElem? (i := 443) (by decide +kernel))
theorem wv_X_factorFor : Cond.privateMethod yX_factorFor ∈ lw_tbl := List.mem_append_right _ (List.mem_of_getElem? (i := 444) (by decide +kernel))
theorem wi_X_factorFor : Cond.instanceMethod yX_factorFor ∈ lw_tbl := List.mem_append_right _ (List.mem_of_getElem? (i := 445) (by decide +kernel))
theorem wc_X_factorFor : Cond.code yX_factorFor prog_7_method_9_code 9 (Option.some ClassFile.FieldType.long) ∈ lw_tbl := List.mem_append_right _ (List.mem_of_getElem? (i := 446) (by decide +kernel))
theorem wk_X_115 : Cond.constantLong "ThresholdSeal$Session" 115 (4 : Int64) ∈ lw_tbl := List.mem_append_right _ (List.mem_of_getElem? (i := 447) (by decide +kernel))
theorem wm_X_117 : Cond.methodLink "ThresholdSeal$Session" 117 yG_mix ∈ lw_tbl := List.mem_append_right _ (List.mem_of_getElem? (i := 448) (by decide +kernel))
theorem wm_X_120 : Cond.methodLink "ThresholdSeal$Session" 120 yG_finish ∈ lw_tbl := List.mem_append_right _ (List.mem_of_getElem? (i := 449) (by decide +kernel))
theorem wm_X_50 : Cond.methodLink "ThresholdSeal$Session" 50 yI_weightIn ∈ lw_tbl := List.mem_append_right _ (List.mem_of_getElem? (i := 450) (by decide +kernel))
theorem wt_I_weightIn : Cond.static yI_weightIn ∈ lw_tbl := List.mem_append_right _ (List.mem_of_getElem? (i := 451) (by decide +kernel))
theorem wc_I_weightIn : Cond.code yI_weightIn prog_8_method_4_code 8 (Option.some ClassFile.FieldType.long) ∈ lw_tbl := List.mem_append_right _ (List.mem_of_getElem? (i := 452) (by decide +kernel))
theorem wm_I_13 : Cond.methodLink "ThresholdSeal$Signers" 13 yI_has ∈ lw_tbl := List.mem_append_right _ (List.mem_of_getElem? (i := 453) (by decide +kernel))
theorem wm_I_17 : Cond.methodLink "ThresholdSeal$Signers" 17 yN_times ∈ lw_tbl := List.mem_append_right _ (List.mem_of_getElem? (i := 454) (by decide +kernel))
theorem wm_I_23 : Cond.methodLink "ThresholdSeal$Signers" 23 yN_minus ∈ lw_tbl := List.mem_append_right _ (List.mem_of_getElem? (i := 455) (by decide +kernel))
theorem wt_N_minus : Cond.static yN_minus ∈ lw_tbl := List.mem_append_right _ (List.mem_of_getElem? (i := 456) (by decide +kernel))
theorem wc_N_minus : Cond.code yN_minus prog_5_method_4_code 4 (Option.some ClassFile.FieldType.long) ∈ lw_tbl := List.mem_append_right _ (List.mem_of_getElem? (i := 457) (by decide +kernel))
theorem wm_I_26 : Cond.methodLink "ThresholdSeal$Signers" 26 yN_inverse ∈ lw_tbl := List.mem_append_right _ (List.mem_of_getElem? (i := 458) (by decide +kernel))
theorem wt_N_inverse : Cond.static yN_inverse ∈ lw_tbl := List.mem_append_right _ (List.mem_of_getElem? (i := 459) (by decide +kernel))
theorem wc_N_inverse : Cond.code yN_inverse prog_5_method_6_code 5 (Option.some ClassFile.FieldType.long) ∈ lw_tbl := List.mem_append_right _ (List.mem_of_getElem? (i := 460) (by decide +kernel))
theorem wm_N_11 : Cond.methodLink "ThresholdSeal$Numbers" 11 yN_times ∈ lw_tbl := List.mem_append_right _ (List.mem_of_getElem? (i := 461) (by decide +kernel))
theorem wk_N_15 : Cond.constantLong "ThresholdSeal$Numbers" 15 (1073741787 : Int64) ∈ lw_tbl := List.mem_append_right _ (List.mem_of_getElem? (i := 462) (by decide +kernel))
theorem wm_X_58 : Cond.methodLink "ThresholdSeal$Session" 58 yX_toldPart ∈ lw_tbl := List.mem_append_right _ (List.mem_of_getElem? (i := 463) (by decide +kernel))
theorem wv_X_toldPart : Cond.privateMethod yX_toldPart ∈ lw_tbl := List.mem_append_right _ (List.mem_of_getElem? (i := 464) (by decide +kernel))
theorem wi_X_toldPart : Cond.instanceMethod yX_toldPart ∈ lw_tbl := List.mem_append_right _ (List.mem_of_getElem? (i := 465) (by decide +kernel))
theorem wc_X_toldPart : Cond.code yX_toldPart prog_7_method_10_code 2 (Option.some ClassFile.FieldType.long) ∈ lw_tbl := List.mem_append_right _ (List.mem_of_getElem? (i := 466) (by decide +kernel))
theorem wm_X_124 : Cond.methodLink "ThresholdSeal$Session" 124 yE_power ∈ lw_tbl := List.mem_append_right _ (List.mem_of_getElem? (i := 467) (by decide +kernel))
theorem wm_X_62 : Cond.methodLink "ThresholdSeal$Session" 62 yE_times ∈ lw_tbl := List.mem_append_right _ (List.mem_of_getElem? (i := 468) (by decide +kernel))
theorem wm_X_68 : Cond.methodLink "ThresholdSeal$Session" 68 yG_ofSeal ∈ lw_tbl := List.mem_append_right _ (List.mem_of_getElem? (i := 469) (by decide +kernel))
theorem wm_L_72 : Cond.methodLink "ThresholdSealLaw" 72 yL_sign ∈ lw_tbl := List.mem_append_right _ (List.mem_of_getElem? (i := 470) (by decide +kernel))
theorem wt_L_sign : Cond.static yL_sign ∈ lw_tbl := List.mem_append_right _ (List.mem_of_getElem? (i := 471) (by decide +kernel))
theorem wc_L_sign : Cond.codeWith yL_sign method_5_code 4 (Option.some ClassFile.FieldType.int) [(0, 8, 11, 13), (0, 8, 14, 15)] ∈ lw_tbl := List.mem_append_right _ (List.mem_of_getElem? (i := 472) (by decide +kernel))
theorem wm_L_20 : Cond.methodLink "ThresholdSealLaw" 20 yS_sign ∈ lw_tbl := List.mem_append_right _ (List.mem_of_getElem? (i := 473) (by decide +kernel))
theorem wi_S_sign : Cond.instanceMethod yS_sign ∈ lw_tbl := List.mem_append_right _ (List.mem_of_getElem? (i := 474) (by decide +kernel))
theorem ws_S_S_sign : Cond.selects "ThresholdSeal" yS_sign yS_sign ∈ lw_tbl := List.mem_append_right _ (List.mem_of_getElem? (i := 475) (by decide +kernel))
theorem wc_S_sign : Cond.code yS_sign prog_1_method_5_code 2 (Option.some ClassFile.FieldType.long) ∈ lw_tbl := List.mem_append_right _ (List.mem_of_getElem? (i := 476) (by decide +kernel))
theorem wq_S_112 : Cond.stringRef "ThresholdSeal" 112 "no member of a session, or his pair is gone" ∈ lw_tbl := List.mem_append_right _ (List.mem_of_getElem? (i := 477) (by decide +kernel))
theorem wm_S_117 : Cond.methodLink "ThresholdSeal" 117 yX_makeShare ∈ lw_tbl := List.mem_append_right _ (List.mem_of_getElem? (i := 478) (by decide +kernel))
theorem wi_X_makeShare : Cond.instanceMethod yX_makeShare ∈ lw_tbl := List.mem_append_right _ (List.mem_of_getElem? (i := 479) (by decide +kernel))
theorem ws_X_X_makeShare : Cond.selects "ThresholdSeal$Session" yX_makeShare yX_makeShare ∈ lw_tbl := List.mem_append_right _ (List.mem_of_getElem? (i := 480) (by decide +kernel))
theorem wc_X_makeShare : Cond.code yX_makeShare prog_7_method_6_code 7 (Option.none : Option ClassFile.FieldType) ∈ lw_tbl := List.mem_append_right _ (List.mem_of_getElem? (i := 481) (by decide +kernel))
theorem wm_X_90 : Cond.methodLink "ThresholdSeal$Session" 90 yN_times ∈ lw_tbl := List.mem_append_right _ (List.mem_of_getElem? (i := 482) (by decide +kernel))
theorem wm_X_93 : Cond.methodLink "ThresholdSeal$Session" 93 yN_plus ∈ lw_tbl := List.mem_append_right _ (List.mem_of_getElem? (i := 483) (by decide +kernel))
theorem wm_X_96 : Cond.methodLink "ThresholdSeal$Session" 96 yX_keyExponent ∈ lw_tbl := List.mem_append_right _ (List.mem_of_getElem? (i := 484) (by decide +kernel))
theorem wv_X_keyExponent : Cond.privateMethod yX_keyExponent ∈ lw_tbl := List.mem_append_right _ (List.mem_of_getElem? (i := 485) (by decide +kernel))
theorem wi_X_keyExponent : Cond.instanceMethod yX_keyExponent ∈ lw_tbl := List.mem_append_right _ (List.mem_of_getElem? (i := 486) (by decide +kernel))
theorem wc_X_keyExponent : Cond.code yX_keyExponent prog_7_method_11_code 2 (Option.some ClassFile.FieldType.long) ∈ lw_tbl := List.mem_append_right _ (List.mem_of_getElem? (i := 487) (by decide +kernel))
theorem wm_S_121 : Cond.methodLink "ThresholdSeal" 121 yP_drop ∈ lw_tbl := List.mem_append_right _ (List.mem_of_getElem? (i := 488) (by decide +kernel))
theorem wi_P_drop : Cond.instanceMethod yP_drop ∈ lw_tbl := List.mem_append_right _ (List.mem_of_getElem? (i := 489) (by decide +kernel))
theorem ws_P_P_drop : Cond.selects "ThresholdSeal$Pairs" yP_drop yP_drop ∈ lw_tbl := List.mem_append_right _ (List.mem_of_getElem? (i := 490) (by decide +kernel))
theorem wc_P_drop : Cond.code yP_drop prog_6_method_4_code 2 (Option.none : Option ClassFile.FieldType) ∈ lw_tbl := List.mem_append_right _ (List.mem_of_getElem? (i := 491) (by decide +kernel))
theorem wm_L_76 : Cond.methodLink "ThresholdSealLaw" 76 yL_submit ∈ lw_tbl := List.mem_append_right _ (List.mem_of_getElem? (i := 492) (by decide +kernel))
theorem wt_L_submit : Cond.static yL_submit ∈ lw_tbl := List.mem_append_right _ (List.mem_of_getElem? (i := 493) (by decide +kernel))
theorem wc_L_submit : Cond.codeWith yL_submit method_6_code 6 (Option.some ClassFile.FieldType.int) [(0, 18, 21, 13), (0, 18, 25, 15)] ∈ lw_tbl := List.mem_append_right _ (List.mem_of_getElem? (i := 494) (by decide +kernel))
theorem wm_L_24 : Cond.methodLink "ThresholdSealLaw" 24 yS_submit ∈ lw_tbl := List.mem_append_right _ (List.mem_of_getElem? (i := 495) (by decide +kernel))
theorem wi_S_submit : Cond.instanceMethod yS_submit ∈ lw_tbl := List.mem_append_right _ (List.mem_of_getElem? (i := 496) (by decide +kernel))
theorem ws_S_S_submit : Cond.selects "ThresholdSeal" yS_submit yS_submit ∈ lw_tbl := List.mem_append_right _ (List.mem_of_getElem? (i := 497) (by decide +kernel))
theorem wc_S_submit : Cond.code yS_submit prog_1_method_6_code 4 (Option.some ClassFile.FieldType.boolean) ∈ lw_tbl := List.mem_append_right _ (List.mem_of_getElem? (i := 498) (by decide +kernel))
theorem wm_S_127 : Cond.methodLink "ThresholdSeal" 127 yS_requireNumber ∈ lw_tbl := List.mem_append_right _ (List.mem_of_getElem? (i := 499) (by decide +kernel))
theorem wv_S_requireNumber : Cond.privateMethod yS_requireNumber ∈ lw_tbl := List.mem_append_right _ (List.mem_of_getElem? (i := 500) (by decide +kernel))
theorem wi_S_requireNumber : Cond.instanceMethod yS_requireNumber ∈ lw_tbl := List.mem_append_right _ (List.mem_of_getElem? (i := 501) (by decide +kernel))
theorem wc_S_requireNumber : Cond.code yS_requireNumber prog_1_method_25_code 3 (Option.none : Option ClassFile.FieldType) ∈ lw_tbl := List.mem_append_right _ (List.mem_of_getElem? (i := 502) (by decide +kernel))
theorem wq_S_236 : Cond.stringRef "ThresholdSeal" 236 "no number" ∈ lw_tbl := List.mem_append_right _ (List.mem_of_getElem? (i := 503) (by decide +kernel))
theorem wm_S_130 : Cond.methodLink "ThresholdSeal" 130 yS_requireUntaken ∈ lw_tbl := List.mem_append_right _ (List.mem_of_getElem? (i := 504) (by decide +kernel))
theorem wv_S_requireUntaken : Cond.privateMethod yS_requireUntaken ∈ lw_tbl := List.mem_append_right _ (List.mem_of_getElem? (i := 505) (by decide +kernel))
theorem wi_S_requireUntaken : Cond.instanceMethod yS_requireUntaken ∈ lw_tbl := List.mem_append_right _ (List.mem_of_getElem? (i := 506) (by decide +kernel))
theorem wc_S_requireUntaken : Cond.code yS_requireUntaken prog_1_method_28_code 2 (Option.none : Option ClassFile.FieldType) ∈ lw_tbl := List.mem_append_right _ (List.mem_of_getElem? (i := 507) (by decide +kernel))
theorem wq_S_248 : Cond.stringRef "ThresholdSeal" 248 "no member of a session, or his share is taken" ∈ lw_tbl := List.mem_append_right _ (List.mem_of_getElem? (i := 508) (by decide +kernel))
theorem wm_S_136 : Cond.methodLink "ThresholdSeal" 136 yX_tell ∈ lw_tbl := List.mem_append_right _ (List.mem_of_getElem? (i := 509) (by decide +kernel))
theorem wi_X_tell : Cond.instanceMethod yX_tell ∈ lw_tbl := List.mem_append_right _ (List.mem_of_getElem? (i := 510) (by decide +kernel))
theorem ws_X_X_tell : Cond.selects "ThresholdSeal$Session" yX_tell yX_tell ∈ lw_tbl := List.mem_append_right _ (List.mem_of_getElem? (i := 511) (by decide +kernel))
theorem wc_X_tell : Cond.code yX_tell prog_7_method_7_code 6 (Option.some ClassFile.FieldType.boolean) ∈ lw_tbl := List.mem_append_right _ (List.mem_of_getElem? (i := 512) (by decide +kernel))
theorem wm_X_102 : Cond.methodLink "ThresholdSeal$Session" 102 yX_isRight ∈ lw_tbl := List.mem_append_right _ (List.mem_of_getElem? (i := 513) (by decide +kernel))
theorem wv_X_isRight : Cond.privateMethod yX_isRight ∈ lw_tbl := List.mem_append_right _ (List.mem_of_getElem? (i := 514) (by decide +kernel))
theorem wi_X_isRight : Cond.instanceMethod yX_isRight ∈ lw_tbl := List.mem_append_right _ (List.mem_of_getElem? (i := 515) (by decide +kernel))
theorem wc_X_isRight : Cond.code yX_isRight prog_7_method_12_code 8 (Option.some ClassFile.FieldType.boolean) ∈ lw_tbl := List.mem_append_right _ (List.mem_of_getElem? (i := 516) (by decide +kernel))
theorem wm_X_127 : Cond.methodLink "ThresholdSeal$Session" 127 yE_ofNumber ∈ lw_tbl := List.mem_append_right _ (List.mem_of_getElem? (i := 517) (by decide +kernel))
theorem wm_L_79 : Cond.methodLink "ThresholdSealLaw" 79 yL_relay ∈ lw_tbl := List.mem_append_right _ (List.mem_of_getElem? (i := 518) (by decide +kernel))
theorem wt_L_relay : Cond.static yL_relay ∈ lw_tbl := List.mem_append_right _ (List.mem_of_getElem? (i := 519) (by decide +kernel))
theorem wc_L_relay : Cond.codeWith yL_relay method_7_code 6 (Option.some ClassFile.FieldType.int) [(0, 18, 21, 13), (0, 18, 25, 15)] ∈ lw_tbl := List.mem_append_right _ (List.mem_of_getElem? (i := 520) (by decide +kernel))
theorem wm_L_28 : Cond.methodLink "ThresholdSealLaw" 28 yS_relay ∈ lw_tbl := List.mem_append_right _ (List.mem_of_getElem? (i := 521) (by decide +kernel))
theorem wi_S_relay : Cond.instanceMethod yS_relay ∈ lw_tbl := List.mem_append_right _ (List.mem_of_getElem? (i := 522) (by decide +kernel))
theorem ws_S_S_relay : Cond.selects "ThresholdSeal" yS_relay yS_relay ∈ lw_tbl := List.mem_append_right _ (List.mem_of_getElem? (i := 523) (by decide +kernel))
theorem wc_S_relay : Cond.code yS_relay prog_1_method_7_code 4 (Option.some ClassFile.FieldType.boolean) ∈ lw_tbl := List.mem_append_right _ (List.mem_of_getElem? (i := 524) (by decide +kernel))
theorem wq_S_143 : Cond.stringRef "ThresholdSeal" 143 "the member made no share in this session" ∈ lw_tbl := List.mem_append_right _ (List.mem_of_getElem? (i := 525) (by decide +kernel))
theorem wm_S_145 : Cond.methodLink "ThresholdSeal" 145 yN_plus ∈ lw_tbl := List.mem_append_right _ (List.mem_of_getElem? (i := 526) (by decide +kernel))
theorem wm_L_82 : Cond.methodLink "ThresholdSealLaw" 82 yL_seal ∈ lw_tbl := List.mem_append_right _ (List.mem_of_getElem? (i := 527) (by decide +kernel))
theorem wt_L_seal : Cond.static yL_seal ∈ lw_tbl := List.mem_append_right _ (List.mem_of_getElem? (i := 528) (by decide +kernel))
theorem wc_L_seal : Cond.codeWith yL_seal method_8_code 3 (Option.some ClassFile.FieldType.int) [(0, 7, 10, 15)] ∈ lw_tbl := List.mem_append_right _ (List.mem_of_getElem? (i := 529) (by decide +kernel))
theorem wm_L_31 : Cond.methodLink "ThresholdSealLaw" 31 yS_seal ∈ lw_tbl := List.mem_append_right _ (List.mem_of_getElem? (i := 530) (by decide +kernel))
theorem wi_S_seal : Cond.instanceMethod yS_seal ∈ lw_tbl := List.mem_append_right _ (List.mem_of_getElem? (i := 531) (by decide +kernel))
theorem ws_S_S_seal : Cond.selects "ThresholdSeal" yS_seal yS_seal ∈ lw_tbl := List.mem_append_right _ (List.mem_of_getElem? (i := 532) (by decide +kernel))
theorem wc_S_seal : Cond.code yS_seal prog_1_method_8_code 1 (Option.some ClassFile.FieldType.long) ∈ lw_tbl := List.mem_append_right _ (List.mem_of_getElem? (i := 533) (by decide +kernel))
theorem wm_S_151 : Cond.methodLink "ThresholdSeal" 151 yS_requireSealed ∈ lw_tbl := List.mem_append_right _ (List.mem_of_getElem? (i := 534) (by decide +kernel))
theorem wv_S_requireSealed : Cond.privateMethod yS_requireSealed ∈ lw_tbl := List.mem_append_right _ (List.mem_of_getElem? (i := 535) (by decide +kernel))
theorem wi_S_requireSealed : Cond.instanceMethod yS_requireSealed ∈ lw_tbl := List.mem_append_right _ (List.mem_of_getElem? (i := 536) (by decide +kernel))
theorem wc_S_requireSealed : Cond.code yS_requireSealed prog_1_method_29_code 1 (Option.none : Option ClassFile.FieldType) ∈ lw_tbl := List.mem_append_right _ (List.mem_of_getElem? (i := 537) (by decide +kernel))
theorem wq_S_250 : Cond.stringRef "ThresholdSeal" 250 "no session, or a share is not taken" ∈ lw_tbl := List.mem_append_right _ (List.mem_of_getElem? (i := 538) (by decide +kernel))
theorem wm_L_91 : Cond.methodLink "ThresholdSealLaw" 91 yL_holds ∈ lw_tbl := List.mem_append_right _ (List.mem_of_getElem? (i := 539) (by decide +kernel))
theorem wt_L_holds : Cond.static yL_holds ∈ lw_tbl := List.mem_append_right _ (List.mem_of_getElem? (i := 540) (by decide +kernel))
theorem wc_L_holds : Cond.codeWith yL_holds method_9_code 7 (Option.some ClassFile.FieldType.int) [(0, 18, 21, 13), (0, 18, 25, 15)] ∈ lw_tbl := List.mem_append_right _ (List.mem_of_getElem? (i := 541) (by decide +kernel))
theorem wm_L_35 : Cond.methodLink "ThresholdSealLaw" 35 yS_holds ∈ lw_tbl := List.mem_append_right _ (List.mem_of_getElem? (i := 542) (by decide +kernel))
theorem wi_S_holds : Cond.instanceMethod yS_holds ∈ lw_tbl := List.mem_append_right _ (List.mem_of_getElem? (i := 543) (by decide +kernel))
theorem ws_S_S_holds : Cond.selects "ThresholdSeal" yS_holds yS_holds ∈ lw_tbl := List.mem_append_right _ (List.mem_of_getElem? (i := 544) (by decide +kernel))
theorem wc_S_holds : Cond.code yS_holds prog_1_method_10_code 5 (Option.some ClassFile.FieldType.boolean) ∈ lw_tbl := List.mem_append_right _ (List.mem_of_getElem? (i := 545) (by decide +kernel))
theorem wm_L_95 : Cond.methodLink "ThresholdSealLaw" 95 yL_recover ∈ lw_tbl := List.mem_append_right _ (List.mem_of_getElem? (i := 546) (by decide +kernel))
theorem wt_L_recover : Cond.static yL_recover ∈ lw_tbl := List.mem_append_right _ (List.mem_of_getElem? (i := 547) (by decide +kernel))
theorem wc_L_recover : Cond.codeWith yL_recover method_10_code 4 (Option.some ClassFile.FieldType.int) [(0, 8, 11, 13), (0, 8, 14, 15)] ∈ lw_tbl := List.mem_append_right _ (List.mem_of_getElem? (i := 548) (by decide +kernel))
theorem wm_L_39 : Cond.methodLink "ThresholdSealLaw" 39 yS_recover ∈ lw_tbl := List.mem_append_right _ (List.mem_of_getElem? (i := 549) (by decide +kernel))
theorem wi_S_recover : Cond.instanceMethod yS_recover ∈ lw_tbl := List.mem_append_right _ (List.mem_of_getElem? (i := 550) (by decide +kernel))
theorem ws_S_S_recover : Cond.selects "ThresholdSeal" yS_recover yS_recover ∈ lw_tbl := List.mem_append_right _ (List.mem_of_getElem? (i := 551) (by decide +kernel))
theorem wc_S_recover : Cond.code yS_recover prog_1_method_11_code 7 (Option.some ClassFile.FieldType.long) ∈ lw_tbl := List.mem_append_right _ (List.mem_of_getElem? (i := 552) (by decide +kernel))
theorem wm_S_165 : Cond.methodLink "ThresholdSeal" 165 yI_weightIn ∈ lw_tbl := List.mem_append_right _ (List.mem_of_getElem? (i := 553) (by decide +kernel))
theorem wm_S_169 : Cond.methodLink "ThresholdSeal" 169 yN_times ∈ lw_tbl := List.mem_append_right _ (List.mem_of_getElem? (i := 554) (by decide +kernel))
theorem wl_L_51 : Cond.classLink "ThresholdSealLaw" 51 "ThresholdSealModel" ∈ lw_tbl := List.mem_append_right _ (List.mem_of_getElem? (i := 555) (by decide +kernel))
theorem wz_M : Cond.instantiable "ThresholdSealModel" 25 ∈ lw_tbl := List.mem_append_right _ (List.mem_of_getElem? (i := 556) (by decide +kernel))
theorem wm_L_53 : Cond.methodLink "ThresholdSealLaw" 53 yM_init ∈ lw_tbl := List.mem_append_right _ (List.mem_of_getElem? (i := 557) (by decide +kernel))
theorem wi_M_init : Cond.instanceMethod yM_init ∈ lw_tbl := List.mem_append_right _ (List.mem_of_getElem? (i := 558) (by decide +kernel))
theorem wc_M_init : Cond.code yM_init prog_10_method_1_code 3 (Option.none : Option ClassFile.FieldType) ∈ lw_tbl := List.mem_append_right _ (List.mem_of_getElem? (i := 559) (by decide +kernel))
theorem wm_M_1 : Cond.methodLink "ThresholdSealModel" 1 yJO_init ∈ lw_tbl := List.mem_append_right _ (List.mem_of_getElem? (i := 560) (by decide +kernel))
theorem wf_M_63 : Cond.fieldLink "ThresholdSealModel" 63 "ThresholdSealModel" "thrown" "I" ∈ lw_tbl := List.mem_append_right _ (List.mem_of_getElem? (i := 561) (by decide +kernel))
theorem wf_M_56 : Cond.fieldLink "ThresholdSealModel" 56 "ThresholdSealModel" "signers" "I" ∈ lw_tbl := List.mem_append_right _ (List.mem_of_getElem? (i := 562) (by decide +kernel))
theorem wf_M_60 : Cond.fieldLink "ThresholdSealModel" 60 "ThresholdSealModel" "enough" "I" ∈ lw_tbl := List.mem_append_right _ (List.mem_of_getElem? (i := 563) (by decide +kernel))
theorem wf_M_103 : Cond.fieldLink "ThresholdSealModel" 103 "ThresholdSealModel" "dealt" "Z" ∈ lw_tbl := List.mem_append_right _ (List.mem_of_getElem? (i := 564) (by decide +kernel))
theorem wf_M_7 : Cond.fieldLink "ThresholdSealModel" 7 "ThresholdSealModel" "secrets" "[J" ∈ lw_tbl := List.mem_append_right _ (List.mem_of_getElem? (i := 565) (by decide +kernel))
theorem wf_M_13 : Cond.fieldLink "ThresholdSealModel" 13 "ThresholdSealModel" "keys" "[J" ∈ lw_tbl := List.mem_append_right _ (List.mem_of_getElem? (i := 566) (by decide +kernel))
theorem wf_M_16 : Cond.fieldLink "ThresholdSealModel" 16 "ThresholdSealModel" "open" "[Z" ∈ lw_tbl := List.mem_append_right _ (List.mem_of_getElem? (i := 567) (by decide +kernel))
theorem wf_M_20 : Cond.fieldLink "ThresholdSealModel" 20 "ThresholdSealModel" "firstNumber" "[J" ∈ lw_tbl := List.mem_append_right _ (List.mem_of_getElem? (i := 568) (by decide +kernel))
theorem wf_M_23 : Cond.fieldLink "ThresholdSealModel" 23 "ThresholdSealModel" "secondNumber" "[J" ∈ lw_tbl := List.mem_append_right _ (List.mem_of_getElem? (i := 569) (by decide +kernel))
theorem wf_M_26 : Cond.fieldLink "ThresholdSealModel" 26 "ThresholdSealModel" "firstElement" "[J" ∈ lw_tbl := List.mem_append_right _ (List.mem_of_getElem? (i := 570) (by decide +kernel))
theorem wf_M_29 : Cond.fieldLink "ThresholdSealModel" 29 "ThresholdSealModel" "secondElement" "[J" ∈ lw_tbl := List.mem_append_right _ (List.mem_of_getElem? (i := 571) (by decide +kernel))
theorem wf_M_107 : Cond.fieldLink "ThresholdSealModel" 107 "ThresholdSealModel" "session" "I" ∈ lw_tbl := List.mem_append_right _ (List.mem_of_getElem? (i := 572) (by decide +kernel))
theorem wf_M_132 : Cond.fieldLink "ThresholdSealModel" 132 "ThresholdSealModel" "all" "J" ∈ lw_tbl := List.mem_append_right _ (List.mem_of_getElem? (i := 573) (by decide +kernel))
theorem wf_M_147 : Cond.fieldLink "ThresholdSealModel" 147 "ThresholdSealModel" "challenged" "J" ∈ lw_tbl := List.mem_append_right _ (List.mem_of_getElem? (i := 574) (by decide +kernel))
theorem wf_M_32 : Cond.fieldLink "ThresholdSealModel" 32 "ThresholdSealModel" "firstThen" "[J" ∈ lw_tbl := List.mem_append_right _ (List.mem_of_getElem? (i := 575) (by decide +kernel))
theorem wf_M_35 : Cond.fieldLink "ThresholdSealModel" 35 "ThresholdSealModel" "secondThen" "[J" ∈ lw_tbl := List.mem_append_right _ (List.mem_of_getElem? (i := 576) (by decide +kernel))
theorem wf_M_38 : Cond.fieldLink "ThresholdSealModel" 38 "ThresholdSealModel" "factors" "[J" ∈ lw_tbl := List.mem_append_right _ (List.mem_of_getElem? (i := 577) (by decide +kernel))
theorem wf_M_41 : Cond.fieldLink "ThresholdSealModel" 41 "ThresholdSealModel" "weights" "[J" ∈ lw_tbl := List.mem_append_right _ (List.mem_of_getElem? (i := 578) (by decide +kernel))
theorem wf_M_44 : Cond.fieldLink "ThresholdSealModel" 44 "ThresholdSealModel" "still" "[Z" ∈ lw_tbl := List.mem_append_right _ (List.mem_of_getElem? (i := 579) (by decide +kernel))
theorem wf_M_47 : Cond.fieldLink "ThresholdSealModel" 47 "ThresholdSealModel" "made" "[Z" ∈ lw_tbl := List.mem_append_right _ (List.mem_of_getElem? (i := 580) (by decide +kernel))
theorem wf_M_50 : Cond.fieldLink "ThresholdSealModel" 50 "ThresholdSealModel" "shares" "[J" ∈ lw_tbl := List.mem_append_right _ (List.mem_of_getElem? (i := 581) (by decide +kernel))
theorem wf_M_53 : Cond.fieldLink "ThresholdSealModel" 53 "ThresholdSealModel" "told" "[J" ∈ lw_tbl := List.mem_append_right _ (List.mem_of_getElem? (i := 582) (by decide +kernel))
theorem wf_M_110 : Cond.fieldLink "ThresholdSealModel" 110 "ThresholdSealModel" "takenNow" "I" ∈ lw_tbl := List.mem_append_right _ (List.mem_of_getElem? (i := 583) (by decide +kernel))
theorem wf_M_113 : Cond.fieldLink "ThresholdSealModel" 113 "ThresholdSealModel" "blamedNow" "I" ∈ lw_tbl := List.mem_append_right _ (List.mem_of_getElem? (i := 584) (by decide +kernel))
theorem wf_M_70 : Cond.fieldLink "ThresholdSealModel" 70 "ThresholdSealModel" "mixed" "J" ∈ lw_tbl := List.mem_append_right _ (List.mem_of_getElem? (i := 585) (by decide +kernel))
theorem wy_M_thrown : Cond.lays "ThresholdSealModel" "ThresholdSealModel" "thrown" "I" ∈ lw_tbl := List.mem_append_right _ (List.mem_of_getElem? (i := 586) (by decide +kernel))
theorem wx_587 : Cond.soleField "ThresholdSealModel" "thrown" ∈ lw_tbl := List.mem_append_right _ (List.mem_of_getElem? (i := 587) (by decide +kernel))
theorem wy_M_signers : Cond.laysFinal "ThresholdSealModel" "ThresholdSealModel" "signers" "I" ∈ lw_tbl := List.mem_append_right _ (List.mem_of_getElem? (i := 588) (by decide +kernel))
theorem wx_589 : Cond.soleField "ThresholdSealModel" "signers" ∈ lw_tbl := List.mem_append_right _ (List.mem_of_getElem? (i := 589) (by decide +kernel))
theorem wy_M_enough : Cond.laysFinal "ThresholdSealModel" "ThresholdSealModel" "enough" "I" ∈ lw_tbl := List.mem_append_right _ (List.mem_of_getElem? (i := 590) (by decide +kernel))
theorem wx_591 : Cond.soleField "ThresholdSealModel" "enough" ∈ lw_tbl := List.mem_append_right _ (List.mem_of_getElem? (i := 591) (by decide +kernel))
theorem wy_M_dealt : Cond.lays "ThresholdSealModel" "ThresholdSealModel" "dealt" "Z" ∈ lw_tbl := List.mem_append_right _ (List.mem_of_getElem? (i := 592) (by decide +kernel))
theorem wx_593 : Cond.soleField "ThresholdSealModel" "dealt" ∈ lw_tbl := List.mem_append_right _ (List.mem_of_getElem? (i := 593) (by decide +kernel))
theorem wy_M_secrets : Cond.laysFinal "ThresholdSealModel" "ThresholdSealModel" "secrets" "[J" ∈ lw_tbl := List.mem_append_right _ (List.mem_of_getElem? (i := 594) (by decide +kernel))
theorem wx_595 : Cond.soleField "ThresholdSealModel" "secrets" ∈ lw_tbl := List.mem_append_right _ (List.mem_of_getElem? (i := 595) (by decide +kernel))
theorem wy_M_keys : Cond.laysFinal "ThresholdSealModel" "ThresholdSealModel" "keys" "[J" ∈ lw_tbl := List.mem_append_right _ (List.mem_of_getElem? (i := 596) (by decide +kernel))
theorem wx_597 : Cond.soleField "ThresholdSealModel" "keys" ∈ lw_tbl := List.mem_append_right _ (List.mem_of_getElem? (i := 597) (by decide +kernel))
theorem wy_M_open : Cond.laysFinal "ThresholdSealModel" "ThresholdSealModel" "open" "[Z" ∈ lw_tbl := List.mem_append_right _ (List.mem_of_getElem? (i := 598) (by decide +kernel))
theorem wx_599 : Cond.soleField "ThresholdSealModel" "open" ∈ lw_tbl := List.mem_append_right _ (List.mem_of_getElem? (i := 599) (by decide +kernel))
theorem wy_M_firstNumber : Cond.laysFinal "ThresholdSealModel" "ThresholdSealModel" "firstNumber" "[J" ∈ lw_tbl := List.mem_append_right _ (List.mem_of_getElem? (i := 600) (by decide +kernel))
theorem wx_601 : Cond.soleField "ThresholdSealModel" "firstNumber" ∈ lw_tbl := List.mem_append_right _ (List.mem_of_getElem? (i := 601) (by decide +kernel))
theorem wy_M_secondNumber : Cond.laysFinal "ThresholdSealModel" "ThresholdSealModel" "secondNumber" "[J" ∈ lw_tbl := List.mem_append_right _ (List.mem_of_getElem? (i := 602) (by decide +kernel))
theorem wx_603 : Cond.soleField "ThresholdSealModel" "secondNumber" ∈ lw_tbl := List.mem_append_right _ (List.mem_of_getElem? (i := 603) (by decide +kernel))
theorem wy_M_firstElement : Cond.laysFinal "ThresholdSealModel" "ThresholdSealModel" "firstElement" "[J" ∈ lw_tbl := List.mem_append_right _ (List.mem_of_getElem? (i := 604) (by decide +kernel))
theorem wx_605 : Cond.soleField "ThresholdSealModel" "firstElement" ∈ lw_tbl := List.mem_append_right _ (List.mem_of_getElem? (i := 605) (by decide +kernel))
theorem wy_M_secondElement : Cond.laysFinal "ThresholdSealModel" "ThresholdSealModel" "secondElement" "[J" ∈ lw_tbl := List.mem_append_right _ (List.mem_of_getElem? (i := 606) (by decide +kernel))
theorem wx_607 : Cond.soleField "ThresholdSealModel" "secondElement" ∈ lw_tbl := List.mem_append_right _ (List.mem_of_getElem? (i := 607) (by decide +kernel))
theorem wy_M_session : Cond.lays "ThresholdSealModel" "ThresholdSealModel" "session" "I" ∈ lw_tbl := List.mem_append_right _ (List.mem_of_getElem? (i := 608) (by decide +kernel))
theorem wx_609 : Cond.soleField "ThresholdSealModel" "session" ∈ lw_tbl := List.mem_append_right _ (List.mem_of_getElem? (i := 609) (by decide +kernel))
theorem wy_M_all : Cond.lays "ThresholdSealModel" "ThresholdSealModel" "all" "J" ∈ lw_tbl := List.mem_append_right _ (List.mem_of_getElem? (i := 610) (by decide +kernel))
theorem wx_611 : Cond.soleField "ThresholdSealModel" "all" ∈ lw_tbl := List.mem_append_right _ (List.mem_of_getElem? (i := 611) (by decide +kernel))
theorem wy_M_challenged : Cond.lays "ThresholdSealModel" "ThresholdSealModel" "challenged" "J" ∈ lw_tbl := List.mem_append_right _ (List.mem_of_getElem? (i := 612) (by decide +kernel))
theorem wx_613 : Cond.soleField "ThresholdSealModel" "challenged" ∈ lw_tbl := List.mem_append_right _ (List.mem_of_getElem? (i := 613) (by decide +kernel))
theorem wy_M_firstThen : Cond.laysFinal "ThresholdSealModel" "ThresholdSealModel" "firstThen" "[J" ∈ lw_tbl := List.mem_append_right _ (List.mem_of_getElem? (i := 614) (by decide +kernel))
theorem wx_615 : Cond.soleField "ThresholdSealModel" "firstThen" ∈ lw_tbl := List.mem_append_right _ (List.mem_of_getElem? (i := 615) (by decide +kernel))
theorem wy_M_secondThen : Cond.laysFinal "ThresholdSealModel" "ThresholdSealModel" "secondThen" "[J" ∈ lw_tbl := List.mem_append_right _ (List.mem_of_getElem? (i := 616) (by decide +kernel))
theorem wx_617 : Cond.soleField "ThresholdSealModel" "secondThen" ∈ lw_tbl := List.mem_append_right _ (List.mem_of_getElem? (i := 617) (by decide +kernel))
theorem wy_M_factors : Cond.laysFinal "ThresholdSealModel" "ThresholdSealModel" "factors" "[J" ∈ lw_tbl := List.mem_append_right _ (List.mem_of_getElem? (i := 618) (by decide +kernel))
theorem wx_619 : Cond.soleField "ThresholdSealModel" "factors" ∈ lw_tbl := List.mem_append_right _ (List.mem_of_getElem? (i := 619) (by decide +kernel))
theorem wy_M_weights : Cond.laysFinal "ThresholdSealModel" "ThresholdSealModel" "weights" "[J" ∈ lw_tbl := List.mem_append_right _ (List.mem_of_getElem? (i := 620) (by decide +kernel))
theorem wx_621 : Cond.soleField "ThresholdSealModel" "weights" ∈ lw_tbl := List.mem_append_right _ (List.mem_of_getElem? (i := 621) (by decide +kernel))
theorem wy_M_still : Cond.laysFinal "ThresholdSealModel" "ThresholdSealModel" "still" "[Z" ∈ lw_tbl := List.mem_append_right _ (List.mem_of_getElem? (i := 622) (by decide +kernel))
theorem wx_623 : Cond.soleField "ThresholdSealModel" "still" ∈ lw_tbl := List.mem_append_right _ (List.mem_of_getElem? (i := 623) (by decide +kernel))
theorem wy_M_made : Cond.laysFinal "ThresholdSealModel" "ThresholdSealModel" "made" "[Z" ∈ lw_tbl := List.mem_append_right _ (List.mem_of_getElem? (i := 624) (by decide +kernel))
theorem wx_625 : Cond.soleField "ThresholdSealModel" "made" ∈ lw_tbl := List.mem_append_right _ (List.mem_of_getElem? (i := 625) (by decide +kernel))
theorem wy_M_shares : Cond.laysFinal "ThresholdSealModel" "ThresholdSealModel" "shares" "[J" ∈ lw_tbl := List.mem_append_right _ (List.mem_of_getElem? (i := 626) (by decide +kernel))
theorem wx_627 : Cond.soleField "ThresholdSealModel" "shares" ∈ lw_tbl := List.mem_append_right _ (List.mem_of_getElem? (i := 627) (by decide +kernel))
theorem wy_M_told : Cond.laysFinal "ThresholdSealModel" "ThresholdSealModel" "told" "[J" ∈ lw_tbl := List.mem_append_right _ (List.mem_of_getElem? (i := 628) (by decide +kernel))
theorem wx_629 : Cond.soleField "ThresholdSealModel" "told" ∈ lw_tbl := List.mem_append_right _ (List.mem_of_getElem? (i := 629) (by decide +kernel))
theorem wy_M_takenNow : Cond.lays "ThresholdSealModel" "ThresholdSealModel" "takenNow" "I" ∈ lw_tbl := List.mem_append_right _ (List.mem_of_getElem? (i := 630) (by decide +kernel))
theorem wx_631 : Cond.soleField "ThresholdSealModel" "takenNow" ∈ lw_tbl := List.mem_append_right _ (List.mem_of_getElem? (i := 631) (by decide +kernel))
theorem wy_M_blamedNow : Cond.lays "ThresholdSealModel" "ThresholdSealModel" "blamedNow" "I" ∈ lw_tbl := List.mem_append_right _ (List.mem_of_getElem? (i := 632) (by decide +kernel))
theorem wx_633 : Cond.soleField "ThresholdSealModel" "blamedNow" ∈ lw_tbl := List.mem_append_right _ (List.mem_of_getElem? (i := 633) (by decide +kernel))
theorem wy_M_mixed : Cond.lays "ThresholdSealModel" "ThresholdSealModel" "mixed" "J" ∈ lw_tbl := List.mem_append_right _ (List.mem_of_getElem? (i := 634) (by decide +kernel))
theorem wx_635 : Cond.soleField "ThresholdSealModel" "mixed" ∈ lw_tbl := List.mem_append_right _ (List.mem_of_getElem? (i := 635) (by decide +kernel))
theorem wx_636 : Cond.superclass "ThresholdSealModel" "java/lang/Object" ∈ lw_tbl := List.mem_append_right _ (List.mem_of_getElem? (i := 636) (by decide +kernel))
theorem wa_boolean : Cond.arrayClass ClassFile.FieldType.boolean ∈ lw_tbl := List.mem_append_right _ (List.mem_of_getElem? (i := 637) (by decide +kernel))
theorem wm_L_65 : Cond.methodLink "ThresholdSealLaw" 65 yM_thrown ∈ lw_tbl := List.mem_append_right _ (List.mem_of_getElem? (i := 638) (by decide +kernel))
theorem wi_M_thrown : Cond.instanceMethod yM_thrown ∈ lw_tbl := List.mem_append_right _ (List.mem_of_getElem? (i := 639) (by decide +kernel))
theorem ws_M_M_thrown : Cond.selects "ThresholdSealModel" yM_thrown yM_thrown ∈ lw_tbl := List.mem_append_right _ (List.mem_of_getElem? (i := 640) (by decide +kernel))
theorem wc_M_thrown : Cond.code yM_thrown prog_10_method_2_code 1 (Option.some ClassFile.FieldType.int) ∈ lw_tbl := List.mem_append_right _ (List.mem_of_getElem? (i := 641) (by decide +kernel))
theorem wm_L_60 : Cond.methodLink "ThresholdSealLaw" 60 yM_deal ∈ lw_tbl := List.mem_append_right _ (List.mem_of_getElem? (i := 642) (by decide +kernel))
theorem wi_M_deal : Cond.instanceMethod yM_deal ∈ lw_tbl := List.mem_append_right _ (List.mem_of_getElem? (i := 643) (by decide +kernel))
theorem ws_M_M_deal : Cond.selects "ThresholdSealModel" yM_deal yM_deal ∈ lw_tbl := List.mem_append_right _ (List.mem_of_getElem? (i := 644) (by decide +kernel))
theorem wc_M_deal : Cond.code yM_deal prog_10_method_14_code 9 (Option.some ClassFile.FieldType.long) ∈ lw_tbl := List.mem_append_right _ (List.mem_of_getElem? (i := 645) (by decide +kernel))
theorem wm_M_80 : Cond.methodLink "ThresholdSealModel" 80 yM_begins ∈ lw_tbl := List.mem_append_right _ (List.mem_of_getElem? (i := 646) (by decide +kernel))
theorem wv_M_begins : Cond.privateMethod yM_begins ∈ lw_tbl := List.mem_append_right _ (List.mem_of_getElem? (i := 647) (by decide +kernel))
theorem wi_M_begins : Cond.instanceMethod yM_begins ∈ lw_tbl := List.mem_append_right _ (List.mem_of_getElem? (i := 648) (by decide +kernel))
theorem wc_M_begins : Cond.code yM_begins prog_10_method_5_code 3 (Option.none : Option ClassFile.FieldType) ∈ lw_tbl := List.mem_append_right _ (List.mem_of_getElem? (i := 649) (by decide +kernel))
theorem wm_M_74 : Cond.methodLink "ThresholdSealModel" 74 yM_mix ∈ lw_tbl := List.mem_append_right _ (List.mem_of_getElem? (i := 650) (by decide +kernel))
theorem wv_M_mix : Cond.privateMethod yM_mix ∈ lw_tbl := List.mem_append_right _ (List.mem_of_getElem? (i := 651) (by decide +kernel))
theorem wi_M_mix : Cond.instanceMethod yM_mix ∈ lw_tbl := List.mem_append_right _ (List.mem_of_getElem? (i := 652) (by decide +kernel))
theorem wc_M_mix : Cond.code yM_mix prog_10_method_6_code 5 (Option.none : Option ClassFile.FieldType) ∈ lw_tbl := List.mem_append_right _ (List.mem_of_getElem? (i := 653) (by decide +kernel))
theorem wk_M_78 : Cond.constantLong "ThresholdSealModel" 78 (-7046029254386353131 : Int64) ∈ lw_tbl := List.mem_append_right _ (List.mem_of_getElem? (i := 654) (by decide +kernel))
theorem wm_M_83 : Cond.methodLink "ThresholdSealModel" 83 yM_digest ∈ lw_tbl := List.mem_append_right _ (List.mem_of_getElem? (i := 655) (by decide +kernel))
theorem wv_M_digest : Cond.privateMethod yM_digest ∈ lw_tbl := List.mem_append_right _ (List.mem_of_getElem? (i := 656) (by decide +kernel))
theorem wi_M_digest : Cond.instanceMethod yM_digest ∈ lw_tbl := List.mem_append_right _ (List.mem_of_getElem? (i := 657) (by decide +kernel))
theorem wc_M_digest : Cond.code yM_digest prog_10_method_7_code 1 (Option.some ClassFile.FieldType.long) ∈ lw_tbl := List.mem_append_right _ (List.mem_of_getElem? (i := 658) (by decide +kernel))
theorem wk_M_68 : Cond.constantLong "ThresholdSealModel" 68 (1073741789 : Int64) ∈ lw_tbl := List.mem_append_right _ (List.mem_of_getElem? (i := 659) (by decide +kernel))
theorem wk_M_99 : Cond.constantLong "ThresholdSealModel" 99 (4 : Int64) ∈ lw_tbl := List.mem_append_right _ (List.mem_of_getElem? (i := 660) (by decide +kernel))
theorem wk_M_101 : Cond.constantLong "ThresholdSealModel" 101 (2147483579 : Int64) ∈ lw_tbl := List.mem_append_right _ (List.mem_of_getElem? (i := 661) (by decide +kernel))
theorem wm_M_95 : Cond.methodLink "ThresholdSealModel" 95 yM_power ∈ lw_tbl := List.mem_append_right _ (List.mem_of_getElem? (i := 662) (by decide +kernel))
theorem wt_M_power : Cond.static yM_power ∈ lw_tbl := List.mem_append_right _ (List.mem_of_getElem? (i := 663) (by decide +kernel))
theorem wc_M_power : Cond.code yM_power prog_10_method_3_code 11 (Option.some ClassFile.FieldType.long) ∈ lw_tbl := List.mem_append_right _ (List.mem_of_getElem? (i := 664) (by decide +kernel))
theorem wk_M_66 : Cond.constantLong "ThresholdSealModel" 66 (3 : Int64) ∈ lw_tbl := List.mem_append_right _ (List.mem_of_getElem? (i := 665) (by decide +kernel))
theorem wm_L_64 : Cond.methodLink "ThresholdSealLaw" 64 yM_commit ∈ lw_tbl := List.mem_append_right _ (List.mem_of_getElem? (i := 666) (by decide +kernel))
theorem wi_M_commit : Cond.instanceMethod yM_commit ∈ lw_tbl := List.mem_append_right _ (List.mem_of_getElem? (i := 667) (by decide +kernel))
theorem ws_M_M_commit : Cond.selects "ThresholdSealModel" yM_commit yM_commit ∈ lw_tbl := List.mem_append_right _ (List.mem_of_getElem? (i := 668) (by decide +kernel))
theorem wc_M_commit : Cond.code yM_commit prog_10_method_15_code 4 (Option.some ClassFile.FieldType.long) ∈ lw_tbl := List.mem_append_right _ (List.mem_of_getElem? (i := 669) (by decide +kernel))
theorem wm_M_116 : Cond.methodLink "ThresholdSealModel" 116 yM_isSigner ∈ lw_tbl := List.mem_append_right _ (List.mem_of_getElem? (i := 670) (by decide +kernel))
theorem wv_M_isSigner : Cond.privateMethod yM_isSigner ∈ lw_tbl := List.mem_append_right _ (List.mem_of_getElem? (i := 671) (by decide +kernel))
theorem wi_M_isSigner : Cond.instanceMethod yM_isSigner ∈ lw_tbl := List.mem_append_right _ (List.mem_of_getElem? (i := 672) (by decide +kernel))
theorem wc_M_isSigner : Cond.code yM_isSigner prog_10_method_10_code 2 (Option.some ClassFile.FieldType.boolean) ∈ lw_tbl := List.mem_append_right _ (List.mem_of_getElem? (i := 673) (by decide +kernel))
theorem wk_M_120 : Cond.constantLong "ThresholdSealModel" 120 (2 : Int64) ∈ lw_tbl := List.mem_append_right _ (List.mem_of_getElem? (i := 674) (by decide +kernel))
theorem wm_M_122 : Cond.methodLink "ThresholdSealModel" 122 yM_pairNumber ∈ lw_tbl := List.mem_append_right _ (List.mem_of_getElem? (i := 675) (by decide +kernel))
theorem wv_M_pairNumber : Cond.privateMethod yM_pairNumber ∈ lw_tbl := List.mem_append_right _ (List.mem_of_getElem? (i := 676) (by decide +kernel))
theorem wi_M_pairNumber : Cond.instanceMethod yM_pairNumber ∈ lw_tbl := List.mem_append_right _ (List.mem_of_getElem? (i := 677) (by decide +kernel))
theorem wc_M_pairNumber : Cond.code yM_pairNumber prog_10_method_8_code 6 (Option.some ClassFile.FieldType.long) ∈ lw_tbl := List.mem_append_right _ (List.mem_of_getElem? (i := 678) (by decide +kernel))
theorem wm_L_71 : Cond.methodLink "ThresholdSealLaw" 71 yM_begin ∈ lw_tbl := List.mem_append_right _ (List.mem_of_getElem? (i := 679) (by decide +kernel))
theorem wi_M_begin : Cond.instanceMethod yM_begin ∈ lw_tbl := List.mem_append_right _ (List.mem_of_getElem? (i := 680) (by decide +kernel))
theorem ws_M_M_begin : Cond.selects "ThresholdSealModel" yM_begin yM_begin ∈ lw_tbl := List.mem_append_right _ (List.mem_of_getElem? (i := 681) (by decide +kernel))
theorem wc_M_begin : Cond.code yM_begin prog_10_method_18_code 5 (Option.some ClassFile.FieldType.long) ∈ lw_tbl := List.mem_append_right _ (List.mem_of_getElem? (i := 682) (by decide +kernel))
theorem wm_M_126 : Cond.methodLink "ThresholdSealModel" 126 yM_isSet ∈ lw_tbl := List.mem_append_right _ (List.mem_of_getElem? (i := 683) (by decide +kernel))
theorem wv_M_isSet : Cond.privateMethod yM_isSet ∈ lw_tbl := List.mem_append_right _ (List.mem_of_getElem? (i := 684) (by decide +kernel))
theorem wi_M_isSet : Cond.instanceMethod yM_isSet ∈ lw_tbl := List.mem_append_right _ (List.mem_of_getElem? (i := 685) (by decide +kernel))
theorem wc_M_isSet : Cond.code yM_isSet prog_10_method_12_code 4 (Option.some ClassFile.FieldType.boolean) ∈ lw_tbl := List.mem_append_right _ (List.mem_of_getElem? (i := 686) (by decide +kernel))
theorem wm_M_89 : Cond.methodLink "ThresholdSealModel" 89 yM_in ∈ lw_tbl := List.mem_append_right _ (List.mem_of_getElem? (i := 687) (by decide +kernel))
theorem wt_M_in : Cond.static yM_in ∈ lw_tbl := List.mem_append_right _ (List.mem_of_getElem? (i := 688) (by decide +kernel))
theorem wc_M_in : Cond.code yM_in prog_10_method_11_code 2 (Option.some ClassFile.FieldType.boolean) ∈ lw_tbl := List.mem_append_right _ (List.mem_of_getElem? (i := 689) (by decide +kernel))
theorem wm_M_129 : Cond.methodLink "ThresholdSealModel" 129 yM_allOpen ∈ lw_tbl := List.mem_append_right _ (List.mem_of_getElem? (i := 690) (by decide +kernel))
theorem wv_M_allOpen : Cond.privateMethod yM_allOpen ∈ lw_tbl := List.mem_append_right _ (List.mem_of_getElem? (i := 691) (by decide +kernel))
theorem wi_M_allOpen : Cond.instanceMethod yM_allOpen ∈ lw_tbl := List.mem_append_right _ (List.mem_of_getElem? (i := 692) (by decide +kernel))
theorem wc_M_allOpen : Cond.code yM_allOpen prog_10_method_16_code 4 (Option.some ClassFile.FieldType.boolean) ∈ lw_tbl := List.mem_append_right _ (List.mem_of_getElem? (i := 693) (by decide +kernel))
theorem wm_M_135 : Cond.methodLink "ThresholdSealModel" 135 yM_factorOf ∈ lw_tbl := List.mem_append_right _ (List.mem_of_getElem? (i := 694) (by decide +kernel))
theorem wv_M_factorOf : Cond.privateMethod yM_factorOf ∈ lw_tbl := List.mem_append_right _ (List.mem_of_getElem? (i := 695) (by decide +kernel))
theorem wi_M_factorOf : Cond.instanceMethod yM_factorOf ∈ lw_tbl := List.mem_append_right _ (List.mem_of_getElem? (i := 696) (by decide +kernel))
theorem wc_M_factorOf : Cond.code yM_factorOf prog_10_method_17_code 6 (Option.some ClassFile.FieldType.long) ∈ lw_tbl := List.mem_append_right _ (List.mem_of_getElem? (i := 697) (by decide +kernel))
theorem wm_M_139 : Cond.methodLink "ThresholdSealModel" 139 yM_weightIn ∈ lw_tbl := List.mem_append_right _ (List.mem_of_getElem? (i := 698) (by decide +kernel))
theorem wv_M_weightIn : Cond.privateMethod yM_weightIn ∈ lw_tbl := List.mem_append_right _ (List.mem_of_getElem? (i := 699) (by decide +kernel))
theorem wi_M_weightIn : Cond.instanceMethod yM_weightIn ∈ lw_tbl := List.mem_append_right _ (List.mem_of_getElem? (i := 700) (by decide +kernel))
theorem wc_M_weightIn : Cond.code yM_weightIn prog_10_method_13_code 8 (Option.some ClassFile.FieldType.long) ∈ lw_tbl := List.mem_append_right _ (List.mem_of_getElem? (i := 701) (by decide +kernel))
theorem wk_M_93 : Cond.constantLong "ThresholdSealModel" 93 (1073741787 : Int64) ∈ lw_tbl := List.mem_append_right _ (List.mem_of_getElem? (i := 702) (by decide +kernel))
theorem wm_M_143 : Cond.methodLink "ThresholdSealModel" 143 yM_challengeOf ∈ lw_tbl := List.mem_append_right _ (List.mem_of_getElem? (i := 703) (by decide +kernel))
theorem wv_M_challengeOf : Cond.privateMethod yM_challengeOf ∈ lw_tbl := List.mem_append_right _ (List.mem_of_getElem? (i := 704) (by decide +kernel))
theorem wi_M_challengeOf : Cond.instanceMethod yM_challengeOf ∈ lw_tbl := List.mem_append_right _ (List.mem_of_getElem? (i := 705) (by decide +kernel))
theorem wc_M_challengeOf : Cond.code yM_challengeOf prog_10_method_9_code 5 (Option.some ClassFile.FieldType.long) ∈ lw_tbl := List.mem_append_right _ (List.mem_of_getElem? (i := 706) (by decide +kernel))
theorem wk_M_87 : Cond.constantLong "ThresholdSealModel" 87 (5 : Int64) ∈ lw_tbl := List.mem_append_right _ (List.mem_of_getElem? (i := 707) (by decide +kernel))
theorem wm_L_75 : Cond.methodLink "ThresholdSealLaw" 75 yM_sign ∈ lw_tbl := List.mem_append_right _ (List.mem_of_getElem? (i := 708) (by decide +kernel))
theorem wi_M_sign : Cond.instanceMethod yM_sign ∈ lw_tbl := List.mem_append_right _ (List.mem_of_getElem? (i := 709) (by decide +kernel))
theorem ws_M_M_sign : Cond.selects "ThresholdSealModel" yM_sign yM_sign ∈ lw_tbl := List.mem_append_right _ (List.mem_of_getElem? (i := 710) (by decide +kernel))
theorem wc_M_sign : Cond.code yM_sign prog_10_method_20_code 6 (Option.some ClassFile.FieldType.long) ∈ lw_tbl := List.mem_append_right _ (List.mem_of_getElem? (i := 711) (by decide +kernel))
theorem wm_M_150 : Cond.methodLink "ThresholdSealModel" 150 yM_isMember ∈ lw_tbl := List.mem_append_right _ (List.mem_of_getElem? (i := 712) (by decide +kernel))
theorem wv_M_isMember : Cond.privateMethod yM_isMember ∈ lw_tbl := List.mem_append_right _ (List.mem_of_getElem? (i := 713) (by decide +kernel))
theorem wi_M_isMember : Cond.instanceMethod yM_isMember ∈ lw_tbl := List.mem_append_right _ (List.mem_of_getElem? (i := 714) (by decide +kernel))
theorem wc_M_isMember : Cond.code yM_isMember prog_10_method_19_code 2 (Option.some ClassFile.FieldType.boolean) ∈ lw_tbl := List.mem_append_right _ (List.mem_of_getElem? (i := 715) (by decide +kernel))
theorem wm_L_78 : Cond.methodLink "ThresholdSealLaw" 78 yM_submit ∈ lw_tbl := List.mem_append_right _ (List.mem_of_getElem? (i := 716) (by decide +kernel))
theorem wi_M_submit : Cond.instanceMethod yM_submit ∈ lw_tbl := List.mem_append_right _ (List.mem_of_getElem? (i := 717) (by decide +kernel))
theorem ws_M_M_submit : Cond.selects "ThresholdSealModel" yM_submit yM_submit ∈ lw_tbl := List.mem_append_right _ (List.mem_of_getElem? (i := 718) (by decide +kernel))
theorem wc_M_submit : Cond.code yM_submit prog_10_method_22_code 4 (Option.some ClassFile.FieldType.boolean) ∈ lw_tbl := List.mem_append_right _ (List.mem_of_getElem? (i := 719) (by decide +kernel))
theorem wm_M_153 : Cond.methodLink "ThresholdSealModel" 153 yM_isNumber ∈ lw_tbl := List.mem_append_right _ (List.mem_of_getElem? (i := 720) (by decide +kernel))
theorem wt_M_isNumber : Cond.static yM_isNumber ∈ lw_tbl := List.mem_append_right _ (List.mem_of_getElem? (i := 721) (by decide +kernel))
theorem wc_M_isNumber : Cond.code yM_isNumber prog_10_method_4_code 2 (Option.some ClassFile.FieldType.boolean) ∈ lw_tbl := List.mem_append_right _ (List.mem_of_getElem? (i := 722) (by decide +kernel))
theorem wm_M_157 : Cond.methodLink "ThresholdSealModel" 157 yM_tell ∈ lw_tbl := List.mem_append_right _ (List.mem_of_getElem? (i := 723) (by decide +kernel))
theorem wv_M_tell : Cond.privateMethod yM_tell ∈ lw_tbl := List.mem_append_right _ (List.mem_of_getElem? (i := 724) (by decide +kernel))
theorem wi_M_tell : Cond.instanceMethod yM_tell ∈ lw_tbl := List.mem_append_right _ (List.mem_of_getElem? (i := 725) (by decide +kernel))
theorem wc_M_tell : Cond.code yM_tell prog_10_method_21_code 9 (Option.some ClassFile.FieldType.boolean) ∈ lw_tbl := List.mem_append_right _ (List.mem_of_getElem? (i := 726) (by decide +kernel))
theorem wm_L_81 : Cond.methodLink "ThresholdSealLaw" 81 yM_relay ∈ lw_tbl := List.mem_append_right _ (List.mem_of_getElem? (i := 727) (by decide +kernel))
theorem wi_M_relay : Cond.instanceMethod yM_relay ∈ lw_tbl := List.mem_append_right _ (List.mem_of_getElem? (i := 728) (by decide +kernel))
theorem ws_M_M_relay : Cond.selects "ThresholdSealModel" yM_relay yM_relay ∈ lw_tbl := List.mem_append_right _ (List.mem_of_getElem? (i := 729) (by decide +kernel))
theorem wc_M_relay : Cond.code yM_relay prog_10_method_23_code 4 (Option.some ClassFile.FieldType.boolean) ∈ lw_tbl := List.mem_append_right _ (List.mem_of_getElem? (i := 730) (by decide +kernel))
theorem wm_L_85 : Cond.methodLink "ThresholdSealLaw" 85 yM_seal ∈ lw_tbl := List.mem_append_right _ (List.mem_of_getElem? (i := 731) (by decide +kernel))
theorem wi_M_seal : Cond.instanceMethod yM_seal ∈ lw_tbl := List.mem_append_right _ (List.mem_of_getElem? (i := 732) (by decide +kernel))
theorem ws_M_M_seal : Cond.selects "ThresholdSealModel" yM_seal yM_seal ∈ lw_tbl := List.mem_append_right _ (List.mem_of_getElem? (i := 733) (by decide +kernel))
theorem wc_M_seal : Cond.code yM_seal prog_10_method_26_code 1 (Option.some ClassFile.FieldType.long) ∈ lw_tbl := List.mem_append_right _ (List.mem_of_getElem? (i := 734) (by decide +kernel))
theorem wm_M_161 : Cond.methodLink "ThresholdSealModel" 161 yM_isWhole ∈ lw_tbl := List.mem_append_right _ (List.mem_of_getElem? (i := 735) (by decide +kernel))
theorem wv_M_isWhole : Cond.privateMethod yM_isWhole ∈ lw_tbl := List.mem_append_right _ (List.mem_of_getElem? (i := 736) (by decide +kernel))
theorem wi_M_isWhole : Cond.instanceMethod yM_isWhole ∈ lw_tbl := List.mem_append_right _ (List.mem_of_getElem? (i := 737) (by decide +kernel))
theorem wc_M_isWhole : Cond.code yM_isWhole prog_10_method_24_code 1 (Option.some ClassFile.FieldType.boolean) ∈ lw_tbl := List.mem_append_right _ (List.mem_of_getElem? (i := 738) (by decide +kernel))
theorem wm_M_165 : Cond.methodLink "ThresholdSealModel" 165 yM_sum ∈ lw_tbl := List.mem_append_right _ (List.mem_of_getElem? (i := 739) (by decide +kernel))
theorem wv_M_sum : Cond.privateMethod yM_sum ∈ lw_tbl := List.mem_append_right _ (List.mem_of_getElem? (i := 740) (by decide +kernel))
theorem wi_M_sum : Cond.instanceMethod yM_sum ∈ lw_tbl := List.mem_append_right _ (List.mem_of_getElem? (i := 741) (by decide +kernel))
theorem wc_M_sum : Cond.code yM_sum prog_10_method_25_code 4 (Option.some ClassFile.FieldType.long) ∈ lw_tbl := List.mem_append_right _ (List.mem_of_getElem? (i := 742) (by decide +kernel))
theorem wm_L_90 : Cond.methodLink "ThresholdSealLaw" 90 yM_check ∈ lw_tbl := List.mem_append_right _ (List.mem_of_getElem? (i := 743) (by decide +kernel))
theorem wi_M_check : Cond.instanceMethod yM_check ∈ lw_tbl := List.mem_append_right _ (List.mem_of_getElem? (i := 744) (by decide +kernel))
theorem ws_M_M_check : Cond.selects "ThresholdSealModel" yM_check yM_check ∈ lw_tbl := List.mem_append_right _ (List.mem_of_getElem? (i := 745) (by decide +kernel))
theorem wc_M_check : Cond.code yM_check prog_10_method_28_code 7 (Option.some ClassFile.FieldType.boolean) ∈ lw_tbl := List.mem_append_right _ (List.mem_of_getElem? (i := 746) (by decide +kernel))
theorem wm_M_168 : Cond.methodLink "ThresholdSealModel" 168 yM_isSealOf ∈ lw_tbl := List.mem_append_right _ (List.mem_of_getElem? (i := 747) (by decide +kernel))
theorem wv_M_isSealOf : Cond.privateMethod yM_isSealOf ∈ lw_tbl := List.mem_append_right _ (List.mem_of_getElem? (i := 748) (by decide +kernel))
theorem wi_M_isSealOf : Cond.instanceMethod yM_isSealOf ∈ lw_tbl := List.mem_append_right _ (List.mem_of_getElem? (i := 749) (by decide +kernel))
theorem wc_M_isSealOf : Cond.code yM_isSealOf prog_10_method_27_code 9 (Option.some ClassFile.FieldType.boolean) ∈ lw_tbl := List.mem_append_right _ (List.mem_of_getElem? (i := 750) (by decide +kernel))
theorem wm_L_94 : Cond.methodLink "ThresholdSealLaw" 94 yM_holds ∈ lw_tbl := List.mem_append_right _ (List.mem_of_getElem? (i := 751) (by decide +kernel))
theorem wi_M_holds : Cond.instanceMethod yM_holds ∈ lw_tbl := List.mem_append_right _ (List.mem_of_getElem? (i := 752) (by decide +kernel))
theorem ws_M_M_holds : Cond.selects "ThresholdSealModel" yM_holds yM_holds ∈ lw_tbl := List.mem_append_right _ (List.mem_of_getElem? (i := 753) (by decide +kernel))
theorem wc_M_holds : Cond.code yM_holds prog_10_method_29_code 5 (Option.some ClassFile.FieldType.boolean) ∈ lw_tbl := List.mem_append_right _ (List.mem_of_getElem? (i := 754) (by decide +kernel))
theorem wm_L_97 : Cond.methodLink "ThresholdSealLaw" 97 yM_recover ∈ lw_tbl := List.mem_append_right _ (List.mem_of_getElem? (i := 755) (by decide +kernel))
theorem wi_M_recover : Cond.instanceMethod yM_recover ∈ lw_tbl := List.mem_append_right _ (List.mem_of_getElem? (i := 756) (by decide +kernel))
theorem ws_M_M_recover : Cond.selects "ThresholdSealModel" yM_recover yM_recover ∈ lw_tbl := List.mem_append_right _ (List.mem_of_getElem? (i := 757) (by decide +kernel))
theorem wc_M_recover : Cond.code yM_recover prog_10_method_30_code 7 (Option.some ClassFile.FieldType.long) ∈ lw_tbl := List.mem_append_right _ (List.mem_of_getElem? (i := 758) (by decide +kernel))
theorem wm_L_101 : Cond.methodLink "ThresholdSealLaw" 101 yM_key ∈ lw_tbl := List.mem_append_right _ (List.mem_of_getElem? (i := 759) (by decide +kernel))
theorem wi_M_key : Cond.instanceMethod yM_key ∈ lw_tbl := List.mem_append_right _ (List.mem_of_getElem? (i := 760) (by decide +kernel))
theorem ws_M_M_key : Cond.selects "ThresholdSealModel" yM_key yM_key ∈ lw_tbl := List.mem_append_right _ (List.mem_of_getElem? (i := 761) (by decide +kernel))
theorem wc_M_key : Cond.code yM_key prog_10_method_31_code 2 (Option.some ClassFile.FieldType.long) ∈ lw_tbl := List.mem_append_right _ (List.mem_of_getElem? (i := 762) (by decide +kernel))
theorem wk_M_172 : Cond.constantLong "ThresholdSealModel" 172 (-1 : Int64) ∈ lw_tbl := List.mem_append_right _ (List.mem_of_getElem? (i := 763) (by decide +kernel))
theorem wm_L_105 : Cond.methodLink "ThresholdSealLaw" 105 yM_secret ∈ lw_tbl := List.mem_append_right _ (List.mem_of_getElem? (i := 764) (by decide +kernel))
theorem wi_M_secret : Cond.instanceMethod yM_secret ∈ lw_tbl := List.mem_append_right _ (List.mem_of_getElem? (i := 765) (by decide +kernel))
theorem ws_M_M_secret : Cond.selects "ThresholdSealModel" yM_secret yM_secret ∈ lw_tbl := List.mem_append_right _ (List.mem_of_getElem? (i := 766) (by decide +kernel))
theorem wc_M_secret : Cond.code yM_secret prog_10_method_32_code 2 (Option.some ClassFile.FieldType.long) ∈ lw_tbl := List.mem_append_right _ (List.mem_of_getElem? (i := 767) (by decide +kernel))
theorem wm_L_110 : Cond.methodLink "ThresholdSealLaw" 110 yM_commitment ∈ lw_tbl := List.mem_append_right _ (List.mem_of_getElem? (i := 768) (by decide +kernel))
theorem wi_M_commitment : Cond.instanceMethod yM_commitment ∈ lw_tbl := List.mem_append_right _ (List.mem_of_getElem? (i := 769) (by decide +kernel))
theorem ws_M_M_commitment : Cond.selects "ThresholdSealModel" yM_commitment yM_commitment ∈ lw_tbl := List.mem_append_right _ (List.mem_of_getElem? (i := 770) (by decide +kernel))
theorem wc_M_commitment : Cond.code yM_commitment prog_10_method_33_code 3 (Option.some ClassFile.FieldType.long) ∈ lw_tbl := List.mem_append_right _ (List.mem_of_getElem? (i := 771) (by decide +kernel))
theorem wm_L_114 : Cond.methodLink "ThresholdSealLaw" 114 yM_factor ∈ lw_tbl := List.mem_append_right _ (List.mem_of_getElem? (i := 772) (by decide +kernel))
theorem wi_M_factor : Cond.instanceMethod yM_factor ∈ lw_tbl := List.mem_append_right _ (List.mem_of_getElem? (i := 773) (by decide +kernel))
theorem ws_M_M_factor : Cond.selects "ThresholdSealModel" yM_factor yM_factor ∈ lw_tbl := List.mem_append_right _ (List.mem_of_getElem? (i := 774) (by decide +kernel))
theorem wc_M_factor : Cond.code yM_factor prog_10_method_34_code 2 (Option.some ClassFile.FieldType.long) ∈ lw_tbl := List.mem_append_right _ (List.mem_of_getElem? (i := 775) (by decide +kernel))
theorem wm_L_118 : Cond.methodLink "ThresholdSealLaw" 118 yM_weight ∈ lw_tbl := List.mem_append_right _ (List.mem_of_getElem? (i := 776) (by decide +kernel))
theorem wi_M_weight : Cond.instanceMethod yM_weight ∈ lw_tbl := List.mem_append_right _ (List.mem_of_getElem? (i := 777) (by decide +kernel))
theorem ws_M_M_weight : Cond.selects "ThresholdSealModel" yM_weight yM_weight ∈ lw_tbl := List.mem_append_right _ (List.mem_of_getElem? (i := 778) (by decide +kernel))
theorem wc_M_weight : Cond.code yM_weight prog_10_method_35_code 2 (Option.some ClassFile.FieldType.long) ∈ lw_tbl := List.mem_append_right _ (List.mem_of_getElem? (i := 779) (by decide +kernel))
theorem wm_L_122 : Cond.methodLink "ThresholdSealLaw" 122 yM_challenge ∈ lw_tbl := List.mem_append_right _ (List.mem_of_getElem? (i := 780) (by decide +kernel))
theorem wi_M_challenge : Cond.instanceMethod yM_challenge ∈ lw_tbl := List.mem_append_right _ (List.mem_of_getElem? (i := 781) (by decide +kernel))
theorem ws_M_M_challenge : Cond.selects "ThresholdSealModel" yM_challenge yM_challenge ∈ lw_tbl := List.mem_append_right _ (List.mem_of_getElem? (i := 782) (by decide +kernel))
theorem wc_M_challenge : Cond.code yM_challenge prog_10_method_36_code 1 (Option.some ClassFile.FieldType.long) ∈ lw_tbl := List.mem_append_right _ (List.mem_of_getElem? (i := 783) (by decide +kernel))
theorem wm_L_126 : Cond.methodLink "ThresholdSealLaw" 126 yM_members ∈ lw_tbl := List.mem_append_right _ (List.mem_of_getElem? (i := 784) (by decide +kernel))
theorem wi_M_members : Cond.instanceMethod yM_members ∈ lw_tbl := List.mem_append_right _ (List.mem_of_getElem? (i := 785) (by decide +kernel))
theorem ws_M_M_members : Cond.selects "ThresholdSealModel" yM_members yM_members ∈ lw_tbl := List.mem_append_right _ (List.mem_of_getElem? (i := 786) (by decide +kernel))
theorem wc_M_members : Cond.code yM_members prog_10_method_37_code 1 (Option.some ClassFile.FieldType.int) ∈ lw_tbl := List.mem_append_right _ (List.mem_of_getElem? (i := 787) (by decide +kernel))
theorem wm_L_130 : Cond.methodLink "ThresholdSealLaw" 130 yM_taken ∈ lw_tbl := List.mem_append_right _ (List.mem_of_getElem? (i := 788) (by decide +kernel))
theorem wi_M_taken : Cond.instanceMethod yM_taken ∈ lw_tbl := List.mem_append_right _ (List.mem_of_getElem? (i := 789) (by decide +kernel))
theorem ws_M_M_taken : Cond.selects "ThresholdSealModel" yM_taken yM_taken ∈ lw_tbl := List.mem_append_right _ (List.mem_of_getElem? (i := 790) (by decide +kernel))
theorem wc_M_taken : Cond.code yM_taken prog_10_method_38_code 1 (Option.some ClassFile.FieldType.int) ∈ lw_tbl := List.mem_append_right _ (List.mem_of_getElem? (i := 791) (by decide +kernel))
theorem wm_L_134 : Cond.methodLink "ThresholdSealLaw" 134 yM_blamed ∈ lw_tbl := List.mem_append_right _ (List.mem_of_getElem? (i := 792) (by decide +kernel))
theorem wi_M_blamed : Cond.instanceMethod yM_blamed ∈ lw_tbl := List.mem_append_right _ (List.mem_of_getElem? (i := 793) (by decide +kernel))
theorem ws_M_M_blamed : Cond.selects "ThresholdSealModel" yM_blamed yM_blamed ∈ lw_tbl := List.mem_append_right _ (List.mem_of_getElem? (i := 794) (by decide +kernel))
theorem wc_M_blamed : Cond.code yM_blamed prog_10_method_39_code 1 (Option.some ClassFile.FieldType.int) ∈ lw_tbl := List.mem_append_right _ (List.mem_of_getElem? (i := 795) (by decide +kernel))
theorem wk_L_54 : Cond.constantLong "ThresholdSealLaw" 54 (4294967295 : Int64) ∈ lw_tbl := List.mem_append_right _ (List.mem_of_getElem? (i := 796) (by decide +kernel))
theorem wx_797 : Cond.sameMethod "java/lang/Throwable" "java/lang/Throwable" "fillInStackTrace" "(I)Ljava/lang/Throwable;" ∈ lw_tbl := List.mem_append_right _ (List.mem_of_getElem? (i := 797) (by decide +kernel))

