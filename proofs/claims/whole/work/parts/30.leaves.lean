/-! leaves: numbers, elements, digests, sets of signers -/
def xb (P : Prop) [Decidable P] : Int32 := if P then 1 else 0
theorem xb_t {P : Prop} [Decidable P] (h : P) : xb P = 1 := if_pos h
theorem xb_f {P : Prop} [Decidable P] (h : ¬ P) : xb P = 0 := if_neg h
theorem xb_eq0 {P : Prop} [Decidable P] : xb P = 0 ↔ ¬ P := by unfold xb; by_cases h : P <;> simp [h]
theorem xb_nar (P : Prop) [Decidable P] : narrow .boolean (.int (xb P)) = .int (xb P) := by unfold xb; by_cases h : P <;> simp [h] <;> decide
/-- a digest: one long more -/
def dg_m (h x : Int64) : Int64 := ((h ^^^ x) * (-7046029254386353131)) ^^^ (((h ^^^ x) * (-7046029254386353131)).toUInt64 >>> ((nI 31).toInt64.toUInt64 &&& Int64.toUInt64 63)).toInt64
def dg_f (h : Int64) : Nat := h.toBitVec.toNat / 2 % 1073741789
theorem dg_fin (h : Int64) : (h.toUInt64 >>> ((nI 1).toInt64.toUInt64 &&& Int64.toUInt64 63)).toInt64 - (h.toUInt64 >>> ((nI 1).toInt64.toUInt64 &&& Int64.toUInt64 63)).toInt64 / 1073741789 * 1073741789 = lN (dg_f h) := by
  obtain ⟨n, hn, rfl⟩ := wb_of h
  rw [wb_shr (k := 1) hn (by decide), tq_rem (by omega)]
  unfold dg_f
  rw [wb_tn hn]
theorem dg_f_lt (h : Int64) : dg_f h < 1073741789 := Nat.mod_lt _ (by decide)
set_option maxHeartbeats 4000000 in
set_option maxRecDepth 100000 in
theorem p_N_times (g : xw_G) (l : Launch) {a b : Nat} (ha : a < 2 ^ 31) (hb : b < 2 ^ 31) (hp : List va_E) : xm_R g l true m_N_times [.long (lN a), .long (lN b)] hp (some (.long (lN (a * b % 1073741789)))) hp := by
  refine xm_of [some (.long (lN a)), none, some (.long (lN b)), none] rfl (Nat.le_of_ble_eq_true rfl) rfl ?_
  intro p e s m args below meth c C hr hk
  refine xa_lload_n C dN_times_0 rfl ?_
  refine xa_lload_n C dN_times_1 rfl ?_
  refine xa_lmul C dN_times_2 ?_
  refine xa_ldc2 C (xw_in wk_N_9 rfl) dN_times_3 ?_
  refine xa_lrem C dN_times_6 (by decide) ?_
  rw [tq_mul ha hb]; exact xa_lret C hr hk dN_times_7
set_option maxHeartbeats 4000000 in
set_option maxRecDepth 100000 in
theorem p_N_plus (g : xw_G) (l : Launch) {a b : Nat} (ha : a < 2 ^ 31) (hb : b < 2 ^ 31) (hp : List va_E) : xm_R g l true m_N_plus [.long (lN a), .long (lN b)] hp (some (.long (lN ((a + b) % 1073741789)))) hp := by
  refine xm_of [some (.long (lN a)), none, some (.long (lN b)), none] rfl (Nat.le_of_ble_eq_true rfl) rfl ?_
  intro p e s m args below meth c C hr hk
  refine xa_lload_n C dN_plus_0 rfl ?_
  refine xa_lload_n C dN_plus_1 rfl ?_
  refine xa_ladd C dN_plus_2 ?_
  refine xa_ldc2 C (xw_in wk_N_9 rfl) dN_plus_3 ?_
  refine xa_lrem C dN_plus_6 (by decide) ?_
  rw [tq_add (a := a) (b := b) (by omega) (by omega)]; exact xa_lret C hr hk dN_plus_7
set_option maxHeartbeats 4000000 in
set_option maxRecDepth 100000 in
theorem p_N_minus (g : xw_G) (l : Launch) {a b : Nat} (ha : a < 2 ^ 31) (hb : b ≤ 1073741789) (hp : List va_E) : xm_R g l true m_N_minus [.long (lN a), .long (lN b)] hp (some (.long (lN ((a + 1073741789 - b) % 1073741789)))) hp := by
  refine xm_of [some (.long (lN a)), none, some (.long (lN b)), none] rfl (Nat.le_of_ble_eq_true rfl) rfl ?_
  intro p e s m args below meth c C hr hk
  refine xa_lload_n C dN_minus_0 rfl ?_
  refine xa_ldc2 C (xw_in wk_N_9 rfl) dN_minus_1 ?_
  refine xa_ladd C dN_minus_4 ?_
  refine xa_lload_n C dN_minus_5 rfl ?_
  refine xa_lsub C dN_minus_6 ?_
  refine xa_ldc2 C (xw_in wk_N_9 rfl) dN_minus_7 ?_
  refine xa_lrem C dN_minus_10 (by decide) ?_
  rw [show (1073741789 : Int64) = lN 1073741789 from rfl, lN_add, lN_sub (a := a + 1073741789) (b := b) (by omega), pk_lRem (a := a + 1073741789 - b) (b := 1073741789) (by omega) (by decide) (by decide)]; exact xa_lret C hr hk dN_minus_11
set_option maxHeartbeats 4000000 in
set_option maxRecDepth 100000 in
theorem p_E_times (g : xw_G) (l : Launch) {a b : Nat} (ha : a < 2 ^ 31) (hb : b < 2 ^ 31) (hp : List va_E) : xm_R g l true m_E_times [.long (lN a), .long (lN b)] hp (some (.long (lN (a * b % 2147483579)))) hp := by
  refine xm_of [some (.long (lN a)), none, some (.long (lN b)), none] rfl (Nat.le_of_ble_eq_true rfl) rfl ?_
  intro p e s m args below meth c C hr hk
  refine xa_lload_n C dE_times_0 rfl ?_
  refine xa_lload_n C dE_times_1 rfl ?_
  refine xa_lmul C dE_times_2 ?_
  refine xa_ldc2 C (xw_in wk_E_9 rfl) dE_times_3 ?_
  refine xa_lrem C dE_times_6 (by decide) ?_
  rw [tp_mul ha hb]; exact xa_lret C hr hk dE_times_7
set_option maxHeartbeats 4000000 in
set_option maxRecDepth 100000 in
theorem p_G_mix (g : xw_G) (l : Launch) (x y : Int64) (hp : List va_E) : xm_R g l true m_G_mix [.long x, .long y] hp (some (.long (dg_m x y))) hp := by
  refine xm_of [some (.long x), none, some (.long y), none, none, none] rfl (Nat.le_of_ble_eq_true rfl) rfl ?_
  intro p e s m args below meth c C hr hk
  refine xa_lload_n C dG_mix_0 rfl ?_
  refine xa_lload_n C dG_mix_1 rfl ?_
  refine xa_lxor C dG_mix_2 ?_
  refine xa_ldc2 C (xw_in wk_G_9 rfl) dG_mix_3 ?_
  refine xa_lmul C dG_mix_6 ?_
  refine xa_lstore C dG_mix_7 (Nat.le_of_ble_eq_true rfl) ?_
  refine xa_lload C dG_mix_9 rfl ?_
  refine xa_lload C dG_mix_11 rfl ?_
  refine xa_bpN C 31 dG_mix_13 (by decide) ?_
  refine xa_lushr C dG_mix_15 ?_
  refine xa_lxor C dG_mix_16 ?_
  exact xa_lret C hr hk dG_mix_17
set_option maxHeartbeats 4000000 in
set_option maxRecDepth 100000 in
theorem p_G_finish (g : xw_G) (l : Launch) (x : Int64) (hp : List va_E) : xm_R g l true m_G_finish [.long x] hp (some (.long (lN (dg_f x)))) hp := by
  refine xm_of [some (.long x), none] rfl (Nat.le_of_ble_eq_true rfl) rfl ?_
  intro p e s m args below meth c C hr hk
  refine xa_lload_n C dG_finish_0 rfl ?_
  refine xa_icN C 1 dG_finish_1 ?_
  refine xa_lushr C dG_finish_2 ?_
  refine xa_ldc2 C (xw_in wk_G_13 rfl) dG_finish_3 ?_
  refine xa_lrem C dG_finish_6 (by decide) ?_
  rw [dg_fin]; exact xa_lret C hr hk dG_finish_7
set_option maxHeartbeats 4000000 in
set_option maxRecDepth 100000 in
theorem p_G_ofThree (g : xw_G) (l : Launch) (x y z : Int64) (hp : List va_E) : xm_R g l true m_G_ofThree [.long x, .long y, .long z] hp (some (.long (lN (dg_f (dg_m (dg_m (dg_m 0 x) y) z))))) hp := by
  refine xm_of [some (.long x), none, some (.long y), none, some (.long z), none] rfl (Nat.le_of_ble_eq_true rfl) rfl ?_
  intro p e s m args below meth c C hr hk
  refine xa_lcN C 0 dG_ofThree_0 ?_
  refine xa_lload_n C dG_ofThree_1 rfl ?_
  refine xa_callS1 C (p_G_mix g l _ _ _) b_G_15 (xw_in wt_G_mix rfl) dG_ofThree_2 rfl (Nat.le_of_ble_eq_true rfl) ⟨Nat.le_of_ble_eq_true rfl, Nat.le_of_ble_eq_true rfl⟩ ⟨Nat.zero_le _, Nat.zero_le _⟩ ?_
  refine xa_lload_n C dG_ofThree_5 rfl ?_
  refine xa_callS1 C (p_G_mix g l _ _ _) b_G_15 (xw_in wt_G_mix rfl) dG_ofThree_6 rfl (Nat.le_of_ble_eq_true rfl) ⟨Nat.le_of_ble_eq_true rfl, Nat.le_of_ble_eq_true rfl⟩ ⟨Nat.zero_le _, Nat.zero_le _⟩ ?_
  refine xa_lload C dG_ofThree_9 rfl ?_
  refine xa_callS1 C (p_G_mix g l _ _ _) b_G_15 (xw_in wt_G_mix rfl) dG_ofThree_11 rfl (Nat.le_of_ble_eq_true rfl) ⟨Nat.le_of_ble_eq_true rfl, Nat.le_of_ble_eq_true rfl⟩ ⟨Nat.zero_le _, Nat.zero_le _⟩ ?_
  refine xa_callS1 C (p_G_finish g l _ _) b_G_19 (xw_in wt_G_finish rfl) dG_ofThree_14 rfl (Nat.le_of_ble_eq_true rfl) ⟨Nat.le_of_ble_eq_true rfl, Nat.le_of_ble_eq_true rfl⟩ ⟨Nat.zero_le _, Nat.zero_le _⟩ ?_
  exact xa_lret C hr hk dG_ofThree_17
set_option maxHeartbeats 4000000 in
set_option maxRecDepth 100000 in
theorem p_G_ofSeal (g : xw_G) (l : Launch) (x y z : Int64) (hp : List va_E) : xm_R g l true m_G_ofSeal [.long x, .long y, .long z] hp (some (.long (lN (dg_f (dg_m (dg_m (dg_m (dg_m 0 5) x) y) z))))) hp := by
  refine xm_of [some (.long x), none, some (.long y), none, some (.long z), none] rfl (Nat.le_of_ble_eq_true rfl) rfl ?_
  intro p e s m args below meth c C hr hk
  refine xa_lcN C 0 dG_ofSeal_0 ?_
  refine xa_ldc2 C (xw_in wk_G_23 rfl) dG_ofSeal_1 ?_
  refine xa_callS1 C (p_G_mix g l _ _ _) b_G_15 (xw_in wt_G_mix rfl) dG_ofSeal_4 rfl (Nat.le_of_ble_eq_true rfl) ⟨Nat.le_of_ble_eq_true rfl, Nat.le_of_ble_eq_true rfl⟩ ⟨Nat.zero_le _, Nat.zero_le _⟩ ?_
  refine xa_lload_n C dG_ofSeal_7 rfl ?_
  refine xa_callS1 C (p_G_mix g l _ _ _) b_G_15 (xw_in wt_G_mix rfl) dG_ofSeal_8 rfl (Nat.le_of_ble_eq_true rfl) ⟨Nat.le_of_ble_eq_true rfl, Nat.le_of_ble_eq_true rfl⟩ ⟨Nat.zero_le _, Nat.zero_le _⟩ ?_
  refine xa_lload_n C dG_ofSeal_11 rfl ?_
  refine xa_callS1 C (p_G_mix g l _ _ _) b_G_15 (xw_in wt_G_mix rfl) dG_ofSeal_12 rfl (Nat.le_of_ble_eq_true rfl) ⟨Nat.le_of_ble_eq_true rfl, Nat.le_of_ble_eq_true rfl⟩ ⟨Nat.zero_le _, Nat.zero_le _⟩ ?_
  refine xa_lload C dG_ofSeal_15 rfl ?_
  refine xa_callS1 C (p_G_mix g l _ _ _) b_G_15 (xw_in wt_G_mix rfl) dG_ofSeal_17 rfl (Nat.le_of_ble_eq_true rfl) ⟨Nat.le_of_ble_eq_true rfl, Nat.le_of_ble_eq_true rfl⟩ ⟨Nat.zero_le _, Nat.zero_le _⟩ ?_
  refine xa_callS1 C (p_G_finish g l _ _) b_G_19 (xw_in wt_G_finish rfl) dG_ofSeal_20 rfl (Nat.le_of_ble_eq_true rfl) ⟨Nat.le_of_ble_eq_true rfl, Nat.le_of_ble_eq_true rfl⟩ ⟨Nat.zero_le _, Nat.zero_le _⟩ ?_
  exact xa_lret C hr hk dG_ofSeal_23
set_option maxHeartbeats 4000000 in
set_option maxRecDepth 100000 in
theorem p_I_only (g : xw_G) (l : Launch) (i : Int32) (hp : List va_E) : xm_R g l true m_I_only [.int i] hp (some (.int (nI 1 <<< ((i - nI 1) &&& 31)))) hp := by
  refine xm_of [some (.int i)] rfl (Nat.le_of_ble_eq_true rfl) rfl ?_
  intro p e s m args below meth c C hr hk
  refine xa_icN C 1 dI_only_0 ?_
  refine xa_iload_n C dI_only_1 rfl ?_
  refine xa_icN C 1 dI_only_2 ?_
  refine xa_isub C dI_only_3 ?_
  refine xa_ishl C dI_only_4 ?_
  exact xa_iret C hr hk dI_only_5
set_option maxHeartbeats 4000000 in
set_option maxRecDepth 100000 in
theorem p_N_isNumber (g : xw_G) (l : Launch) (x : Int64) (hp : List va_E) : xm_R g l true m_N_isNumber [.long x] hp (some (.int (xb (0 ≤ x ∧ x < 1073741789)))) hp := by
  refine xm_of [some (.long x), none] rfl (Nat.le_of_ble_eq_true rfl) rfl ?_
  intro p e s m args below meth c C hr hk
  refine xa_lload_n C dN_isNumber_0 rfl ?_
  refine xa_lcN C 0 dN_isNumber_1 ?_
  refine xa_lcmp C dN_isNumber_2 ?_
  refine xa_if_lt C dN_isNumber_3 (tgt := 18) rfl (fun h3 => ?_) (fun h3 => ?_)
  · refine xa_icN C 0 dN_isNumber_18 ?_
    exact xa_eq rfl (congrArg (fun z => [Value.int z]) (xb_f (P := 0 ≤ x ∧ x < 1073741789) (by simp only [lg_cmp_lt, lg_cmp_ge, Int64.not_lt, Int64.not_le] at *; intro q; first | exact absurd q.1 (Int64.not_le.mpr (by assumption)) | exact absurd q.2 (Int64.not_lt.mpr (by assumption)))).symm) rfl (xa_zret C hr hk (xb_nar _) dN_isNumber_19)
  · refine xa_lload_n C dN_isNumber_6 rfl ?_
    refine xa_ldc2 C (xw_in wk_N_9 rfl) dN_isNumber_7 ?_
    refine xa_lcmp C dN_isNumber_10 ?_
    refine xa_if_ge C dN_isNumber_11 (tgt := 18) rfl (fun h11 => ?_) (fun h11 => ?_)
    · refine xa_icN C 0 dN_isNumber_18 ?_
      exact xa_eq rfl (congrArg (fun z => [Value.int z]) (xb_f (P := 0 ≤ x ∧ x < 1073741789) (by simp only [lg_cmp_lt, lg_cmp_ge, Int64.not_lt, Int64.not_le] at *; intro q; first | exact absurd q.1 (Int64.not_le.mpr (by assumption)) | exact absurd q.2 (Int64.not_lt.mpr (by assumption)))).symm) rfl (xa_zret C hr hk (xb_nar _) dN_isNumber_19)
    · refine xa_icN C 1 dN_isNumber_14 ?_
      refine xa_goto C dN_isNumber_15 (tgt := 19) rfl ?_
      exact xa_eq rfl (congrArg (fun z => [Value.int z]) (xb_t (P := 0 ≤ x ∧ x < 1073741789) (by simp only [lg_cmp_lt, lg_cmp_ge, Int64.not_lt, Int64.not_le] at *; exact ⟨by assumption, by assumption⟩)).symm) rfl (xa_zret C hr hk (xb_nar _) dN_isNumber_19)
set_option maxHeartbeats 4000000 in
set_option maxRecDepth 100000 in
theorem p_E_isElement (g : xw_G) (l : Launch) (x : Int64) (hp : List va_E) : xm_R g l true m_E_isElement [.long x] hp (some (.int (xb (1 ≤ x ∧ x < 2147483579)))) hp := by
  refine xm_of [some (.long x), none] rfl (Nat.le_of_ble_eq_true rfl) rfl ?_
  intro p e s m args below meth c C hr hk
  refine xa_lload_n C dE_isElement_0 rfl ?_
  refine xa_lcN C 1 dE_isElement_1 ?_
  refine xa_lcmp C dE_isElement_2 ?_
  refine xa_if_lt C dE_isElement_3 (tgt := 18) rfl (fun h3 => ?_) (fun h3 => ?_)
  · refine xa_icN C 0 dE_isElement_18 ?_
    exact xa_eq rfl (congrArg (fun z => [Value.int z]) (xb_f (P := 1 ≤ x ∧ x < 2147483579) (by simp only [lg_cmp_lt, lg_cmp_ge, Int64.not_lt, Int64.not_le] at *; intro q; first | exact absurd q.1 (Int64.not_le.mpr (by assumption)) | exact absurd q.2 (Int64.not_lt.mpr (by assumption)))).symm) rfl (xa_zret C hr hk (xb_nar _) dE_isElement_19)
  · refine xa_lload_n C dE_isElement_6 rfl ?_
    refine xa_ldc2 C (xw_in wk_E_9 rfl) dE_isElement_7 ?_
    refine xa_lcmp C dE_isElement_10 ?_
    refine xa_if_ge C dE_isElement_11 (tgt := 18) rfl (fun h11 => ?_) (fun h11 => ?_)
    · refine xa_icN C 0 dE_isElement_18 ?_
      exact xa_eq rfl (congrArg (fun z => [Value.int z]) (xb_f (P := 1 ≤ x ∧ x < 2147483579) (by simp only [lg_cmp_lt, lg_cmp_ge, Int64.not_lt, Int64.not_le] at *; intro q; first | exact absurd q.1 (Int64.not_le.mpr (by assumption)) | exact absurd q.2 (Int64.not_lt.mpr (by assumption)))).symm) rfl (xa_zret C hr hk (xb_nar _) dE_isElement_19)
    · refine xa_icN C 1 dE_isElement_14 ?_
      refine xa_goto C dE_isElement_15 (tgt := 19) rfl ?_
      exact xa_eq rfl (congrArg (fun z => [Value.int z]) (xb_t (P := 1 ≤ x ∧ x < 2147483579) (by simp only [lg_cmp_lt, lg_cmp_ge, Int64.not_lt, Int64.not_le] at *; exact ⟨by assumption, by assumption⟩)).symm) rfl (xa_zret C hr hk (xb_nar _) dE_isElement_19)
set_option maxHeartbeats 4000000 in
set_option maxRecDepth 100000 in
theorem p_I_has (g : xw_G) (l : Launch) (x i : Int32) (hp : List va_E) : xm_R g l true m_I_has [.int x, .int i] hp (some (.int (xb (¬ x &&& (nI 1 <<< ((i - nI 1) &&& 31)) = 0)))) hp := by
  refine xm_of [some (.int x), some (.int i)] rfl (Nat.le_of_ble_eq_true rfl) rfl ?_
  intro p e s m args below meth c C hr hk
  refine xa_iload_n C dI_has_0 rfl ?_
  refine xa_iload_n C dI_has_1 rfl ?_
  refine xa_callS1 C (p_I_only g l _ _) b_I_7 (xw_in wt_I_only rfl) dI_has_2 rfl (Nat.le_of_ble_eq_true rfl) ⟨Nat.le_of_ble_eq_true rfl, Nat.le_of_ble_eq_true rfl⟩ ⟨Nat.zero_le _, Nat.zero_le _⟩ ?_
  refine xa_iand C dI_has_5 ?_
  refine xa_if_eq C dI_has_6 (tgt := 13) rfl (fun h6 => ?_) (fun h6 => ?_)
  · refine xa_icN C 0 dI_has_13 ?_
    exact xa_eq rfl (congrArg (fun z => [Value.int z]) (xb_f (P := ¬ x &&& (nI 1 <<< ((i - nI 1) &&& 31)) = 0) (fun q => q h6)).symm) rfl (xa_zret C hr hk (xb_nar _) dI_has_14)
  · refine xa_icN C 1 dI_has_9 ?_
    refine xa_goto C dI_has_10 (tgt := 14) rfl ?_
    exact xa_eq rfl (congrArg (fun z => [Value.int z]) (xb_t (P := ¬ x &&& (nI 1 <<< ((i - nI 1) &&& 31)) = 0) (h6)).symm) rfl (xa_zret C hr hk (xb_nar _) dI_has_14)
