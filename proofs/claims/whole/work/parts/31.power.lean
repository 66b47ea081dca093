/-! the two powers of the class -/
theorem xi_m1 (x : Int32) : x + Int32.ofInt (-1) = x - 1 := by rw [Int32.sub_eq_add_neg]; rfl
set_option maxHeartbeats 4000000 in
set_option maxRecDepth 100000 in
theorem p_E_power (g : xw_G) (l : Launch) {x n : Nat} (hx : x < 2 ^ 31) (hn : n < 2 ^ 30) (hp : List va_E) : xm_R g l true m_E_power [.long (lN x), .long (lN n)] hp (some (.long (lN (x ^ n % 2147483579)))) hp := by
  refine xm_of [some (.long (lN x)), none, some (.long (lN n)), none, none, none, none] rfl (Nat.le_of_ble_eq_true rfl) rfl ?_
  intro p e s m args below meth c C hr hk
  have loop : ∀ k : Nat, k ≤ 30 → xw_At g true 7 p l e (xm_rm m_E_power 0) s m args below meth c 0 0 (MQ below (xm_Q g true (some (.long (lN (x ^ n % 2147483579)))) hp) args s 0 0 (xm_fr g true)) 7 [some (.long (lN x)), none, some (.long (lN n)), none, some (.long (lN (x ^ (n / 2 ^ k) % 2147483579))), none, some (.int (nI k - 1))] [] hp := by
    intro k
    induction k with
    | zero =>
      intro _
      refine xa_iload C dE_power_7 rfl ?_
      refine xa_if_lt C dE_power_9 (tgt := 46) rfl (fun h9 => ?_) (fun h9 => ?_)
      · refine xa_lload C dE_power_46 rfl ?_
        rw [Nat.pow_zero, Nat.div_one]
        exact xa_lret C hr hk dE_power_48
      · exact absurd (by decide) h9
    | succ k ih =>
      intro hk30
      rw [nI_pred k]
      refine xa_iload C dE_power_7 rfl ?_
      refine xa_if_lt C dE_power_9 (tgt := 46) rfl (fun h9 => ?_) (fun h9 => ?_)
      · exact absurd h9 (nI_pos (by omega))
      · refine xa_lload C dE_power_12 rfl ?_
        refine xa_lload C dE_power_14 rfl ?_
        refine xa_callS1 C (p_E_times g l (tb_p _) (by first | exact tb_p _ | exact hx) hp) b_E_13 (xw_in wt_E_times rfl) dE_power_16 rfl (Nat.le_of_ble_eq_true rfl) ⟨Nat.le_of_ble_eq_true rfl, Nat.le_of_ble_eq_true rfl⟩ ⟨Nat.zero_le _, Nat.zero_le _⟩ ?_
        refine xa_lstore C dE_power_19 (Nat.le_of_ble_eq_true rfl) ?_
        refine xa_lload_n C dE_power_21 rfl ?_
        refine xa_iload C dE_power_22 rfl ?_
        refine xa_lshr C dE_power_24 ?_
        refine xa_lcN C 1 dE_power_25 ?_
        refine xa_land C dE_power_26 ?_
        rw [show (lN ((1 : Fin 2) : Nat)) = 1 from rfl, tb_bit (e := n) (k := k) (by omega) (by omega)]
        refine xa_lcN C 1 dE_power_27 ?_
        refine xa_lcmp C dE_power_28 ?_
        refine xa_if_ne C dE_power_29 (tgt := 40) rfl (fun h29 => ?_) (fun h29 => ?_)
        · have hb : n / 2 ^ k % 2 = 0 := by
            rcases Nat.mod_two_eq_zero_or_one (n / 2 ^ k) with h | h
            · exact h
            · rw [h] at h29; exact absurd ((lg_cmp_eq _ _).mpr rfl) h29
          rw [tm_st0 hb]
          refine xa_iinc C dE_power_40 rfl (Nat.le_of_ble_eq_true rfl) ?_
          refine xa_goto C dE_power_43 (tgt := 7) rfl ?_
          rw [xi_m1]
          exact ih (by omega)
        · have hb : n / 2 ^ k % 2 = 1 := by
            rcases Nat.mod_two_eq_zero_or_one (n / 2 ^ k) with h | h
            · rw [h] at h29; exact absurd ((lg_cmp_eq _ _).mp h29) (by decide)
            · exact h
          refine xa_lload C dE_power_32 rfl ?_
          refine xa_lload_n C dE_power_34 rfl ?_
          refine xa_callS1 C (p_E_times g l (tb_p _) (by first | exact tb_p _ | exact hx) hp) b_E_13 (xw_in wt_E_times rfl) dE_power_35 rfl (Nat.le_of_ble_eq_true rfl) ⟨Nat.le_of_ble_eq_true rfl, Nat.le_of_ble_eq_true rfl⟩ ⟨Nat.zero_le _, Nat.zero_le _⟩ ?_
          rw [tm_st1 hb]
          refine xa_lstore C dE_power_38 (Nat.le_of_ble_eq_true rfl) ?_
          refine xa_iinc C dE_power_40 rfl (Nat.le_of_ble_eq_true rfl) ?_
          refine xa_goto C dE_power_43 (tgt := 7) rfl ?_
          rw [xi_m1]
          exact ih (by omega)
  refine xa_lcN C 1 dE_power_0 ?_
  refine xa_lstore C dE_power_1 (Nat.le_of_ble_eq_true rfl) ?_
  refine xa_bpN C 29 dE_power_3 (by decide) ?_
  refine xa_istore C dE_power_5 (Nat.le_of_ble_eq_true rfl) ?_
  have h := loop 30 (Nat.le_refl _)
  rw [tm_top hn, show nI 30 - 1 = nI 29 from nI_pred 29] at h
  exact h

set_option maxHeartbeats 4000000 in
set_option maxRecDepth 100000 in
theorem p_N_inverse (g : xw_G) (l : Launch) {x : Nat} (hx : x < 2 ^ 31) (hp : List va_E) : xm_R g l true m_N_inverse [.long (lN x)] hp (some (.long (lN (x ^ 1073741787 % 1073741789)))) hp := by
  refine xm_of [some (.long (lN x)), none, none, none, none] rfl (Nat.le_of_ble_eq_true rfl) rfl ?_
  intro p e s m args below meth c C hr hk
  have loop : ∀ k : Nat, k ≤ 30 → xw_At g true 5 p l e (xm_rm m_N_inverse 0) s m args below meth c 0 0 (MQ below (xm_Q g true (some (.long (lN (x ^ 1073741787 % 1073741789)))) hp) args s 0 0 (xm_fr g true)) 6 [some (.long (lN x)), none, some (.long (lN (x ^ (1073741787 / 2 ^ k) % 1073741789))), none, some (.int (nI k - 1))] [] hp := by
    intro k
    induction k with
    | zero =>
      intro _
      refine xa_iload C dN_inverse_6 rfl ?_
      refine xa_if_lt C dN_inverse_8 (tgt := 42) rfl (fun h8 => ?_) (fun h8 => ?_)
      · refine xa_lload_n C dN_inverse_42 rfl ?_
        rw [Nat.pow_zero, Nat.div_one]
        exact xa_lret C hr hk dN_inverse_43
      · exact absurd (by decide) h8
    | succ k ih =>
      intro hk30
      rw [nI_pred k]
      refine xa_iload C dN_inverse_6 rfl ?_
      refine xa_if_lt C dN_inverse_8 (tgt := 42) rfl (fun h8 => ?_) (fun h8 => ?_)
      · exact absurd h8 (nI_pos (by omega))
      · refine xa_lload_n C dN_inverse_11 rfl ?_
        refine xa_lload_n C dN_inverse_12 rfl ?_
        refine xa_callS1 C (p_N_times g l (tb_q _) (by first | exact tb_q _ | exact hx) hp) b_N_11 (xw_in wt_N_times rfl) dN_inverse_13 rfl (Nat.le_of_ble_eq_true rfl) ⟨Nat.le_of_ble_eq_true rfl, Nat.le_of_ble_eq_true rfl⟩ ⟨Nat.zero_le _, Nat.zero_le _⟩ ?_
        refine xa_lstore_n C dN_inverse_16 (Nat.le_of_ble_eq_true rfl) ?_
        refine xa_ldc2 C (xw_in wk_N_15 rfl) dN_inverse_17 ?_
        refine xa_iload C dN_inverse_20 rfl ?_
        refine xa_lshr C dN_inverse_22 ?_
        refine xa_lcN C 1 dN_inverse_23 ?_
        refine xa_land C dN_inverse_24 ?_
        rw [show (1073741787 : Int64) = lN 1073741787 from rfl]
        rw [show (lN ((1 : Fin 2) : Nat)) = 1 from rfl, tb_bit (e := 1073741787) (k := k) (by omega) (by omega)]
        refine xa_lcN C 1 dN_inverse_25 ?_
        refine xa_lcmp C dN_inverse_26 ?_
        refine xa_if_ne C dN_inverse_27 (tgt := 36) rfl (fun h27 => ?_) (fun h27 => ?_)
        · have hb : 1073741787 / 2 ^ k % 2 = 0 := by
            rcases Nat.mod_two_eq_zero_or_one (1073741787 / 2 ^ k) with h | h
            · exact h
            · rw [h] at h27; exact absurd ((lg_cmp_eq _ _).mpr rfl) h27
          rw [tm_st0 hb]
          refine xa_iinc C dN_inverse_36 rfl (Nat.le_of_ble_eq_true rfl) ?_
          refine xa_goto C dN_inverse_39 (tgt := 6) rfl ?_
          rw [xi_m1]
          exact ih (by omega)
        · have hb : 1073741787 / 2 ^ k % 2 = 1 := by
            rcases Nat.mod_two_eq_zero_or_one (1073741787 / 2 ^ k) with h | h
            · rw [h] at h27; exact absurd ((lg_cmp_eq _ _).mp h27) (by decide)
            · exact h
          refine xa_lload_n C dN_inverse_30 rfl ?_
          refine xa_lload_n C dN_inverse_31 rfl ?_
          refine xa_callS1 C (p_N_times g l (tb_q _) (by first | exact tb_q _ | exact hx) hp) b_N_11 (xw_in wt_N_times rfl) dN_inverse_32 rfl (Nat.le_of_ble_eq_true rfl) ⟨Nat.le_of_ble_eq_true rfl, Nat.le_of_ble_eq_true rfl⟩ ⟨Nat.zero_le _, Nat.zero_le _⟩ ?_
          rw [tm_st1 hb]
          refine xa_lstore_n C dN_inverse_35 (Nat.le_of_ble_eq_true rfl) ?_
          refine xa_iinc C dN_inverse_36 rfl (Nat.le_of_ble_eq_true rfl) ?_
          refine xa_goto C dN_inverse_39 (tgt := 6) rfl ?_
          rw [xi_m1]
          exact ih (by omega)
  refine xa_lcN C 1 dN_inverse_0 ?_
  refine xa_lstore_n C dN_inverse_1 (Nat.le_of_ble_eq_true rfl) ?_
  refine xa_bpN C 29 dN_inverse_2 (by decide) ?_
  refine xa_istore C dN_inverse_4 (Nat.le_of_ble_eq_true rfl) ?_
  have h := loop 30 (Nat.le_refl _)
  rw [tm_top (by decide), show nI 30 - 1 = nI 29 from nI_pred 29] at h
  exact h

set_option maxHeartbeats 4000000 in
set_option maxRecDepth 100000 in
theorem p_E_ofNumber (g : xw_G) (l : Launch) {n : Nat} (hn : n < 2 ^ 30) (hp : List va_E) : xm_R g l true m_E_ofNumber [.long (lN n)] hp (some (.long (lN (4 ^ n % 2147483579)))) hp := by
  refine xm_of [some (.long (lN n)), none] rfl (Nat.le_of_ble_eq_true rfl) rfl ?_
  intro p e s m args below meth c C hr hk
  refine xa_ldc2 C (xw_in wk_E_17 rfl) dE_ofNumber_0 ?_
  refine xa_lload_n C dE_ofNumber_3 rfl ?_
  refine xa_callS1 C (p_E_power g l (x := 4) (by decide) hn _) b_E_19 (xw_in wt_E_power rfl) dE_ofNumber_4 rfl (Nat.le_of_ble_eq_true rfl) ⟨Nat.le_of_ble_eq_true rfl, Nat.le_of_ble_eq_true rfl⟩ ⟨Nat.zero_le _, Nat.zero_le _⟩ ?_
  exact xa_lret C hr hk dE_ofNumber_7
