/-! the dealing -/
set_option maxHeartbeats 4000000 in
set_option maxRecDepth 100000 in
theorem p_D_keyOfAll (g : xw_G) (l : Launch) {n t : Nat} {co se ke f1 f2 e1 e2 x1 x2 fa we sh : Nat → Nat} {dn op ms ps md tk bl : Int32} {pr ch sm : Nat} {rest : List va_E} (hn : n ≤ 6) (ht : t ≤ 6) : xm_R g l true m_D_keyOfAll [.ref 1] (hC g n t co se ke dn f1 f2 e1 e2 op x1 x2 fa we sh ms ps md tk bl pr ch sm ++ rest) (some (.long (lN (ke 0)))) (hC g n t co se ke dn f1 f2 e1 e2 op x1 x2 fa we sh ms ps md tk bl pr ch sm ++ rest) := by
  refine xm_of [some (.ref 1)] rfl (Nat.le_of_ble_eq_true rfl) rfl ?_
  intro p e s m args below meth c C hr hk
  refine xa_aload_n C dD_keyOfAll_0 rfl ?_
  refine xa_get C f_D_23 dD_keyOfAll_1 rfl rfl ?_
  refine xa_icN C 0 dD_keyOfAll_4 ?_
  refine xa_laloadN C dD_keyOfAll_5 rfl ?_ (by omega) ?_
  · omega
  exact xa_lret C hr hk dD_keyOfAll_6
def hv_ (co : Nat → Nat) (i t : Nat) : Nat → Nat
  | 0 => 0
  | m + 1 => (hv_ co i t m * i % 1073741789 + co (t - 1 - m)) % 1073741789
theorem hv_lt (co : Nat → Nat) (i t m : Nat) : hv_ co i t m < 2 ^ 31 := by
  cases m with
  | zero => exact (by decide : 0 < 2 ^ 31)
  | succ m => exact tb_q _
theorem hv_step {co : Nat → Nat} {i t k : Nat} (h : k + 1 ≤ t) : (hv_ co i t (t - (k + 1)) * i % 1073741789 + co k) % 1073741789 = hv_ co i t (t - k) := by
  rw [show t - k = (t - (k + 1)) + 1 by omega]
  show _ = (hv_ co i t (t - (k + 1)) * i % 1073741789 + co (t - 1 - (t - (k + 1)))) % 1073741789
  rw [show t - 1 - (t - (k + 1)) = k by omega]
theorem hv_poly (co : Nat → Nat) (i t : Nat) : ∀ m, m ≤ t → hv_ co i t m = tm_poly (fun k => co (t - m + k)) i m % 1073741789
  | 0, _ => rfl
  | m + 1, h => by
    show (hv_ co i t m * i % 1073741789 + co (t - 1 - m)) % 1073741789 = _
    rw [hv_poly co i t m (by omega), tm_poly_shift, Nat.mod_mul_mod]
    have e : (fun k => co (t - (m + 1) + (k + 1))) = (fun k => co (t - m + k)) := by
      funext k
      rw [show t - (m + 1) + (k + 1) = t - m + k by omega]
    rw [e, Nat.mod_add_mod, show t - (m + 1) + 0 = t - 1 - m by omega, Nat.mul_comm, Nat.add_comm]
theorem hv_all (co : Nat → Nat) (i t : Nat) : hv_ co i t t = tm_poly co i t % 1073741789 := by
  rw [hv_poly co i t t (Nat.le_refl t)]
  congr 1
  congr 1
  funext k
  rw [Nat.sub_self, Nat.zero_add]
set_option maxHeartbeats 4000000 in
set_option maxRecDepth 100000 in
theorem p_D_valueAt (g : xw_G) (l : Launch) {n t : Nat} {co se ke f1 f2 e1 e2 x1 x2 fa we sh : Nat → Nat} {dn op ms ps md tk bl : Int32} {pr ch sm : Nat} {rest : List va_E} (hn : n ≤ 6) (ht : t ≤ 6) (hco : ∀ j, co j < 2 ^ 31) {i : Nat} (hi : i ≤ 6) : xm_R g l true m_D_valueAt [.ref 1, .int (nI i)] (hC g n t co se ke dn f1 f2 e1 e2 op x1 x2 fa we sh ms ps md tk bl pr ch sm ++ rest) (some (.long (lN (hv_ co i t t)))) (hC g n t co se ke dn f1 f2 e1 e2 op x1 x2 fa we sh ms ps md tk bl pr ch sm ++ rest) := by
  refine xm_of [some (.ref 1), some (.int (nI i)), none, none, none] rfl (Nat.le_of_ble_eq_true rfl) rfl ?_
  intro p e s m args below meth c C hr hk
  have loop : ∀ k : Nat, k ≤ t → xw_At g true 5 p l e (xm_rm m_D_valueAt 0) s m args below meth c 0 0 (MQ below (xm_Q g true (some (.long (lN (hv_ co i t t)))) (hC g n t co se ke dn f1 f2 e1 e2 op x1 x2 fa we sh ms ps md tk bl pr ch sm ++ rest)) args s 0 0 (xm_fr g true)) 10 [some (.ref 1), some (.int (nI i)), some (.long (lN (hv_ co i t (t - k)))), none, some (.int (nI k - 1))] [] (hC g n t co se ke dn f1 f2 e1 e2 op x1 x2 fa we sh ms ps md tk bl pr ch sm ++ rest) := by
    intro k
    induction k with
    | zero =>
      intro _
      refine xa_iload C dD_valueAt_10 rfl ?_
      refine xa_if_lt C dD_valueAt_12 (tgt := 38) rfl (fun h12 => ?_) (fun h12 => ?_)
      · refine xa_lload_n C dD_valueAt_38 rfl ?_
        rw [Nat.sub_zero]
        exact xa_lret C hr hk dD_valueAt_39
      · exact absurd (by decide) h12
    | succ k ih =>
      intro hkt
      rw [nI_pred k]
      refine xa_iload C dD_valueAt_10 rfl ?_
      refine xa_if_lt C dD_valueAt_12 (tgt := 38) rfl (fun h12 => ?_) (fun h12 => ?_)
      · exact absurd h12 (nI_pos (by omega))
      · refine xa_lload_n C dD_valueAt_15 rfl ?_
        refine xa_iload_n C dD_valueAt_16 rfl ?_
        refine xa_i2lN C dD_valueAt_17 (by omega) ?_
        refine xa_callS1 C (p_N_times g l (by first | exact hv_lt _ _ _ _ | omega) (by omega) _) b_D_46 (xw_in wt_N_times rfl) dD_valueAt_18 rfl (Nat.le_of_ble_eq_true rfl) ⟨Nat.le_of_ble_eq_true rfl, Nat.le_of_ble_eq_true rfl⟩ ⟨Nat.zero_le _, Nat.zero_le _⟩ ?_
        refine xa_aload_n C dD_valueAt_21 rfl ?_
        refine xa_get C f_D_16 dD_valueAt_22 rfl rfl ?_
        refine xa_iload C dD_valueAt_25 rfl ?_
        refine xa_laloadN C dD_valueAt_27 rfl ?_ (by omega) ?_
        · omega
        refine xa_callS1 C (p_N_plus g l (by first | exact tb_q _ | omega) (by first | exact hco _ | omega) _) b_D_52 (xw_in wt_N_plus rfl) dD_valueAt_28 rfl (Nat.le_of_ble_eq_true rfl) ⟨Nat.le_of_ble_eq_true rfl, Nat.le_of_ble_eq_true rfl⟩ ⟨Nat.zero_le _, Nat.zero_le _⟩ ?_
        rw [hv_step hkt]
        refine xa_lstore_n C dD_valueAt_31 (Nat.le_of_ble_eq_true rfl) ?_
        refine xa_iinc C dD_valueAt_32 rfl (Nat.le_of_ble_eq_true rfl) ?_
        refine xa_goto C dD_valueAt_35 (tgt := 10) rfl ?_
        rw [xi_m1]
        exact ih (by omega)
  refine xa_lcN C 0 dD_valueAt_0 ?_
  refine xa_lstore_n C dD_valueAt_1 (Nat.le_of_ble_eq_true rfl) ?_
  refine xa_aload_n C dD_valueAt_2 rfl ?_
  refine xa_get C f_D_13 dD_valueAt_3 rfl rfl ?_
  refine xa_icN C 1 dD_valueAt_6 ?_
  refine xa_isub C dD_valueAt_7 ?_
  refine xa_istore C dD_valueAt_8 (Nat.le_of_ble_eq_true rfl) ?_
  have h := loop t (Nat.le_refl _)
  rw [Nat.sub_self] at h
  exact h
