/-! dealing: make -/
theorem up_lt (v f : Nat → Nat) (k : Nat) : va_up (fun j => if j < k then v j else f j) k (v k) = fun j => if j < k + 1 then v j else f j := by
  funext j
  unfold va_up
  by_cases h : j = k
  · subst h; simp
  · by_cases h2 : j < k
    · simp [h, h2, show j < k + 1 by omega]
    · simp [h, h2, show ¬ j < k + 1 by omega]
theorem up_0 (v f : Nat → Nat) : (fun j => if j < 0 then v j else f j) = f := by
  funext j
  simp
theorem tm_poly_same {a b : Nat → Nat} (i : Nat) : ∀ n, (∀ k, k < n → a k = b k) → tm_poly a i n = tm_poly b i n
  | 0, _ => rfl
  | n + 1, h => by
    show tm_poly a i n + a n * i ^ n = tm_poly b i n + b n * i ^ n
    rw [tm_poly_same i n (fun k hk => h k (by omega)), h n (by omega)]
/-- a coefficient, a secret, a key -/
def cd_ (w : Int64) (k : Nat) : Nat := dg_f (dg_m (dg_m (dg_m 0 1) w) (lN k))
def sd_ (w : Int64) (t i : Nat) : Nat := tm_poly (cd_ w) i t % 1073741789
def kd_ (w : Int64) (t i : Nat) : Nat := 4 ^ sd_ w t i % 2147483579
theorem sd_hv (w : Int64) (t i : Nat) (co : Nat → Nat) : hv_ (fun j => if j < t then cd_ w j else co j) i t t = sd_ w t i := by
  rw [hv_all]
  unfold sd_
  rw [tm_poly_same (b := cd_ w) i t (fun k hk => by simp [hk])]
set_option maxHeartbeats 4000000 in
set_option maxRecDepth 100000 in
theorem p_D_make (g : xw_G) (l : Launch) {n t : Nat} {co se ke f1 f2 e1 e2 x1 x2 fa we sh : Nat → Nat} {dn op ms ps md tk bl : Int32} {pr ch sm : Nat} {rest : List va_E} (hn : n ≤ 6) (ht : t ≤ 6) (hco : ∀ j, co j < 2 ^ 31) (w : Int64) : xm_R g l false m_D_make [.ref 1, .long w] (hC g n t co se ke dn f1 f2 e1 e2 op x1 x2 fa we sh ms ps md tk bl pr ch sm ++ rest) none (hC g n t (fun j => if j < t then cd_ w j else co j) (fun j => if j < (n + 1) then sd_ w t j else se j) (fun j => if j < (n + 1) then kd_ w t j else ke j) (nI 1) f1 f2 e1 e2 op x1 x2 fa we sh ms ps md tk bl pr ch sm ++ rest) := by
  refine xm_of [some (.ref 1), some (.long w), none, none] rfl (Nat.le_of_ble_eq_true rfl) rfl ?_
  intro p e s m args below meth c C hr hk
  have hcu : ∀ j, (fun j => if j < t then cd_ w j else co j) j < 2 ^ 31 := fun j => by
    show (if j < t then cd_ w j else co j) < 2 ^ 31
    by_cases h : j < t
    · rw [if_pos h]; exact Nat.lt_trans (dg_f_lt _) (by decide)
    · rw [if_neg h]; exact hco j
  have hsd : ∀ j, sd_ w t j < 2 ^ 30 := fun j => Nat.lt_trans (Nat.mod_lt _ (by decide)) (by decide)
  have loop2 : ∀ d k : Nat, k + d = n + 1 → xw_At g false 4 p l e (xm_rm m_D_make 0) s m args below meth c 0 0 (MQ below (xm_Q g false none (hC g n t (fun j => if j < t then cd_ w j else co j) (fun j => if j < (n + 1) then sd_ w t j else se j) (fun j => if j < (n + 1) then kd_ w t j else ke j) (nI 1) f1 f2 e1 e2 op x1 x2 fa we sh ms ps md tk bl pr ch sm ++ rest)) args s 0 0 (xm_fr g false)) 31 [some (.ref 1), some (.long w), none, some (.int (nI k))] [] (hC g n t (fun j => if j < t then cd_ w j else co j) (fun j => if j < k then sd_ w t j else se j) (fun j => if j < k then kd_ w t j else ke j) dn f1 f2 e1 e2 op x1 x2 fa we sh ms ps md tk bl pr ch sm ++ rest) := by
    intro d
    induction d with
    | zero =>
      intro k hk9
      obtain rfl : k = n + 1 := by omega
      refine xa_iload_n C dD_make_31 rfl ?_
      refine xa_aload_n C dD_make_32 rfl ?_
      refine xa_get C f_D_7 dD_make_33 rfl rfl ?_
      refine xa_icmp_gt C dD_make_36 (tgt := 71) rfl (fun h36 => ?_) (fun h36 => ?_)
      · refine xa_aload_n C dD_make_71 rfl ?_
        refine xa_icN C 1 dD_make_72 ?_
        refine xa_put C f_D_42 u_D_5 dD_make_73 rfl (Nat.le_of_ble_eq_true rfl) rfl rfl (fun _ h => by cases h) ?_
        exact xa_eq rfl rfl rfl (xa_vret C hr hk dD_make_76)
      · exact absurd (nI_lt (by omega) (by omega)) h36
    | succ d ih =>
      intro k hk9
      refine xa_iload_n C dD_make_31 rfl ?_
      refine xa_aload_n C dD_make_32 rfl ?_
      refine xa_get C f_D_7 dD_make_33 rfl rfl ?_
      refine xa_icmp_gt C dD_make_36 (tgt := 71) rfl (fun h36 => ?_) (fun h36 => ?_)
      · exact absurd h36 (nI_nlt (by omega) (by omega))
      · refine xa_aload_n C dD_make_39 rfl ?_
        refine xa_get C f_D_20 dD_make_40 rfl rfl ?_
        refine xa_iload_n C dD_make_43 rfl ?_
        refine xa_aload_n C dD_make_44 rfl ?_
        refine xa_iload_n C dD_make_45 rfl ?_
        refine xa_callV1 C (p_D_valueAt g l hn ht hcu (by omega)) b_D_32 (xw_in wi_D_valueAt rfl) e_D_valueAt dD_make_46 rfl rfl rfl rfl (Nat.le_of_ble_eq_true rfl) ⟨Nat.le_of_ble_eq_true rfl, Nat.le_of_ble_eq_true rfl⟩ ⟨Nat.zero_le _, Nat.zero_le _⟩ ?_
        rw [sd_hv]
        refine xa_lastoreN C dD_make_49 rfl ?_ (by omega) ?_
        · omega
        rw [up_lt (sd_ w t) se k]
        refine xa_eq rfl rfl (hp' := (hC g n t (fun j => if j < t then cd_ w j else co j) (fun j => if j < (k + 1) then sd_ w t j else se j) (fun j => if j < k then kd_ w t j else ke j) dn f1 f2 e1 e2 op x1 x2 fa we sh ms ps md tk bl pr ch sm ++ rest)) rfl ?_
        refine xa_aload_n C dD_make_50 rfl ?_
        refine xa_get C f_D_23 dD_make_51 rfl rfl ?_
        refine xa_iload_n C dD_make_54 rfl ?_
        refine xa_aload_n C dD_make_55 rfl ?_
        refine xa_get C f_D_20 dD_make_56 rfl rfl ?_
        refine xa_iload_n C dD_make_59 rfl ?_
        refine xa_laloadN C dD_make_60 rfl ?_ (by omega) ?_
        · omega
        rw [if_pos (by omega : k < k + 1)]
        refine xa_callS1 C (p_E_ofNumber g l (by first | exact hsd _ | omega) _) b_D_36 (xw_in wt_E_ofNumber rfl) dD_make_61 rfl (Nat.le_of_ble_eq_true rfl) ⟨Nat.le_of_ble_eq_true rfl, Nat.le_of_ble_eq_true rfl⟩ ⟨Nat.zero_le _, Nat.zero_le _⟩ ?_
        rw [show (4 ^ sd_ w t k % 2147483579) = kd_ w t k from rfl]
        refine xa_lastoreN C dD_make_64 rfl ?_ (by omega) ?_
        · omega
        rw [up_lt (kd_ w t) ke k]
        refine xa_eq rfl rfl (hp' := (hC g n t (fun j => if j < t then cd_ w j else co j) (fun j => if j < (k + 1) then sd_ w t j else se j) (fun j => if j < (k + 1) then kd_ w t j else ke j) dn f1 f2 e1 e2 op x1 x2 fa we sh ms ps md tk bl pr ch sm ++ rest)) rfl ?_
        refine xa_incN C dD_make_65 rfl (Nat.le_of_ble_eq_true rfl) ?_
        refine xa_goto C dD_make_68 (tgt := 31) rfl ?_
        exact ih (k + 1) (by omega)
  have loop1 : ∀ d k : Nat, k + d = t → xw_At g false 4 p l e (xm_rm m_D_make 0) s m args below meth c 0 0 (MQ below (xm_Q g false none (hC g n t (fun j => if j < t then cd_ w j else co j) (fun j => if j < (n + 1) then sd_ w t j else se j) (fun j => if j < (n + 1) then kd_ w t j else ke j) (nI 1) f1 f2 e1 e2 op x1 x2 fa we sh ms ps md tk bl pr ch sm ++ rest)) args s 0 0 (xm_fr g false)) 2 [some (.ref 1), some (.long w), none, some (.int (nI k))] [] (hC g n t (fun j => if j < k then cd_ w j else co j) se ke dn f1 f2 e1 e2 op x1 x2 fa we sh ms ps md tk bl pr ch sm ++ rest) := by
    intro d
    induction d with
    | zero =>
      intro k hk9
      obtain rfl : k = t := by omega
      refine xa_iload_n C dD_make_2 rfl ?_
      refine xa_aload_n C dD_make_3 rfl ?_
      refine xa_get C f_D_13 dD_make_4 rfl rfl ?_
      refine xa_icmp_ge C dD_make_7 (tgt := 29) rfl (fun h7 => ?_) (fun h7 => ?_)
      · refine xa_icN C 0 dD_make_29 ?_
        refine xa_istore_n C dD_make_30 (Nat.le_of_ble_eq_true rfl) ?_
        have h := loop2 (n + 1) 0 (by omega)
        rw [up_0 (sd_ w k) se, up_0 (kd_ w k) ke] at h
        exact h
      · exact absurd (nI_le (Nat.le_refl _) (by omega)) h7
    | succ d ih =>
      intro k hk9
      refine xa_iload_n C dD_make_2 rfl ?_
      refine xa_aload_n C dD_make_3 rfl ?_
      refine xa_get C f_D_13 dD_make_4 rfl rfl ?_
      refine xa_icmp_ge C dD_make_7 (tgt := 29) rfl (fun h7 => ?_) (fun h7 => ?_)
      · exact absurd h7 (nI_ge (by omega) (by omega))
      · refine xa_aload_n C dD_make_10 rfl ?_
        refine xa_get C f_D_16 dD_make_11 rfl rfl ?_
        refine xa_iload_n C dD_make_14 rfl ?_
        refine xa_lcN C 1 dD_make_15 ?_
        refine xa_lload_n C dD_make_16 rfl ?_
        refine xa_iload_n C dD_make_17 rfl ?_
        refine xa_i2lN C dD_make_18 (by omega) ?_
        refine xa_callS1 C (p_G_ofThree g l _ _ _ _) b_D_26 (xw_in wt_G_ofThree rfl) dD_make_19 rfl (Nat.le_of_ble_eq_true rfl) ⟨Nat.le_of_ble_eq_true rfl, Nat.le_of_ble_eq_true rfl⟩ ⟨Nat.zero_le _, Nat.zero_le _⟩ ?_
        rw [show dg_f (dg_m (dg_m (dg_m 0 (lN ((1 : Fin 2) : Nat))) w) (lN k)) = cd_ w k from rfl]
        refine xa_lastoreN C dD_make_22 rfl ?_ (by omega) ?_
        · omega
        rw [up_lt (cd_ w) co k]
        refine xa_eq rfl rfl (hp' := (hC g n t (fun j => if j < (k + 1) then cd_ w j else co j) se ke dn f1 f2 e1 e2 op x1 x2 fa we sh ms ps md tk bl pr ch sm ++ rest)) rfl ?_
        refine xa_incN C dD_make_23 rfl (Nat.le_of_ble_eq_true rfl) ?_
        refine xa_goto C dD_make_26 (tgt := 2) rfl ?_
        exact ih (k + 1) (by omega)
  refine xa_icN C 0 dD_make_0 ?_
  refine xa_istore_n C dD_make_1 (Nat.le_of_ble_eq_true rfl) ?_
  have h := loop1 t 0 (by omega)
  rw [up_0 (cd_ w) co] at h
  exact h
