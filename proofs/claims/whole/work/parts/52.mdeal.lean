/-! the reference: deal, commit -/
theorem upz_lt (v : Int32) (f : Nat → Int32) (k : Nat) : upd (fun j => if j < k then v else f j) k v = fun j => if j < k + 1 then v else f j := by
  funext j
  unfold upd
  by_cases h : j = k
  · subst h; simp
  · by_cases h2 : j < k
    · simp [h, h2, show j < k + 1 by omega]
    · simp [h, h2, show ¬ j < k + 1 by omega]
theorem upz_0 (v : Int32) (f : Nat → Int32) : (fun j => if j < 0 then v else f j) = f := by
  funext j
  simp
def mk_ (w m0 : Int64) : Nat → Int64
  | 0 => m0
  | k + 1 => dg_m (dg_m (dg_m 0 1) w) (lN k)
def mo_ (w : Int64) (t : Nat) (m0 : Int64) : Nat → Int64
  | 0 => m0
  | i + 1 => mk_ w (mo_ w t m0 i) t
theorem tm_ps (a b c q : Nat) : (a % q + c * (b % q)) % q = (a + c * b) % q := by
  rw [Nat.add_mod, Nat.mul_mod c (b % q), Nat.mod_mod, Nat.mod_mod, ← Nat.mul_mod, ← Nat.add_mod]
theorem tm_63 {a c d : Nat} (ha : a < 2 ^ 31) (hc : c < 2 ^ 31) (hd : d < 2 ^ 31) : a + c * d < 2 ^ 63 := by
  have h := Nat.mul_lt_mul'' hc hd
  have e : (2 : Nat) ^ 31 * 2 ^ 31 = 4611686018427387904 := by decide
  omega
set_option maxHeartbeats 4000000 in
set_option maxRecDepth 100000 in
theorem p_M_deal (g : xw_G) (l : Launch) {c0 c1 c2 c3 c4 c5 c6 c7 c8 c9 c10 c11 c12 c13 c14 c15 : va_E} {n t : Nat} {se ke f1 f2 e1 e2 y1 y2 fa we sh to : Nat → Nat} {oz sz mz : Nat → Int32} {th dl ms tk bl : Int32} {al ch : Nat} {mi : Int64} {rest : List va_E} (hn : n ≤ 6) (ht : t ≤ 6) (w : Int64) : xm_R g l false m_M_deal [.ref 16, .long w] (hQ c0 c1 c2 c3 c4 c5 c6 c7 c8 c9 c10 c11 c12 c13 c14 c15 (hM g th n t dl se ke oz f1 f2 e1 e2 ms al ch y1 y2 fa we sz mz sh to tk bl mi ++ rest)) (some (.long (lN ((fun j => if j < (n + 1) then kd_ w t j else ke j) 0)))) (hQ c0 c1 c2 c3 c4 c5 c6 c7 c8 c9 c10 c11 c12 c13 c14 c15 (hM g (nI 0) n t (nI 1) (fun j => if j < (n + 1) then sd_ w t j else se j) (fun j => if j < (n + 1) then kd_ w t j else ke j) (fun j => if j < (n + 1) then nI 0 else oz j) f1 f2 e1 e2 0 al ch y1 y2 fa we sz mz sh to 0 0 (mo_ w t mi (n + 1)) ++ rest)) := by
  refine xm_of [some (.ref 16), some (.long w), none, none, none, none, none, none, none] rfl (Nat.le_of_ble_eq_true rfl) rfl ?_
  intro p e s m args below meth c C hr hk
  have outer : ∀ d i : Nat, i + d = n + 1 → ∀ o4 o6 o8 : Option Value, xw_At g false 9 p l e (xm_rm m_M_deal 0) s m args below meth c 0 0 (MQ below (xm_Q g false (some (.long (lN ((fun j => if j < (n + 1) then kd_ w t j else ke j) 0)))) (hQ c0 c1 c2 c3 c4 c5 c6 c7 c8 c9 c10 c11 c12 c13 c14 c15 (hM g (nI 0) n t (nI 1) (fun j => if j < (n + 1) then sd_ w t j else se j) (fun j => if j < (n + 1) then kd_ w t j else ke j) (fun j => if j < (n + 1) then nI 0 else oz j) f1 f2 e1 e2 0 al ch y1 y2 fa we sz mz sh to 0 0 (mo_ w t mi (n + 1)) ++ rest))) args s 0 0 (xm_fr g false)) 7 [some (.ref 16), some (.long w), none, some (.int (nI i)), o4, none, o6, none, o8] [] (hQ c0 c1 c2 c3 c4 c5 c6 c7 c8 c9 c10 c11 c12 c13 c14 c15 (hM g (nI 0) n t dl (fun j => if j < i then sd_ w t j else se j) (fun j => if j < i then kd_ w t j else ke j) (fun j => if j < i then nI 0 else oz j) f1 f2 e1 e2 ms al ch y1 y2 fa we sz mz sh to tk bl (mo_ w t mi i) ++ rest)) := by
    intro d
    induction d with
    | zero =>
      intro i hi9 o4 o6 o8
      obtain rfl : i = n + 1 := by omega
      refine xa_iload_n C dM_deal_7 rfl ?_
      refine xa_aload_n C dM_deal_8 rfl ?_
      refine xa_get C f_M_56 dM_deal_9 rfl rfl ?_
      refine xa_icmp_gt C dM_deal_12 (tgt := 121) rfl (fun h12 => ?_) (fun h12 => ?_)
      · refine xa_aload_n C dM_deal_121 rfl ?_
        refine xa_icN C 1 dM_deal_122 ?_
        refine xa_put C f_M_103 u_M_3 dM_deal_123 rfl (Nat.le_of_ble_eq_true rfl) rfl rfl (fun _ h => by cases h) ?_
        refine xa_aload_n C dM_deal_126 rfl ?_
        refine xa_icN C 0 dM_deal_127 ?_
        refine xa_put C f_M_107 u_M_11 dM_deal_128 rfl (Nat.le_of_ble_eq_true rfl) rfl rfl (fun _ h => by cases h) ?_
        refine xa_aload_n C dM_deal_131 rfl ?_
        refine xa_icN C 0 dM_deal_132 ?_
        refine xa_put C f_M_110 u_M_22 dM_deal_133 rfl (Nat.le_of_ble_eq_true rfl) rfl rfl (fun _ h => by cases h) ?_
        refine xa_aload_n C dM_deal_136 rfl ?_
        refine xa_icN C 0 dM_deal_137 ?_
        refine xa_put C f_M_113 u_M_23 dM_deal_138 rfl (Nat.le_of_ble_eq_true rfl) rfl rfl (fun _ h => by cases h) ?_
        refine xa_aload_n C dM_deal_141 rfl ?_
        refine xa_get C f_M_13 dM_deal_142 rfl rfl ?_
        refine xa_icN C 0 dM_deal_145 ?_
        refine xa_laloadN C dM_deal_146 rfl ?_ (by omega) ?_
        · omega
        exact xa_eq rfl rfl rfl (xa_lret C hr hk dM_deal_147)
      · exact absurd (nI_lt (by omega) (by omega)) h12
    | succ d ih =>
      intro i hi9 o4 o6 o8
      refine xa_iload_n C dM_deal_7 rfl ?_
      refine xa_aload_n C dM_deal_8 rfl ?_
      refine xa_get C f_M_56 dM_deal_9 rfl rfl ?_
      refine xa_icmp_gt C dM_deal_12 (tgt := 121) rfl (fun h12 => ?_) (fun h12 => ?_)
      · exact absurd h12 (nI_nlt (by omega) (by omega))
      · refine xa_lcN C 0 dM_deal_15 ?_
        refine xa_lstore C dM_deal_16 (Nat.le_of_ble_eq_true rfl) ?_
        refine xa_lcN C 1 dM_deal_18 ?_
        refine xa_lstore C dM_deal_19 (Nat.le_of_ble_eq_true rfl) ?_
        refine xa_icN C 0 dM_deal_21 ?_
        refine xa_istore C dM_deal_22 (Nat.le_of_ble_eq_true rfl) ?_
        have inner : ∀ d2 k : Nat, k + d2 = t → xw_At g false 9 p l e (xm_rm m_M_deal 0) s m args below meth c 0 0 (MQ below (xm_Q g false (some (.long (lN ((fun j => if j < (n + 1) then kd_ w t j else ke j) 0)))) (hQ c0 c1 c2 c3 c4 c5 c6 c7 c8 c9 c10 c11 c12 c13 c14 c15 (hM g (nI 0) n t (nI 1) (fun j => if j < (n + 1) then sd_ w t j else se j) (fun j => if j < (n + 1) then kd_ w t j else ke j) (fun j => if j < (n + 1) then nI 0 else oz j) f1 f2 e1 e2 0 al ch y1 y2 fa we sz mz sh to 0 0 (mo_ w t mi (n + 1)) ++ rest))) args s 0 0 (xm_fr g false)) 24 [some (.ref 16), some (.long w), none, some (.int (nI i)), some (.long (lN (tm_poly (cd_ w) i k % 1073741789))), none, some (.long (lN (i ^ k % 1073741789))), none, some (.int (nI k))] [] (hQ c0 c1 c2 c3 c4 c5 c6 c7 c8 c9 c10 c11 c12 c13 c14 c15 (hM g (nI 0) n t dl (fun j => if j < i then sd_ w t j else se j) (fun j => if j < i then kd_ w t j else ke j) (fun j => if j < i then nI 0 else oz j) f1 f2 e1 e2 ms al ch y1 y2 fa we sz mz sh to tk bl (mk_ w (mo_ w t mi i) k) ++ rest)) := by
          intro d2
          induction d2 with
          | zero =>
            intro k hk9
            obtain rfl : k = t := by omega
            refine xa_iload C dM_deal_24 rfl ?_
            refine xa_aload_n C dM_deal_26 rfl ?_
            refine xa_get C f_M_60 dM_deal_27 rfl rfl ?_
            refine xa_icmp_ge C dM_deal_30 (tgt := 83) rfl (fun h30 => ?_) (fun h30 => ?_)
            · refine xa_aload_n C dM_deal_83 rfl ?_
              refine xa_get C f_M_7 dM_deal_84 rfl rfl ?_
              refine xa_iload_n C dM_deal_87 rfl ?_
              refine xa_lload C dM_deal_88 rfl ?_
              refine xa_lastoreN C dM_deal_90 rfl ?_ (by omega) ?_
              · omega
              rw [show va_up (fun j => if j < i then sd_ w k j else se j) i (tm_poly (cd_ w) i k % 1073741789) = fun j => if j < i + 1 then sd_ w k j else se j from up_lt (sd_ w k) se i]
              refine xa_eq rfl rfl (hp' := (hQ c0 c1 c2 c3 c4 c5 c6 c7 c8 c9 c10 c11 c12 c13 c14 c15 (hM g (nI 0) n k dl (fun j => if j < i + 1 then sd_ w k j else se j) (fun j => if j < i then kd_ w k j else ke j) (fun j => if j < i then nI 0 else oz j) f1 f2 e1 e2 ms al ch y1 y2 fa we sz mz sh to tk bl (mk_ w (mo_ w k mi i) k) ++ rest))) rfl ?_
              refine xa_aload_n C dM_deal_91 rfl ?_
              refine xa_get C f_M_13 dM_deal_92 rfl rfl ?_
              refine xa_iload_n C dM_deal_95 rfl ?_
              refine xa_ldcN C 4 (xw_in wk_M_99 rfl) dM_deal_96 ?_
              refine xa_lload C dM_deal_99 rfl ?_
              refine xa_ldcN C 2147483579 (xw_in wk_M_101 rfl) dM_deal_101 ?_
              refine xa_callS1 C (p_M_power g l (by decide) (Nat.lt_trans (tb_q _) (by decide)) (by decide) (by decide) _) b_M_95 (xw_in wt_M_power rfl) dM_deal_104 rfl (Nat.le_of_ble_eq_true rfl) ⟨Nat.le_of_ble_eq_true rfl, Nat.le_of_ble_eq_true rfl⟩ ⟨Nat.zero_le _, Nat.zero_le _⟩ ?_
              refine xa_lastoreN C dM_deal_107 rfl ?_ (by omega) ?_
              · omega
              rw [show va_up (fun j => if j < i then kd_ w k j else ke j) i (4 ^ (tm_poly (cd_ w) i k % 1073741789) % 2147483579) = fun j => if j < i + 1 then kd_ w k j else ke j from up_lt (kd_ w k) ke i]
              refine xa_eq rfl rfl (hp' := (hQ c0 c1 c2 c3 c4 c5 c6 c7 c8 c9 c10 c11 c12 c13 c14 c15 (hM g (nI 0) n k dl (fun j => if j < i + 1 then sd_ w k j else se j) (fun j => if j < i + 1 then kd_ w k j else ke j) (fun j => if j < i then nI 0 else oz j) f1 f2 e1 e2 ms al ch y1 y2 fa we sz mz sh to tk bl (mk_ w (mo_ w k mi i) k) ++ rest))) rfl ?_
              refine xa_aload_n C dM_deal_108 rfl ?_
              refine xa_get C f_M_16 dM_deal_109 rfl rfl ?_
              refine xa_iload_n C dM_deal_112 rfl ?_
              refine xa_icN C 0 dM_deal_113 ?_
              refine xa_bastoreN C dM_deal_114 rfl ?_ (by omega) (by decide) ?_
              · omega
              rw [upz_lt]
              refine xa_eq rfl rfl (hp' := (hQ c0 c1 c2 c3 c4 c5 c6 c7 c8 c9 c10 c11 c12 c13 c14 c15 (hM g (nI 0) n k dl (fun j => if j < i + 1 then sd_ w k j else se j) (fun j => if j < i + 1 then kd_ w k j else ke j) (fun j => if j < i + 1 then nI 0 else oz j) f1 f2 e1 e2 ms al ch y1 y2 fa we sz mz sh to tk bl (mk_ w (mo_ w k mi i) k) ++ rest))) rfl ?_
              refine xa_incN C dM_deal_115 rfl (Nat.le_of_ble_eq_true rfl) ?_
              refine xa_goto C dM_deal_118 (tgt := 7) rfl ?_
              exact ih (i + 1) (by omega) _ _ _
            · exact absurd (nI_le (Nat.le_refl _) (by omega)) h30
          | succ d2 ih2 =>
            intro k hk9
            refine xa_iload C dM_deal_24 rfl ?_
            refine xa_aload_n C dM_deal_26 rfl ?_
            refine xa_get C f_M_60 dM_deal_27 rfl rfl ?_
            refine xa_icmp_ge C dM_deal_30 (tgt := 83) rfl (fun h30 => ?_) (fun h30 => ?_)
            · exact absurd h30 (nI_ge (by omega) (by omega))
            · refine xa_aload_n C dM_deal_33 rfl ?_
              refine xa_lcN C 1 dM_deal_34 ?_
              refine xa_callVv C (p_M_begins g l _) b_M_80 (xw_in wi_M_begins rfl) e_M_begins dM_deal_35 rfl rfl rfl rfl (Nat.le_of_ble_eq_true rfl) ⟨Nat.le_of_ble_eq_true rfl, Nat.le_of_ble_eq_true rfl⟩ ⟨Nat.zero_le _, Nat.zero_le _⟩ ?_
              refine xa_aload_n C dM_deal_38 rfl ?_
              refine xa_lload_n C dM_deal_39 rfl ?_
              refine xa_callVv C (p_M_mix g l _) b_M_74 (xw_in wi_M_mix rfl) e_M_mix dM_deal_40 rfl rfl rfl rfl (Nat.le_of_ble_eq_true rfl) ⟨Nat.le_of_ble_eq_true rfl, Nat.le_of_ble_eq_true rfl⟩ ⟨Nat.zero_le _, Nat.zero_le _⟩ ?_
              refine xa_aload_n C dM_deal_43 rfl ?_
              refine xa_iload C dM_deal_44 rfl ?_
              refine xa_i2lN C dM_deal_46 (by omega) ?_
              refine xa_callVv C (p_M_mix g l _) b_M_74 (xw_in wi_M_mix rfl) e_M_mix dM_deal_47 rfl rfl rfl rfl (Nat.le_of_ble_eq_true rfl) ⟨Nat.le_of_ble_eq_true rfl, Nat.le_of_ble_eq_true rfl⟩ ⟨Nat.zero_le _, Nat.zero_le _⟩ ?_
              refine xa_lload C dM_deal_50 rfl ?_
              refine xa_aload_n C dM_deal_52 rfl ?_
              refine xa_callV1 C (p_M_digest g l) b_M_83 (xw_in wi_M_digest rfl) e_M_digest dM_deal_53 rfl rfl rfl rfl (Nat.le_of_ble_eq_true rfl) ⟨Nat.le_of_ble_eq_true rfl, Nat.le_of_ble_eq_true rfl⟩ ⟨Nat.zero_le _, Nat.zero_le _⟩ ?_
              refine xa_lload C dM_deal_56 rfl ?_
              refine xa_mulN C dM_deal_58 ?_
              refine xa_addN C dM_deal_59 ?_
              refine xa_ldcN C 1073741789 (xw_in wk_M_68 rfl) dM_deal_60 ?_
              refine xa_remN C dM_deal_63 (by first | exact tm_63 (tb_q _) (Nat.lt_trans (dg_f_lt _) (by decide)) (tb_q _) | exact tm_62 (tb_q _) (by omega) | omega) (by decide) (by decide) ?_
              rw [show (tm_poly (cd_ w) i k % 1073741789 + dg_f (dg_m (dg_m (dg_m 0 (lN ((1 : Fin 2) : Nat))) w) (lN k)) * (i ^ k % 1073741789)) % 1073741789 = tm_poly (cd_ w) i (k + 1) % 1073741789 from tm_ps _ _ _ _]
              refine xa_lstore C dM_deal_64 (Nat.le_of_ble_eq_true rfl) ?_
              refine xa_lload C dM_deal_66 rfl ?_
              refine xa_iload_n C dM_deal_68 rfl ?_
              refine xa_i2lN C dM_deal_69 (by omega) ?_
              refine xa_mulN C dM_deal_70 ?_
              refine xa_ldcN C 1073741789 (xw_in wk_M_68 rfl) dM_deal_71 ?_
              refine xa_remN C dM_deal_74 (by first | exact tm_63 (tb_q _) (Nat.lt_trans (dg_f_lt _) (by decide)) (tb_q _) | exact tm_62 (tb_q _) (by omega) | omega) (by decide) (by decide) ?_
              rw [tm_mu]
              refine xa_lstore C dM_deal_75 (Nat.le_of_ble_eq_true rfl) ?_
              refine xa_incN C dM_deal_77 rfl (Nat.le_of_ble_eq_true rfl) ?_
              refine xa_goto C dM_deal_80 (tgt := 24) rfl ?_
              exact ih2 (k + 1) (by omega)
        have h := inner t 0 (by omega)
        rw [Nat.pow_zero] at h
        exact h
  refine xa_aload_n C dM_deal_0 rfl ?_
  refine xa_icN C 0 dM_deal_1 ?_
  refine xa_put C f_M_63 u_M_0 dM_deal_2 rfl (Nat.le_of_ble_eq_true rfl) rfl rfl (fun _ h => by cases h) ?_
  refine xa_icN C 0 dM_deal_5 ?_
  refine xa_istore_n C dM_deal_6 (Nat.le_of_ble_eq_true rfl) ?_
  have h := outer (n + 1) 0 (by omega) none none none
  rw [up_0 (sd_ w t) se, up_0 (kd_ w t) ke, upz_0] at h
  exact h
set_option maxHeartbeats 4000000 in
set_option maxRecDepth 100000 in
theorem p_M_commit_a (g : xw_G) (l : Launch) {c0 c1 c2 c3 c4 c5 c6 c7 c8 c9 c10 c11 c12 c13 c14 c15 : va_E} {n t : Nat} {se ke f1 f2 e1 e2 y1 y2 fa we sh to : Nat → Nat} {oz sz mz : Nat → Int32} {th dl ms tk bl : Int32} {al ch : Nat} {mi : Int64} {rest : List va_E} (x : Int32) (hx : ¬ sg n x) (w : Int64) : xm_R g l false m_M_commit [.ref 16, .int x, .long w] (hQ c0 c1 c2 c3 c4 c5 c6 c7 c8 c9 c10 c11 c12 c13 c14 c15 (hM g th n t dl se ke oz f1 f2 e1 e2 ms al ch y1 y2 fa we sz mz sh to tk bl mi ++ rest)) (some (.long (lN 0))) (hQ c0 c1 c2 c3 c4 c5 c6 c7 c8 c9 c10 c11 c12 c13 c14 c15 (hM g (nI 1) n t dl se ke oz f1 f2 e1 e2 ms al ch y1 y2 fa we sz mz sh to tk bl mi ++ rest)) := by
  refine xm_of [some (.ref 16), some (.int x), some (.long w), none] rfl (Nat.le_of_ble_eq_true rfl) rfl ?_
  intro p e s m args below meth c C hr hk
  refine xa_aload_n C dM_commit_0 rfl ?_
  refine xa_aload_n C dM_commit_1 rfl ?_
  refine xa_iload_n C dM_commit_2 rfl ?_
  refine xa_callV1 C (p_M_isSigner g l _) b_M_116 (xw_in wi_M_isSigner rfl) e_M_isSigner dM_commit_3 rfl rfl rfl rfl (Nat.le_of_ble_eq_true rfl) ⟨Nat.le_of_ble_eq_true rfl, Nat.le_of_ble_eq_true rfl⟩ ⟨Nat.zero_le _, Nat.zero_le _⟩ ?_
  refine xa_if_ne C dM_commit_6 (tgt := 13) rfl (fun h6 => ?_) (fun h6 => ?_)
  · exact absurd (xb_f hx) h6
  · refine xa_icN C 1 dM_commit_9 ?_
    refine xa_goto C dM_commit_10 (tgt := 25) rfl ?_
    refine xa_put C f_M_63 u_M_0 dM_commit_25 rfl (Nat.le_of_ble_eq_true rfl) rfl rfl (fun _ h => by cases h) ?_
    refine xa_aload_n C dM_commit_28 rfl ?_
    refine xa_get C f_M_63 dM_commit_29 rfl rfl ?_
    refine xa_if_eq C dM_commit_32 (tgt := 37) rfl (fun h32 => ?_) (fun h32 => ?_)
    · exact absurd h32 (by decide)
    · refine xa_lcN C 0 dM_commit_35 ?_
      exact xa_eq rfl rfl rfl (xa_lret C hr hk dM_commit_36)
set_option maxHeartbeats 4000000 in
set_option maxRecDepth 100000 in
theorem p_M_commit_b (g : xw_G) (l : Launch) {c0 c1 c2 c3 c4 c5 c6 c7 c8 c9 c10 c11 c12 c13 c14 c15 : va_E} {n t : Nat} {se ke f1 f2 e1 e2 y1 y2 fa we sh to : Nat → Nat} {oz sz mz : Nat → Int32} {th dl ms tk bl : Int32} {al ch : Nat} {mi : Int64} {rest : List va_E} (hn : n ≤ 6) {i : Nat} (h1 : 1 ≤ i) (hi : i ≤ n) (hd : dl = 0) (w : Int64) : xm_R g l false m_M_commit [.ref 16, .int (nI i), .long w] (hQ c0 c1 c2 c3 c4 c5 c6 c7 c8 c9 c10 c11 c12 c13 c14 c15 (hM g th n t dl se ke oz f1 f2 e1 e2 ms al ch y1 y2 fa we sz mz sh to tk bl mi ++ rest)) (some (.long (lN 0))) (hQ c0 c1 c2 c3 c4 c5 c6 c7 c8 c9 c10 c11 c12 c13 c14 c15 (hM g (nI 2) n t dl se ke oz f1 f2 e1 e2 ms al ch y1 y2 fa we sz mz sh to tk bl mi ++ rest)) := by
  refine xm_of [some (.ref 16), some (.int (nI i)), some (.long w), none] rfl (Nat.le_of_ble_eq_true rfl) rfl ?_
  intro p e s m args below meth c C hr hk
  refine xa_aload_n C dM_commit_0 rfl ?_
  refine xa_aload_n C dM_commit_1 rfl ?_
  refine xa_iload_n C dM_commit_2 rfl ?_
  refine xa_callV1 C (p_M_isSigner g l _) b_M_116 (xw_in wi_M_isSigner rfl) e_M_isSigner dM_commit_3 rfl rfl rfl rfl (Nat.le_of_ble_eq_true rfl) ⟨Nat.le_of_ble_eq_true rfl, Nat.le_of_ble_eq_true rfl⟩ ⟨Nat.zero_le _, Nat.zero_le _⟩ ?_
  refine xa_if_ne C dM_commit_6 (tgt := 13) rfl (fun h6 => ?_) (fun h6 => ?_)
  · refine xa_aload_n C dM_commit_13 rfl ?_
    refine xa_get C f_M_103 dM_commit_14 rfl rfl ?_
    refine xa_if_ne C dM_commit_17 (tgt := 24) rfl (fun h17 => ?_) (fun h17 => ?_)
    · exact absurd hd h17
    · refine xa_icN C 2 dM_commit_20 ?_
      refine xa_goto C dM_commit_21 (tgt := 25) rfl ?_
      refine xa_put C f_M_63 u_M_0 dM_commit_25 rfl (Nat.le_of_ble_eq_true rfl) rfl rfl (fun _ h => by cases h) ?_
      refine xa_aload_n C dM_commit_28 rfl ?_
      refine xa_get C f_M_63 dM_commit_29 rfl rfl ?_
      refine xa_if_eq C dM_commit_32 (tgt := 37) rfl (fun h32 => ?_) (fun h32 => ?_)
      · exact absurd h32 (by decide)
      · refine xa_lcN C 0 dM_commit_35 ?_
        exact xa_eq rfl rfl rfl (xa_lret C hr hk dM_commit_36)
  · exact absurd (sg_nI hn h1 hi) (xb_eq0.mp h6)
set_option maxHeartbeats 4000000 in
set_option maxRecDepth 100000 in
theorem p_M_commit_c (g : xw_G) (l : Launch) {c0 c1 c2 c3 c4 c5 c6 c7 c8 c9 c10 c11 c12 c13 c14 c15 : va_E} {n t : Nat} {se ke f1 f2 e1 e2 y1 y2 fa we sh to : Nat → Nat} {oz sz mz : Nat → Int32} {th dl ms tk bl : Int32} {al ch : Nat} {mi : Int64} {rest : List va_E} (hn : n ≤ 6) {i : Nat} (h1 : 1 ≤ i) (hi : i ≤ n) (hd : ¬ dl = 0) (w : Int64) : xm_R g l false m_M_commit [.ref 16, .int (nI i), .long w] (hQ c0 c1 c2 c3 c4 c5 c6 c7 c8 c9 c10 c11 c12 c13 c14 c15 (hM g th n t dl se ke oz f1 f2 e1 e2 ms al ch y1 y2 fa we sz mz sh to tk bl mi ++ rest)) (some (.long (lN (4 ^ pd_ 2 w i % 2147483579)))) (hQ c0 c1 c2 c3 c4 c5 c6 c7 c8 c9 c10 c11 c12 c13 c14 c15 (hM g (nI 0) n t dl se ke (upd oz i (nI 1)) (va_up f1 i (pd_ 2 w i)) (va_up f2 i (pd_ 3 w i)) (va_up e1 i (4 ^ pd_ 2 w i % 2147483579)) (va_up e2 i (4 ^ pd_ 3 w i % 2147483579)) ms al ch y1 y2 fa we (upd sz i (nI 0)) mz sh to tk bl (dg_m (dg_m (dg_m 0 3) w) (lN i)) ++ rest)) := by
  refine xm_of [some (.ref 16), some (.int (nI i)), some (.long w), none] rfl (Nat.le_of_ble_eq_true rfl) rfl ?_
  intro p e s m args below meth c C hr hk
  refine xa_aload_n C dM_commit_0 rfl ?_
  refine xa_aload_n C dM_commit_1 rfl ?_
  refine xa_iload_n C dM_commit_2 rfl ?_
  refine xa_callV1 C (p_M_isSigner g l _) b_M_116 (xw_in wi_M_isSigner rfl) e_M_isSigner dM_commit_3 rfl rfl rfl rfl (Nat.le_of_ble_eq_true rfl) ⟨Nat.le_of_ble_eq_true rfl, Nat.le_of_ble_eq_true rfl⟩ ⟨Nat.zero_le _, Nat.zero_le _⟩ ?_
  refine xa_if_ne C dM_commit_6 (tgt := 13) rfl (fun h6 => ?_) (fun h6 => ?_)
  · refine xa_aload_n C dM_commit_13 rfl ?_
    refine xa_get C f_M_103 dM_commit_14 rfl rfl ?_
    refine xa_if_ne C dM_commit_17 (tgt := 24) rfl (fun h17 => ?_) (fun h17 => ?_)
    · refine xa_icN C 0 dM_commit_24 ?_
      refine xa_put C f_M_63 u_M_0 dM_commit_25 rfl (Nat.le_of_ble_eq_true rfl) rfl rfl (fun _ h => by cases h) ?_
      refine xa_aload_n C dM_commit_28 rfl ?_
      refine xa_get C f_M_63 dM_commit_29 rfl rfl ?_
      refine xa_if_eq C dM_commit_32 (tgt := 37) rfl (fun h32 => ?_) (fun h32 => ?_)
      · refine xa_aload_n C dM_commit_37 rfl ?_
        refine xa_get C f_M_16 dM_commit_38 rfl rfl ?_
        refine xa_iload_n C dM_commit_41 rfl ?_
        refine xa_icN C 1 dM_commit_42 ?_
        refine xa_bastoreN C dM_commit_43 rfl ?_ (by omega) (by decide) ?_
        · omega
        refine xa_aload_n C dM_commit_44 rfl ?_
        refine xa_get C f_M_44 dM_commit_45 rfl rfl ?_
        refine xa_iload_n C dM_commit_48 rfl ?_
        refine xa_icN C 0 dM_commit_49 ?_
        refine xa_bastoreN C dM_commit_50 rfl ?_ (by omega) (by decide) ?_
        · omega
        refine xa_eq rfl rfl (hp' := (hQ c0 c1 c2 c3 c4 c5 c6 c7 c8 c9 c10 c11 c12 c13 c14 c15 (hM g (nI 0) n t dl se ke (upd oz i (nI 1)) f1 f2 e1 e2 ms al ch y1 y2 fa we (upd sz i (nI 0)) mz sh to tk bl mi ++ rest))) rfl ?_
        refine xa_aload_n C dM_commit_51 rfl ?_
        refine xa_get C f_M_20 dM_commit_52 rfl rfl ?_
        refine xa_iload_n C dM_commit_55 rfl ?_
        refine xa_aload_n C dM_commit_56 rfl ?_
        refine xa_ldcN C 2 (xw_in wk_M_120 rfl) dM_commit_57 ?_
        refine xa_lload_n C dM_commit_60 rfl ?_
        refine xa_iload_n C dM_commit_61 rfl ?_
        refine xa_callV1 C (p_M_pairNumber g l _ w (by omega)) b_M_122 (xw_in wi_M_pairNumber rfl) e_M_pairNumber dM_commit_62 rfl rfl rfl rfl (Nat.le_of_ble_eq_true rfl) ⟨Nat.le_of_ble_eq_true rfl, Nat.le_of_ble_eq_true rfl⟩ ⟨Nat.zero_le _, Nat.zero_le _⟩ ?_
        refine xa_lastoreN C dM_commit_65 rfl ?_ (by omega) ?_
        · omega
        refine xa_eq rfl rfl (hp' := (hQ c0 c1 c2 c3 c4 c5 c6 c7 c8 c9 c10 c11 c12 c13 c14 c15 (hM g (nI 0) n t dl se ke (upd oz i (nI 1)) (va_up f1 i (pd_ 2 w i)) f2 e1 e2 ms al ch y1 y2 fa we (upd sz i (nI 0)) mz sh to tk bl (dg_m (dg_m (dg_m 0 2) w) (lN i)) ++ rest))) rfl ?_
        refine xa_aload_n C dM_commit_66 rfl ?_
        refine xa_get C f_M_23 dM_commit_67 rfl rfl ?_
        refine xa_iload_n C dM_commit_70 rfl ?_
        refine xa_aload_n C dM_commit_71 rfl ?_
        refine xa_ldcN C 3 (xw_in wk_M_66 rfl) dM_commit_72 ?_
        refine xa_lload_n C dM_commit_75 rfl ?_
        refine xa_iload_n C dM_commit_76 rfl ?_
        refine xa_callV1 C (p_M_pairNumber g l _ w (by omega)) b_M_122 (xw_in wi_M_pairNumber rfl) e_M_pairNumber dM_commit_77 rfl rfl rfl rfl (Nat.le_of_ble_eq_true rfl) ⟨Nat.le_of_ble_eq_true rfl, Nat.le_of_ble_eq_true rfl⟩ ⟨Nat.zero_le _, Nat.zero_le _⟩ ?_
        refine xa_lastoreN C dM_commit_80 rfl ?_ (by omega) ?_
        · omega
        refine xa_eq rfl rfl (hp' := (hQ c0 c1 c2 c3 c4 c5 c6 c7 c8 c9 c10 c11 c12 c13 c14 c15 (hM g (nI 0) n t dl se ke (upd oz i (nI 1)) (va_up f1 i (pd_ 2 w i)) (va_up f2 i (pd_ 3 w i)) e1 e2 ms al ch y1 y2 fa we (upd sz i (nI 0)) mz sh to tk bl (dg_m (dg_m (dg_m 0 3) w) (lN i)) ++ rest))) rfl ?_
        refine xa_aload_n C dM_commit_81 rfl ?_
        refine xa_get C f_M_26 dM_commit_82 rfl rfl ?_
        refine xa_iload_n C dM_commit_85 rfl ?_
        refine xa_ldcN C 4 (xw_in wk_M_99 rfl) dM_commit_86 ?_
        refine xa_aload_n C dM_commit_89 rfl ?_
        refine xa_get C f_M_20 dM_commit_90 rfl rfl ?_
        refine xa_iload_n C dM_commit_93 rfl ?_
        refine xa_laloadN C dM_commit_94 rfl ?_ (by omega) ?_
        · omega
        rw [va_up_s]
        refine xa_ldcN C 2147483579 (xw_in wk_M_101 rfl) dM_commit_95 ?_
        refine xa_callS1 C (p_M_power g l (by decide) (Nat.lt_trans (pd_lt _ _ _) (by decide)) (by decide) (by decide) _) b_M_95 (xw_in wt_M_power rfl) dM_commit_98 rfl (Nat.le_of_ble_eq_true rfl) ⟨Nat.le_of_ble_eq_true rfl, Nat.le_of_ble_eq_true rfl⟩ ⟨Nat.zero_le _, Nat.zero_le _⟩ ?_
        refine xa_lastoreN C dM_commit_101 rfl ?_ (by omega) ?_
        · omega
        refine xa_eq rfl rfl (hp' := (hQ c0 c1 c2 c3 c4 c5 c6 c7 c8 c9 c10 c11 c12 c13 c14 c15 (hM g (nI 0) n t dl se ke (upd oz i (nI 1)) (va_up f1 i (pd_ 2 w i)) (va_up f2 i (pd_ 3 w i)) (va_up e1 i (4 ^ pd_ 2 w i % 2147483579)) e2 ms al ch y1 y2 fa we (upd sz i (nI 0)) mz sh to tk bl (dg_m (dg_m (dg_m 0 3) w) (lN i)) ++ rest))) rfl ?_
        refine xa_aload_n C dM_commit_102 rfl ?_
        refine xa_get C f_M_29 dM_commit_103 rfl rfl ?_
        refine xa_iload_n C dM_commit_106 rfl ?_
        refine xa_ldcN C 4 (xw_in wk_M_99 rfl) dM_commit_107 ?_
        refine xa_aload_n C dM_commit_110 rfl ?_
        refine xa_get C f_M_23 dM_commit_111 rfl rfl ?_
        refine xa_iload_n C dM_commit_114 rfl ?_
        refine xa_laloadN C dM_commit_115 rfl ?_ (by omega) ?_
        · omega
        rw [va_up_s]
        refine xa_ldcN C 2147483579 (xw_in wk_M_101 rfl) dM_commit_116 ?_
        refine xa_callS1 C (p_M_power g l (by decide) (Nat.lt_trans (pd_lt _ _ _) (by decide)) (by decide) (by decide) _) b_M_95 (xw_in wt_M_power rfl) dM_commit_119 rfl (Nat.le_of_ble_eq_true rfl) ⟨Nat.le_of_ble_eq_true rfl, Nat.le_of_ble_eq_true rfl⟩ ⟨Nat.zero_le _, Nat.zero_le _⟩ ?_
        refine xa_lastoreN C dM_commit_122 rfl ?_ (by omega) ?_
        · omega
        refine xa_aload_n C dM_commit_123 rfl ?_
        refine xa_get C f_M_26 dM_commit_124 rfl rfl ?_
        refine xa_iload_n C dM_commit_127 rfl ?_
        refine xa_laloadN C dM_commit_128 rfl ?_ (by omega) ?_
        · omega
        rw [va_up_s]
        exact xa_eq rfl rfl rfl (xa_lret C hr hk dM_commit_129)
      · exact absurd rfl h32
    · exact absurd h17 hd
  · exact absurd (sg_nI hn h1 hi) (xb_eq0.mp h6)
