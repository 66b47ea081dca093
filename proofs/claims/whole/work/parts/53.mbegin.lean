/-! the reference: begin -/
def ao_ (x : Int32) (oz : Nat → Int32) : Nat → Bool
  | 0 => true
  | k + 1 => ao_ x oz k && (!hs x (k + 1) || decide (¬ oz (k + 1) = 0))
set_option maxHeartbeats 4000000 in
set_option maxRecDepth 100000 in
theorem p_M_allOpen (g : xw_G) (l : Launch) {c0 c1 c2 c3 c4 c5 c6 c7 c8 c9 c10 c11 c12 c13 c14 c15 : va_E} {n t : Nat} {se ke f1 f2 e1 e2 y1 y2 fa we sh to : Nat → Nat} {oz sz mz : Nat → Int32} {th dl ms tk bl : Int32} {al ch : Nat} {mi : Int64} {rest : List va_E} (hn : n ≤ 6) (x : Int32) : xm_R g l true m_M_allOpen [.ref 16, .int x] (hQ c0 c1 c2 c3 c4 c5 c6 c7 c8 c9 c10 c11 c12 c13 c14 c15 (hM g th n t dl se ke oz f1 f2 e1 e2 ms al ch y1 y2 fa we sz mz sh to tk bl mi ++ rest)) (some (.int (xb (ao_ x oz n = true)))) (hQ c0 c1 c2 c3 c4 c5 c6 c7 c8 c9 c10 c11 c12 c13 c14 c15 (hM g th n t dl se ke oz f1 f2 e1 e2 ms al ch y1 y2 fa we sz mz sh to tk bl mi ++ rest)) := by
  refine xm_of [some (.ref 16), some (.int x), none, none] rfl (Nat.le_of_ble_eq_true rfl) rfl ?_
  intro p e s m args below meth c C hr hk
  have loop : ∀ d k : Nat, k + d = n → xw_At g true 4 p l e (xm_rm m_M_allOpen 0) s m args below meth c 0 0 (MQ below (xm_Q g true (some (.int (xb (ao_ x oz n = true)))) (hQ c0 c1 c2 c3 c4 c5 c6 c7 c8 c9 c10 c11 c12 c13 c14 c15 (hM g th n t dl se ke oz f1 f2 e1 e2 ms al ch y1 y2 fa we sz mz sh to tk bl mi ++ rest))) args s 0 0 (xm_fr g true)) 4 [some (.ref 16), some (.int x), some (.int (xb (ao_ x oz k = true))), some (.int (nI (k + 1)))] [] (hQ c0 c1 c2 c3 c4 c5 c6 c7 c8 c9 c10 c11 c12 c13 c14 c15 (hM g th n t dl se ke oz f1 f2 e1 e2 ms al ch y1 y2 fa we sz mz sh to tk bl mi ++ rest)) := by
    intro d
    induction d with
    | zero =>
      intro k hk9
      obtain rfl : k = n := by omega
      refine xa_iload_n C dM_allOpen_4 rfl ?_
      refine xa_aload_n C dM_allOpen_5 rfl ?_
      refine xa_get C f_M_56 dM_allOpen_6 rfl rfl ?_
      refine xa_icmp_gt C dM_allOpen_9 (tgt := 45) rfl (fun h9 => ?_) (fun h9 => ?_)
      · refine xa_iload_n C dM_allOpen_45 rfl ?_
        exact xa_zret C hr hk (xb_nar _) dM_allOpen_46
      · exact absurd (nI_lt (by omega) (by omega)) h9
    | succ d ih =>
      intro k hk9
      refine xa_iload_n C dM_allOpen_4 rfl ?_
      refine xa_aload_n C dM_allOpen_5 rfl ?_
      refine xa_get C f_M_56 dM_allOpen_6 rfl rfl ?_
      refine xa_icmp_gt C dM_allOpen_9 (tgt := 45) rfl (fun h9 => ?_) (fun h9 => ?_)
      · exact absurd h9 (nI_nlt (by omega) (by omega))
      · refine xa_iload_n C dM_allOpen_12 rfl ?_
        refine xa_if_eq C dM_allOpen_13 (tgt := 37) rfl (fun h13 => ?_) (fun h13 => ?_)
        · have ha : ao_ x oz k = false := by have := xb_eq0.mp h13; simpa using this
          refine xa_icN C 0 dM_allOpen_37 ?_
          refine xa_istore_n C dM_allOpen_38 (Nat.le_of_ble_eq_true rfl) ?_
          refine xa_incN C dM_allOpen_39 rfl (Nat.le_of_ble_eq_true rfl) ?_
          refine xa_goto C dM_allOpen_42 (tgt := 4) rfl ?_
          have h := ih (k + 1) (by omega)
          rw [show xb (ao_ x oz (k + 1) = true) = 0 from xb_f (by rw [ao_, ha, Bool.false_and]; decide)] at h
          exact h
        · have ha : ao_ x oz k = true := Decidable.byContradiction (fun q => h13 (xb_f q))
          refine xa_iload_n C dM_allOpen_16 rfl ?_
          refine xa_iload_n C dM_allOpen_17 rfl ?_
          refine xa_callS1 C (p_M_inN g l _ (by omega) (by omega) _) b_M_89 (xw_in wt_M_in rfl) dM_allOpen_18 rfl (Nat.le_of_ble_eq_true rfl) ⟨Nat.le_of_ble_eq_true rfl, Nat.le_of_ble_eq_true rfl⟩ ⟨Nat.zero_le _, Nat.zero_le _⟩ ?_
          refine xa_if_eq C dM_allOpen_21 (tgt := 33) rfl (fun h21 => ?_) (fun h21 => ?_)
          · have hb := xb_hs0 h21
            refine xa_icN C 1 dM_allOpen_33 ?_
            refine xa_goto C dM_allOpen_34 (tgt := 38) rfl ?_
            refine xa_istore_n C dM_allOpen_38 (Nat.le_of_ble_eq_true rfl) ?_
            refine xa_incN C dM_allOpen_39 rfl (Nat.le_of_ble_eq_true rfl) ?_
            refine xa_goto C dM_allOpen_42 (tgt := 4) rfl ?_
            have h := ih (k + 1) (by omega)
            rw [show xb (ao_ x oz (k + 1) = true) = 1 from xb_t (by rw [ao_, ha, hb]; rfl)] at h
            exact h
          · have hb := xb_hs1 h21
            refine xa_aload_n C dM_allOpen_24 rfl ?_
            refine xa_get C f_M_16 dM_allOpen_25 rfl rfl ?_
            refine xa_iload_n C dM_allOpen_28 rfl ?_
            refine xa_baloadN C dM_allOpen_29 rfl ?_ (by omega) ?_
            · omega
            refine xa_if_eq C dM_allOpen_30 (tgt := 37) rfl (fun h30 => ?_) (fun h30 => ?_)
            · refine xa_icN C 0 dM_allOpen_37 ?_
              refine xa_istore_n C dM_allOpen_38 (Nat.le_of_ble_eq_true rfl) ?_
              refine xa_incN C dM_allOpen_39 rfl (Nat.le_of_ble_eq_true rfl) ?_
              refine xa_goto C dM_allOpen_42 (tgt := 4) rfl ?_
              have h := ih (k + 1) (by omega)
              rw [show xb (ao_ x oz (k + 1) = true) = 0 from xb_f (by rw [ao_, ha, hb, h30]; decide)] at h
              exact h
            · refine xa_icN C 1 dM_allOpen_33 ?_
              refine xa_goto C dM_allOpen_34 (tgt := 38) rfl ?_
              refine xa_istore_n C dM_allOpen_38 (Nat.le_of_ble_eq_true rfl) ?_
              refine xa_incN C dM_allOpen_39 rfl (Nat.le_of_ble_eq_true rfl) ?_
              refine xa_goto C dM_allOpen_42 (tgt := 4) rfl ?_
              have h := ih (k + 1) (by omega)
              rw [show xb (ao_ x oz (k + 1) = true) = 1 from xb_t (by rw [ao_, ha, hb]; simp [h30])] at h
              exact h
  refine xa_icN C 1 dM_allOpen_0 ?_
  refine xa_istore_n C dM_allOpen_1 (Nat.le_of_ble_eq_true rfl) ?_
  refine xa_icN C 1 dM_allOpen_2 ?_
  refine xa_istore_n C dM_allOpen_3 (Nat.le_of_ble_eq_true rfl) ?_
  exact loop n 0 (by omega)
set_option maxHeartbeats 4000000 in
set_option maxRecDepth 100000 in
theorem p_M_factorOf (g : xw_G) (l : Launch) {c0 c1 c2 c3 c4 c5 c6 c7 c8 c9 c10 c11 c12 c13 c14 c15 : va_E} {n t : Nat} {se ke f1 f2 e1 e2 y1 y2 fa we sh to : Nat → Nat} {oz sz mz : Nat → Int32} {th dl ms tk bl : Int32} {al ch : Nat} {mi : Int64} {rest : List va_E} (hn : n ≤ 6) (x : Int32) (w : Int64) {i : Nat} (hi : i ≤ 6) : xm_R g l false m_M_factorOf [.ref 16, .int x, .long w, .int (nI i)] (hQ c0 c1 c2 c3 c4 c5 c6 c7 c8 c9 c10 c11 c12 c13 c14 c15 (hM g th n t dl se ke oz f1 f2 e1 e2 ms al ch y1 y2 fa we sz mz sh to tk bl mi ++ rest)) (some (.long (lN (ff_ x e1 e2 n w (ke 0) i)))) (hQ c0 c1 c2 c3 c4 c5 c6 c7 c8 c9 c10 c11 c12 c13 c14 c15 (hM g th n t dl se ke oz f1 f2 e1 e2 ms al ch y1 y2 fa we sz mz sh to tk bl (fh_ x e1 e2 (dg_m (dg_m (dg_m (dg_m 0 4) (lN (ke 0))) w) (lN i)) n) ++ rest)) := by
  refine xm_of [some (.ref 16), some (.int x), some (.long w), none, some (.int (nI i)), none] rfl (Nat.le_of_ble_eq_true rfl) rfl ?_
  intro p e s m args below meth c C hr hk
  have loop : ∀ d k : Nat, k + d = n → xw_At g false 6 p l e (xm_rm m_M_factorOf 0) s m args below meth c 0 0 (MQ below (xm_Q g false (some (.long (lN (ff_ x e1 e2 n w (ke 0) i)))) (hQ c0 c1 c2 c3 c4 c5 c6 c7 c8 c9 c10 c11 c12 c13 c14 c15 (hM g th n t dl se ke oz f1 f2 e1 e2 ms al ch y1 y2 fa we sz mz sh to tk bl (fh_ x e1 e2 (dg_m (dg_m (dg_m (dg_m 0 4) (lN (ke 0))) w) (lN i)) n) ++ rest))) args s 0 0 (xm_fr g false)) 32 [some (.ref 16), some (.int x), some (.long w), none, some (.int (nI i)), some (.int (nI (k + 1)))] [] (hQ c0 c1 c2 c3 c4 c5 c6 c7 c8 c9 c10 c11 c12 c13 c14 c15 (hM g th n t dl se ke oz f1 f2 e1 e2 ms al ch y1 y2 fa we sz mz sh to tk bl (fh_ x e1 e2 (dg_m (dg_m (dg_m (dg_m 0 4) (lN (ke 0))) w) (lN i)) k) ++ rest)) := by
    intro d
    induction d with
    | zero =>
      intro k hk9
      obtain rfl : k = n := by omega
      refine xa_iload C dM_factorOf_32 rfl ?_
      refine xa_aload_n C dM_factorOf_34 rfl ?_
      refine xa_get C f_M_56 dM_factorOf_35 rfl rfl ?_
      refine xa_icmp_gt C dM_factorOf_38 (tgt := 85) rfl (fun h38 => ?_) (fun h38 => ?_)
      · refine xa_aload_n C dM_factorOf_85 rfl ?_
        refine xa_callV1 C (p_M_digest g l) b_M_83 (xw_in wi_M_digest rfl) e_M_digest dM_factorOf_86 rfl rfl rfl rfl (Nat.le_of_ble_eq_true rfl) ⟨Nat.le_of_ble_eq_true rfl, Nat.le_of_ble_eq_true rfl⟩ ⟨Nat.zero_le _, Nat.zero_le _⟩ ?_
        exact xa_lret C hr hk dM_factorOf_89
      · exact absurd (nI_lt (by omega) (by omega)) h38
    | succ d ih =>
      intro k hk9
      refine xa_iload C dM_factorOf_32 rfl ?_
      refine xa_aload_n C dM_factorOf_34 rfl ?_
      refine xa_get C f_M_56 dM_factorOf_35 rfl rfl ?_
      refine xa_icmp_gt C dM_factorOf_38 (tgt := 85) rfl (fun h38 => ?_) (fun h38 => ?_)
      · exact absurd h38 (nI_nlt (by omega) (by omega))
      · refine xa_iload_n C dM_factorOf_41 rfl ?_
        refine xa_iload C dM_factorOf_42 rfl ?_
        refine xa_callS1 C (p_M_inN g l _ (by omega) (by omega) _) b_M_89 (xw_in wt_M_in rfl) dM_factorOf_44 rfl (Nat.le_of_ble_eq_true rfl) ⟨Nat.le_of_ble_eq_true rfl, Nat.le_of_ble_eq_true rfl⟩ ⟨Nat.zero_le _, Nat.zero_le _⟩ ?_
        refine xa_if_eq C dM_factorOf_47 (tgt := 79) rfl (fun h47 => ?_) (fun h47 => ?_)
        · have hb := xb_hs0 h47
          refine xa_incN C dM_factorOf_79 rfl (Nat.le_of_ble_eq_true rfl) ?_
          refine xa_goto C dM_factorOf_82 (tgt := 32) rfl ?_
          have h := ih (k + 1) (by omega)
          rw [fh_, if_neg (by rw [hb]; decide)] at h
          exact h
        · have hb := xb_hs1 h47
          refine xa_aload_n C dM_factorOf_50 rfl ?_
          refine xa_iload C dM_factorOf_51 rfl ?_
          refine xa_i2lN C dM_factorOf_53 (by omega) ?_
          refine xa_callVv C (p_M_mix g l _) b_M_74 (xw_in wi_M_mix rfl) e_M_mix dM_factorOf_54 rfl rfl rfl rfl (Nat.le_of_ble_eq_true rfl) ⟨Nat.le_of_ble_eq_true rfl, Nat.le_of_ble_eq_true rfl⟩ ⟨Nat.zero_le _, Nat.zero_le _⟩ ?_
          refine xa_aload_n C dM_factorOf_57 rfl ?_
          refine xa_aload_n C dM_factorOf_58 rfl ?_
          refine xa_get C f_M_26 dM_factorOf_59 rfl rfl ?_
          refine xa_iload C dM_factorOf_62 rfl ?_
          refine xa_laloadN C dM_factorOf_64 rfl ?_ (by omega) ?_
          · omega
          refine xa_callVv C (p_M_mix g l _) b_M_74 (xw_in wi_M_mix rfl) e_M_mix dM_factorOf_65 rfl rfl rfl rfl (Nat.le_of_ble_eq_true rfl) ⟨Nat.le_of_ble_eq_true rfl, Nat.le_of_ble_eq_true rfl⟩ ⟨Nat.zero_le _, Nat.zero_le _⟩ ?_
          refine xa_aload_n C dM_factorOf_68 rfl ?_
          refine xa_aload_n C dM_factorOf_69 rfl ?_
          refine xa_get C f_M_29 dM_factorOf_70 rfl rfl ?_
          refine xa_iload C dM_factorOf_73 rfl ?_
          refine xa_laloadN C dM_factorOf_75 rfl ?_ (by omega) ?_
          · omega
          refine xa_callVv C (p_M_mix g l _) b_M_74 (xw_in wi_M_mix rfl) e_M_mix dM_factorOf_76 rfl rfl rfl rfl (Nat.le_of_ble_eq_true rfl) ⟨Nat.le_of_ble_eq_true rfl, Nat.le_of_ble_eq_true rfl⟩ ⟨Nat.zero_le _, Nat.zero_le _⟩ ?_
          refine xa_incN C dM_factorOf_79 rfl (Nat.le_of_ble_eq_true rfl) ?_
          refine xa_goto C dM_factorOf_82 (tgt := 32) rfl ?_
          have h := ih (k + 1) (by omega)
          rw [fh_, if_pos hb] at h
          exact h
  refine xa_aload_n C dM_factorOf_0 rfl ?_
  refine xa_ldcN C 4 (xw_in wk_M_99 rfl) dM_factorOf_1 ?_
  refine xa_callVv C (p_M_begins g l _) b_M_80 (xw_in wi_M_begins rfl) e_M_begins dM_factorOf_4 rfl rfl rfl rfl (Nat.le_of_ble_eq_true rfl) ⟨Nat.le_of_ble_eq_true rfl, Nat.le_of_ble_eq_true rfl⟩ ⟨Nat.zero_le _, Nat.zero_le _⟩ ?_
  refine xa_aload_n C dM_factorOf_7 rfl ?_
  refine xa_aload_n C dM_factorOf_8 rfl ?_
  refine xa_get C f_M_13 dM_factorOf_9 rfl rfl ?_
  refine xa_icN C 0 dM_factorOf_12 ?_
  refine xa_laloadN C dM_factorOf_13 rfl ?_ (by omega) ?_
  · omega
  refine xa_callVv C (p_M_mix g l _) b_M_74 (xw_in wi_M_mix rfl) e_M_mix dM_factorOf_14 rfl rfl rfl rfl (Nat.le_of_ble_eq_true rfl) ⟨Nat.le_of_ble_eq_true rfl, Nat.le_of_ble_eq_true rfl⟩ ⟨Nat.zero_le _, Nat.zero_le _⟩ ?_
  refine xa_aload_n C dM_factorOf_17 rfl ?_
  refine xa_lload_n C dM_factorOf_18 rfl ?_
  refine xa_callVv C (p_M_mix g l _) b_M_74 (xw_in wi_M_mix rfl) e_M_mix dM_factorOf_19 rfl rfl rfl rfl (Nat.le_of_ble_eq_true rfl) ⟨Nat.le_of_ble_eq_true rfl, Nat.le_of_ble_eq_true rfl⟩ ⟨Nat.zero_le _, Nat.zero_le _⟩ ?_
  refine xa_aload_n C dM_factorOf_22 rfl ?_
  refine xa_iload C dM_factorOf_23 rfl ?_
  refine xa_i2lN C dM_factorOf_25 (by omega) ?_
  refine xa_callVv C (p_M_mix g l _) b_M_74 (xw_in wi_M_mix rfl) e_M_mix dM_factorOf_26 rfl rfl rfl rfl (Nat.le_of_ble_eq_true rfl) ⟨Nat.le_of_ble_eq_true rfl, Nat.le_of_ble_eq_true rfl⟩ ⟨Nat.zero_le _, Nat.zero_le _⟩ ?_
  refine xa_icN C 1 dM_factorOf_29 ?_
  refine xa_istore C dM_factorOf_30 (Nat.le_of_ble_eq_true rfl) ?_
  exact loop n 0 (by omega)
set_option maxHeartbeats 4000000 in
set_option maxRecDepth 100000 in
theorem p_M_begin_a (g : xw_G) (l : Launch) {c0 c1 c2 c3 c4 c5 c6 c7 c8 c9 c10 c11 c12 c13 c14 c15 : va_E} {n t : Nat} {se ke f1 f2 e1 e2 y1 y2 fa we sh to : Nat → Nat} {oz sz mz : Nat → Int32} {th dl ms tk bl : Int32} {al ch : Nat} {mi : Int64} {rest : List va_E} (hn : n ≤ 6) (x : Int32) (hx : ¬ em n t x) (w : Int64) : xm_R g l false m_M_begin [.ref 16, .int x, .long w] (hQ c0 c1 c2 c3 c4 c5 c6 c7 c8 c9 c10 c11 c12 c13 c14 c15 (hM g th n t dl se ke oz f1 f2 e1 e2 ms al ch y1 y2 fa we sz mz sh to tk bl mi ++ rest)) (some (.long (lN 0))) (hQ c0 c1 c2 c3 c4 c5 c6 c7 c8 c9 c10 c11 c12 c13 c14 c15 (hM g (nI 1) n t dl se ke oz f1 f2 e1 e2 ms al ch y1 y2 fa we sz mz sh to tk bl mi ++ rest)) := by
  refine xm_of [some (.ref 16), some (.int x), some (.long w), none, none] rfl (Nat.le_of_ble_eq_true rfl) rfl ?_
  intro p e s m args below meth c C hr hk
  refine xa_aload_n C dM_begin_0 rfl ?_
  refine xa_aload_n C dM_begin_1 rfl ?_
  refine xa_iload_n C dM_begin_2 rfl ?_
  refine xa_callV1 C (p_M_isSet g l hn _) b_M_126 (xw_in wi_M_isSet rfl) e_M_isSet dM_begin_3 rfl rfl rfl rfl (Nat.le_of_ble_eq_true rfl) ⟨Nat.le_of_ble_eq_true rfl, Nat.le_of_ble_eq_true rfl⟩ ⟨Nat.zero_le _, Nat.zero_le _⟩ ?_
  refine xa_if_ne C dM_begin_6 (tgt := 13) rfl (fun h6 => ?_) (fun h6 => ?_)
  · exact absurd (xb_f hx) h6
  · refine xa_icN C 1 dM_begin_9 ?_
    refine xa_goto C dM_begin_10 (tgt := 33) rfl ?_
    refine xa_put C f_M_63 u_M_0 dM_begin_33 rfl (Nat.le_of_ble_eq_true rfl) rfl rfl (fun _ h => by cases h) ?_
    refine xa_aload_n C dM_begin_36 rfl ?_
    refine xa_get C f_M_63 dM_begin_37 rfl rfl ?_
    refine xa_if_eq C dM_begin_40 (tgt := 45) rfl (fun h40 => ?_) (fun h40 => ?_)
    · exact absurd h40 (by decide)
    · refine xa_lcN C 0 dM_begin_43 ?_
      exact xa_eq rfl rfl rfl (xa_lret C hr hk dM_begin_44)
set_option maxHeartbeats 4000000 in
set_option maxRecDepth 100000 in
theorem p_M_begin_b (g : xw_G) (l : Launch) {c0 c1 c2 c3 c4 c5 c6 c7 c8 c9 c10 c11 c12 c13 c14 c15 : va_E} {n t : Nat} {se ke f1 f2 e1 e2 y1 y2 fa we sh to : Nat → Nat} {oz sz mz : Nat → Int32} {th dl ms tk bl : Int32} {al ch : Nat} {mi : Int64} {rest : List va_E} (hn : n ≤ 6) (x : Int32) (hx : em n t x) (hd : dl = 0) (w : Int64) : xm_R g l false m_M_begin [.ref 16, .int x, .long w] (hQ c0 c1 c2 c3 c4 c5 c6 c7 c8 c9 c10 c11 c12 c13 c14 c15 (hM g th n t dl se ke oz f1 f2 e1 e2 ms al ch y1 y2 fa we sz mz sh to tk bl mi ++ rest)) (some (.long (lN 0))) (hQ c0 c1 c2 c3 c4 c5 c6 c7 c8 c9 c10 c11 c12 c13 c14 c15 (hM g (nI 2) n t dl se ke oz f1 f2 e1 e2 ms al ch y1 y2 fa we sz mz sh to tk bl mi ++ rest)) := by
  refine xm_of [some (.ref 16), some (.int x), some (.long w), none, none] rfl (Nat.le_of_ble_eq_true rfl) rfl ?_
  intro p e s m args below meth c C hr hk
  refine xa_aload_n C dM_begin_0 rfl ?_
  refine xa_aload_n C dM_begin_1 rfl ?_
  refine xa_iload_n C dM_begin_2 rfl ?_
  refine xa_callV1 C (p_M_isSet g l hn _) b_M_126 (xw_in wi_M_isSet rfl) e_M_isSet dM_begin_3 rfl rfl rfl rfl (Nat.le_of_ble_eq_true rfl) ⟨Nat.le_of_ble_eq_true rfl, Nat.le_of_ble_eq_true rfl⟩ ⟨Nat.zero_le _, Nat.zero_le _⟩ ?_
  refine xa_if_ne C dM_begin_6 (tgt := 13) rfl (fun h6 => ?_) (fun h6 => ?_)
  · refine xa_aload_n C dM_begin_13 rfl ?_
    refine xa_get C f_M_103 dM_begin_14 rfl rfl ?_
    refine xa_if_eq C dM_begin_17 (tgt := 28) rfl (fun h17 => ?_) (fun h17 => ?_)
    · refine xa_icN C 2 dM_begin_28 ?_
      refine xa_goto C dM_begin_29 (tgt := 33) rfl ?_
      refine xa_put C f_M_63 u_M_0 dM_begin_33 rfl (Nat.le_of_ble_eq_true rfl) rfl rfl (fun _ h => by cases h) ?_
      refine xa_aload_n C dM_begin_36 rfl ?_
      refine xa_get C f_M_63 dM_begin_37 rfl rfl ?_
      refine xa_if_eq C dM_begin_40 (tgt := 45) rfl (fun h40 => ?_) (fun h40 => ?_)
      · exact absurd h40 (by decide)
      · refine xa_lcN C 0 dM_begin_43 ?_
        exact xa_eq rfl rfl rfl (xa_lret C hr hk dM_begin_44)
    · exact absurd hd h17
  · exact absurd hx (xb_eq0.mp h6)
set_option maxHeartbeats 4000000 in
set_option maxRecDepth 100000 in
theorem p_M_begin_c (g : xw_G) (l : Launch) {c0 c1 c2 c3 c4 c5 c6 c7 c8 c9 c10 c11 c12 c13 c14 c15 : va_E} {n t : Nat} {se ke f1 f2 e1 e2 y1 y2 fa we sh to : Nat → Nat} {oz sz mz : Nat → Int32} {th dl ms tk bl : Int32} {al ch : Nat} {mi : Int64} {rest : List va_E} (hn : n ≤ 6) (x : Int32) (hx : em n t x) (hd : ¬ dl = 0) (ho : ao_ x oz n = false) (w : Int64) : xm_R g l false m_M_begin [.ref 16, .int x, .long w] (hQ c0 c1 c2 c3 c4 c5 c6 c7 c8 c9 c10 c11 c12 c13 c14 c15 (hM g th n t dl se ke oz f1 f2 e1 e2 ms al ch y1 y2 fa we sz mz sh to tk bl mi ++ rest)) (some (.long (lN 0))) (hQ c0 c1 c2 c3 c4 c5 c6 c7 c8 c9 c10 c11 c12 c13 c14 c15 (hM g (nI 2) n t dl se ke oz f1 f2 e1 e2 ms al ch y1 y2 fa we sz mz sh to tk bl mi ++ rest)) := by
  refine xm_of [some (.ref 16), some (.int x), some (.long w), none, none] rfl (Nat.le_of_ble_eq_true rfl) rfl ?_
  intro p e s m args below meth c C hr hk
  refine xa_aload_n C dM_begin_0 rfl ?_
  refine xa_aload_n C dM_begin_1 rfl ?_
  refine xa_iload_n C dM_begin_2 rfl ?_
  refine xa_callV1 C (p_M_isSet g l hn _) b_M_126 (xw_in wi_M_isSet rfl) e_M_isSet dM_begin_3 rfl rfl rfl rfl (Nat.le_of_ble_eq_true rfl) ⟨Nat.le_of_ble_eq_true rfl, Nat.le_of_ble_eq_true rfl⟩ ⟨Nat.zero_le _, Nat.zero_le _⟩ ?_
  refine xa_if_ne C dM_begin_6 (tgt := 13) rfl (fun h6 => ?_) (fun h6 => ?_)
  · refine xa_aload_n C dM_begin_13 rfl ?_
    refine xa_get C f_M_103 dM_begin_14 rfl rfl ?_
    refine xa_if_eq C dM_begin_17 (tgt := 28) rfl (fun h17 => ?_) (fun h17 => ?_)
    · exact absurd h17 hd
    · refine xa_aload_n C dM_begin_20 rfl ?_
      refine xa_iload_n C dM_begin_21 rfl ?_
      refine xa_callV1 C (p_M_allOpen g l hn _) b_M_129 (xw_in wi_M_allOpen rfl) e_M_allOpen dM_begin_22 rfl rfl rfl rfl (Nat.le_of_ble_eq_true rfl) ⟨Nat.le_of_ble_eq_true rfl, Nat.le_of_ble_eq_true rfl⟩ ⟨Nat.zero_le _, Nat.zero_le _⟩ ?_
      refine xa_if_ne C dM_begin_25 (tgt := 32) rfl (fun h25 => ?_) (fun h25 => ?_)
      · exact absurd (xb_f (by rw [ho]; decide)) h25
      · refine xa_icN C 2 dM_begin_28 ?_
        refine xa_goto C dM_begin_29 (tgt := 33) rfl ?_
        refine xa_put C f_M_63 u_M_0 dM_begin_33 rfl (Nat.le_of_ble_eq_true rfl) rfl rfl (fun _ h => by cases h) ?_
        refine xa_aload_n C dM_begin_36 rfl ?_
        refine xa_get C f_M_63 dM_begin_37 rfl rfl ?_
        refine xa_if_eq C dM_begin_40 (tgt := 45) rfl (fun h40 => ?_) (fun h40 => ?_)
        · exact absurd h40 (by decide)
        · refine xa_lcN C 0 dM_begin_43 ?_
          exact xa_eq rfl rfl rfl (xa_lret C hr hk dM_begin_44)
  · exact absurd hx (xb_eq0.mp h6)
def slz (p : Nat → Bool) (v : Int32) (f : Nat → Int32) (k : Nat) : Nat → Int32 := fun j => if 1 ≤ j ∧ j ≤ k ∧ p j = true then v else f j
theorem slz_up {p : Nat → Bool} {v : Int32} {f : Nat → Int32} {k : Nat} (h : p (k + 1) = true) : upd (slz p v f k) (k + 1) v = slz p v f (k + 1) := by
  funext j
  unfold upd slz
  by_cases e : j = k + 1
  · subst e
    rw [if_pos rfl, if_pos ⟨by omega, by omega, h⟩]
  · rw [if_neg e]
    by_cases q : 1 ≤ j ∧ j ≤ k ∧ p j = true
    · rw [if_pos q, if_pos ⟨q.1, by omega, q.2.2⟩]
    · rw [if_neg q, if_neg (fun z => q ⟨z.1, by omega, z.2.2⟩)]
theorem slz_no {p : Nat → Bool} {v : Int32} {f : Nat → Int32} {k : Nat} (h : p (k + 1) = false) : slz p v f (k + 1) = slz p v f k := by
  funext j
  unfold slz
  by_cases q : 1 ≤ j ∧ j ≤ k ∧ p j = true
  · rw [if_pos q, if_pos ⟨q.1, by omega, q.2.2⟩]
  · rw [if_neg q, if_neg (fun z => ?_)]
    by_cases e : j = k + 1
    · subst e; rw [h] at z; exact absurd z.2.2 (by decide)
    · exact q ⟨z.1, by omega, z.2.2⟩
theorem slz_0 (p : Nat → Bool) (v : Int32) (f : Nat → Int32) : slz p v f 0 = f := by
  funext j
  unfold slz
  rw [if_neg (fun z => by omega)]
def mb_ (x : Int32) (e1 e2 : Nat → Nat) (n : Nat) (w : Int64) (key : Nat) (m0 : Int64) : Nat → Int64
  | 0 => m0
  | k + 1 => if hs x (k + 1) = true then fh_ x e1 e2 (dg_m (dg_m (dg_m (dg_m 0 4) (lN key)) w) (lN (k + 1))) n else mb_ x e1 e2 n w key m0 k
set_option maxHeartbeats 4000000 in
set_option maxRecDepth 100000 in
theorem p_M_begin_d (g : xw_G) (l : Launch) {c0 c1 c2 c3 c4 c5 c6 c7 c8 c9 c10 c11 c12 c13 c14 c15 : va_E} {n t : Nat} {se ke f1 f2 e1 e2 y1 y2 fa we sh to : Nat → Nat} {oz sz mz : Nat → Int32} {th dl ms tk bl : Int32} {al ch : Nat} {mi : Int64} {rest : List va_E} (hn : n ≤ 6) (ht : t ≤ 6) (he1 : ∀ j, e1 j < 2 ^ 31) (he2 : ∀ j, e2 j < 2 ^ 31) (x : Int32) (hx : em n t x) (hd : ¬ dl = 0) (ho : ao_ x oz n = true) (w : Int64) : xm_R g l false m_M_begin [.ref 16, .int x, .long w] (hQ c0 c1 c2 c3 c4 c5 c6 c7 c8 c9 c10 c11 c12 c13 c14 c15 (hM g th n t dl se ke oz f1 f2 e1 e2 ms al ch y1 y2 fa we sz mz sh to tk bl mi ++ rest)) (some (.long (lN (pp_ x e1 e2 (ff_ x e1 e2 n w (ke 0)) n)))) (hQ c0 c1 c2 c3 c4 c5 c6 c7 c8 c9 c10 c11 c12 c13 c14 c15 (hM g (nI 0) n t dl se ke oz f1 f2 e1 e2 x (pp_ x e1 e2 (ff_ x e1 e2 n w (ke 0)) n) (cs_ (pp_ x e1 e2 (ff_ x e1 e2 n w (ke 0)) n) (ke 0) w) (sl_ (hs x) e1 y1 n) (sl_ (hs x) e2 y2 n) (sl_ (hs x) (ff_ x e1 e2 n w (ke 0)) fa n) (sl_ (hs x) (wt_ x n) we n) (slz (hs x) (nI 1) sz n) (slz (hs x) (nI 0) mz n) sh to 0 0 (dg_m (dg_m (dg_m (dg_m 0 5) (lN (pp_ x e1 e2 (ff_ x e1 e2 n w (ke 0)) n))) (lN (ke 0))) w) ++ rest)) := by
  refine xm_of [some (.ref 16), some (.int x), some (.long w), none, none] rfl (Nat.le_of_ble_eq_true rfl) rfl ?_
  intro p e s m args below meth c C hr hk
  have loop : ∀ d k : Nat, k + d = n → xw_At g false 5 p l e (xm_rm m_M_begin 0) s m args below meth c 0 0 (MQ below (xm_Q g false (some (.long (lN (pp_ x e1 e2 (ff_ x e1 e2 n w (ke 0)) n)))) (hQ c0 c1 c2 c3 c4 c5 c6 c7 c8 c9 c10 c11 c12 c13 c14 c15 (hM g (nI 0) n t dl se ke oz f1 f2 e1 e2 x (pp_ x e1 e2 (ff_ x e1 e2 n w (ke 0)) n) (cs_ (pp_ x e1 e2 (ff_ x e1 e2 n w (ke 0)) n) (ke 0) w) (sl_ (hs x) e1 y1 n) (sl_ (hs x) e2 y2 n) (sl_ (hs x) (ff_ x e1 e2 n w (ke 0)) fa n) (sl_ (hs x) (wt_ x n) we n) (slz (hs x) (nI 1) sz n) (slz (hs x) (nI 0) mz n) sh to 0 0 (dg_m (dg_m (dg_m (dg_m 0 5) (lN (pp_ x e1 e2 (ff_ x e1 e2 n w (ke 0)) n))) (lN (ke 0))) w) ++ rest))) args s 0 0 (xm_fr g false)) 68 [some (.ref 16), some (.int x), some (.long w), none, some (.int (nI (k + 1)))] [] (hQ c0 c1 c2 c3 c4 c5 c6 c7 c8 c9 c10 c11 c12 c13 c14 c15 (hM g (nI 0) n t dl se ke oz f1 f2 e1 e2 x (pp_ x e1 e2 (ff_ x e1 e2 n w (ke 0)) k) ch (sl_ (hs x) e1 y1 k) (sl_ (hs x) e2 y2 k) (sl_ (hs x) (ff_ x e1 e2 n w (ke 0)) fa k) (sl_ (hs x) (wt_ x n) we k) (slz (hs x) (nI 1) sz k) (slz (hs x) (nI 0) mz k) sh to 0 0 (mb_ x e1 e2 n w (ke 0) mi k) ++ rest)) := by
    intro d
    induction d with
    | zero =>
      intro k hk9
      obtain rfl : k = n := by omega
      refine xa_iload C dM_begin_68 rfl ?_
      refine xa_aload_n C dM_begin_70 rfl ?_
      refine xa_get C f_M_56 dM_begin_71 rfl rfl ?_
      refine xa_icmp_gt C dM_begin_74 (tgt := 210) rfl (fun h74 => ?_) (fun h74 => ?_)
      · refine xa_aload_n C dM_begin_210 rfl ?_
        refine xa_aload_n C dM_begin_211 rfl ?_
        refine xa_aload_n C dM_begin_212 rfl ?_
        refine xa_get C f_M_132 dM_begin_213 rfl rfl ?_
        refine xa_lload_n C dM_begin_216 rfl ?_
        refine xa_callV1 C (p_M_challengeOf g l _ w) b_M_143 (xw_in wi_M_challengeOf rfl) e_M_challengeOf dM_begin_217 rfl rfl rfl rfl (Nat.le_of_ble_eq_true rfl) ⟨Nat.le_of_ble_eq_true rfl, Nat.le_of_ble_eq_true rfl⟩ ⟨Nat.zero_le _, Nat.zero_le _⟩ ?_
        refine xa_put C f_M_147 u_M_13 dM_begin_220 rfl (Nat.le_of_ble_eq_true rfl) rfl rfl (fun _ h => by cases h) ?_
        refine xa_aload_n C dM_begin_223 rfl ?_
        refine xa_get C f_M_132 dM_begin_224 rfl rfl ?_
        exact xa_eq rfl rfl rfl (xa_lret C hr hk dM_begin_227)
      · exact absurd (nI_lt (by omega) (by omega)) h74
    | succ d ih =>
      intro k hk9
      refine xa_iload C dM_begin_68 rfl ?_
      refine xa_aload_n C dM_begin_70 rfl ?_
      refine xa_get C f_M_56 dM_begin_71 rfl rfl ?_
      refine xa_icmp_gt C dM_begin_74 (tgt := 210) rfl (fun h74 => ?_) (fun h74 => ?_)
      · exact absurd h74 (nI_nlt (by omega) (by omega))
      · refine xa_iload_n C dM_begin_77 rfl ?_
        refine xa_iload C dM_begin_78 rfl ?_
        refine xa_callS1 C (p_M_inN g l _ (by omega) (by omega) _) b_M_89 (xw_in wt_M_in rfl) dM_begin_80 rfl (Nat.le_of_ble_eq_true rfl) ⟨Nat.le_of_ble_eq_true rfl, Nat.le_of_ble_eq_true rfl⟩ ⟨Nat.zero_le _, Nat.zero_le _⟩ ?_
        refine xa_if_eq C dM_begin_83 (tgt := 204) rfl (fun h83 => ?_) (fun h83 => ?_)
        · have hb := xb_hs0 h83
          refine xa_incN C dM_begin_204 rfl (Nat.le_of_ble_eq_true rfl) ?_
          refine xa_goto C dM_begin_207 (tgt := 68) rfl ?_
          have h := ih (k + 1) (by omega)
          rw [sl_no (p := hs x) hb, sl_no (p := hs x) hb, sl_no (p := hs x) hb, sl_no (p := hs x) hb, slz_no (p := hs x) hb, slz_no (p := hs x) hb, pp_, if_neg (by rw [hb]; decide), mb_, if_neg (by rw [hb]; decide)] at h
          exact h
        · have hb := xb_hs1 h83
          refine xa_aload_n C dM_begin_86 rfl ?_
          refine xa_get C f_M_32 dM_begin_87 rfl rfl ?_
          refine xa_iload C dM_begin_90 rfl ?_
          refine xa_aload_n C dM_begin_92 rfl ?_
          refine xa_get C f_M_26 dM_begin_93 rfl rfl ?_
          refine xa_iload C dM_begin_96 rfl ?_
          refine xa_laloadN C dM_begin_98 rfl ?_ (by omega) ?_
          · omega
          refine xa_lastoreN C dM_begin_99 rfl ?_ (by omega) ?_
          · omega
          rw [sl_up (p := hs x) (v := e1) hb]
          refine xa_eq rfl rfl (hp' := (hQ c0 c1 c2 c3 c4 c5 c6 c7 c8 c9 c10 c11 c12 c13 c14 c15 (hM g (nI 0) n t dl se ke oz f1 f2 e1 e2 x (pp_ x e1 e2 (ff_ x e1 e2 n w (ke 0)) k) ch (sl_ (hs x) e1 y1 (k + 1)) (sl_ (hs x) e2 y2 k) (sl_ (hs x) (ff_ x e1 e2 n w (ke 0)) fa k) (sl_ (hs x) (wt_ x n) we k) (slz (hs x) (nI 1) sz k) (slz (hs x) (nI 0) mz k) sh to 0 0 (mb_ x e1 e2 n w (ke 0) mi k) ++ rest))) rfl ?_
          refine xa_aload_n C dM_begin_100 rfl ?_
          refine xa_get C f_M_35 dM_begin_101 rfl rfl ?_
          refine xa_iload C dM_begin_104 rfl ?_
          refine xa_aload_n C dM_begin_106 rfl ?_
          refine xa_get C f_M_29 dM_begin_107 rfl rfl ?_
          refine xa_iload C dM_begin_110 rfl ?_
          refine xa_laloadN C dM_begin_112 rfl ?_ (by omega) ?_
          · omega
          refine xa_lastoreN C dM_begin_113 rfl ?_ (by omega) ?_
          · omega
          rw [sl_up (p := hs x) (v := e2) hb]
          refine xa_eq rfl rfl (hp' := (hQ c0 c1 c2 c3 c4 c5 c6 c7 c8 c9 c10 c11 c12 c13 c14 c15 (hM g (nI 0) n t dl se ke oz f1 f2 e1 e2 x (pp_ x e1 e2 (ff_ x e1 e2 n w (ke 0)) k) ch (sl_ (hs x) e1 y1 (k + 1)) (sl_ (hs x) e2 y2 (k + 1)) (sl_ (hs x) (ff_ x e1 e2 n w (ke 0)) fa k) (sl_ (hs x) (wt_ x n) we k) (slz (hs x) (nI 1) sz k) (slz (hs x) (nI 0) mz k) sh to 0 0 (mb_ x e1 e2 n w (ke 0) mi k) ++ rest))) rfl ?_
          refine xa_aload_n C dM_begin_114 rfl ?_
          refine xa_get C f_M_38 dM_begin_115 rfl rfl ?_
          refine xa_iload C dM_begin_118 rfl ?_
          refine xa_aload_n C dM_begin_120 rfl ?_
          refine xa_iload_n C dM_begin_121 rfl ?_
          refine xa_lload_n C dM_begin_122 rfl ?_
          refine xa_iload C dM_begin_123 rfl ?_
          refine xa_callV1 C (p_M_factorOf g l hn _ w (by omega)) b_M_135 (xw_in wi_M_factorOf rfl) e_M_factorOf dM_begin_125 rfl rfl rfl rfl (Nat.le_of_ble_eq_true rfl) ⟨Nat.le_of_ble_eq_true rfl, Nat.le_of_ble_eq_true rfl⟩ ⟨Nat.zero_le _, Nat.zero_le _⟩ ?_
          refine xa_lastoreN C dM_begin_128 rfl ?_ (by omega) ?_
          · omega
          rw [sl_up (p := hs x) (v := (ff_ x e1 e2 n w (ke 0))) hb]
          refine xa_eq rfl rfl (hp' := (hQ c0 c1 c2 c3 c4 c5 c6 c7 c8 c9 c10 c11 c12 c13 c14 c15 (hM g (nI 0) n t dl se ke oz f1 f2 e1 e2 x (pp_ x e1 e2 (ff_ x e1 e2 n w (ke 0)) k) ch (sl_ (hs x) e1 y1 (k + 1)) (sl_ (hs x) e2 y2 (k + 1)) (sl_ (hs x) (ff_ x e1 e2 n w (ke 0)) fa (k + 1)) (sl_ (hs x) (wt_ x n) we k) (slz (hs x) (nI 1) sz k) (slz (hs x) (nI 0) mz k) sh to 0 0 (fh_ x e1 e2 (dg_m (dg_m (dg_m (dg_m 0 4) (lN (ke 0))) w) (lN (k + 1))) n) ++ rest))) rfl ?_
          refine xa_aload_n C dM_begin_129 rfl ?_
          refine xa_get C f_M_41 dM_begin_130 rfl rfl ?_
          refine xa_iload C dM_begin_133 rfl ?_
          refine xa_aload_n C dM_begin_135 rfl ?_
          refine xa_iload_n C dM_begin_136 rfl ?_
          refine xa_iload C dM_begin_137 rfl ?_
          refine xa_callV1 C (p_M_weightIn g l hn _ (by omega)) b_M_139 (xw_in wi_M_weightIn rfl) e_M_weightIn dM_begin_139 rfl rfl rfl rfl (Nat.le_of_ble_eq_true rfl) ⟨Nat.le_of_ble_eq_true rfl, Nat.le_of_ble_eq_true rfl⟩ ⟨Nat.zero_le _, Nat.zero_le _⟩ ?_
          refine xa_lastoreN C dM_begin_142 rfl ?_ (by omega) ?_
          · omega
          rw [sl_up (p := hs x) (v := wt_ x n) hb]
          refine xa_eq rfl rfl (hp' := (hQ c0 c1 c2 c3 c4 c5 c6 c7 c8 c9 c10 c11 c12 c13 c14 c15 (hM g (nI 0) n t dl se ke oz f1 f2 e1 e2 x (pp_ x e1 e2 (ff_ x e1 e2 n w (ke 0)) k) ch (sl_ (hs x) e1 y1 (k + 1)) (sl_ (hs x) e2 y2 (k + 1)) (sl_ (hs x) (ff_ x e1 e2 n w (ke 0)) fa (k + 1)) (sl_ (hs x) (wt_ x n) we (k + 1)) (slz (hs x) (nI 1) sz k) (slz (hs x) (nI 0) mz k) sh to 0 0 (fh_ x e1 e2 (dg_m (dg_m (dg_m (dg_m 0 4) (lN (ke 0))) w) (lN (k + 1))) n) ++ rest))) rfl ?_
          refine xa_aload_n C dM_begin_143 rfl ?_
          refine xa_get C f_M_44 dM_begin_144 rfl rfl ?_
          refine xa_iload C dM_begin_147 rfl ?_
          refine xa_icN C 1 dM_begin_149 ?_
          refine xa_bastoreN C dM_begin_150 rfl ?_ (by omega) (by decide) ?_
          · omega
          rw [slz_up (p := hs x) hb]
          refine xa_eq rfl rfl (hp' := (hQ c0 c1 c2 c3 c4 c5 c6 c7 c8 c9 c10 c11 c12 c13 c14 c15 (hM g (nI 0) n t dl se ke oz f1 f2 e1 e2 x (pp_ x e1 e2 (ff_ x e1 e2 n w (ke 0)) k) ch (sl_ (hs x) e1 y1 (k + 1)) (sl_ (hs x) e2 y2 (k + 1)) (sl_ (hs x) (ff_ x e1 e2 n w (ke 0)) fa (k + 1)) (sl_ (hs x) (wt_ x n) we (k + 1)) (slz (hs x) (nI 1) sz (k + 1)) (slz (hs x) (nI 0) mz k) sh to 0 0 (fh_ x e1 e2 (dg_m (dg_m (dg_m (dg_m 0 4) (lN (ke 0))) w) (lN (k + 1))) n) ++ rest))) rfl ?_
          refine xa_aload_n C dM_begin_151 rfl ?_
          refine xa_get C f_M_47 dM_begin_152 rfl rfl ?_
          refine xa_iload C dM_begin_155 rfl ?_
          refine xa_icN C 0 dM_begin_157 ?_
          refine xa_bastoreN C dM_begin_158 rfl ?_ (by omega) (by decide) ?_
          · omega
          rw [slz_up (p := hs x) hb]
          refine xa_eq rfl rfl (hp' := (hQ c0 c1 c2 c3 c4 c5 c6 c7 c8 c9 c10 c11 c12 c13 c14 c15 (hM g (nI 0) n t dl se ke oz f1 f2 e1 e2 x (pp_ x e1 e2 (ff_ x e1 e2 n w (ke 0)) k) ch (sl_ (hs x) e1 y1 (k + 1)) (sl_ (hs x) e2 y2 (k + 1)) (sl_ (hs x) (ff_ x e1 e2 n w (ke 0)) fa (k + 1)) (sl_ (hs x) (wt_ x n) we (k + 1)) (slz (hs x) (nI 1) sz (k + 1)) (slz (hs x) (nI 0) mz (k + 1)) sh to 0 0 (fh_ x e1 e2 (dg_m (dg_m (dg_m (dg_m 0 4) (lN (ke 0))) w) (lN (k + 1))) n) ++ rest))) rfl ?_
          refine xa_aload_n C dM_begin_159 rfl ?_
          refine xa_aload_n C dM_begin_160 rfl ?_
          refine xa_get C f_M_132 dM_begin_161 rfl rfl ?_
          refine xa_aload_n C dM_begin_164 rfl ?_
          refine xa_get C f_M_32 dM_begin_165 rfl rfl ?_
          refine xa_iload C dM_begin_168 rfl ?_
          refine xa_laloadN C dM_begin_170 rfl ?_ (by omega) ?_
          · omega
          rw [sl_at (p := hs x) (v := e1) (by omega) (Nat.le_refl _) hb]
          refine xa_mulN C dM_begin_171 ?_
          refine xa_ldcN C 2147483579 (xw_in wk_M_101 rfl) dM_begin_172 ?_
          refine xa_remN C dM_begin_175 (by first | exact tm_62 (pp_lt _ _ _ _ _) (he1 _) | exact tm_62 (tb_p _) (tb_p _) | omega) (by decide) (by decide) ?_
          refine xa_aload_n C dM_begin_176 rfl ?_
          refine xa_get C f_M_35 dM_begin_177 rfl rfl ?_
          refine xa_iload C dM_begin_180 rfl ?_
          refine xa_laloadN C dM_begin_182 rfl ?_ (by omega) ?_
          · omega
          refine xa_aload_n C dM_begin_183 rfl ?_
          refine xa_get C f_M_38 dM_begin_184 rfl rfl ?_
          refine xa_iload C dM_begin_187 rfl ?_
          refine xa_laloadN C dM_begin_189 rfl ?_ (by omega) ?_
          · omega
          rw [sl_at (p := hs x) (v := e2) (by omega) (Nat.le_refl _) hb, sl_at (p := hs x) (v := (ff_ x e1 e2 n w (ke 0))) (by omega) (Nat.le_refl _) hb]
          refine xa_ldcN C 2147483579 (xw_in wk_M_101 rfl) dM_begin_190 ?_
          refine xa_callS1 C (p_M_power g l (he2 _) (Nat.lt_trans (ff_lt _ _ _ _ _ _ _) (by decide)) (by decide) (by decide) _) b_M_95 (xw_in wt_M_power rfl) dM_begin_193 rfl (Nat.le_of_ble_eq_true rfl) ⟨Nat.le_of_ble_eq_true rfl, Nat.le_of_ble_eq_true rfl⟩ ⟨Nat.zero_le _, Nat.zero_le _⟩ ?_
          refine xa_mulN C dM_begin_196 ?_
          refine xa_ldcN C 2147483579 (xw_in wk_M_101 rfl) dM_begin_197 ?_
          refine xa_remN C dM_begin_200 (by first | exact tm_62 (pp_lt _ _ _ _ _) (he1 _) | exact tm_62 (tb_p _) (tb_p _) | omega) (by decide) (by decide) ?_
          rw [← tm_prod]
          refine xa_put C f_M_132 u_M_12 dM_begin_201 rfl (Nat.le_of_ble_eq_true rfl) rfl rfl (fun _ h => by cases h) ?_
          refine xa_eq rfl rfl (hp' := (hQ c0 c1 c2 c3 c4 c5 c6 c7 c8 c9 c10 c11 c12 c13 c14 c15 (hM g (nI 0) n t dl se ke oz f1 f2 e1 e2 x (pp_ x e1 e2 (ff_ x e1 e2 n w (ke 0)) k * (e1 (k + 1) * (e2 (k + 1) ^ (ff_ x e1 e2 n w (ke 0)) (k + 1) % 2147483579) % 2147483579) % 2147483579) ch (sl_ (hs x) e1 y1 (k + 1)) (sl_ (hs x) e2 y2 (k + 1)) (sl_ (hs x) (ff_ x e1 e2 n w (ke 0)) fa (k + 1)) (sl_ (hs x) (wt_ x n) we (k + 1)) (slz (hs x) (nI 1) sz (k + 1)) (slz (hs x) (nI 0) mz (k + 1)) sh to 0 0 (fh_ x e1 e2 (dg_m (dg_m (dg_m (dg_m 0 4) (lN (ke 0))) w) (lN (k + 1))) n) ++ rest))) rfl ?_
          refine xa_incN C dM_begin_204 rfl (Nat.le_of_ble_eq_true rfl) ?_
          refine xa_goto C dM_begin_207 (tgt := 68) rfl ?_
          have h := ih (k + 1) (by omega)
          rw [pp_, if_pos hb, mb_, if_pos hb] at h
          exact h
  refine xa_aload_n C dM_begin_0 rfl ?_
  refine xa_aload_n C dM_begin_1 rfl ?_
  refine xa_iload_n C dM_begin_2 rfl ?_
  refine xa_callV1 C (p_M_isSet g l hn _) b_M_126 (xw_in wi_M_isSet rfl) e_M_isSet dM_begin_3 rfl rfl rfl rfl (Nat.le_of_ble_eq_true rfl) ⟨Nat.le_of_ble_eq_true rfl, Nat.le_of_ble_eq_true rfl⟩ ⟨Nat.zero_le _, Nat.zero_le _⟩ ?_
  refine xa_if_ne C dM_begin_6 (tgt := 13) rfl (fun h6 => ?_) (fun h6 => ?_)
  · refine xa_aload_n C dM_begin_13 rfl ?_
    refine xa_get C f_M_103 dM_begin_14 rfl rfl ?_
    refine xa_if_eq C dM_begin_17 (tgt := 28) rfl (fun h17 => ?_) (fun h17 => ?_)
    · exact absurd h17 hd
    · refine xa_aload_n C dM_begin_20 rfl ?_
      refine xa_iload_n C dM_begin_21 rfl ?_
      refine xa_callV1 C (p_M_allOpen g l hn _) b_M_129 (xw_in wi_M_allOpen rfl) e_M_allOpen dM_begin_22 rfl rfl rfl rfl (Nat.le_of_ble_eq_true rfl) ⟨Nat.le_of_ble_eq_true rfl, Nat.le_of_ble_eq_true rfl⟩ ⟨Nat.zero_le _, Nat.zero_le _⟩ ?_
      refine xa_if_ne C dM_begin_25 (tgt := 32) rfl (fun h25 => ?_) (fun h25 => ?_)
      · refine xa_icN C 0 dM_begin_32 ?_
        refine xa_put C f_M_63 u_M_0 dM_begin_33 rfl (Nat.le_of_ble_eq_true rfl) rfl rfl (fun _ h => by cases h) ?_
        refine xa_aload_n C dM_begin_36 rfl ?_
        refine xa_get C f_M_63 dM_begin_37 rfl rfl ?_
        refine xa_if_eq C dM_begin_40 (tgt := 45) rfl (fun h40 => ?_) (fun h40 => ?_)
        · refine xa_aload_n C dM_begin_45 rfl ?_
          refine xa_iload_n C dM_begin_46 rfl ?_
          refine xa_put C f_M_107 u_M_11 dM_begin_47 rfl (Nat.le_of_ble_eq_true rfl) rfl rfl (fun _ h => by cases h) ?_
          refine xa_aload_n C dM_begin_50 rfl ?_
          refine xa_icN C 0 dM_begin_51 ?_
          refine xa_put C f_M_110 u_M_22 dM_begin_52 rfl (Nat.le_of_ble_eq_true rfl) rfl rfl (fun _ h => by cases h) ?_
          refine xa_aload_n C dM_begin_55 rfl ?_
          refine xa_icN C 0 dM_begin_56 ?_
          refine xa_put C f_M_113 u_M_23 dM_begin_57 rfl (Nat.le_of_ble_eq_true rfl) rfl rfl (fun _ h => by cases h) ?_
          refine xa_aload_n C dM_begin_60 rfl ?_
          refine xa_lcN C 1 dM_begin_61 ?_
          refine xa_put C f_M_132 u_M_12 dM_begin_62 rfl (Nat.le_of_ble_eq_true rfl) rfl rfl (fun _ h => by cases h) ?_
          refine xa_icN C 1 dM_begin_65 ?_
          refine xa_istore C dM_begin_66 (Nat.le_of_ble_eq_true rfl) ?_
          have h := loop n 0 (by omega)
          rw [sl_0, sl_0, sl_0, sl_0, slz_0, slz_0] at h
          exact h
        · exact absurd rfl h40
      · exact absurd ho (xb_eq0.mp h25)
  · exact absurd hx (xb_eq0.mp h6)
