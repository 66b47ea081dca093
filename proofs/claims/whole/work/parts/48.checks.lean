/-! the class's own calls: check, holds, recover, what is told -/
def nt (x : Int64) : Nat := x.toInt.toNat
theorem nt_lN {k : Nat} (h : k < 2 ^ 63) : nt (lN k) = k := by
  unfold nt
  rw [pk_lT h]
  rfl
abbrev SHp (k0 : Nat) (w r z : Int64) : Prop := (1 ≤ r ∧ r < 2147483579) ∧ (0 ≤ z ∧ z < 1073741789) ∧ 4 ^ nt z % 2147483579 = nt r * (k0 ^ dg_f (dg_m (dg_m (dg_m (dg_m 0 5) r) (lN k0)) w) % 2147483579) % 2147483579
/-- what recover adds up -/
def rc_ (x : Int32) (n : Nat) (se : Nat → Nat) : Nat → Nat
  | 0 => 0
  | k + 1 => if hs x (k + 1) = true then (rc_ x n se k + wt_ x n (k + 1) * se (k + 1) % 1073741789) % 1073741789 else rc_ x n se k
theorem rc_lt (x : Int32) (n : Nat) (se : Nat → Nat) : ∀ k, rc_ x n se k < 2 ^ 31
  | 0 => (by decide : 0 < 2 ^ 31)
  | k + 1 => by
    rw [rc_]
    by_cases q : hs x (k + 1) = true
    · rw [if_pos q]; exact tb_q _
    · rw [if_neg q]; exact rc_lt x n se k
set_option maxHeartbeats 4000000 in
set_option maxRecDepth 100000 in
theorem p_S_sealHolds (g : xw_G) (l : Launch) {n t : Nat} {co se ke f1 f2 e1 e2 x1 x2 fa we sh : Nat → Nat} {dn op ms ps md tk bl : Int32} {pr ch sm : Nat} {rest : List va_E} (hn : n ≤ 6) (ht : t ≤ 6) (hke : ∀ j, ke j < 2 ^ 31) (w r z : Int64) : xm_R g l true m_S_sealHolds [.ref 0, .long w, .long r, .long z] (hC g n t co se ke dn f1 f2 e1 e2 op x1 x2 fa we sh ms ps md tk bl pr ch sm ++ rest) (some (.int (xb (SHp (ke 0) w r z)))) (hC g n t co se ke dn f1 f2 e1 e2 op x1 x2 fa we sh ms ps md tk bl pr ch sm ++ rest) := by
  refine xm_of [some (.ref 0), some (.long w), none, some (.long r), none, some (.long z), none, none, none, none, none] rfl (Nat.le_of_ble_eq_true rfl) rfl ?_
  intro p e s m args below meth c C hr hk
  refine xa_lload_n C dS_sealHolds_0 rfl ?_
  refine xa_callS1 C (p_E_isElement g l _ _) b_S_208 (xw_in wt_E_isElement rfl) dS_sealHolds_1 rfl (Nat.le_of_ble_eq_true rfl) ⟨Nat.le_of_ble_eq_true rfl, Nat.le_of_ble_eq_true rfl⟩ ⟨Nat.zero_le _, Nat.zero_le _⟩ ?_
  refine xa_if_eq C dS_sealHolds_4 (tgt := 15) rfl (fun h4 => ?_) (fun h4 => ?_)
  · refine xa_icN C 0 dS_sealHolds_15 ?_
    exact xa_eq rfl (congrArg (fun z => [Value.int z]) (xb_f (P := SHp (ke 0) w r z) (fun q => xb_eq0.mp h4 q.1)).symm) rfl (xa_zret C hr hk (xb_nar _) dS_sealHolds_16)
  · refine xa_lload C dS_sealHolds_7 rfl ?_
    refine xa_callS1 C (p_N_isNumber g l _ _) b_S_214 (xw_in wt_N_isNumber rfl) dS_sealHolds_9 rfl (Nat.le_of_ble_eq_true rfl) ⟨Nat.le_of_ble_eq_true rfl, Nat.le_of_ble_eq_true rfl⟩ ⟨Nat.zero_le _, Nat.zero_le _⟩ ?_
    refine xa_if_ne C dS_sealHolds_12 (tgt := 17) rfl (fun h12 => ?_) (fun h12 => ?_)
    · have hr1 : 1 ≤ r ∧ r < 2147483579 := by
        by_cases q : 1 ≤ r ∧ r < 2147483579
        · exact q
        · exact absurd (xb_f q) h4
      have hz1 : 0 ≤ z ∧ z < 1073741789 := by
        by_cases q : 0 ≤ z ∧ z < 1073741789
        · exact q
        · exact absurd (xb_f q) h12
      obtain ⟨a, ha1, ha, rfl⟩ := el_of hr1
      obtain ⟨b, hb, rfl⟩ := nm_of hz1
      refine xa_aload_n C dS_sealHolds_17 rfl ?_
      refine xa_get C f_S_30 dS_sealHolds_18 rfl rfl ?_
      refine xa_callV1 C (p_D_keyOfAll g l hn ht) b_S_60 (xw_in wi_D_keyOfAll rfl) e_D_keyOfAll dS_sealHolds_21 rfl rfl rfl rfl (Nat.le_of_ble_eq_true rfl) ⟨Nat.le_of_ble_eq_true rfl, Nat.le_of_ble_eq_true rfl⟩ ⟨Nat.zero_le _, Nat.zero_le _⟩ ?_
      refine xa_lstore C dS_sealHolds_24 (Nat.le_of_ble_eq_true rfl) ?_
      refine xa_lload_n C dS_sealHolds_26 rfl ?_
      refine xa_lload C dS_sealHolds_27 rfl ?_
      refine xa_lload_n C dS_sealHolds_29 rfl ?_
      refine xa_callS1 C (p_G_ofSeal g l _ _ _ _) b_S_217 (xw_in wt_G_ofSeal rfl) dS_sealHolds_30 rfl (Nat.le_of_ble_eq_true rfl) ⟨Nat.le_of_ble_eq_true rfl, Nat.le_of_ble_eq_true rfl⟩ ⟨Nat.zero_le _, Nat.zero_le _⟩ ?_
      refine xa_lstore C dS_sealHolds_33 (Nat.le_of_ble_eq_true rfl) ?_
      refine xa_lload C dS_sealHolds_35 rfl ?_
      refine xa_callS1 C (p_E_ofNumber g l (by omega) _) b_S_223 (xw_in wt_E_ofNumber rfl) dS_sealHolds_37 rfl (Nat.le_of_ble_eq_true rfl) ⟨Nat.le_of_ble_eq_true rfl, Nat.le_of_ble_eq_true rfl⟩ ⟨Nat.zero_le _, Nat.zero_le _⟩ ?_
      refine xa_lload_n C dS_sealHolds_40 rfl ?_
      refine xa_lload C dS_sealHolds_41 rfl ?_
      refine xa_lload C dS_sealHolds_43 rfl ?_
      refine xa_callS1 C (p_E_power g l (hke _) (Nat.lt_trans (dg_f_lt _) (by decide)) _) b_S_227 (xw_in wt_E_power rfl) dS_sealHolds_45 rfl (Nat.le_of_ble_eq_true rfl) ⟨Nat.le_of_ble_eq_true rfl, Nat.le_of_ble_eq_true rfl⟩ ⟨Nat.zero_le _, Nat.zero_le _⟩ ?_
      refine xa_callS1 C (p_E_times g l (by omega) (tb_p _) _) b_S_230 (xw_in wt_E_times rfl) dS_sealHolds_48 rfl (Nat.le_of_ble_eq_true rfl) ⟨Nat.le_of_ble_eq_true rfl, Nat.le_of_ble_eq_true rfl⟩ ⟨Nat.zero_le _, Nat.zero_le _⟩ ?_
      refine xa_lcmp C dS_sealHolds_51 ?_
      refine xa_if_ne C dS_sealHolds_52 (tgt := 59) rfl (fun h52 => ?_) (fun h52 => ?_)
      · refine xa_icN C 0 dS_sealHolds_59 ?_
        refine xa_eq rfl (congrArg (fun z => [Value.int z]) (xb_f (P := SHp (ke 0) w (lN a) (lN b)) (fun q => h52 ?_)).symm) rfl (xa_zret C hr hk (xb_nar _) dS_sealHolds_60)
        have q3 := q.2.2
        rw [nt_lN (by omega), nt_lN (by omega)] at q3
        exact (tp_eq (tb_p _) (tb_p _)).mpr q3
      · refine xa_icN C 1 dS_sealHolds_55 ?_
        refine xa_goto C dS_sealHolds_56 (tgt := 60) rfl ?_
        refine xa_eq rfl (congrArg (fun z => [Value.int z]) (xb_t (P := SHp (ke 0) w (lN a) (lN b)) ⟨hr1, hz1, ?_⟩).symm) rfl (xa_zret C hr hk (xb_nar _) dS_sealHolds_60)
        rw [nt_lN (by omega), nt_lN (by omega)]
        exact (tp_eq (tb_p _) (tb_p _)).mp h52
    · refine xa_icN C 0 dS_sealHolds_15 ?_
      exact xa_eq rfl (congrArg (fun z => [Value.int z]) (xb_f (P := SHp (ke 0) w r z) (fun q => xb_eq0.mp h12 q.2.1)).symm) rfl (xa_zret C hr hk (xb_nar _) dS_sealHolds_16)
set_option maxHeartbeats 4000000 in
set_option maxRecDepth 100000 in
theorem p_S_check (g : xw_G) (l : Launch) {n t : Nat} {co se ke f1 f2 e1 e2 x1 x2 fa we sh : Nat → Nat} {dn op ms ps md tk bl : Int32} {pr ch sm : Nat} {rest : List va_E} (hn : n ≤ 6) (ht : t ≤ 6) (hke : ∀ j, ke j < 2 ^ 31) (w r z : Int64) : xm_R g l true m_S_check [.ref 0, .long w, .long r, .long z] (hC g n t co se ke dn f1 f2 e1 e2 op x1 x2 fa we sh ms ps md tk bl pr ch sm ++ rest) (some (.int (xb (¬ dn = 0 ∧ SHp (ke 0) w r z)))) (hC g n t co se ke dn f1 f2 e1 e2 op x1 x2 fa we sh ms ps md tk bl pr ch sm ++ rest) := by
  refine xm_of [some (.ref 0), some (.long w), none, some (.long r), none, some (.long z), none] rfl (Nat.le_of_ble_eq_true rfl) rfl ?_
  intro p e s m args below meth c C hr hk
  refine xa_aload_n C dS_check_0 rfl ?_
  refine xa_get C f_S_30 dS_check_1 rfl rfl ?_
  refine xa_get C f_S_157 dS_check_4 rfl rfl ?_
  refine xa_if_eq C dS_check_7 (tgt := 25) rfl (fun h7 => ?_) (fun h7 => ?_)
  · refine xa_icN C 0 dS_check_25 ?_
    exact xa_eq rfl (congrArg (fun z => [Value.int z]) (xb_f (P := ¬ dn = 0 ∧ SHp (ke 0) w r z) (fun q => q.1 h7)).symm) rfl (xa_zret C hr hk (xb_nar _) dS_check_26)
  · refine xa_aload_n C dS_check_10 rfl ?_
    refine xa_lload_n C dS_check_11 rfl ?_
    refine xa_lload_n C dS_check_12 rfl ?_
    refine xa_lload C dS_check_13 rfl ?_
    refine xa_callV1 C (p_S_sealHolds g l hn ht hke _ _ _) b_S_161 (xw_in wi_S_sealHolds rfl) e_S_sealHolds dS_check_15 rfl rfl rfl rfl (Nat.le_of_ble_eq_true rfl) ⟨Nat.le_of_ble_eq_true rfl, Nat.le_of_ble_eq_true rfl⟩ ⟨Nat.zero_le _, Nat.zero_le _⟩ ?_
    refine xa_if_eq C dS_check_18 (tgt := 25) rfl (fun h18 => ?_) (fun h18 => ?_)
    · refine xa_icN C 0 dS_check_25 ?_
      exact xa_eq rfl (congrArg (fun z => [Value.int z]) (xb_f (P := ¬ dn = 0 ∧ SHp (ke 0) w r z) (fun q => xb_eq0.mp h18 q.2)).symm) rfl (xa_zret C hr hk (xb_nar _) dS_check_26)
    · refine xa_icN C 1 dS_check_21 ?_
      refine xa_goto C dS_check_22 (tgt := 26) rfl ?_
      exact xa_eq rfl (congrArg (fun z => [Value.int z]) (xb_t (P := ¬ dn = 0 ∧ SHp (ke 0) w r z) (⟨h7, Decidable.byContradiction (fun q => h18 (xb_f q))⟩)).symm) rfl (xa_zret C hr hk (xb_nar _) dS_check_26)
set_option maxHeartbeats 4000000 in
set_option maxRecDepth 100000 in
theorem p_S_holds (g : xw_G) (l : Launch) {n t : Nat} {co se ke f1 f2 e1 e2 x1 x2 fa we sh : Nat → Nat} {dn op ms ps md tk bl : Int32} {pr ch sm : Nat} {rest : List va_E} (hn : n ≤ 6) (ht : t ≤ 6) (hke : ∀ j, ke j < 2 ^ 31) (hsm : sm < 2 ^ 31) (h0 : ¬ ms = 0) (he : tk = ms) (w : Int64) {z : Nat} (hz : z < 1073741789) : xm_R g l true m_S_holds [.ref 0, .long w, .long (lN z)] (hC g n t co se ke dn f1 f2 e1 e2 op x1 x2 fa we sh ms ps md tk bl pr ch sm ++ rest) (some (.int (xb (SHp (ke 0) w (lN pr) (lN ((sm + z) % 1073741789)))))) (hC g n t co se ke dn f1 f2 e1 e2 op x1 x2 fa we sh ms ps md tk bl pr ch sm ++ rest) := by
  refine xm_of [some (.ref 0), some (.long w), none, some (.long (lN z)), none] rfl (Nat.le_of_ble_eq_true rfl) rfl ?_
  intro p e s m args below meth c C hr hk
  refine xa_aload_n C dS_holds_0 rfl ?_
  refine xa_lload_n C dS_holds_1 rfl ?_
  refine xa_callVv C (p_S_requireNumber g l _ (nm_lt hz)) b_S_127 (xw_in wi_S_requireNumber rfl) e_S_requireNumber dS_holds_2 rfl rfl rfl rfl (Nat.le_of_ble_eq_true rfl) ⟨Nat.le_of_ble_eq_true rfl, Nat.le_of_ble_eq_true rfl⟩ ⟨Nat.zero_le _, Nat.zero_le _⟩ ?_
  refine xa_aload_n C dS_holds_5 rfl ?_
  refine xa_callVv C (p_S_requireSealed g l h0 he) b_S_151 (xw_in wi_S_requireSealed rfl) e_S_requireSealed dS_holds_6 rfl rfl rfl rfl (Nat.le_of_ble_eq_true rfl) ⟨Nat.le_of_ble_eq_true rfl, Nat.le_of_ble_eq_true rfl⟩ ⟨Nat.zero_le _, Nat.zero_le _⟩ ?_
  refine xa_aload_n C dS_holds_9 rfl ?_
  refine xa_lload_n C dS_holds_10 rfl ?_
  refine xa_aload_n C dS_holds_11 rfl ?_
  refine xa_get C f_S_46 dS_holds_12 rfl rfl ?_
  refine xa_get C f_S_99 dS_holds_15 rfl rfl ?_
  refine xa_aload_n C dS_holds_18 rfl ?_
  refine xa_get C f_S_46 dS_holds_19 rfl rfl ?_
  refine xa_get C f_S_154 dS_holds_22 rfl rfl ?_
  refine xa_lload_n C dS_holds_25 rfl ?_
  refine xa_callS1 C (p_N_plus g l hsm (by omega) _) b_S_145 (xw_in wt_N_plus rfl) dS_holds_26 rfl (Nat.le_of_ble_eq_true rfl) ⟨Nat.le_of_ble_eq_true rfl, Nat.le_of_ble_eq_true rfl⟩ ⟨Nat.zero_le _, Nat.zero_le _⟩ ?_
  refine xa_callV1 C (p_S_sealHolds g l hn ht hke _ _ _) b_S_161 (xw_in wi_S_sealHolds rfl) e_S_sealHolds dS_holds_29 rfl rfl rfl rfl (Nat.le_of_ble_eq_true rfl) ⟨Nat.le_of_ble_eq_true rfl, Nat.le_of_ble_eq_true rfl⟩ ⟨Nat.zero_le _, Nat.zero_le _⟩ ?_
  exact xa_zret C hr hk (xb_nar _) dS_holds_32
set_option maxHeartbeats 4000000 in
set_option maxRecDepth 100000 in
theorem q_S_holds_a (g : xw_G) {l : Launch} (htr : xw_tr l) {n t : Nat} {co se ke f1 f2 e1 e2 x1 x2 fa we sh : Nat → Nat} {dn op ms ps md tk bl : Int32} {pr ch sm : Nat} {rest : List va_E} (w x : Int64) (hx : ¬ (0 ≤ x ∧ x < 1073741789)) : xt_R g l m_S_holds [.ref 0, .long w, .long x] (hC g n t co se ke dn f1 f2 e1 e2 op x1 x2 fa we sh ms ps md tk bl pr ch sm ++ rest) "java/lang/IllegalArgumentException" := by
  refine xt_of [some (.ref 0), some (.long w), none, some (.long x), none] rfl (Nat.le_of_ble_eq_true rfl) rfl ?_
  intro p e s m args below meth c C hE hk
  refine xa_aload_n C dS_holds_0 rfl ?_
  refine xa_lload_n C dS_holds_1 rfl ?_
  exact xa_throwV C hE hk (q_S_requireNumber g htr _ hx) b_S_127 (xw_in wi_S_requireNumber rfl) e_S_requireNumber dS_holds_2 rfl rfl rfl rfl (Nat.le_of_ble_eq_true rfl) ⟨Nat.le_of_ble_eq_true rfl, Nat.le_of_ble_eq_true rfl⟩ ⟨Nat.le_of_ble_eq_true rfl, Nat.le_of_ble_eq_true rfl⟩
set_option maxHeartbeats 4000000 in
set_option maxRecDepth 100000 in
theorem q_S_holds_b (g : xw_G) {l : Launch} (htr : xw_tr l) {n t : Nat} {co se ke f1 f2 e1 e2 x1 x2 fa we sh : Nat → Nat} {dn op ms ps md tk bl : Int32} {pr ch sm : Nat} {rest : List va_E} (w : Int64) {z : Nat} (hz : z < 1073741789) (h0 : ms = 0 ∨ ¬ tk = ms) : xt_R g l m_S_holds [.ref 0, .long w, .long (lN z)] (hC g n t co se ke dn f1 f2 e1 e2 op x1 x2 fa we sh ms ps md tk bl pr ch sm ++ rest) "java/lang/IllegalStateException" := by
  refine xt_of [some (.ref 0), some (.long w), none, some (.long (lN z)), none] rfl (Nat.le_of_ble_eq_true rfl) rfl ?_
  intro p e s m args below meth c C hE hk
  refine xa_aload_n C dS_holds_0 rfl ?_
  refine xa_lload_n C dS_holds_1 rfl ?_
  refine xa_callVv C (p_S_requireNumber g l _ (nm_lt hz)) b_S_127 (xw_in wi_S_requireNumber rfl) e_S_requireNumber dS_holds_2 rfl rfl rfl rfl (Nat.le_of_ble_eq_true rfl) ⟨Nat.le_of_ble_eq_true rfl, Nat.le_of_ble_eq_true rfl⟩ ⟨Nat.zero_le _, Nat.zero_le _⟩ ?_
  refine xa_aload_n C dS_holds_5 rfl ?_
  exact xa_throwV C hE hk (q_S_requireSealed g htr h0) b_S_151 (xw_in wi_S_requireSealed rfl) e_S_requireSealed dS_holds_6 rfl rfl rfl rfl (Nat.le_of_ble_eq_true rfl) ⟨Nat.le_of_ble_eq_true rfl, Nat.le_of_ble_eq_true rfl⟩ ⟨Nat.le_of_ble_eq_true rfl, Nat.le_of_ble_eq_true rfl⟩
set_option maxHeartbeats 4000000 in
set_option maxRecDepth 100000 in
theorem p_S_recover (g : xw_G) (l : Launch) {n t : Nat} {co se ke f1 f2 e1 e2 x1 x2 fa we sh : Nat → Nat} {dn op ms ps md tk bl : Int32} {pr ch sm : Nat} {rest : List va_E} (hn : n ≤ 6) (ht : t ≤ 6) (hse : ∀ j, se j < 2 ^ 31) (x : Int32) (hx : en n t x) (hd : ¬ dn = 0) : xm_R g l true m_S_recover [.ref 0, .int x] (hC g n t co se ke dn f1 f2 e1 e2 op x1 x2 fa we sh ms ps md tk bl pr ch sm ++ rest) (some (.long (lN (rc_ x n se n)))) (hC g n t co se ke dn f1 f2 e1 e2 op x1 x2 fa we sh ms ps md tk bl pr ch sm ++ rest) := by
  refine xm_of [some (.ref 0), some (.int x), none, none, none, none, none] rfl (Nat.le_of_ble_eq_true rfl) rfl ?_
  intro p e s m args below meth c C hr hk
  have loop : ∀ d k : Nat, k + d = n → ∀ o5 : Option Value, xw_At g true 7 p l e (xm_rm m_S_recover 0) s m args below meth c 0 0 (MQ below (xm_Q g true (some (.long (lN (rc_ x n se n)))) (hC g n t co se ke dn f1 f2 e1 e2 op x1 x2 fa we sh ms ps md tk bl pr ch sm ++ rest)) args s 0 0 (xm_fr g true)) 14 [some (.ref 0), some (.int x), some (.long (lN (rc_ x n se k))), none, some (.int (nI (k + 1))), o5, none] [] (hC g n t co se ke dn f1 f2 e1 e2 op x1 x2 fa we sh ms ps md tk bl pr ch sm ++ rest) := by
    intro d
    induction d with
    | zero =>
      intro k hk9 o5
      obtain rfl : k = n := by omega
      refine xa_iload C dS_recover_14 rfl ?_
      refine xa_aload_n C dS_recover_16 rfl ?_
      refine xa_get C f_S_18 dS_recover_17 rfl rfl ?_
      refine xa_icmp_gt C dS_recover_20 (tgt := 70) rfl (fun h20 => ?_) (fun h20 => ?_)
      · refine xa_lload_n C dS_recover_70 rfl ?_
        exact xa_lret C hr hk dS_recover_71
      · exact absurd (nI_lt (by omega) (by omega)) h20
    | succ d ih =>
      intro k hk9 o5
      refine xa_iload C dS_recover_14 rfl ?_
      refine xa_aload_n C dS_recover_16 rfl ?_
      refine xa_get C f_S_18 dS_recover_17 rfl rfl ?_
      refine xa_icmp_gt C dS_recover_20 (tgt := 70) rfl (fun h20 => ?_) (fun h20 => ?_)
      · exact absurd h20 (nI_nlt (by omega) (by omega))
      · refine xa_iload_n C dS_recover_23 rfl ?_
        refine xa_iload C dS_recover_24 rfl ?_
        refine xa_callS1 C (p_I_hasN g l _ (by omega) (by omega) _) b_S_106 (xw_in wt_I_has rfl) dS_recover_26 rfl (Nat.le_of_ble_eq_true rfl) ⟨Nat.le_of_ble_eq_true rfl, Nat.le_of_ble_eq_true rfl⟩ ⟨Nat.zero_le _, Nat.zero_le _⟩ ?_
        refine xa_if_eq C dS_recover_29 (tgt := 64) rfl (fun h29 => ?_) (fun h29 => ?_)
        · have hb := xb_hs0 h29
          refine xa_incN C dS_recover_64 rfl (Nat.le_of_ble_eq_true rfl) ?_
          refine xa_goto C dS_recover_67 (tgt := 14) rfl ?_
          have h := ih (k + 1) (by omega) o5
          rw [rc_, if_neg (by rw [hb]; decide)] at h
          exact h
        · have hb := xb_hs1 h29
          refine xa_iload_n C dS_recover_32 rfl ?_
          refine xa_iload C dS_recover_33 rfl ?_
          refine xa_aload_n C dS_recover_35 rfl ?_
          refine xa_get C f_S_18 dS_recover_36 rfl rfl ?_
          refine xa_callS1 C (p_I_weightIn g l x hn (by omega) _) b_S_165 (xw_in wt_I_weightIn rfl) dS_recover_39 rfl (Nat.le_of_ble_eq_true rfl) ⟨Nat.le_of_ble_eq_true rfl, Nat.le_of_ble_eq_true rfl⟩ ⟨Nat.zero_le _, Nat.zero_le _⟩ ?_
          refine xa_aload_n C dS_recover_42 rfl ?_
          refine xa_get C f_S_30 dS_recover_43 rfl rfl ?_
          refine xa_get C f_S_114 dS_recover_46 rfl rfl ?_
          refine xa_iload C dS_recover_49 rfl ?_
          refine xa_laloadN C dS_recover_51 rfl ?_ (by omega) ?_
          · omega
          refine xa_callS1 C (p_N_times g l (Nat.lt_trans (wt_lt _ _ _) (by decide)) (hse _) _) b_S_169 (xw_in wt_N_times rfl) dS_recover_52 rfl (Nat.le_of_ble_eq_true rfl) ⟨Nat.le_of_ble_eq_true rfl, Nat.le_of_ble_eq_true rfl⟩ ⟨Nat.zero_le _, Nat.zero_le _⟩ ?_
          refine xa_lstore C dS_recover_55 (Nat.le_of_ble_eq_true rfl) ?_
          refine xa_lload_n C dS_recover_57 rfl ?_
          refine xa_lload C dS_recover_58 rfl ?_
          refine xa_callS1 C (p_N_plus g l (rc_lt _ _ _ _) (tb_q _) _) b_S_145 (xw_in wt_N_plus rfl) dS_recover_60 rfl (Nat.le_of_ble_eq_true rfl) ⟨Nat.le_of_ble_eq_true rfl, Nat.le_of_ble_eq_true rfl⟩ ⟨Nat.zero_le _, Nat.zero_le _⟩ ?_
          refine xa_lstore_n C dS_recover_63 (Nat.le_of_ble_eq_true rfl) ?_
          refine xa_incN C dS_recover_64 rfl (Nat.le_of_ble_eq_true rfl) ?_
          refine xa_goto C dS_recover_67 (tgt := 14) rfl ?_
          have h := ih (k + 1) (by omega) (some (.long (lN (wt_ x n (k + 1) * se (k + 1) % 1073741789))))
          rw [rc_, if_pos hb] at h
          exact h
  refine xa_aload_n C dS_recover_0 rfl ?_
  refine xa_iload_n C dS_recover_1 rfl ?_
  refine xa_callVv C (p_S_requireEnough g l _ hx) b_S_81 (xw_in wi_S_requireEnough rfl) e_S_requireEnough dS_recover_2 rfl rfl rfl rfl (Nat.le_of_ble_eq_true rfl) ⟨Nat.le_of_ble_eq_true rfl, Nat.le_of_ble_eq_true rfl⟩ ⟨Nat.zero_le _, Nat.zero_le _⟩ ?_
  refine xa_aload_n C dS_recover_5 rfl ?_
  refine xa_callVv C (p_S_requireDealt g l hd) b_S_67 (xw_in wi_S_requireDealt rfl) e_S_requireDealt dS_recover_6 rfl rfl rfl rfl (Nat.le_of_ble_eq_true rfl) ⟨Nat.le_of_ble_eq_true rfl, Nat.le_of_ble_eq_true rfl⟩ ⟨Nat.zero_le _, Nat.zero_le _⟩ ?_
  refine xa_lcN C 0 dS_recover_9 ?_
  refine xa_lstore_n C dS_recover_10 (Nat.le_of_ble_eq_true rfl) ?_
  refine xa_icN C 1 dS_recover_11 ?_
  refine xa_istore C dS_recover_12 (Nat.le_of_ble_eq_true rfl) ?_
  exact loop n 0 (by omega) none
set_option maxHeartbeats 4000000 in
set_option maxRecDepth 100000 in
theorem q_S_recover_a (g : xw_G) {l : Launch} (htr : xw_tr l) {n t : Nat} {co se ke f1 f2 e1 e2 x1 x2 fa we sh : Nat → Nat} {dn op ms ps md tk bl : Int32} {pr ch sm : Nat} {rest : List va_E} (x : Int32) (hx : ¬ en n t x) : xt_R g l m_S_recover [.ref 0, .int x] (hC g n t co se ke dn f1 f2 e1 e2 op x1 x2 fa we sh ms ps md tk bl pr ch sm ++ rest) "java/lang/IllegalArgumentException" := by
  refine xt_of [some (.ref 0), some (.int x), none, none, none, none, none] rfl (Nat.le_of_ble_eq_true rfl) rfl ?_
  intro p e s m args below meth c C hE hk
  refine xa_aload_n C dS_recover_0 rfl ?_
  refine xa_iload_n C dS_recover_1 rfl ?_
  exact xa_throwV C hE hk (q_S_requireEnough g htr _ hx) b_S_81 (xw_in wi_S_requireEnough rfl) e_S_requireEnough dS_recover_2 rfl rfl rfl rfl (Nat.le_of_ble_eq_true rfl) ⟨Nat.le_of_ble_eq_true rfl, Nat.le_of_ble_eq_true rfl⟩ ⟨Nat.le_of_ble_eq_true rfl, Nat.le_of_ble_eq_true rfl⟩
set_option maxHeartbeats 4000000 in
set_option maxRecDepth 100000 in
theorem q_S_recover_b (g : xw_G) {l : Launch} (htr : xw_tr l) {n t : Nat} {co se ke f1 f2 e1 e2 x1 x2 fa we sh : Nat → Nat} {dn op ms ps md tk bl : Int32} {pr ch sm : Nat} {rest : List va_E} (x : Int32) (hx : en n t x) (hd : dn = 0) : xt_R g l m_S_recover [.ref 0, .int x] (hC g n t co se ke dn f1 f2 e1 e2 op x1 x2 fa we sh ms ps md tk bl pr ch sm ++ rest) "java/lang/IllegalStateException" := by
  refine xt_of [some (.ref 0), some (.int x), none, none, none, none, none] rfl (Nat.le_of_ble_eq_true rfl) rfl ?_
  intro p e s m args below meth c C hE hk
  refine xa_aload_n C dS_recover_0 rfl ?_
  refine xa_iload_n C dS_recover_1 rfl ?_
  refine xa_callVv C (p_S_requireEnough g l _ hx) b_S_81 (xw_in wi_S_requireEnough rfl) e_S_requireEnough dS_recover_2 rfl rfl rfl rfl (Nat.le_of_ble_eq_true rfl) ⟨Nat.le_of_ble_eq_true rfl, Nat.le_of_ble_eq_true rfl⟩ ⟨Nat.zero_le _, Nat.zero_le _⟩ ?_
  refine xa_aload_n C dS_recover_5 rfl ?_
  exact xa_throwV C hE hk (q_S_requireDealt g htr hd) b_S_67 (xw_in wi_S_requireDealt rfl) e_S_requireDealt dS_recover_6 rfl rfl rfl rfl (Nat.le_of_ble_eq_true rfl) ⟨Nat.le_of_ble_eq_true rfl, Nat.le_of_ble_eq_true rfl⟩ ⟨Nat.le_of_ble_eq_true rfl, Nat.le_of_ble_eq_true rfl⟩
set_option maxHeartbeats 4000000 in
set_option maxRecDepth 100000 in
theorem p_S_key_a (g : xw_G) (l : Launch) {n t : Nat} {co se ke f1 f2 e1 e2 x1 x2 fa we sh : Nat → Nat} {dn op ms ps md tk bl : Int32} {pr ch sm : Nat} {rest : List va_E} (x : Int32) (hd : dn = 0) : xm_R g l true m_S_key [.ref 0, .int x] (hC g n t co se ke dn f1 f2 e1 e2 op x1 x2 fa we sh ms ps md tk bl pr ch sm ++ rest) (some (.long (-1))) (hC g n t co se ke dn f1 f2 e1 e2 op x1 x2 fa we sh ms ps md tk bl pr ch sm ++ rest) := by
  refine xm_of [some (.ref 0), some (.int x), none] rfl (Nat.le_of_ble_eq_true rfl) rfl ?_
  intro p e s m args below meth c C hr hk
  refine xa_aload_n C dS_key_0 rfl ?_
  refine xa_get C f_S_30 dS_key_1 rfl rfl ?_
  refine xa_get C f_S_157 dS_key_4 rfl rfl ?_
  refine xa_if_eq C dS_key_7 (tgt := 26) rfl (fun h7 => ?_) (fun h7 => ?_)
  · refine xa_icN C 0 dS_key_26 ?_
    refine xa_istore_n C dS_key_27 (Nat.le_of_ble_eq_true rfl) ?_
    refine xa_iload_n C dS_key_28 rfl ?_
    refine xa_if_eq C dS_key_29 (tgt := 44) rfl (fun h29 => ?_) (fun h29 => ?_)
    · refine xa_ldc2 C (xw_in wk_S_175 rfl) dS_key_44 ?_
      exact xa_lret C hr hk dS_key_47
    · exact absurd rfl h29
  · exact absurd hd h7
set_option maxHeartbeats 4000000 in
set_option maxRecDepth 100000 in
theorem p_S_key_b (g : xw_G) (l : Launch) {n t : Nat} {co se ke f1 f2 e1 e2 x1 x2 fa we sh : Nat → Nat} {dn op ms ps md tk bl : Int32} {pr ch sm : Nat} {rest : List va_E} (hn : n ≤ 6) (hd : ¬ dn = 0) : xm_R g l true m_S_key [.ref 0, .int (nI 0)] (hC g n t co se ke dn f1 f2 e1 e2 op x1 x2 fa we sh ms ps md tk bl pr ch sm ++ rest) (some (.long (lN (ke 0)))) (hC g n t co se ke dn f1 f2 e1 e2 op x1 x2 fa we sh ms ps md tk bl pr ch sm ++ rest) := by
  refine xm_of [some (.ref 0), some (.int (nI 0)), none] rfl (Nat.le_of_ble_eq_true rfl) rfl ?_
  intro p e s m args below meth c C hr hk
  refine xa_aload_n C dS_key_0 rfl ?_
  refine xa_get C f_S_30 dS_key_1 rfl rfl ?_
  refine xa_get C f_S_157 dS_key_4 rfl rfl ?_
  refine xa_if_eq C dS_key_7 (tgt := 26) rfl (fun h7 => ?_) (fun h7 => ?_)
  · exact absurd h7 hd
  · refine xa_iload_n C dS_key_10 rfl ?_
    refine xa_if_eq C dS_key_11 (tgt := 22) rfl (fun h11 => ?_) (fun h11 => ?_)
    · refine xa_icN C 1 dS_key_22 ?_
      refine xa_goto C dS_key_23 (tgt := 27) rfl ?_
      refine xa_istore_n C dS_key_27 (Nat.le_of_ble_eq_true rfl) ?_
      refine xa_iload_n C dS_key_28 rfl ?_
      refine xa_if_eq C dS_key_29 (tgt := 44) rfl (fun h29 => ?_) (fun h29 => ?_)
      · exact absurd h29 (by decide)
      · refine xa_aload_n C dS_key_32 rfl ?_
        refine xa_get C f_S_30 dS_key_33 rfl rfl ?_
        refine xa_get C f_S_133 dS_key_36 rfl rfl ?_
        refine xa_iload_n C dS_key_39 rfl ?_
        refine xa_laloadN C dS_key_40 rfl ?_ (by omega) ?_
        · omega
        refine xa_goto C dS_key_41 (tgt := 47) rfl ?_
        exact xa_lret C hr hk dS_key_47
    · exact absurd rfl h11
set_option maxHeartbeats 4000000 in
set_option maxRecDepth 100000 in
theorem p_S_key_c (g : xw_G) (l : Launch) {n t : Nat} {co se ke f1 f2 e1 e2 x1 x2 fa we sh : Nat → Nat} {dn op ms ps md tk bl : Int32} {pr ch sm : Nat} {rest : List va_E} (hn : n ≤ 6) {i : Nat} (h1 : 1 ≤ i) (hi : i ≤ n) (hd : ¬ dn = 0) : xm_R g l true m_S_key [.ref 0, .int (nI i)] (hC g n t co se ke dn f1 f2 e1 e2 op x1 x2 fa we sh ms ps md tk bl pr ch sm ++ rest) (some (.long (lN (ke i)))) (hC g n t co se ke dn f1 f2 e1 e2 op x1 x2 fa we sh ms ps md tk bl pr ch sm ++ rest) := by
  refine xm_of [some (.ref 0), some (.int (nI i)), none] rfl (Nat.le_of_ble_eq_true rfl) rfl ?_
  intro p e s m args below meth c C hr hk
  refine xa_aload_n C dS_key_0 rfl ?_
  refine xa_get C f_S_30 dS_key_1 rfl rfl ?_
  refine xa_get C f_S_157 dS_key_4 rfl rfl ?_
  refine xa_if_eq C dS_key_7 (tgt := 26) rfl (fun h7 => ?_) (fun h7 => ?_)
  · exact absurd h7 hd
  · refine xa_iload_n C dS_key_10 rfl ?_
    refine xa_if_eq C dS_key_11 (tgt := 22) rfl (fun h11 => ?_) (fun h11 => ?_)
    · exact absurd h11 (nI_ne0 (by omega) (by omega))
    · refine xa_aload_n C dS_key_14 rfl ?_
      refine xa_iload_n C dS_key_15 rfl ?_
      refine xa_callV1 C (p_S_isSigner g l _) b_S_172 (xw_in wi_S_isSigner rfl) e_S_isSigner dS_key_16 rfl rfl rfl rfl (Nat.le_of_ble_eq_true rfl) ⟨Nat.le_of_ble_eq_true rfl, Nat.le_of_ble_eq_true rfl⟩ ⟨Nat.zero_le _, Nat.zero_le _⟩ ?_
      refine xa_if_eq C dS_key_19 (tgt := 26) rfl (fun h19 => ?_) (fun h19 => ?_)
      · exact absurd (sg_nI hn h1 hi) (xb_eq0.mp h19)
      · refine xa_icN C 1 dS_key_22 ?_
        refine xa_goto C dS_key_23 (tgt := 27) rfl ?_
        refine xa_istore_n C dS_key_27 (Nat.le_of_ble_eq_true rfl) ?_
        refine xa_iload_n C dS_key_28 rfl ?_
        refine xa_if_eq C dS_key_29 (tgt := 44) rfl (fun h29 => ?_) (fun h29 => ?_)
        · exact absurd h29 (by decide)
        · refine xa_aload_n C dS_key_32 rfl ?_
          refine xa_get C f_S_30 dS_key_33 rfl rfl ?_
          refine xa_get C f_S_133 dS_key_36 rfl rfl ?_
          refine xa_iload_n C dS_key_39 rfl ?_
          refine xa_laloadN C dS_key_40 rfl ?_ (by omega) ?_
          · omega
          refine xa_goto C dS_key_41 (tgt := 47) rfl ?_
          exact xa_lret C hr hk dS_key_47
set_option maxHeartbeats 4000000 in
set_option maxRecDepth 100000 in
theorem p_S_key_d (g : xw_G) (l : Launch) {n t : Nat} {co se ke f1 f2 e1 e2 x1 x2 fa we sh : Nat → Nat} {dn op ms ps md tk bl : Int32} {pr ch sm : Nat} {rest : List va_E} (x : Int32) (hx : ¬ sg n x) (hx0 : ¬ x = 0) (hd : ¬ dn = 0) : xm_R g l true m_S_key [.ref 0, .int x] (hC g n t co se ke dn f1 f2 e1 e2 op x1 x2 fa we sh ms ps md tk bl pr ch sm ++ rest) (some (.long (-1))) (hC g n t co se ke dn f1 f2 e1 e2 op x1 x2 fa we sh ms ps md tk bl pr ch sm ++ rest) := by
  refine xm_of [some (.ref 0), some (.int x), none] rfl (Nat.le_of_ble_eq_true rfl) rfl ?_
  intro p e s m args below meth c C hr hk
  refine xa_aload_n C dS_key_0 rfl ?_
  refine xa_get C f_S_30 dS_key_1 rfl rfl ?_
  refine xa_get C f_S_157 dS_key_4 rfl rfl ?_
  refine xa_if_eq C dS_key_7 (tgt := 26) rfl (fun h7 => ?_) (fun h7 => ?_)
  · exact absurd h7 hd
  · refine xa_iload_n C dS_key_10 rfl ?_
    refine xa_if_eq C dS_key_11 (tgt := 22) rfl (fun h11 => ?_) (fun h11 => ?_)
    · exact absurd h11 hx0
    · refine xa_aload_n C dS_key_14 rfl ?_
      refine xa_iload_n C dS_key_15 rfl ?_
      refine xa_callV1 C (p_S_isSigner g l _) b_S_172 (xw_in wi_S_isSigner rfl) e_S_isSigner dS_key_16 rfl rfl rfl rfl (Nat.le_of_ble_eq_true rfl) ⟨Nat.le_of_ble_eq_true rfl, Nat.le_of_ble_eq_true rfl⟩ ⟨Nat.zero_le _, Nat.zero_le _⟩ ?_
      refine xa_if_eq C dS_key_19 (tgt := 26) rfl (fun h19 => ?_) (fun h19 => ?_)
      · refine xa_icN C 0 dS_key_26 ?_
        refine xa_istore_n C dS_key_27 (Nat.le_of_ble_eq_true rfl) ?_
        refine xa_iload_n C dS_key_28 rfl ?_
        refine xa_if_eq C dS_key_29 (tgt := 44) rfl (fun h29 => ?_) (fun h29 => ?_)
        · refine xa_ldc2 C (xw_in wk_S_175 rfl) dS_key_44 ?_
          exact xa_lret C hr hk dS_key_47
        · exact absurd rfl h29
      · exact absurd (xb_f hx) h19
set_option maxHeartbeats 4000000 in
set_option maxRecDepth 100000 in
theorem p_S_secret_a (g : xw_G) (l : Launch) {n t : Nat} {co se ke f1 f2 e1 e2 x1 x2 fa we sh : Nat → Nat} {dn op ms ps md tk bl : Int32} {pr ch sm : Nat} {rest : List va_E} (x : Int32) (hd : dn = 0) : xm_R g l true m_S_secret [.ref 0, .int x] (hC g n t co se ke dn f1 f2 e1 e2 op x1 x2 fa we sh ms ps md tk bl pr ch sm ++ rest) (some (.long (-1))) (hC g n t co se ke dn f1 f2 e1 e2 op x1 x2 fa we sh ms ps md tk bl pr ch sm ++ rest) := by
  refine xm_of [some (.ref 0), some (.int x)] rfl (Nat.le_of_ble_eq_true rfl) rfl ?_
  intro p e s m args below meth c C hr hk
  refine xa_aload_n C dS_secret_0 rfl ?_
  refine xa_get C f_S_30 dS_secret_1 rfl rfl ?_
  refine xa_get C f_S_157 dS_secret_4 rfl rfl ?_
  refine xa_if_eq C dS_secret_7 (tgt := 30) rfl (fun h7 => ?_) (fun h7 => ?_)
  · refine xa_ldc2 C (xw_in wk_S_175 rfl) dS_secret_30 ?_
    exact xa_lret C hr hk dS_secret_33
  · exact absurd hd h7
set_option maxHeartbeats 4000000 in
set_option maxRecDepth 100000 in
theorem p_S_secret_b (g : xw_G) (l : Launch) {n t : Nat} {co se ke f1 f2 e1 e2 x1 x2 fa we sh : Nat → Nat} {dn op ms ps md tk bl : Int32} {pr ch sm : Nat} {rest : List va_E} (hn : n ≤ 6) {i : Nat} (h1 : 1 ≤ i) (hi : i ≤ n) (hd : ¬ dn = 0) : xm_R g l true m_S_secret [.ref 0, .int (nI i)] (hC g n t co se ke dn f1 f2 e1 e2 op x1 x2 fa we sh ms ps md tk bl pr ch sm ++ rest) (some (.long (lN (se i)))) (hC g n t co se ke dn f1 f2 e1 e2 op x1 x2 fa we sh ms ps md tk bl pr ch sm ++ rest) := by
  refine xm_of [some (.ref 0), some (.int (nI i))] rfl (Nat.le_of_ble_eq_true rfl) rfl ?_
  intro p e s m args below meth c C hr hk
  refine xa_aload_n C dS_secret_0 rfl ?_
  refine xa_get C f_S_30 dS_secret_1 rfl rfl ?_
  refine xa_get C f_S_157 dS_secret_4 rfl rfl ?_
  refine xa_if_eq C dS_secret_7 (tgt := 30) rfl (fun h7 => ?_) (fun h7 => ?_)
  · exact absurd h7 hd
  · refine xa_aload_n C dS_secret_10 rfl ?_
    refine xa_iload_n C dS_secret_11 rfl ?_
    refine xa_callV1 C (p_S_isSigner g l _) b_S_172 (xw_in wi_S_isSigner rfl) e_S_isSigner dS_secret_12 rfl rfl rfl rfl (Nat.le_of_ble_eq_true rfl) ⟨Nat.le_of_ble_eq_true rfl, Nat.le_of_ble_eq_true rfl⟩ ⟨Nat.zero_le _, Nat.zero_le _⟩ ?_
    refine xa_if_eq C dS_secret_15 (tgt := 30) rfl (fun h15 => ?_) (fun h15 => ?_)
    · exact absurd (sg_nI hn h1 hi) (xb_eq0.mp h15)
    · refine xa_aload_n C dS_secret_18 rfl ?_
      refine xa_get C f_S_30 dS_secret_19 rfl rfl ?_
      refine xa_get C f_S_114 dS_secret_22 rfl rfl ?_
      refine xa_iload_n C dS_secret_25 rfl ?_
      refine xa_laloadN C dS_secret_26 rfl ?_ (by omega) ?_
      · omega
      refine xa_goto C dS_secret_27 (tgt := 33) rfl ?_
      exact xa_lret C hr hk dS_secret_33
set_option maxHeartbeats 4000000 in
set_option maxRecDepth 100000 in
theorem p_S_secret_c (g : xw_G) (l : Launch) {n t : Nat} {co se ke f1 f2 e1 e2 x1 x2 fa we sh : Nat → Nat} {dn op ms ps md tk bl : Int32} {pr ch sm : Nat} {rest : List va_E} (x : Int32) (hx : ¬ sg n x) (hd : ¬ dn = 0) : xm_R g l true m_S_secret [.ref 0, .int x] (hC g n t co se ke dn f1 f2 e1 e2 op x1 x2 fa we sh ms ps md tk bl pr ch sm ++ rest) (some (.long (-1))) (hC g n t co se ke dn f1 f2 e1 e2 op x1 x2 fa we sh ms ps md tk bl pr ch sm ++ rest) := by
  refine xm_of [some (.ref 0), some (.int x)] rfl (Nat.le_of_ble_eq_true rfl) rfl ?_
  intro p e s m args below meth c C hr hk
  refine xa_aload_n C dS_secret_0 rfl ?_
  refine xa_get C f_S_30 dS_secret_1 rfl rfl ?_
  refine xa_get C f_S_157 dS_secret_4 rfl rfl ?_
  refine xa_if_eq C dS_secret_7 (tgt := 30) rfl (fun h7 => ?_) (fun h7 => ?_)
  · exact absurd h7 hd
  · refine xa_aload_n C dS_secret_10 rfl ?_
    refine xa_iload_n C dS_secret_11 rfl ?_
    refine xa_callV1 C (p_S_isSigner g l _) b_S_172 (xw_in wi_S_isSigner rfl) e_S_isSigner dS_secret_12 rfl rfl rfl rfl (Nat.le_of_ble_eq_true rfl) ⟨Nat.le_of_ble_eq_true rfl, Nat.le_of_ble_eq_true rfl⟩ ⟨Nat.zero_le _, Nat.zero_le _⟩ ?_
    refine xa_if_eq C dS_secret_15 (tgt := 30) rfl (fun h15 => ?_) (fun h15 => ?_)
    · refine xa_ldc2 C (xw_in wk_S_175 rfl) dS_secret_30 ?_
      exact xa_lret C hr hk dS_secret_33
    · exact absurd (xb_f hx) h15
set_option maxHeartbeats 4000000 in
set_option maxRecDepth 100000 in
theorem p_S_commitment_a (g : xw_G) (l : Launch) {n t : Nat} {co se ke f1 f2 e1 e2 x1 x2 fa we sh : Nat → Nat} {dn op ms ps md tk bl : Int32} {pr ch sm : Nat} {rest : List va_E} (x y : Int32) (hx : ¬ sg n x) : xm_R g l true m_S_commitment [.ref 0, .int x, .int y] (hC g n t co se ke dn f1 f2 e1 e2 op x1 x2 fa we sh ms ps md tk bl pr ch sm ++ rest) (some (.long (-1))) (hC g n t co se ke dn f1 f2 e1 e2 op x1 x2 fa we sh ms ps md tk bl pr ch sm ++ rest) := by
  refine xm_of [some (.ref 0), some (.int x), some (.int y)] rfl (Nat.le_of_ble_eq_true rfl) rfl ?_
  intro p e s m args below meth c C hr hk
  refine xa_aload_n C dS_commitment_0 rfl ?_
  refine xa_iload_n C dS_commitment_1 rfl ?_
  refine xa_callV1 C (p_S_isSigner g l _) b_S_172 (xw_in wi_S_isSigner rfl) e_S_isSigner dS_commitment_2 rfl rfl rfl rfl (Nat.le_of_ble_eq_true rfl) ⟨Nat.le_of_ble_eq_true rfl, Nat.le_of_ble_eq_true rfl⟩ ⟨Nat.zero_le _, Nat.zero_le _⟩ ?_
  refine xa_if_eq C dS_commitment_5 (tgt := 22) rfl (fun h5 => ?_) (fun h5 => ?_)
  · refine xa_ldc2 C (xw_in wk_S_175 rfl) dS_commitment_22 ?_
    exact xa_lret C hr hk dS_commitment_25
  · exact absurd (xb_f hx) h5
set_option maxHeartbeats 4000000 in
set_option maxRecDepth 100000 in
theorem p_S_commitment_b (g : xw_G) (l : Launch) {n t : Nat} {co se ke f1 f2 e1 e2 x1 x2 fa we sh : Nat → Nat} {dn op ms ps md tk bl : Int32} {pr ch sm : Nat} {rest : List va_E} (hn : n ≤ 6) {i : Nat} (h1 : 1 ≤ i) (hi : i ≤ n) (y : Int32) (ho : hs op i = false) : xm_R g l true m_S_commitment [.ref 0, .int (nI i), .int y] (hC g n t co se ke dn f1 f2 e1 e2 op x1 x2 fa we sh ms ps md tk bl pr ch sm ++ rest) (some (.long (-1))) (hC g n t co se ke dn f1 f2 e1 e2 op x1 x2 fa we sh ms ps md tk bl pr ch sm ++ rest) := by
  refine xm_of [some (.ref 0), some (.int (nI i)), some (.int y)] rfl (Nat.le_of_ble_eq_true rfl) rfl ?_
  intro p e s m args below meth c C hr hk
  refine xa_aload_n C dS_commitment_0 rfl ?_
  refine xa_iload_n C dS_commitment_1 rfl ?_
  refine xa_callV1 C (p_S_isSigner g l _) b_S_172 (xw_in wi_S_isSigner rfl) e_S_isSigner dS_commitment_2 rfl rfl rfl rfl (Nat.le_of_ble_eq_true rfl) ⟨Nat.le_of_ble_eq_true rfl, Nat.le_of_ble_eq_true rfl⟩ ⟨Nat.zero_le _, Nat.zero_le _⟩ ?_
  refine xa_if_eq C dS_commitment_5 (tgt := 22) rfl (fun h5 => ?_) (fun h5 => ?_)
  · exact absurd (sg_nI hn h1 hi) (xb_eq0.mp h5)
  · refine xa_aload_n C dS_commitment_8 rfl ?_
    refine xa_get C f_S_39 dS_commitment_9 rfl rfl ?_
    refine xa_get C f_S_177 dS_commitment_12 rfl rfl ?_
    refine xa_iload_n C dS_commitment_15 rfl ?_
    refine xa_callS1 C (p_I_hasN g l _ (by omega) (by omega) _) b_S_106 (xw_in wt_I_has rfl) dS_commitment_16 rfl (Nat.le_of_ble_eq_true rfl) ⟨Nat.le_of_ble_eq_true rfl, Nat.le_of_ble_eq_true rfl⟩ ⟨Nat.zero_le _, Nat.zero_le _⟩ ?_
    refine xa_if_ne C dS_commitment_19 (tgt := 26) rfl (fun h19 => ?_) (fun h19 => ?_)
    · exact absurd (xb_f (by rw [ho]; decide)) h19
    · refine xa_ldc2 C (xw_in wk_S_175 rfl) dS_commitment_22 ?_
      exact xa_lret C hr hk dS_commitment_25
set_option maxHeartbeats 4000000 in
set_option maxRecDepth 100000 in
theorem p_S_commitment_c (g : xw_G) (l : Launch) {n t : Nat} {co se ke f1 f2 e1 e2 x1 x2 fa we sh : Nat → Nat} {dn op ms ps md tk bl : Int32} {pr ch sm : Nat} {rest : List va_E} (hn : n ≤ 6) {i : Nat} (h1 : 1 ≤ i) (hi : i ≤ n) (y : Int32) (ho : hs op i = true) (hy : ¬ y = 0) : xm_R g l true m_S_commitment [.ref 0, .int (nI i), .int y] (hC g n t co se ke dn f1 f2 e1 e2 op x1 x2 fa we sh ms ps md tk bl pr ch sm ++ rest) (some (.long (lN (e2 i)))) (hC g n t co se ke dn f1 f2 e1 e2 op x1 x2 fa we sh ms ps md tk bl pr ch sm ++ rest) := by
  refine xm_of [some (.ref 0), some (.int (nI i)), some (.int y)] rfl (Nat.le_of_ble_eq_true rfl) rfl ?_
  intro p e s m args below meth c C hr hk
  refine xa_aload_n C dS_commitment_0 rfl ?_
  refine xa_iload_n C dS_commitment_1 rfl ?_
  refine xa_callV1 C (p_S_isSigner g l _) b_S_172 (xw_in wi_S_isSigner rfl) e_S_isSigner dS_commitment_2 rfl rfl rfl rfl (Nat.le_of_ble_eq_true rfl) ⟨Nat.le_of_ble_eq_true rfl, Nat.le_of_ble_eq_true rfl⟩ ⟨Nat.zero_le _, Nat.zero_le _⟩ ?_
  refine xa_if_eq C dS_commitment_5 (tgt := 22) rfl (fun h5 => ?_) (fun h5 => ?_)
  · exact absurd (sg_nI hn h1 hi) (xb_eq0.mp h5)
  · refine xa_aload_n C dS_commitment_8 rfl ?_
    refine xa_get C f_S_39 dS_commitment_9 rfl rfl ?_
    refine xa_get C f_S_177 dS_commitment_12 rfl rfl ?_
    refine xa_iload_n C dS_commitment_15 rfl ?_
    refine xa_callS1 C (p_I_hasN g l _ (by omega) (by omega) _) b_S_106 (xw_in wt_I_has rfl) dS_commitment_16 rfl (Nat.le_of_ble_eq_true rfl) ⟨Nat.le_of_ble_eq_true rfl, Nat.le_of_ble_eq_true rfl⟩ ⟨Nat.zero_le _, Nat.zero_le _⟩ ?_
    refine xa_if_ne C dS_commitment_19 (tgt := 26) rfl (fun h19 => ?_) (fun h19 => ?_)
    · refine xa_iload_n C dS_commitment_26 rfl ?_
      refine xa_if_eq C dS_commitment_27 (tgt := 42) rfl (fun h27 => ?_) (fun h27 => ?_)
      · exact absurd h27 hy
      · refine xa_aload_n C dS_commitment_30 rfl ?_
        refine xa_get C f_S_39 dS_commitment_31 rfl rfl ?_
        refine xa_get C f_S_180 dS_commitment_34 rfl rfl ?_
        refine xa_iload_n C dS_commitment_37 rfl ?_
        refine xa_laloadN C dS_commitment_38 rfl ?_ (by omega) ?_
        · omega
        refine xa_goto C dS_commitment_39 (tgt := 51) rfl ?_
        exact xa_lret C hr hk dS_commitment_51
    · exact absurd ho (xb_eq0.mp h19)
set_option maxHeartbeats 4000000 in
set_option maxRecDepth 100000 in
theorem p_S_commitment_d (g : xw_G) (l : Launch) {n t : Nat} {co se ke f1 f2 e1 e2 x1 x2 fa we sh : Nat → Nat} {dn op ms ps md tk bl : Int32} {pr ch sm : Nat} {rest : List va_E} (hn : n ≤ 6) {i : Nat} (h1 : 1 ≤ i) (hi : i ≤ n) (y : Int32) (ho : hs op i = true) (hy : y = 0) : xm_R g l true m_S_commitment [.ref 0, .int (nI i), .int y] (hC g n t co se ke dn f1 f2 e1 e2 op x1 x2 fa we sh ms ps md tk bl pr ch sm ++ rest) (some (.long (lN (e1 i)))) (hC g n t co se ke dn f1 f2 e1 e2 op x1 x2 fa we sh ms ps md tk bl pr ch sm ++ rest) := by
  refine xm_of [some (.ref 0), some (.int (nI i)), some (.int y)] rfl (Nat.le_of_ble_eq_true rfl) rfl ?_
  intro p e s m args below meth c C hr hk
  refine xa_aload_n C dS_commitment_0 rfl ?_
  refine xa_iload_n C dS_commitment_1 rfl ?_
  refine xa_callV1 C (p_S_isSigner g l _) b_S_172 (xw_in wi_S_isSigner rfl) e_S_isSigner dS_commitment_2 rfl rfl rfl rfl (Nat.le_of_ble_eq_true rfl) ⟨Nat.le_of_ble_eq_true rfl, Nat.le_of_ble_eq_true rfl⟩ ⟨Nat.zero_le _, Nat.zero_le _⟩ ?_
  refine xa_if_eq C dS_commitment_5 (tgt := 22) rfl (fun h5 => ?_) (fun h5 => ?_)
  · exact absurd (sg_nI hn h1 hi) (xb_eq0.mp h5)
  · refine xa_aload_n C dS_commitment_8 rfl ?_
    refine xa_get C f_S_39 dS_commitment_9 rfl rfl ?_
    refine xa_get C f_S_177 dS_commitment_12 rfl rfl ?_
    refine xa_iload_n C dS_commitment_15 rfl ?_
    refine xa_callS1 C (p_I_hasN g l _ (by omega) (by omega) _) b_S_106 (xw_in wt_I_has rfl) dS_commitment_16 rfl (Nat.le_of_ble_eq_true rfl) ⟨Nat.le_of_ble_eq_true rfl, Nat.le_of_ble_eq_true rfl⟩ ⟨Nat.zero_le _, Nat.zero_le _⟩ ?_
    refine xa_if_ne C dS_commitment_19 (tgt := 26) rfl (fun h19 => ?_) (fun h19 => ?_)
    · refine xa_iload_n C dS_commitment_26 rfl ?_
      refine xa_if_eq C dS_commitment_27 (tgt := 42) rfl (fun h27 => ?_) (fun h27 => ?_)
      · refine xa_aload_n C dS_commitment_42 rfl ?_
        refine xa_get C f_S_39 dS_commitment_43 rfl rfl ?_
        refine xa_get C f_S_77 dS_commitment_46 rfl rfl ?_
        refine xa_iload_n C dS_commitment_49 rfl ?_
        refine xa_laloadN C dS_commitment_50 rfl ?_ (by omega) ?_
        · omega
        exact xa_lret C hr hk dS_commitment_51
      · exact absurd hy h27
    · exact absurd ho (xb_eq0.mp h19)
set_option maxHeartbeats 4000000 in
set_option maxRecDepth 100000 in
theorem p_S_factor_a (g : xw_G) (l : Launch) {n t : Nat} {co se ke f1 f2 e1 e2 x1 x2 fa we sh : Nat → Nat} {dn op ms ps md tk bl : Int32} {pr ch sm : Nat} {rest : List va_E} (x : Int32) (hx : ¬ sg n x) : xm_R g l true m_S_factor [.ref 0, .int x] (hC g n t co se ke dn f1 f2 e1 e2 op x1 x2 fa we sh ms ps md tk bl pr ch sm ++ rest) (some (.long (-1))) (hC g n t co se ke dn f1 f2 e1 e2 op x1 x2 fa we sh ms ps md tk bl pr ch sm ++ rest) := by
  refine xm_of [some (.ref 0), some (.int x)] rfl (Nat.le_of_ble_eq_true rfl) rfl ?_
  intro p e s m args below meth c C hr hk
  refine xa_aload_n C dS_factor_0 rfl ?_
  refine xa_iload_n C dS_factor_1 rfl ?_
  refine xa_callV1 C (p_S_isMember_no g l _ hx) b_S_183 (xw_in wi_S_isMember rfl) e_S_isMember dS_factor_2 rfl rfl rfl rfl (Nat.le_of_ble_eq_true rfl) ⟨Nat.le_of_ble_eq_true rfl, Nat.le_of_ble_eq_true rfl⟩ ⟨Nat.zero_le _, Nat.zero_le _⟩ ?_
  refine xa_if_eq C dS_factor_5 (tgt := 20) rfl (fun h5 => ?_) (fun h5 => ?_)
  · refine xa_ldc2 C (xw_in wk_S_175 rfl) dS_factor_20 ?_
    exact xa_lret C hr hk dS_factor_23
  · exact absurd rfl h5
set_option maxHeartbeats 4000000 in
set_option maxRecDepth 100000 in
theorem p_S_factor_b (g : xw_G) (l : Launch) {n t : Nat} {co se ke f1 f2 e1 e2 x1 x2 fa we sh : Nat → Nat} {dn op ms ps md tk bl : Int32} {pr ch sm : Nat} {rest : List va_E} (hn : n ≤ 6) {i : Nat} (h1 : 1 ≤ i) (hi : i ≤ n) (hm : hs ms i = false) : xm_R g l true m_S_factor [.ref 0, .int (nI i)] (hC g n t co se ke dn f1 f2 e1 e2 op x1 x2 fa we sh ms ps md tk bl pr ch sm ++ rest) (some (.long (-1))) (hC g n t co se ke dn f1 f2 e1 e2 op x1 x2 fa we sh ms ps md tk bl pr ch sm ++ rest) := by
  refine xm_of [some (.ref 0), some (.int (nI i))] rfl (Nat.le_of_ble_eq_true rfl) rfl ?_
  intro p e s m args below meth c C hr hk
  refine xa_aload_n C dS_factor_0 rfl ?_
  refine xa_iload_n C dS_factor_1 rfl ?_
  refine xa_callV1 C (p_S_isMember g l hn h1 hi) b_S_183 (xw_in wi_S_isMember rfl) e_S_isMember dS_factor_2 rfl rfl rfl rfl (Nat.le_of_ble_eq_true rfl) ⟨Nat.le_of_ble_eq_true rfl, Nat.le_of_ble_eq_true rfl⟩ ⟨Nat.zero_le _, Nat.zero_le _⟩ ?_
  refine xa_if_eq C dS_factor_5 (tgt := 20) rfl (fun h5 => ?_) (fun h5 => ?_)
  · refine xa_ldc2 C (xw_in wk_S_175 rfl) dS_factor_20 ?_
    exact xa_lret C hr hk dS_factor_23
  · exact absurd (xb_f (by rw [hm]; decide)) h5
set_option maxHeartbeats 4000000 in
set_option maxRecDepth 100000 in
theorem p_S_factor_c (g : xw_G) (l : Launch) {n t : Nat} {co se ke f1 f2 e1 e2 x1 x2 fa we sh : Nat → Nat} {dn op ms ps md tk bl : Int32} {pr ch sm : Nat} {rest : List va_E} (hn : n ≤ 6) {i : Nat} (h1 : 1 ≤ i) (hi : i ≤ n) (hm : hs ms i = true) : xm_R g l true m_S_factor [.ref 0, .int (nI i)] (hC g n t co se ke dn f1 f2 e1 e2 op x1 x2 fa we sh ms ps md tk bl pr ch sm ++ rest) (some (.long (lN (fa i)))) (hC g n t co se ke dn f1 f2 e1 e2 op x1 x2 fa we sh ms ps md tk bl pr ch sm ++ rest) := by
  refine xm_of [some (.ref 0), some (.int (nI i))] rfl (Nat.le_of_ble_eq_true rfl) rfl ?_
  intro p e s m args below meth c C hr hk
  refine xa_aload_n C dS_factor_0 rfl ?_
  refine xa_iload_n C dS_factor_1 rfl ?_
  refine xa_callV1 C (p_S_isMember g l hn h1 hi) b_S_183 (xw_in wi_S_isMember rfl) e_S_isMember dS_factor_2 rfl rfl rfl rfl (Nat.le_of_ble_eq_true rfl) ⟨Nat.le_of_ble_eq_true rfl, Nat.le_of_ble_eq_true rfl⟩ ⟨Nat.zero_le _, Nat.zero_le _⟩ ?_
  refine xa_if_eq C dS_factor_5 (tgt := 20) rfl (fun h5 => ?_) (fun h5 => ?_)
  · exact absurd hm (xb_eq0.mp h5)
  · refine xa_aload_n C dS_factor_8 rfl ?_
    refine xa_get C f_S_46 dS_factor_9 rfl rfl ?_
    refine xa_get C f_S_186 dS_factor_12 rfl rfl ?_
    refine xa_iload_n C dS_factor_15 rfl ?_
    refine xa_laloadN C dS_factor_16 rfl ?_ (by omega) ?_
    · omega
    refine xa_goto C dS_factor_17 (tgt := 23) rfl ?_
    exact xa_lret C hr hk dS_factor_23
set_option maxHeartbeats 4000000 in
set_option maxRecDepth 100000 in
theorem p_S_weight_a (g : xw_G) (l : Launch) {n t : Nat} {co se ke f1 f2 e1 e2 x1 x2 fa we sh : Nat → Nat} {dn op ms ps md tk bl : Int32} {pr ch sm : Nat} {rest : List va_E} (x : Int32) (hx : ¬ sg n x) : xm_R g l true m_S_weight [.ref 0, .int x] (hC g n t co se ke dn f1 f2 e1 e2 op x1 x2 fa we sh ms ps md tk bl pr ch sm ++ rest) (some (.long (-1))) (hC g n t co se ke dn f1 f2 e1 e2 op x1 x2 fa we sh ms ps md tk bl pr ch sm ++ rest) := by
  refine xm_of [some (.ref 0), some (.int x)] rfl (Nat.le_of_ble_eq_true rfl) rfl ?_
  intro p e s m args below meth c C hr hk
  refine xa_aload_n C dS_weight_0 rfl ?_
  refine xa_iload_n C dS_weight_1 rfl ?_
  refine xa_callV1 C (p_S_isMember_no g l _ hx) b_S_183 (xw_in wi_S_isMember rfl) e_S_isMember dS_weight_2 rfl rfl rfl rfl (Nat.le_of_ble_eq_true rfl) ⟨Nat.le_of_ble_eq_true rfl, Nat.le_of_ble_eq_true rfl⟩ ⟨Nat.zero_le _, Nat.zero_le _⟩ ?_
  refine xa_if_eq C dS_weight_5 (tgt := 20) rfl (fun h5 => ?_) (fun h5 => ?_)
  · refine xa_ldc2 C (xw_in wk_S_175 rfl) dS_weight_20 ?_
    exact xa_lret C hr hk dS_weight_23
  · exact absurd rfl h5
set_option maxHeartbeats 4000000 in
set_option maxRecDepth 100000 in
theorem p_S_weight_b (g : xw_G) (l : Launch) {n t : Nat} {co se ke f1 f2 e1 e2 x1 x2 fa we sh : Nat → Nat} {dn op ms ps md tk bl : Int32} {pr ch sm : Nat} {rest : List va_E} (hn : n ≤ 6) {i : Nat} (h1 : 1 ≤ i) (hi : i ≤ n) (hm : hs ms i = false) : xm_R g l true m_S_weight [.ref 0, .int (nI i)] (hC g n t co se ke dn f1 f2 e1 e2 op x1 x2 fa we sh ms ps md tk bl pr ch sm ++ rest) (some (.long (-1))) (hC g n t co se ke dn f1 f2 e1 e2 op x1 x2 fa we sh ms ps md tk bl pr ch sm ++ rest) := by
  refine xm_of [some (.ref 0), some (.int (nI i))] rfl (Nat.le_of_ble_eq_true rfl) rfl ?_
  intro p e s m args below meth c C hr hk
  refine xa_aload_n C dS_weight_0 rfl ?_
  refine xa_iload_n C dS_weight_1 rfl ?_
  refine xa_callV1 C (p_S_isMember g l hn h1 hi) b_S_183 (xw_in wi_S_isMember rfl) e_S_isMember dS_weight_2 rfl rfl rfl rfl (Nat.le_of_ble_eq_true rfl) ⟨Nat.le_of_ble_eq_true rfl, Nat.le_of_ble_eq_true rfl⟩ ⟨Nat.zero_le _, Nat.zero_le _⟩ ?_
  refine xa_if_eq C dS_weight_5 (tgt := 20) rfl (fun h5 => ?_) (fun h5 => ?_)
  · refine xa_ldc2 C (xw_in wk_S_175 rfl) dS_weight_20 ?_
    exact xa_lret C hr hk dS_weight_23
  · exact absurd (xb_f (by rw [hm]; decide)) h5
set_option maxHeartbeats 4000000 in
set_option maxRecDepth 100000 in
theorem p_S_weight_c (g : xw_G) (l : Launch) {n t : Nat} {co se ke f1 f2 e1 e2 x1 x2 fa we sh : Nat → Nat} {dn op ms ps md tk bl : Int32} {pr ch sm : Nat} {rest : List va_E} (hn : n ≤ 6) {i : Nat} (h1 : 1 ≤ i) (hi : i ≤ n) (hm : hs ms i = true) : xm_R g l true m_S_weight [.ref 0, .int (nI i)] (hC g n t co se ke dn f1 f2 e1 e2 op x1 x2 fa we sh ms ps md tk bl pr ch sm ++ rest) (some (.long (lN (we i)))) (hC g n t co se ke dn f1 f2 e1 e2 op x1 x2 fa we sh ms ps md tk bl pr ch sm ++ rest) := by
  refine xm_of [some (.ref 0), some (.int (nI i))] rfl (Nat.le_of_ble_eq_true rfl) rfl ?_
  intro p e s m args below meth c C hr hk
  refine xa_aload_n C dS_weight_0 rfl ?_
  refine xa_iload_n C dS_weight_1 rfl ?_
  refine xa_callV1 C (p_S_isMember g l hn h1 hi) b_S_183 (xw_in wi_S_isMember rfl) e_S_isMember dS_weight_2 rfl rfl rfl rfl (Nat.le_of_ble_eq_true rfl) ⟨Nat.le_of_ble_eq_true rfl, Nat.le_of_ble_eq_true rfl⟩ ⟨Nat.zero_le _, Nat.zero_le _⟩ ?_
  refine xa_if_eq C dS_weight_5 (tgt := 20) rfl (fun h5 => ?_) (fun h5 => ?_)
  · exact absurd hm (xb_eq0.mp h5)
  · refine xa_aload_n C dS_weight_8 rfl ?_
    refine xa_get C f_S_46 dS_weight_9 rfl rfl ?_
    refine xa_get C f_S_189 dS_weight_12 rfl rfl ?_
    refine xa_iload_n C dS_weight_15 rfl ?_
    refine xa_laloadN C dS_weight_16 rfl ?_ (by omega) ?_
    · omega
    refine xa_goto C dS_weight_17 (tgt := 23) rfl ?_
    exact xa_lret C hr hk dS_weight_23
set_option maxHeartbeats 4000000 in
set_option maxRecDepth 100000 in
theorem p_S_challenge_a (g : xw_G) (l : Launch) {n t : Nat} {co se ke f1 f2 e1 e2 x1 x2 fa we sh : Nat → Nat} {dn op ms ps md tk bl : Int32} {pr ch sm : Nat} {rest : List va_E} (hm : ms = 0) : xm_R g l true m_S_challenge [.ref 0] (hC g n t co se ke dn f1 f2 e1 e2 op x1 x2 fa we sh ms ps md tk bl pr ch sm ++ rest) (some (.long (-1))) (hC g n t co se ke dn f1 f2 e1 e2 op x1 x2 fa we sh ms ps md tk bl pr ch sm ++ rest) := by
  refine xm_of [some (.ref 0)] rfl (Nat.le_of_ble_eq_true rfl) rfl ?_
  intro p e s m args below meth c C hr hk
  refine xa_aload_n C dS_challenge_0 rfl ?_
  refine xa_get C f_S_46 dS_challenge_1 rfl rfl ?_
  refine xa_callV1 C (p_X_isOn g l) b_S_192 (xw_in wi_X_isOn rfl) e_X_isOn dS_challenge_4 rfl rfl rfl rfl (Nat.le_of_ble_eq_true rfl) ⟨Nat.le_of_ble_eq_true rfl, Nat.le_of_ble_eq_true rfl⟩ ⟨Nat.zero_le _, Nat.zero_le _⟩ ?_
  refine xa_if_eq C dS_challenge_7 (tgt := 20) rfl (fun h7 => ?_) (fun h7 => ?_)
  · refine xa_ldc2 C (xw_in wk_S_175 rfl) dS_challenge_20 ?_
    exact xa_lret C hr hk dS_challenge_23
  · exact absurd (xb_f (fun z => z hm)) h7
set_option maxHeartbeats 4000000 in
set_option maxRecDepth 100000 in
theorem p_S_challenge_b (g : xw_G) (l : Launch) {n t : Nat} {co se ke f1 f2 e1 e2 x1 x2 fa we sh : Nat → Nat} {dn op ms ps md tk bl : Int32} {pr ch sm : Nat} {rest : List va_E} (hm : ¬ ms = 0) : xm_R g l true m_S_challenge [.ref 0] (hC g n t co se ke dn f1 f2 e1 e2 op x1 x2 fa we sh ms ps md tk bl pr ch sm ++ rest) (some (.long (lN ch))) (hC g n t co se ke dn f1 f2 e1 e2 op x1 x2 fa we sh ms ps md tk bl pr ch sm ++ rest) := by
  refine xm_of [some (.ref 0)] rfl (Nat.le_of_ble_eq_true rfl) rfl ?_
  intro p e s m args below meth c C hr hk
  refine xa_aload_n C dS_challenge_0 rfl ?_
  refine xa_get C f_S_46 dS_challenge_1 rfl rfl ?_
  refine xa_callV1 C (p_X_isOn g l) b_S_192 (xw_in wi_X_isOn rfl) e_X_isOn dS_challenge_4 rfl rfl rfl rfl (Nat.le_of_ble_eq_true rfl) ⟨Nat.le_of_ble_eq_true rfl, Nat.le_of_ble_eq_true rfl⟩ ⟨Nat.zero_le _, Nat.zero_le _⟩ ?_
  refine xa_if_eq C dS_challenge_7 (tgt := 20) rfl (fun h7 => ?_) (fun h7 => ?_)
  · exact absurd hm (xb_eq0.mp h7)
  · refine xa_aload_n C dS_challenge_10 rfl ?_
    refine xa_get C f_S_46 dS_challenge_11 rfl rfl ?_
    refine xa_get C f_S_196 dS_challenge_14 rfl rfl ?_
    refine xa_goto C dS_challenge_17 (tgt := 23) rfl ?_
    exact xa_lret C hr hk dS_challenge_23
set_option maxHeartbeats 4000000 in
set_option maxRecDepth 100000 in
theorem p_S_members (g : xw_G) (l : Launch) {n t : Nat} {co se ke f1 f2 e1 e2 x1 x2 fa we sh : Nat → Nat} {dn op ms ps md tk bl : Int32} {pr ch sm : Nat} {rest : List va_E}  : xm_R g l true m_S_members [.ref 0] (hC g n t co se ke dn f1 f2 e1 e2 op x1 x2 fa we sh ms ps md tk bl pr ch sm ++ rest) (some (.int ms)) (hC g n t co se ke dn f1 f2 e1 e2 op x1 x2 fa we sh ms ps md tk bl pr ch sm ++ rest) := by
  refine xm_of [some (.ref 0)] rfl (Nat.le_of_ble_eq_true rfl) rfl ?_
  intro p e s m args below meth c C hr hk
  refine xa_aload_n C dS_members_0 rfl ?_
  refine xa_get C f_S_46 dS_members_1 rfl rfl ?_
  refine xa_get C f_S_199 dS_members_4 rfl rfl ?_
  exact xa_iret C hr hk dS_members_7
set_option maxHeartbeats 4000000 in
set_option maxRecDepth 100000 in
theorem p_S_taken (g : xw_G) (l : Launch) {n t : Nat} {co se ke f1 f2 e1 e2 x1 x2 fa we sh : Nat → Nat} {dn op ms ps md tk bl : Int32} {pr ch sm : Nat} {rest : List va_E}  : xm_R g l true m_S_taken [.ref 0] (hC g n t co se ke dn f1 f2 e1 e2 op x1 x2 fa we sh ms ps md tk bl pr ch sm ++ rest) (some (.int tk)) (hC g n t co se ke dn f1 f2 e1 e2 op x1 x2 fa we sh ms ps md tk bl pr ch sm ++ rest) := by
  refine xm_of [some (.ref 0)] rfl (Nat.le_of_ble_eq_true rfl) rfl ?_
  intro p e s m args below meth c C hr hk
  refine xa_aload_n C dS_taken_0 rfl ?_
  refine xa_get C f_S_46 dS_taken_1 rfl rfl ?_
  refine xa_get C f_S_202 dS_taken_4 rfl rfl ?_
  exact xa_iret C hr hk dS_taken_7
set_option maxHeartbeats 4000000 in
set_option maxRecDepth 100000 in
theorem p_S_blamed (g : xw_G) (l : Launch) {n t : Nat} {co se ke f1 f2 e1 e2 x1 x2 fa we sh : Nat → Nat} {dn op ms ps md tk bl : Int32} {pr ch sm : Nat} {rest : List va_E}  : xm_R g l true m_S_blamed [.ref 0] (hC g n t co se ke dn f1 f2 e1 e2 op x1 x2 fa we sh ms ps md tk bl pr ch sm ++ rest) (some (.int bl)) (hC g n t co se ke dn f1 f2 e1 e2 op x1 x2 fa we sh ms ps md tk bl pr ch sm ++ rest) := by
  refine xm_of [some (.ref 0)] rfl (Nat.le_of_ble_eq_true rfl) rfl ?_
  intro p e s m args below meth c C hr hk
  refine xa_aload_n C dS_blamed_0 rfl ?_
  refine xa_get C f_S_46 dS_blamed_1 rfl rfl ?_
  refine xa_get C f_S_205 dS_blamed_4 rfl rfl ?_
  exact xa_iret C hr hk dS_blamed_7
