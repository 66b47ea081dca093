/-! the session: factors, weights, shares -/
theorem tp_eq {a b : Nat} (ha : a < 2 ^ 31) (hb : b < 2 ^ 31) : lg_cmp (lN a) (lN b) = 0 ↔ a = b := (lg_cmp_eq _ _).trans (pk_lEQ (by omega) (by omega))
theorem xb_iff {P Q : Prop} [Decidable P] [Decidable Q] (h : P ↔ Q) : xb P = xb Q := by
  by_cases q : Q
  · rw [xb_t q, xb_t (h.mpr q)]
  · rw [xb_f q, xb_f (fun z => q (h.mp z))]
theorem p_I_hasN (g : xw_G) (l : Launch) (x : Int32) {j : Nat} (h1 : 1 ≤ j) (h6 : j ≤ 6) (hp : List va_E) : xm_R g l true m_I_has [.int x, .int (nI j)] hp (some (.int (xb (hs x j = true)))) hp := by
  have h := p_I_has g l x (nI j) hp
  rw [xb_iff (hs_has (s := x) h1 h6)] at h
  exact h
theorem xb_hs0 {s : Int32} {j : Nat} (h : xb (hs s j = true) = 0) : hs s j = false := by
  have := xb_eq0.mp h
  simpa using this
theorem xb_hs1 {s : Int32} {j : Nat} (h : ¬ xb (hs s j = true) = 0) : hs s j = true := by
  by_cases q : hs s j = true
  · exact q
  · exact absurd (xb_f q) h
/-- the digest over the members -/
def fh_ (s : Int32) (a b : Nat → Nat) (h0 : Int64) : Nat → Int64
  | 0 => h0
  | k + 1 => if hs s (k + 1) = true then dg_m (dg_m (dg_m (fh_ s a b h0 k) (lN (k + 1))) (lN (a (k + 1)))) (lN (b (k + 1))) else fh_ s a b h0 k
def ff_ (s : Int32) (a b : Nat → Nat) (n : Nat) (msg : Int64) (key i : Nat) : Nat := dg_f (fh_ s a b (dg_m (dg_m (dg_m (dg_m 0 4) (lN key)) msg) (lN i)) n)
theorem ff_lt (s : Int32) (a b : Nat → Nat) (n : Nat) (msg : Int64) (key i : Nat) : ff_ s a b n msg key i < 2 ^ 30 := Nat.lt_trans (dg_f_lt _) (by decide)
theorem fh_same {s : Int32} {a b a' b' : Nat → Nat} {h0 : Int64} : ∀ n, (∀ j, 1 ≤ j → j ≤ n → hs s j = true → a j = a' j ∧ b j = b' j) → fh_ s a b h0 n = fh_ s a' b' h0 n
  | 0, _ => rfl
  | n + 1, h => by
    rw [fh_, fh_, fh_same n (fun j h1 h2 => h j h1 (by omega))]
    by_cases q : hs s (n + 1) = true
    · obtain ⟨e1, e2⟩ := h (n + 1) (by omega) (by omega) q
      rw [if_pos q, if_pos q, e1, e2]
    · rw [if_neg q, if_neg q]
set_option maxHeartbeats 4000000 in
set_option maxRecDepth 100000 in
theorem p_X_factorFor (g : xw_G) (l : Launch) {n t : Nat} {co se ke f1 f2 e1 e2 x1 x2 fa we sh : Nat → Nat} {dn op ms ps md tk bl : Int32} {pr ch sm : Nat} {rest : List va_E} (hn : n ≤ 6) (ht : t ≤ 6) {i : Nat} (h1 : 1 ≤ i) (hi : i ≤ n) (w : Int64) (key : Nat) : xm_R g l true m_X_factorFor [.ref 10, .int (nI i), .long w, .long (lN key)] (hC g n t co se ke dn f1 f2 e1 e2 op x1 x2 fa we sh ms ps md tk bl pr ch sm ++ rest) (some (.long (lN (ff_ ms x1 x2 n w key i)))) (hC g n t co se ke dn f1 f2 e1 e2 op x1 x2 fa we sh ms ps md tk bl pr ch sm ++ rest) := by
  refine xm_of [some (.ref 10), some (.int (nI i)), some (.long w), none, some (.long (lN key)), none, none, none, none] rfl (Nat.le_of_ble_eq_true rfl) rfl ?_
  intro p e s m args below meth c C hr hk
  have loop : ∀ d k : Nat, k + d = n → xw_At g true 9 p l e (xm_rm m_X_factorFor 0) s m args below meth c 0 0 (MQ below (xm_Q g true (some (.long (lN (ff_ ms x1 x2 n w key i)))) (hC g n t co se ke dn f1 f2 e1 e2 op x1 x2 fa we sh ms ps md tk bl pr ch sm ++ rest)) args s 0 0 (xm_fr g true)) 30 [some (.ref 10), some (.int (nI i)), some (.long w), none, some (.long (lN key)), none, some (.long (fh_ ms x1 x2 (dg_m (dg_m (dg_m (dg_m 0 4) (lN key)) w) (lN i)) k)), none, some (.int (nI (k + 1)))] [] (hC g n t co se ke dn f1 f2 e1 e2 op x1 x2 fa we sh ms ps md tk bl pr ch sm ++ rest) := by
    intro d
    induction d with
    | zero =>
      intro k hk9
      obtain rfl : k = n := by omega
      refine xa_iload C dX_factorFor_30 rfl ?_
      refine xa_aload_n C dX_factorFor_32 rfl ?_
      refine xa_get C f_X_7 dX_factorFor_33 rfl rfl ?_
      refine xa_icmp_gt C dX_factorFor_36 (tgt := 91) rfl (fun h36 => ?_) (fun h36 => ?_)
      · refine xa_lload C dX_factorFor_91 rfl ?_
        refine xa_callS1 C (p_G_finish g l _ _) b_X_120 (xw_in wt_G_finish rfl) dX_factorFor_93 rfl (Nat.le_of_ble_eq_true rfl) ⟨Nat.le_of_ble_eq_true rfl, Nat.le_of_ble_eq_true rfl⟩ ⟨Nat.zero_le _, Nat.zero_le _⟩ ?_
        exact xa_lret C hr hk dX_factorFor_96
      · exact absurd (nI_lt (by omega) (by omega)) h36
    | succ d ih =>
      intro k hk9
      refine xa_iload C dX_factorFor_30 rfl ?_
      refine xa_aload_n C dX_factorFor_32 rfl ?_
      refine xa_get C f_X_7 dX_factorFor_33 rfl rfl ?_
      refine xa_icmp_gt C dX_factorFor_36 (tgt := 91) rfl (fun h36 => ?_) (fun h36 => ?_)
      · exact absurd h36 (nI_nlt (by omega) (by omega))
      · refine xa_aload_n C dX_factorFor_39 rfl ?_
        refine xa_get C f_X_29 dX_factorFor_40 rfl rfl ?_
        refine xa_iload C dX_factorFor_43 rfl ?_
        refine xa_callS1 C (p_I_hasN g l _ (by omega) (by omega) _) b_X_40 (xw_in wt_I_has rfl) dX_factorFor_45 rfl (Nat.le_of_ble_eq_true rfl) ⟨Nat.le_of_ble_eq_true rfl, Nat.le_of_ble_eq_true rfl⟩ ⟨Nat.zero_le _, Nat.zero_le _⟩ ?_
        refine xa_if_eq C dX_factorFor_48 (tgt := 85) rfl (fun h48 => ?_) (fun h48 => ?_)
        · have hb := xb_hs0 h48
          refine xa_incN C dX_factorFor_85 rfl (Nat.le_of_ble_eq_true rfl) ?_
          refine xa_goto C dX_factorFor_88 (tgt := 30) rfl ?_
          have h := ih (k + 1) (by omega)
          rw [fh_, if_neg (by rw [hb]; decide)] at h
          exact h
        · have hb := xb_hs1 h48
          refine xa_lload C dX_factorFor_51 rfl ?_
          refine xa_iload C dX_factorFor_53 rfl ?_
          refine xa_i2lN C dX_factorFor_55 (by omega) ?_
          refine xa_callS1 C (p_G_mix g l _ _ _) b_X_117 (xw_in wt_G_mix rfl) dX_factorFor_56 rfl (Nat.le_of_ble_eq_true rfl) ⟨Nat.le_of_ble_eq_true rfl, Nat.le_of_ble_eq_true rfl⟩ ⟨Nat.zero_le _, Nat.zero_le _⟩ ?_
          refine xa_aload_n C dX_factorFor_59 rfl ?_
          refine xa_get C f_X_13 dX_factorFor_60 rfl rfl ?_
          refine xa_iload C dX_factorFor_63 rfl ?_
          refine xa_laloadN C dX_factorFor_65 rfl ?_ (by omega) ?_
          · omega
          refine xa_callS1 C (p_G_mix g l _ _ _) b_X_117 (xw_in wt_G_mix rfl) dX_factorFor_66 rfl (Nat.le_of_ble_eq_true rfl) ⟨Nat.le_of_ble_eq_true rfl, Nat.le_of_ble_eq_true rfl⟩ ⟨Nat.zero_le _, Nat.zero_le _⟩ ?_
          refine xa_lstore C dX_factorFor_69 (Nat.le_of_ble_eq_true rfl) ?_
          refine xa_lload C dX_factorFor_71 rfl ?_
          refine xa_aload_n C dX_factorFor_73 rfl ?_
          refine xa_get C f_X_17 dX_factorFor_74 rfl rfl ?_
          refine xa_iload C dX_factorFor_77 rfl ?_
          refine xa_laloadN C dX_factorFor_79 rfl ?_ (by omega) ?_
          · omega
          refine xa_callS1 C (p_G_mix g l _ _ _) b_X_117 (xw_in wt_G_mix rfl) dX_factorFor_80 rfl (Nat.le_of_ble_eq_true rfl) ⟨Nat.le_of_ble_eq_true rfl, Nat.le_of_ble_eq_true rfl⟩ ⟨Nat.zero_le _, Nat.zero_le _⟩ ?_
          refine xa_lstore C dX_factorFor_83 (Nat.le_of_ble_eq_true rfl) ?_
          refine xa_incN C dX_factorFor_85 rfl (Nat.le_of_ble_eq_true rfl) ?_
          refine xa_goto C dX_factorFor_88 (tgt := 30) rfl ?_
          have h := ih (k + 1) (by omega)
          rw [fh_, if_pos hb] at h
          exact h
  refine xa_lcN C 0 dX_factorFor_0 ?_
  refine xa_ldc2 C (xw_in wk_X_115 rfl) dX_factorFor_1 ?_
  refine xa_callS1 C (p_G_mix g l _ _ _) b_X_117 (xw_in wt_G_mix rfl) dX_factorFor_4 rfl (Nat.le_of_ble_eq_true rfl) ⟨Nat.le_of_ble_eq_true rfl, Nat.le_of_ble_eq_true rfl⟩ ⟨Nat.zero_le _, Nat.zero_le _⟩ ?_
  refine xa_lload C dX_factorFor_7 rfl ?_
  refine xa_callS1 C (p_G_mix g l _ _ _) b_X_117 (xw_in wt_G_mix rfl) dX_factorFor_9 rfl (Nat.le_of_ble_eq_true rfl) ⟨Nat.le_of_ble_eq_true rfl, Nat.le_of_ble_eq_true rfl⟩ ⟨Nat.zero_le _, Nat.zero_le _⟩ ?_
  refine xa_lstore C dX_factorFor_12 (Nat.le_of_ble_eq_true rfl) ?_
  refine xa_lload C dX_factorFor_14 rfl ?_
  refine xa_lload_n C dX_factorFor_16 rfl ?_
  refine xa_callS1 C (p_G_mix g l _ _ _) b_X_117 (xw_in wt_G_mix rfl) dX_factorFor_17 rfl (Nat.le_of_ble_eq_true rfl) ⟨Nat.le_of_ble_eq_true rfl, Nat.le_of_ble_eq_true rfl⟩ ⟨Nat.zero_le _, Nat.zero_le _⟩ ?_
  refine xa_iload_n C dX_factorFor_20 rfl ?_
  refine xa_i2lN C dX_factorFor_21 (by omega) ?_
  refine xa_callS1 C (p_G_mix g l _ _ _) b_X_117 (xw_in wt_G_mix rfl) dX_factorFor_22 rfl (Nat.le_of_ble_eq_true rfl) ⟨Nat.le_of_ble_eq_true rfl, Nat.le_of_ble_eq_true rfl⟩ ⟨Nat.zero_le _, Nat.zero_le _⟩ ?_
  refine xa_lstore C dX_factorFor_25 (Nat.le_of_ble_eq_true rfl) ?_
  refine xa_icN C 1 dX_factorFor_27 ?_
  refine xa_istore C dX_factorFor_28 (Nat.le_of_ble_eq_true rfl) ?_
  exact loop n 0 (by omega)
/-- weights: what is above, what is below -/
def aw_ (s : Int32) (i : Nat) : Nat → Nat
  | 0 => 1
  | k + 1 => if k + 1 ≠ i ∧ hs s (k + 1) = true then aw_ s i k * (k + 1) % 1073741789 else aw_ s i k
def bw_ (s : Int32) (i : Nat) : Nat → Nat
  | 0 => 1
  | k + 1 => if k + 1 ≠ i ∧ hs s (k + 1) = true then bw_ s i k * ((k + 1 + 1073741789 - i) % 1073741789) % 1073741789 else bw_ s i k
theorem aw_lt (s : Int32) (i : Nat) : ∀ k, aw_ s i k < 2 ^ 31
  | 0 => (by decide : 1 < 2 ^ 31)
  | k + 1 => by
    rw [aw_]
    by_cases q : k + 1 ≠ i ∧ hs s (k + 1) = true
    · rw [if_pos q]; exact tb_q _
    · rw [if_neg q]; exact aw_lt s i k
theorem bw_lt (s : Int32) (i : Nat) : ∀ k, bw_ s i k < 2 ^ 31
  | 0 => (by decide : 1 < 2 ^ 31)
  | k + 1 => by
    rw [bw_]
    by_cases q : k + 1 ≠ i ∧ hs s (k + 1) = true
    · rw [if_pos q]; exact tb_q _
    · rw [if_neg q]; exact bw_lt s i k
def wt_ (s : Int32) (n i : Nat) : Nat := aw_ s i n * (bw_ s i n ^ 1073741787 % 1073741789) % 1073741789
theorem wt_lt (s : Int32) (n i : Nat) : wt_ s n i < 2 ^ 30 := Nat.lt_trans (Nat.mod_lt _ (by decide)) (by decide)
set_option maxHeartbeats 4000000 in
set_option maxRecDepth 100000 in
theorem p_I_weightIn (g : xw_G) (l : Launch) (x : Int32) {n i : Nat} (hn : n ≤ 6) (hi : i ≤ 6) (hp : List va_E) : xm_R g l true m_I_weightIn [.int x, .int (nI i), .int (nI n)] hp (some (.long (lN (wt_ x n i)))) hp := by
  refine xm_of [some (.int x), some (.int (nI i)), some (.int (nI n)), none, none, none, none, none] rfl (Nat.le_of_ble_eq_true rfl) rfl ?_
  intro p e s m args below meth c C hr hk
  have loop : ∀ d k : Nat, k + d = n → xw_At g true 8 p l e (xm_rm m_I_weightIn 0) s m args below meth c 0 0 (MQ below (xm_Q g true (some (.long (lN (wt_ x n i)))) hp) args s 0 0 (xm_fr g true)) 8 [some (.int x), some (.int (nI i)), some (.int (nI n)), some (.long (lN (aw_ x i k))), none, some (.long (lN (bw_ x i k))), none, some (.int (nI (k + 1)))] [] hp := by
    intro d
    induction d with
    | zero =>
      intro k hk9
      obtain rfl : k = n := by omega
      refine xa_iload C dI_weightIn_8 rfl ?_
      refine xa_iload_n C dI_weightIn_10 rfl ?_
      refine xa_icmp_gt C dI_weightIn_11 (tgt := 58) rfl (fun h11 => ?_) (fun h11 => ?_)
      · refine xa_lload_n C dI_weightIn_58 rfl ?_
        refine xa_lload C dI_weightIn_59 rfl ?_
        refine xa_callS1 C (p_N_inverse g l (bw_lt _ _ _) _) b_I_26 (xw_in wt_N_inverse rfl) dI_weightIn_61 rfl (Nat.le_of_ble_eq_true rfl) ⟨Nat.le_of_ble_eq_true rfl, Nat.le_of_ble_eq_true rfl⟩ ⟨Nat.zero_le _, Nat.zero_le _⟩ ?_
        refine xa_callS1 C (p_N_times g l (by first | exact aw_lt _ _ _ | exact bw_lt _ _ _ | omega) (by first | exact tb_q _ | omega) _) b_I_17 (xw_in wt_N_times rfl) dI_weightIn_64 rfl (Nat.le_of_ble_eq_true rfl) ⟨Nat.le_of_ble_eq_true rfl, Nat.le_of_ble_eq_true rfl⟩ ⟨Nat.zero_le _, Nat.zero_le _⟩ ?_
        exact xa_lret C hr hk dI_weightIn_67
      · exact absurd (nI_lt (by omega) (by omega)) h11
    | succ d ih =>
      intro k hk9
      refine xa_iload C dI_weightIn_8 rfl ?_
      refine xa_iload_n C dI_weightIn_10 rfl ?_
      refine xa_icmp_gt C dI_weightIn_11 (tgt := 58) rfl (fun h11 => ?_) (fun h11 => ?_)
      · exact absurd h11 (nI_nlt (by omega) (by omega))
      · refine xa_iload C dI_weightIn_14 rfl ?_
        refine xa_iload_n C dI_weightIn_16 rfl ?_
        refine xa_icmp_eq C dI_weightIn_17 (tgt := 52) rfl (fun h17 => ?_) (fun h17 => ?_)
        · have e : k + 1 = i := (nI_eq (by omega) (by omega)).mp h17
          refine xa_incN C dI_weightIn_52 rfl (Nat.le_of_ble_eq_true rfl) ?_
          refine xa_goto C dI_weightIn_55 (tgt := 8) rfl ?_
          have h := ih (k + 1) (by omega)
          rw [aw_, bw_, if_neg (fun q => q.1 e), if_neg (fun q => q.1 e)] at h
          exact h
        · have e : k + 1 ≠ i := fun q => h17 (by rw [q])
          refine xa_iload_n C dI_weightIn_20 rfl ?_
          refine xa_iload C dI_weightIn_21 rfl ?_
          refine xa_callS1 C (p_I_hasN g l _ (by omega) (by omega) _) b_I_13 (xw_in wt_I_has rfl) dI_weightIn_23 rfl (Nat.le_of_ble_eq_true rfl) ⟨Nat.le_of_ble_eq_true rfl, Nat.le_of_ble_eq_true rfl⟩ ⟨Nat.zero_le _, Nat.zero_le _⟩ ?_
          refine xa_if_eq C dI_weightIn_26 (tgt := 52) rfl (fun h26 => ?_) (fun h26 => ?_)
          · have hb := xb_hs0 h26
            refine xa_incN C dI_weightIn_52 rfl (Nat.le_of_ble_eq_true rfl) ?_
            refine xa_goto C dI_weightIn_55 (tgt := 8) rfl ?_
            have h := ih (k + 1) (by omega)
            rw [aw_, bw_, if_neg (fun q => by rw [hb] at q; exact absurd q.2 (by decide)), if_neg (fun q => by rw [hb] at q; exact absurd q.2 (by decide))] at h
            exact h
          · have hb := xb_hs1 h26
            refine xa_lload_n C dI_weightIn_29 rfl ?_
            refine xa_iload C dI_weightIn_30 rfl ?_
            refine xa_i2lN C dI_weightIn_32 (by omega) ?_
            refine xa_callS1 C (p_N_times g l (by first | exact aw_lt _ _ _ | exact bw_lt _ _ _ | omega) (by first | exact tb_q _ | omega) _) b_I_17 (xw_in wt_N_times rfl) dI_weightIn_33 rfl (Nat.le_of_ble_eq_true rfl) ⟨Nat.le_of_ble_eq_true rfl, Nat.le_of_ble_eq_true rfl⟩ ⟨Nat.zero_le _, Nat.zero_le _⟩ ?_
            refine xa_lstore_n C dI_weightIn_36 (Nat.le_of_ble_eq_true rfl) ?_
            refine xa_lload C dI_weightIn_37 rfl ?_
            refine xa_iload C dI_weightIn_39 rfl ?_
            refine xa_i2lN C dI_weightIn_41 (by omega) ?_
            refine xa_iload_n C dI_weightIn_42 rfl ?_
            refine xa_i2lN C dI_weightIn_43 (by omega) ?_
            refine xa_callS1 C (p_N_minus g l (by omega) (by omega) _) b_I_23 (xw_in wt_N_minus rfl) dI_weightIn_44 rfl (Nat.le_of_ble_eq_true rfl) ⟨Nat.le_of_ble_eq_true rfl, Nat.le_of_ble_eq_true rfl⟩ ⟨Nat.zero_le _, Nat.zero_le _⟩ ?_
            refine xa_callS1 C (p_N_times g l (by first | exact aw_lt _ _ _ | exact bw_lt _ _ _ | omega) (by first | exact tb_q _ | omega) _) b_I_17 (xw_in wt_N_times rfl) dI_weightIn_47 rfl (Nat.le_of_ble_eq_true rfl) ⟨Nat.le_of_ble_eq_true rfl, Nat.le_of_ble_eq_true rfl⟩ ⟨Nat.zero_le _, Nat.zero_le _⟩ ?_
            refine xa_lstore C dI_weightIn_50 (Nat.le_of_ble_eq_true rfl) ?_
            refine xa_incN C dI_weightIn_52 rfl (Nat.le_of_ble_eq_true rfl) ?_
            refine xa_goto C dI_weightIn_55 (tgt := 8) rfl ?_
            have h := ih (k + 1) (by omega)
            rw [aw_, bw_, if_pos ⟨e, hb⟩, if_pos ⟨e, hb⟩] at h
            exact h
  refine xa_lcN C 1 dI_weightIn_0 ?_
  refine xa_lstore_n C dI_weightIn_1 (Nat.le_of_ble_eq_true rfl) ?_
  refine xa_lcN C 1 dI_weightIn_2 ?_
  refine xa_lstore C dI_weightIn_3 (Nat.le_of_ble_eq_true rfl) ?_
  refine xa_icN C 1 dI_weightIn_5 ?_
  refine xa_istore C dI_weightIn_6 (Nat.le_of_ble_eq_true rfl) ?_
  exact loop n 0 (by omega)
set_option maxHeartbeats 4000000 in
set_option maxRecDepth 100000 in
theorem p_X_isRight (g : xw_G) (l : Launch) {n t : Nat} {co se ke f1 f2 e1 e2 x1 x2 fa we sh : Nat → Nat} {dn op ms ps md tk bl : Int32} {pr ch sm : Nat} {rest : List va_E} (hn : n ≤ 6) (ht : t ≤ 6) {i : Nat} (h1 : 1 ≤ i) (hi : i ≤ n) (hx1 : ∀ j, x1 j < 2 ^ 31) (hx2 : ∀ j, x2 j < 2 ^ 31) (hfa : ∀ j, fa j < 2 ^ 30) (hwe : ∀ j, we j < 2 ^ 31) (hch : ch < 2 ^ 31) {z key : Nat} (hz : z < 2 ^ 30) (hkey : key < 2 ^ 31) : xm_R g l true m_X_isRight [.ref 10, .int (nI i), .long (lN z), .long (lN key)] (hC g n t co se ke dn f1 f2 e1 e2 op x1 x2 fa we sh ms ps md tk bl pr ch sm ++ rest) (some (.int (xb (4 ^ z % 2147483579 = (x1 i * (x2 i ^ fa i % 2147483579) % 2147483579) * (key ^ (ch * we i % 1073741789) % 2147483579) % 2147483579)))) (hC g n t co se ke dn f1 f2 e1 e2 op x1 x2 fa we sh ms ps md tk bl pr ch sm ++ rest) := by
  refine xm_of [some (.ref 10), some (.int (nI i)), some (.long (lN z)), none, some (.long (lN key)), none, none, none] rfl (Nat.le_of_ble_eq_true rfl) rfl ?_
  intro p e s m args below meth c C hr hk
  refine xa_lload C dX_isRight_0 rfl ?_
  refine xa_aload_n C dX_isRight_2 rfl ?_
  refine xa_iload_n C dX_isRight_3 rfl ?_
  refine xa_callV1 C (p_X_keyExponent g l hn ht h1 hi hch hwe) b_X_96 (xw_in wi_X_keyExponent rfl) e_X_keyExponent dX_isRight_4 rfl rfl rfl rfl (Nat.le_of_ble_eq_true rfl) ⟨Nat.le_of_ble_eq_true rfl, Nat.le_of_ble_eq_true rfl⟩ ⟨Nat.zero_le _, Nat.zero_le _⟩ ?_
  refine xa_callS1 C (p_E_power g l hkey (Nat.lt_trans (Nat.mod_lt _ (by decide)) (by decide)) _) b_X_124 (xw_in wt_E_power rfl) dX_isRight_7 rfl (Nat.le_of_ble_eq_true rfl) ⟨Nat.le_of_ble_eq_true rfl, Nat.le_of_ble_eq_true rfl⟩ ⟨Nat.zero_le _, Nat.zero_le _⟩ ?_
  refine xa_lstore C dX_isRight_10 (Nat.le_of_ble_eq_true rfl) ?_
  refine xa_lload_n C dX_isRight_12 rfl ?_
  refine xa_callS1 C (p_E_ofNumber g l hz _) b_X_127 (xw_in wt_E_ofNumber rfl) dX_isRight_13 rfl (Nat.le_of_ble_eq_true rfl) ⟨Nat.le_of_ble_eq_true rfl, Nat.le_of_ble_eq_true rfl⟩ ⟨Nat.zero_le _, Nat.zero_le _⟩ ?_
  refine xa_aload_n C dX_isRight_16 rfl ?_
  refine xa_iload_n C dX_isRight_17 rfl ?_
  refine xa_callV1 C (p_X_toldPart g l hn ht h1 hi hx1 hx2 hfa) b_X_58 (xw_in wi_X_toldPart rfl) e_X_toldPart dX_isRight_18 rfl rfl rfl rfl (Nat.le_of_ble_eq_true rfl) ⟨Nat.le_of_ble_eq_true rfl, Nat.le_of_ble_eq_true rfl⟩ ⟨Nat.zero_le _, Nat.zero_le _⟩ ?_
  refine xa_lload C dX_isRight_21 rfl ?_
  refine xa_callS1 C (p_E_times g l (tb_p _) (tb_p _) _) b_X_62 (xw_in wt_E_times rfl) dX_isRight_23 rfl (Nat.le_of_ble_eq_true rfl) ⟨Nat.le_of_ble_eq_true rfl, Nat.le_of_ble_eq_true rfl⟩ ⟨Nat.zero_le _, Nat.zero_le _⟩ ?_
  refine xa_lcmp C dX_isRight_26 ?_
  refine xa_if_ne C dX_isRight_27 (tgt := 34) rfl (fun h27 => ?_) (fun h27 => ?_)
  · refine xa_icN C 0 dX_isRight_34 ?_
    exact xa_eq rfl (congrArg (fun z => [Value.int z]) (xb_f (P := 4 ^ z % 2147483579 = (x1 i * (x2 i ^ fa i % 2147483579) % 2147483579) * (key ^ (ch * we i % 1073741789) % 2147483579) % 2147483579) (fun q => h27 ((tp_eq (tb_p _) (tb_p _)).mpr q))).symm) rfl (xa_zret C hr hk (xb_nar _) dX_isRight_35)
  · refine xa_icN C 1 dX_isRight_30 ?_
    refine xa_goto C dX_isRight_31 (tgt := 35) rfl ?_
    exact xa_eq rfl (congrArg (fun z => [Value.int z]) (xb_t (P := 4 ^ z % 2147483579 = (x1 i * (x2 i ^ fa i % 2147483579) % 2147483579) * (key ^ (ch * we i % 1073741789) % 2147483579) % 2147483579) ((tp_eq (tb_p _) (tb_p _)).mp h27)).symm) rfl (xa_zret C hr hk (xb_nar _) dX_isRight_35)
set_option maxHeartbeats 4000000 in
set_option maxRecDepth 100000 in
theorem p_X_makeShare (g : xw_G) (l : Launch) {n t : Nat} {co se ke f1 f2 e1 e2 x1 x2 fa we sh : Nat → Nat} {dn op ms ps md tk bl : Int32} {pr ch sm : Nat} {rest : List va_E} (hn : n ≤ 6) (ht : t ≤ 6) {i : Nat} (h1 : 1 ≤ i) (hi : i ≤ n) (hx1 : ∀ j, x1 j < 2 ^ 31) (hx2 : ∀ j, x2 j < 2 ^ 31) (hfa : ∀ j, fa j < 2 ^ 30) (hwe : ∀ j, we j < 2 ^ 31) (hch : ch < 2 ^ 31) (hf1 : ∀ j, f1 j < 2 ^ 31) (hf2 : ∀ j, f2 j < 2 ^ 31) {z : Nat} (hz : z < 2 ^ 31) : xm_R g l false m_X_makeShare [.ref 10, .int (nI i), .long (lN z), .ref 5] (hC g n t co se ke dn f1 f2 e1 e2 op x1 x2 fa we sh ms ps md tk bl pr ch sm ++ rest) none (hC g n t co se ke dn f1 f2 e1 e2 op x1 x2 fa we (va_up sh i (((f1 i + f2 i * fa i % 1073741789) % 1073741789 + ch * we i % 1073741789 * z % 1073741789) % 1073741789)) ms ps (md ||| on_ i) tk bl pr ch sm ++ rest) := by
  refine xm_of [some (.ref 10), some (.int (nI i)), some (.long (lN z)), none, some (.ref 5), none, none] rfl (Nat.le_of_ble_eq_true rfl) rfl ?_
  intro p e s m args below meth c C hr hk
  refine xa_aload C dX_makeShare_0 rfl ?_
  refine xa_get C f_X_84 dX_makeShare_2 rfl rfl ?_
  refine xa_iload_n C dX_makeShare_5 rfl ?_
  refine xa_laloadN C dX_makeShare_6 rfl ?_ (by omega) ?_
  · omega
  refine xa_aload C dX_makeShare_7 rfl ?_
  refine xa_get C f_X_87 dX_makeShare_9 rfl rfl ?_
  refine xa_iload_n C dX_makeShare_12 rfl ?_
  refine xa_laloadN C dX_makeShare_13 rfl ?_ (by omega) ?_
  · omega
  refine xa_aload_n C dX_makeShare_14 rfl ?_
  refine xa_get C f_X_20 dX_makeShare_15 rfl rfl ?_
  refine xa_iload_n C dX_makeShare_18 rfl ?_
  refine xa_laloadN C dX_makeShare_19 rfl ?_ (by omega) ?_
  · omega
  refine xa_callS1 C (p_N_times g l (by first | exact hf2 _ | exact tb_q _) (by first | exact Nat.lt_trans (hfa _) (by decide) | exact hz) _) b_X_90 (xw_in wt_N_times rfl) dX_makeShare_20 rfl (Nat.le_of_ble_eq_true rfl) ⟨Nat.le_of_ble_eq_true rfl, Nat.le_of_ble_eq_true rfl⟩ ⟨Nat.zero_le _, Nat.zero_le _⟩ ?_
  refine xa_callS1 C (p_N_plus g l (by first | exact hf1 _ | exact tb_q _) (tb_q _) _) b_X_93 (xw_in wt_N_plus rfl) dX_makeShare_23 rfl (Nat.le_of_ble_eq_true rfl) ⟨Nat.le_of_ble_eq_true rfl, Nat.le_of_ble_eq_true rfl⟩ ⟨Nat.zero_le _, Nat.zero_le _⟩ ?_
  refine xa_lstore C dX_makeShare_26 (Nat.le_of_ble_eq_true rfl) ?_
  refine xa_aload_n C dX_makeShare_28 rfl ?_
  refine xa_get C f_X_26 dX_makeShare_29 rfl rfl ?_
  refine xa_iload_n C dX_makeShare_32 rfl ?_
  refine xa_lload C dX_makeShare_33 rfl ?_
  refine xa_aload_n C dX_makeShare_35 rfl ?_
  refine xa_iload_n C dX_makeShare_36 rfl ?_
  refine xa_callV1 C (p_X_keyExponent g l hn ht h1 hi hch hwe) b_X_96 (xw_in wi_X_keyExponent rfl) e_X_keyExponent dX_makeShare_37 rfl rfl rfl rfl (Nat.le_of_ble_eq_true rfl) ⟨Nat.le_of_ble_eq_true rfl, Nat.le_of_ble_eq_true rfl⟩ ⟨Nat.zero_le _, Nat.zero_le _⟩ ?_
  refine xa_lload_n C dX_makeShare_40 rfl ?_
  refine xa_callS1 C (p_N_times g l (by first | exact hf2 _ | exact tb_q _) (by first | exact Nat.lt_trans (hfa _) (by decide) | exact hz) _) b_X_90 (xw_in wt_N_times rfl) dX_makeShare_41 rfl (Nat.le_of_ble_eq_true rfl) ⟨Nat.le_of_ble_eq_true rfl, Nat.le_of_ble_eq_true rfl⟩ ⟨Nat.zero_le _, Nat.zero_le _⟩ ?_
  refine xa_callS1 C (p_N_plus g l (by first | exact hf1 _ | exact tb_q _) (tb_q _) _) b_X_93 (xw_in wt_N_plus rfl) dX_makeShare_44 rfl (Nat.le_of_ble_eq_true rfl) ⟨Nat.le_of_ble_eq_true rfl, Nat.le_of_ble_eq_true rfl⟩ ⟨Nat.zero_le _, Nat.zero_le _⟩ ?_
  refine xa_lastoreN C dX_makeShare_47 rfl ?_ (by omega) ?_
  · omega
  refine xa_eq rfl rfl (hp' := (hC g n t co se ke dn f1 f2 e1 e2 op x1 x2 fa we (va_up sh i (((f1 i + f2 i * fa i % 1073741789) % 1073741789 + ch * we i % 1073741789 * z % 1073741789) % 1073741789)) ms ps md tk bl pr ch sm ++ rest)) rfl ?_
  refine xa_aload_n C dX_makeShare_48 rfl ?_
  refine xa_dup C dX_makeShare_49 rfl ?_
  refine xa_get C f_X_99 dX_makeShare_50 rfl rfl ?_
  refine xa_iload_n C dX_makeShare_53 rfl ?_
  refine xa_callS1 C (p_I_only g l _ _) b_X_80 (xw_in wt_I_only rfl) dX_makeShare_54 rfl (Nat.le_of_ble_eq_true rfl) ⟨Nat.le_of_ble_eq_true rfl, Nat.le_of_ble_eq_true rfl⟩ ⟨Nat.zero_le _, Nat.zero_le _⟩ ?_
  refine xa_ior C dX_makeShare_57 ?_
  refine xa_put C f_X_99 u_X_8 dX_makeShare_58 rfl (Nat.le_of_ble_eq_true rfl) rfl rfl (fun _ h => by cases h) ?_
  exact xa_eq rfl rfl rfl (xa_vret C hr hk dX_makeShare_61)
set_option maxHeartbeats 4000000 in
set_option maxRecDepth 100000 in
theorem p_X_tell_t (g : xw_G) (l : Launch) {n t : Nat} {co se ke f1 f2 e1 e2 x1 x2 fa we sh : Nat → Nat} {dn op ms ps md tk bl : Int32} {pr ch sm : Nat} {rest : List va_E} (hn : n ≤ 6) (ht : t ≤ 6) {i : Nat} (h1 : 1 ≤ i) (hi : i ≤ n) (hx1 : ∀ j, x1 j < 2 ^ 31) (hx2 : ∀ j, x2 j < 2 ^ 31) (hfa : ∀ j, fa j < 2 ^ 30) (hwe : ∀ j, we j < 2 ^ 31) (hch : ch < 2 ^ 31) (hsm : sm < 2 ^ 31) {z key : Nat} (hz : z < 2 ^ 30) (hkey : key < 2 ^ 31) (hR : 4 ^ z % 2147483579 = (x1 i * (x2 i ^ fa i % 2147483579) % 2147483579) * (key ^ (ch * we i % 1073741789) % 2147483579) % 2147483579) : xm_R g l false m_X_tell [.ref 10, .int (nI i), .long (lN z), .long (lN key)] (hC g n t co se ke dn f1 f2 e1 e2 op x1 x2 fa we sh ms ps md tk bl pr ch sm ++ rest) (some (.int 1)) (hC g n t co se ke dn f1 f2 e1 e2 op x1 x2 fa we sh ms ps md (tk ||| on_ i) bl pr ch ((sm + z) % 1073741789) ++ rest) := by
  refine xm_of [some (.ref 10), some (.int (nI i)), some (.long (lN z)), none, some (.long (lN key)), none] rfl (Nat.le_of_ble_eq_true rfl) rfl ?_
  intro p e s m args below meth c C hr hk
  refine xa_aload_n C dX_tell_0 rfl ?_
  refine xa_iload_n C dX_tell_1 rfl ?_
  refine xa_lload_n C dX_tell_2 rfl ?_
  refine xa_lload C dX_tell_3 rfl ?_
  refine xa_callV1 C (p_X_isRight g l hn ht h1 hi hx1 hx2 hfa hwe hch hz hkey) b_X_102 (xw_in wi_X_isRight rfl) e_X_isRight dX_tell_5 rfl rfl rfl rfl (Nat.le_of_ble_eq_true rfl) ⟨Nat.le_of_ble_eq_true rfl, Nat.le_of_ble_eq_true rfl⟩ ⟨Nat.zero_le _, Nat.zero_le _⟩ ?_
  refine xa_if_ne C dX_tell_8 (tgt := 26) rfl (fun h8 => ?_) (fun h8 => ?_)
  · refine xa_aload_n C dX_tell_26 rfl ?_
    refine xa_dup C dX_tell_27 rfl ?_
    refine xa_get C f_X_109 dX_tell_28 rfl rfl ?_
    refine xa_iload_n C dX_tell_31 rfl ?_
    refine xa_callS1 C (p_I_only g l _ _) b_X_80 (xw_in wt_I_only rfl) dX_tell_32 rfl (Nat.le_of_ble_eq_true rfl) ⟨Nat.le_of_ble_eq_true rfl, Nat.le_of_ble_eq_true rfl⟩ ⟨Nat.zero_le _, Nat.zero_le _⟩ ?_
    refine xa_ior C dX_tell_35 ?_
    refine xa_put C f_X_109 u_X_9 dX_tell_36 rfl (Nat.le_of_ble_eq_true rfl) rfl rfl (fun _ h => by cases h) ?_
    refine xa_aload_n C dX_tell_39 rfl ?_
    refine xa_aload_n C dX_tell_40 rfl ?_
    refine xa_get C f_X_112 dX_tell_41 rfl rfl ?_
    refine xa_lload_n C dX_tell_44 rfl ?_
    refine xa_callS1 C (p_N_plus g l hsm (by omega) _) b_X_93 (xw_in wt_N_plus rfl) dX_tell_45 rfl (Nat.le_of_ble_eq_true rfl) ⟨Nat.le_of_ble_eq_true rfl, Nat.le_of_ble_eq_true rfl⟩ ⟨Nat.zero_le _, Nat.zero_le _⟩ ?_
    refine xa_put C f_X_112 u_X_13 dX_tell_48 rfl (Nat.le_of_ble_eq_true rfl) rfl rfl (fun _ h => by cases h) ?_
    refine xa_icN C 1 dX_tell_51 ?_
    exact xa_eq rfl rfl rfl (xa_zret C hr hk rfl dX_tell_52)
  · exact absurd hR (xb_eq0.mp h8)
set_option maxHeartbeats 4000000 in
set_option maxRecDepth 100000 in
theorem p_X_tell_f (g : xw_G) (l : Launch) {n t : Nat} {co se ke f1 f2 e1 e2 x1 x2 fa we sh : Nat → Nat} {dn op ms ps md tk bl : Int32} {pr ch sm : Nat} {rest : List va_E} (hn : n ≤ 6) (ht : t ≤ 6) {i : Nat} (h1 : 1 ≤ i) (hi : i ≤ n) (hx1 : ∀ j, x1 j < 2 ^ 31) (hx2 : ∀ j, x2 j < 2 ^ 31) (hfa : ∀ j, fa j < 2 ^ 30) (hwe : ∀ j, we j < 2 ^ 31) (hch : ch < 2 ^ 31) (hsm : sm < 2 ^ 31) {z key : Nat} (hz : z < 2 ^ 30) (hkey : key < 2 ^ 31) (hR : ¬ 4 ^ z % 2147483579 = (x1 i * (x2 i ^ fa i % 2147483579) % 2147483579) * (key ^ (ch * we i % 1073741789) % 2147483579) % 2147483579) : xm_R g l false m_X_tell [.ref 10, .int (nI i), .long (lN z), .long (lN key)] (hC g n t co se ke dn f1 f2 e1 e2 op x1 x2 fa we sh ms ps md tk bl pr ch sm ++ rest) (some (.int 0)) (hC g n t co se ke dn f1 f2 e1 e2 op x1 x2 fa we sh ms ps md tk (bl ||| on_ i) pr ch sm ++ rest) := by
  refine xm_of [some (.ref 10), some (.int (nI i)), some (.long (lN z)), none, some (.long (lN key)), none] rfl (Nat.le_of_ble_eq_true rfl) rfl ?_
  intro p e s m args below meth c C hr hk
  refine xa_aload_n C dX_tell_0 rfl ?_
  refine xa_iload_n C dX_tell_1 rfl ?_
  refine xa_lload_n C dX_tell_2 rfl ?_
  refine xa_lload C dX_tell_3 rfl ?_
  refine xa_callV1 C (p_X_isRight g l hn ht h1 hi hx1 hx2 hfa hwe hch hz hkey) b_X_102 (xw_in wi_X_isRight rfl) e_X_isRight dX_tell_5 rfl rfl rfl rfl (Nat.le_of_ble_eq_true rfl) ⟨Nat.le_of_ble_eq_true rfl, Nat.le_of_ble_eq_true rfl⟩ ⟨Nat.zero_le _, Nat.zero_le _⟩ ?_
  refine xa_if_ne C dX_tell_8 (tgt := 26) rfl (fun h8 => ?_) (fun h8 => ?_)
  · exact absurd (xb_f hR) h8
  · refine xa_aload_n C dX_tell_11 rfl ?_
    refine xa_dup C dX_tell_12 rfl ?_
    refine xa_get C f_X_106 dX_tell_13 rfl rfl ?_
    refine xa_iload_n C dX_tell_16 rfl ?_
    refine xa_callS1 C (p_I_only g l _ _) b_X_80 (xw_in wt_I_only rfl) dX_tell_17 rfl (Nat.le_of_ble_eq_true rfl) ⟨Nat.le_of_ble_eq_true rfl, Nat.le_of_ble_eq_true rfl⟩ ⟨Nat.zero_le _, Nat.zero_le _⟩ ?_
    refine xa_ior C dX_tell_20 ?_
    refine xa_put C f_X_106 u_X_10 dX_tell_21 rfl (Nat.le_of_ble_eq_true rfl) rfl rfl (fun _ h => by cases h) ?_
    refine xa_icN C 0 dX_tell_24 ?_
    exact xa_eq rfl rfl rfl (xa_zret C hr hk rfl dX_tell_25)
