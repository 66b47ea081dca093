/-! the session: start -/
def sl_ (p : Nat → Bool) (v f : Nat → Nat) (k : Nat) : Nat → Nat := fun j => if 1 ≤ j ∧ j ≤ k ∧ p j = true then v j else f j
theorem sl_up {p : Nat → Bool} {v f : Nat → Nat} {k : Nat} (h : p (k + 1) = true) : va_up (sl_ p v f k) (k + 1) (v (k + 1)) = sl_ p v f (k + 1) := by
  funext j
  unfold va_up sl_
  by_cases e : j = k + 1
  · subst e
    rw [if_pos rfl, if_pos ⟨by omega, by omega, h⟩]
  · rw [if_neg e]
    by_cases q : 1 ≤ j ∧ j ≤ k ∧ p j = true
    · rw [if_pos q, if_pos ⟨q.1, by omega, q.2.2⟩]
    · rw [if_neg q, if_neg (fun z => q ⟨z.1, by omega, z.2.2⟩)]
theorem sl_no {p : Nat → Bool} {v f : Nat → Nat} {k : Nat} (h : p (k + 1) = false) : sl_ p v f (k + 1) = sl_ p v f k := by
  funext j
  unfold sl_
  by_cases q : 1 ≤ j ∧ j ≤ k ∧ p j = true
  · rw [if_pos q, if_pos ⟨q.1, by omega, q.2.2⟩]
  · rw [if_neg q, if_neg (fun z => ?_)]
    by_cases e : j = k + 1
    · subst e; rw [h] at z; exact absurd z.2.2 (by decide)
    · exact q ⟨z.1, by omega, z.2.2⟩
theorem sl_0 (p : Nat → Bool) (v f : Nat → Nat) : sl_ p v f 0 = f := by
  funext j
  unfold sl_
  rw [if_neg (fun z => by omega)]
theorem sl_at {p : Nat → Bool} {v f : Nat → Nat} {k j : Nat} (h1 : 1 ≤ j) (h2 : j ≤ k) (h : p j = true) : sl_ p v f k j = v j := by
  unfold sl_
  rw [if_pos ⟨h1, h2, h⟩]
theorem sl_lt {p : Nat → Bool} {v f : Nat → Nat} {k B : Nat} (hv : ∀ j, v j < B) (hf : ∀ j, f j < B) (j : Nat) : sl_ p v f k j < B := by
  unfold sl_
  by_cases q : 1 ≤ j ∧ j ≤ k ∧ p j = true
  · rw [if_pos q]; exact hv j
  · rw [if_neg q]; exact hf j
/-- R, the product over the members -/
def pp_ (s : Int32) (a b f : Nat → Nat) : Nat → Nat
  | 0 => 1
  | k + 1 => if hs s (k + 1) = true then pp_ s a b f k * (a (k + 1) * (b (k + 1) ^ f (k + 1) % 2147483579) % 2147483579) % 2147483579 else pp_ s a b f k
theorem pp_lt (s : Int32) (a b f : Nat → Nat) : ∀ k, pp_ s a b f k < 2 ^ 31
  | 0 => (by decide : 1 < 2 ^ 31)
  | k + 1 => by
    rw [pp_]
    by_cases q : hs s (k + 1) = true
    · rw [if_pos q]; exact tb_p _
    · rw [if_neg q]; exact pp_lt s a b f k
def cs_ (r key : Nat) (w : Int64) : Nat := dg_f (dg_m (dg_m (dg_m (dg_m 0 5) (lN r)) (lN key)) w)
theorem cs_lt (r key : Nat) (w : Int64) : cs_ r key w < 2 ^ 30 := Nat.lt_trans (dg_f_lt _) (by decide)
abbrev al_ : Nat → Bool := fun _ => true
set_option maxHeartbeats 4000000 in
set_option maxRecDepth 100000 in
theorem p_X_start (g : xw_G) (l : Launch) {n t : Nat} {co se ke f1 f2 e1 e2 x1 x2 fa we sh : Nat → Nat} {dn op ms ps md tk bl : Int32} {pr ch sm : Nat} {rest : List va_E} (hn : n ≤ 6) (ht : t ≤ 6) (he1 : ∀ j, e1 j < 2 ^ 31) (he2 : ∀ j, e2 j < 2 ^ 31) (hx1 : ∀ j, x1 j < 2 ^ 31) (hx2 : ∀ j, x2 j < 2 ^ 31) (hfa : ∀ j, fa j < 2 ^ 30) (x : Int32) (w : Int64) (key : Nat) : xm_R g l false m_X_start [.ref 10, .int x, .long w, .long (lN key), .ref 5] (hC g n t co se ke dn f1 f2 e1 e2 op x1 x2 fa we sh ms ps md tk bl pr ch sm ++ rest) none (hC g n t co se ke dn f1 f2 e1 e2 op (sl_ al_ e1 x1 n) (sl_ al_ e2 x2 n) (sl_ (hs x) (ff_ x (sl_ al_ e1 x1 n) (sl_ al_ e2 x2 n) n w key) fa n) (sl_ (hs x) (wt_ x n) we n) sh x x 0 0 0 (pp_ x (sl_ al_ e1 x1 n) (sl_ al_ e2 x2 n) (ff_ x (sl_ al_ e1 x1 n) (sl_ al_ e2 x2 n) n w key) n) (cs_ (pp_ x (sl_ al_ e1 x1 n) (sl_ al_ e2 x2 n) (ff_ x (sl_ al_ e1 x1 n) (sl_ al_ e2 x2 n) n w key) n) key w) 0 ++ rest) := by
  refine xm_of [some (.ref 10), some (.int x), some (.long w), none, some (.long (lN key)), none, some (.ref 5), none] rfl (Nat.le_of_ble_eq_true rfl) rfl ?_
  intro p e s m args below meth c C hr hk
  have hX1 : ∀ j, (sl_ al_ e1 x1 n) j < 2 ^ 31 := sl_lt he1 hx1
  have hX2 : ∀ j, (sl_ al_ e2 x2 n) j < 2 ^ 31 := sl_lt he2 hx2
  have loop2 : ∀ d k : Nat, k + d = n → xw_At g false 8 p l e (xm_rm m_X_start 0) s m args below meth c 0 0 (MQ below (xm_Q g false none (hC g n t co se ke dn f1 f2 e1 e2 op (sl_ al_ e1 x1 n) (sl_ al_ e2 x2 n) (sl_ (hs x) (ff_ x (sl_ al_ e1 x1 n) (sl_ al_ e2 x2 n) n w key) fa n) (sl_ (hs x) (wt_ x n) we n) sh x x 0 0 0 (pp_ x (sl_ al_ e1 x1 n) (sl_ al_ e2 x2 n) (ff_ x (sl_ al_ e1 x1 n) (sl_ al_ e2 x2 n) n w key) n) (cs_ (pp_ x (sl_ al_ e1 x1 n) (sl_ al_ e2 x2 n) (ff_ x (sl_ al_ e1 x1 n) (sl_ al_ e2 x2 n) n w key) n) key w) 0 ++ rest)) args s 0 0 (xm_fr g false)) 56 [some (.ref 10), some (.int x), some (.long w), none, some (.long (lN key)), none, some (.ref 5), some (.int (nI (k + 1)))] [] (hC g n t co se ke dn f1 f2 e1 e2 op (sl_ al_ e1 x1 n) (sl_ al_ e2 x2 n) (sl_ (hs x) (ff_ x (sl_ al_ e1 x1 n) (sl_ al_ e2 x2 n) n w key) fa k) (sl_ (hs x) (wt_ x n) we k) sh x x 0 0 0 (pp_ x (sl_ al_ e1 x1 n) (sl_ al_ e2 x2 n) (ff_ x (sl_ al_ e1 x1 n) (sl_ al_ e2 x2 n) n w key) k) ch 0 ++ rest) := by
    intro d
    induction d with
    | zero =>
      intro k hk9
      obtain rfl : k = n := by omega
      refine xa_iload C dX_start_56 rfl ?_
      refine xa_aload_n C dX_start_58 rfl ?_
      refine xa_get C f_X_7 dX_start_59 rfl rfl ?_
      refine xa_icmp_gt C dX_start_62 (tgt := 130) rfl (fun h62 => ?_) (fun h62 => ?_)
      · refine xa_aload_n C dX_start_130 rfl ?_
        refine xa_aload_n C dX_start_131 rfl ?_
        refine xa_get C f_X_54 dX_start_132 rfl rfl ?_
        refine xa_lload C dX_start_135 rfl ?_
        refine xa_lload_n C dX_start_137 rfl ?_
        refine xa_callS1 C (p_G_ofSeal g l _ _ _ _) b_X_68 (xw_in wt_G_ofSeal rfl) dX_start_138 rfl (Nat.le_of_ble_eq_true rfl) ⟨Nat.le_of_ble_eq_true rfl, Nat.le_of_ble_eq_true rfl⟩ ⟨Nat.zero_le _, Nat.zero_le _⟩ ?_
        refine xa_put C f_X_74 u_X_12 dX_start_141 rfl (Nat.le_of_ble_eq_true rfl) rfl rfl (fun _ h => by cases h) ?_
        exact xa_eq rfl rfl rfl (xa_vret C hr hk dX_start_144)
      · exact absurd (nI_lt (by omega) (by omega)) h62
    | succ d ih =>
      intro k hk9
      refine xa_iload C dX_start_56 rfl ?_
      refine xa_aload_n C dX_start_58 rfl ?_
      refine xa_get C f_X_7 dX_start_59 rfl rfl ?_
      refine xa_icmp_gt C dX_start_62 (tgt := 130) rfl (fun h62 => ?_) (fun h62 => ?_)
      · exact absurd h62 (nI_nlt (by omega) (by omega))
      · refine xa_iload_n C dX_start_65 rfl ?_
        refine xa_iload C dX_start_66 rfl ?_
        refine xa_callS1 C (p_I_hasN g l _ (by omega) (by omega) _) b_X_40 (xw_in wt_I_has rfl) dX_start_68 rfl (Nat.le_of_ble_eq_true rfl) ⟨Nat.le_of_ble_eq_true rfl, Nat.le_of_ble_eq_true rfl⟩ ⟨Nat.zero_le _, Nat.zero_le _⟩ ?_
        refine xa_if_eq C dX_start_71 (tgt := 124) rfl (fun h71 => ?_) (fun h71 => ?_)
        · have hb := xb_hs0 h71
          refine xa_incN C dX_start_124 rfl (Nat.le_of_ble_eq_true rfl) ?_
          refine xa_goto C dX_start_127 (tgt := 56) rfl ?_
          have h := ih (k + 1) (by omega)
          rw [sl_no (p := hs x) hb, sl_no (p := hs x) hb, pp_, if_neg (by rw [hb]; decide)] at h
          exact h
        · have hb := xb_hs1 h71
          have hFA : ∀ j, sl_ (hs x) (ff_ x (sl_ al_ e1 x1 n) (sl_ al_ e2 x2 n) n w key) fa (k + 1) j < 2 ^ 30 := sl_lt (fun j => ff_lt _ _ _ _ _ _ _) hfa
          refine xa_aload_n C dX_start_74 rfl ?_
          refine xa_get C f_X_20 dX_start_75 rfl rfl ?_
          refine xa_iload C dX_start_78 rfl ?_
          refine xa_aload_n C dX_start_80 rfl ?_
          refine xa_iload C dX_start_81 rfl ?_
          refine xa_lload_n C dX_start_83 rfl ?_
          refine xa_lload C dX_start_84 rfl ?_
          refine xa_callV1 C (p_X_factorFor g l hn ht (by omega) (by omega) w key) b_X_46 (xw_in wi_X_factorFor rfl) e_X_factorFor dX_start_86 rfl rfl rfl rfl (Nat.le_of_ble_eq_true rfl) ⟨Nat.le_of_ble_eq_true rfl, Nat.le_of_ble_eq_true rfl⟩ ⟨Nat.zero_le _, Nat.zero_le _⟩ ?_
          refine xa_lastoreN C dX_start_89 rfl ?_ (by omega) ?_
          · omega
          rw [sl_up (p := hs x) (v := (ff_ x (sl_ al_ e1 x1 n) (sl_ al_ e2 x2 n) n w key)) hb]
          refine xa_eq rfl rfl (hp' := (hC g n t co se ke dn f1 f2 e1 e2 op (sl_ al_ e1 x1 n) (sl_ al_ e2 x2 n) (sl_ (hs x) (ff_ x (sl_ al_ e1 x1 n) (sl_ al_ e2 x2 n) n w key) fa (k + 1)) (sl_ (hs x) (wt_ x n) we k) sh x x 0 0 0 (pp_ x (sl_ al_ e1 x1 n) (sl_ al_ e2 x2 n) (ff_ x (sl_ al_ e1 x1 n) (sl_ al_ e2 x2 n) n w key) k) ch 0 ++ rest)) rfl ?_
          refine xa_aload_n C dX_start_90 rfl ?_
          refine xa_get C f_X_23 dX_start_91 rfl rfl ?_
          refine xa_iload C dX_start_94 rfl ?_
          refine xa_iload_n C dX_start_96 rfl ?_
          refine xa_iload C dX_start_97 rfl ?_
          refine xa_aload_n C dX_start_99 rfl ?_
          refine xa_get C f_X_7 dX_start_100 rfl rfl ?_
          refine xa_callS1 C (p_I_weightIn g l x hn (by omega) _) b_X_50 (xw_in wt_I_weightIn rfl) dX_start_103 rfl (Nat.le_of_ble_eq_true rfl) ⟨Nat.le_of_ble_eq_true rfl, Nat.le_of_ble_eq_true rfl⟩ ⟨Nat.zero_le _, Nat.zero_le _⟩ ?_
          refine xa_lastoreN C dX_start_106 rfl ?_ (by omega) ?_
          · omega
          rw [sl_up (p := hs x) (v := wt_ x n) hb]
          refine xa_eq rfl rfl (hp' := (hC g n t co se ke dn f1 f2 e1 e2 op (sl_ al_ e1 x1 n) (sl_ al_ e2 x2 n) (sl_ (hs x) (ff_ x (sl_ al_ e1 x1 n) (sl_ al_ e2 x2 n) n w key) fa (k + 1)) (sl_ (hs x) (wt_ x n) we (k + 1)) sh x x 0 0 0 (pp_ x (sl_ al_ e1 x1 n) (sl_ al_ e2 x2 n) (ff_ x (sl_ al_ e1 x1 n) (sl_ al_ e2 x2 n) n w key) k) ch 0 ++ rest)) rfl ?_
          refine xa_aload_n C dX_start_107 rfl ?_
          refine xa_aload_n C dX_start_108 rfl ?_
          refine xa_get C f_X_54 dX_start_109 rfl rfl ?_
          refine xa_aload_n C dX_start_112 rfl ?_
          refine xa_iload C dX_start_113 rfl ?_
          refine xa_callV1 C (p_X_toldPart g l hn ht (by omega) (by omega) hX1 hX2 hFA) b_X_58 (xw_in wi_X_toldPart rfl) e_X_toldPart dX_start_115 rfl rfl rfl rfl (Nat.le_of_ble_eq_true rfl) ⟨Nat.le_of_ble_eq_true rfl, Nat.le_of_ble_eq_true rfl⟩ ⟨Nat.zero_le _, Nat.zero_le _⟩ ?_
          rw [sl_at (p := hs x) (v := (ff_ x (sl_ al_ e1 x1 n) (sl_ al_ e2 x2 n) n w key)) (by omega) (Nat.le_refl _) hb]
          refine xa_callS1 C (p_E_times g l (pp_lt _ _ _ _ _) (tb_p _) _) b_X_62 (xw_in wt_E_times rfl) dX_start_118 rfl (Nat.le_of_ble_eq_true rfl) ⟨Nat.le_of_ble_eq_true rfl, Nat.le_of_ble_eq_true rfl⟩ ⟨Nat.zero_le _, Nat.zero_le _⟩ ?_
          refine xa_put C f_X_54 u_X_11 dX_start_121 rfl (Nat.le_of_ble_eq_true rfl) rfl rfl (fun _ h => by cases h) ?_
          refine xa_eq rfl rfl (hp' := (hC g n t co se ke dn f1 f2 e1 e2 op (sl_ al_ e1 x1 n) (sl_ al_ e2 x2 n) (sl_ (hs x) (ff_ x (sl_ al_ e1 x1 n) (sl_ al_ e2 x2 n) n w key) fa (k + 1)) (sl_ (hs x) (wt_ x n) we (k + 1)) sh x x 0 0 0 (pp_ x (sl_ al_ e1 x1 n) (sl_ al_ e2 x2 n) (ff_ x (sl_ al_ e1 x1 n) (sl_ al_ e2 x2 n) n w key) k * ((sl_ al_ e1 x1 n) (k + 1) * ((sl_ al_ e2 x2 n) (k + 1) ^ (ff_ x (sl_ al_ e1 x1 n) (sl_ al_ e2 x2 n) n w key) (k + 1) % 2147483579) % 2147483579) % 2147483579) ch 0 ++ rest)) rfl ?_
          refine xa_incN C dX_start_124 rfl (Nat.le_of_ble_eq_true rfl) ?_
          refine xa_goto C dX_start_127 (tgt := 56) rfl ?_
          have h := ih (k + 1) (by omega)
          rw [pp_, if_pos hb] at h
          exact h
  have loop1 : ∀ d k : Nat, k + d = n → xw_At g false 8 p l e (xm_rm m_X_start 0) s m args below meth c 0 0 (MQ below (xm_Q g false none (hC g n t co se ke dn f1 f2 e1 e2 op (sl_ al_ e1 x1 n) (sl_ al_ e2 x2 n) (sl_ (hs x) (ff_ x (sl_ al_ e1 x1 n) (sl_ al_ e2 x2 n) n w key) fa n) (sl_ (hs x) (wt_ x n) we n) sh x x 0 0 0 (pp_ x (sl_ al_ e1 x1 n) (sl_ al_ e2 x2 n) (ff_ x (sl_ al_ e1 x1 n) (sl_ al_ e2 x2 n) n w key) n) (cs_ (pp_ x (sl_ al_ e1 x1 n) (sl_ al_ e2 x2 n) (ff_ x (sl_ al_ e1 x1 n) (sl_ al_ e2 x2 n) n w key) n) key w) 0 ++ rest)) args s 0 0 (xm_fr g false)) 8 [some (.ref 10), some (.int x), some (.long w), none, some (.long (lN key)), none, some (.ref 5), some (.int (nI (k + 1)))] [] (hC g n t co se ke dn f1 f2 e1 e2 op (sl_ al_ e1 x1 k) (sl_ al_ e2 x2 k) fa we sh x x 0 0 0 1 ch 0 ++ rest) := by
    intro d
    induction d with
    | zero =>
      intro k hk9
      obtain rfl : k = n := by omega
      refine xa_iload C dX_start_8 rfl ?_
      refine xa_aload_n C dX_start_10 rfl ?_
      refine xa_get C f_X_7 dX_start_11 rfl rfl ?_
      refine xa_icmp_gt C dX_start_14 (tgt := 53) rfl (fun h14 => ?_) (fun h14 => ?_)
      · refine xa_icN C 1 dX_start_53 ?_
        refine xa_istore C dX_start_54 (Nat.le_of_ble_eq_true rfl) ?_
        have h := loop2 k 0 (by omega)
        rw [sl_0, sl_0] at h
        exact h
      · exact absurd (nI_lt (by omega) (by omega)) h14
    | succ d ih =>
      intro k hk9
      refine xa_iload C dX_start_8 rfl ?_
      refine xa_aload_n C dX_start_10 rfl ?_
      refine xa_get C f_X_7 dX_start_11 rfl rfl ?_
      refine xa_icmp_gt C dX_start_14 (tgt := 53) rfl (fun h14 => ?_) (fun h14 => ?_)
      · exact absurd h14 (nI_nlt (by omega) (by omega))
      · refine xa_aload_n C dX_start_17 rfl ?_
        refine xa_get C f_X_13 dX_start_18 rfl rfl ?_
        refine xa_iload C dX_start_21 rfl ?_
        refine xa_aload C dX_start_23 rfl ?_
        refine xa_get C f_X_36 dX_start_25 rfl rfl ?_
        refine xa_iload C dX_start_28 rfl ?_
        refine xa_laloadN C dX_start_30 rfl ?_ (by omega) ?_
        · omega
        refine xa_lastoreN C dX_start_31 rfl ?_ (by omega) ?_
        · omega
        rw [sl_up (p := al_) (v := e1) rfl]
        refine xa_eq rfl rfl (hp' := (hC g n t co se ke dn f1 f2 e1 e2 op (sl_ al_ e1 x1 (k + 1)) (sl_ al_ e2 x2 k) fa we sh x x 0 0 0 1 ch 0 ++ rest)) rfl ?_
        refine xa_aload_n C dX_start_32 rfl ?_
        refine xa_get C f_X_17 dX_start_33 rfl rfl ?_
        refine xa_iload C dX_start_36 rfl ?_
        refine xa_aload C dX_start_38 rfl ?_
        refine xa_get C f_X_39 dX_start_40 rfl rfl ?_
        refine xa_iload C dX_start_43 rfl ?_
        refine xa_laloadN C dX_start_45 rfl ?_ (by omega) ?_
        · omega
        refine xa_lastoreN C dX_start_46 rfl ?_ (by omega) ?_
        · omega
        rw [sl_up (p := al_) (v := e2) rfl]
        refine xa_eq rfl rfl (hp' := (hC g n t co se ke dn f1 f2 e1 e2 op (sl_ al_ e1 x1 (k + 1)) (sl_ al_ e2 x2 (k + 1)) fa we sh x x 0 0 0 1 ch 0 ++ rest)) rfl ?_
        refine xa_incN C dX_start_47 rfl (Nat.le_of_ble_eq_true rfl) ?_
        refine xa_goto C dX_start_50 (tgt := 8) rfl ?_
        exact ih (k + 1) (by omega)
  refine xa_aload_n C dX_start_0 rfl ?_
  refine xa_iload_n C dX_start_1 rfl ?_
  refine xa_callVv C (p_X_reset g l x) b_X_32 (xw_in wi_X_reset rfl) e_X_reset dX_start_2 rfl rfl rfl rfl (Nat.le_of_ble_eq_true rfl) ⟨Nat.le_of_ble_eq_true rfl, Nat.le_of_ble_eq_true rfl⟩ ⟨Nat.zero_le _, Nat.zero_le _⟩ ?_
  refine xa_icN C 1 dX_start_5 ?_
  refine xa_istore C dX_start_6 (Nat.le_of_ble_eq_true rfl) ?_
  have h := loop1 n 0 (by omega)
  rw [sl_0, sl_0] at h
  exact h
