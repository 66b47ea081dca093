/-! pairs -/
def pd_ (k w : Int64) (i : Nat) : Nat := dg_f (dg_m (dg_m (dg_m 0 k) w) (lN i))
theorem pd_lt (k w : Int64) (i : Nat) : pd_ k w i < 2 ^ 30 := Nat.lt_trans (dg_f_lt _) (by decide)
theorem va_up_s (f : Nat → Nat) (k v : Nat) : va_up f k v k = v := if_pos rfl
set_option maxHeartbeats 4000000 in
set_option maxRecDepth 100000 in
theorem p_P_open (g : xw_G) (l : Launch) {n t : Nat} {co se ke f1 f2 e1 e2 x1 x2 fa we sh : Nat → Nat} {dn op ms ps md tk bl : Int32} {pr ch sm : Nat} {rest : List va_E} (hn : n ≤ 6) (ht : t ≤ 6) {i : Nat} (h1 : 1 ≤ i) (hi : i ≤ n) (w : Int64) : xm_R g l false m_P_open [.ref 5, .int (nI i), .long w] (hC g n t co se ke dn f1 f2 e1 e2 op x1 x2 fa we sh ms ps md tk bl pr ch sm ++ rest) none (hC g n t co se ke dn (va_up f1 i (pd_ 2 w i)) (va_up f2 i (pd_ 3 w i)) (va_up e1 i (4 ^ pd_ 2 w i % 2147483579)) (va_up e2 i (4 ^ pd_ 3 w i % 2147483579)) (op ||| on_ i) x1 x2 fa we sh ms ps md tk bl pr ch sm ++ rest) := by
  refine xm_of [some (.ref 5), some (.int (nI i)), some (.long w), none] rfl (Nat.le_of_ble_eq_true rfl) rfl ?_
  intro p e s m args below meth c C hr hk
  refine xa_aload_n C dP_open_0 rfl ?_
  refine xa_get C f_P_7 dP_open_1 rfl rfl ?_
  refine xa_iload_n C dP_open_4 rfl ?_
  refine xa_ldc2 C (xw_in wk_P_22 rfl) dP_open_5 ?_
  refine xa_lload_n C dP_open_8 rfl ?_
  refine xa_iload_n C dP_open_9 rfl ?_
  refine xa_i2lN C dP_open_10 (by omega) ?_
  refine xa_callS1 C (p_G_ofThree g l _ _ _ _) b_P_24 (xw_in wt_G_ofThree rfl) dP_open_11 rfl (Nat.le_of_ble_eq_true rfl) ⟨Nat.le_of_ble_eq_true rfl, Nat.le_of_ble_eq_true rfl⟩ ⟨Nat.zero_le _, Nat.zero_le _⟩ ?_
  rw [show dg_f (dg_m (dg_m (dg_m 0 2) w) (lN i)) = pd_ 2 w i from rfl]
  refine xa_lastoreN C dP_open_14 rfl ?_ (by omega) ?_
  · omega
  refine xa_eq rfl rfl (hp' := (hC g n t co se ke dn (va_up f1 i (pd_ 2 w i)) f2 e1 e2 op x1 x2 fa we sh ms ps md tk bl pr ch sm ++ rest)) rfl ?_
  refine xa_aload_n C dP_open_15 rfl ?_
  refine xa_get C f_P_13 dP_open_16 rfl rfl ?_
  refine xa_iload_n C dP_open_19 rfl ?_
  refine xa_ldc2 C (xw_in wk_P_30 rfl) dP_open_20 ?_
  refine xa_lload_n C dP_open_23 rfl ?_
  refine xa_iload_n C dP_open_24 rfl ?_
  refine xa_i2lN C dP_open_25 (by omega) ?_
  refine xa_callS1 C (p_G_ofThree g l _ _ _ _) b_P_24 (xw_in wt_G_ofThree rfl) dP_open_26 rfl (Nat.le_of_ble_eq_true rfl) ⟨Nat.le_of_ble_eq_true rfl, Nat.le_of_ble_eq_true rfl⟩ ⟨Nat.zero_le _, Nat.zero_le _⟩ ?_
  rw [show dg_f (dg_m (dg_m (dg_m 0 3) w) (lN i)) = pd_ 3 w i from rfl]
  refine xa_lastoreN C dP_open_29 rfl ?_ (by omega) ?_
  · omega
  refine xa_eq rfl rfl (hp' := (hC g n t co se ke dn (va_up f1 i (pd_ 2 w i)) (va_up f2 i (pd_ 3 w i)) e1 e2 op x1 x2 fa we sh ms ps md tk bl pr ch sm ++ rest)) rfl ?_
  refine xa_aload_n C dP_open_30 rfl ?_
  refine xa_get C f_P_16 dP_open_31 rfl rfl ?_
  refine xa_iload_n C dP_open_34 rfl ?_
  refine xa_aload_n C dP_open_35 rfl ?_
  refine xa_get C f_P_7 dP_open_36 rfl rfl ?_
  refine xa_iload_n C dP_open_39 rfl ?_
  refine xa_laloadN C dP_open_40 rfl ?_ (by omega) ?_
  · omega
  rw [va_up_s]
  refine xa_callS1 C (p_E_ofNumber g l (pd_lt _ _ _) _) b_P_32 (xw_in wt_E_ofNumber rfl) dP_open_41 rfl (Nat.le_of_ble_eq_true rfl) ⟨Nat.le_of_ble_eq_true rfl, Nat.le_of_ble_eq_true rfl⟩ ⟨Nat.zero_le _, Nat.zero_le _⟩ ?_
  refine xa_lastoreN C dP_open_44 rfl ?_ (by omega) ?_
  · omega
  refine xa_eq rfl rfl (hp' := (hC g n t co se ke dn (va_up f1 i (pd_ 2 w i)) (va_up f2 i (pd_ 3 w i)) (va_up e1 i (4 ^ pd_ 2 w i % 2147483579)) e2 op x1 x2 fa we sh ms ps md tk bl pr ch sm ++ rest)) rfl ?_
  refine xa_aload_n C dP_open_45 rfl ?_
  refine xa_get C f_P_19 dP_open_46 rfl rfl ?_
  refine xa_iload_n C dP_open_49 rfl ?_
  refine xa_aload_n C dP_open_50 rfl ?_
  refine xa_get C f_P_13 dP_open_51 rfl rfl ?_
  refine xa_iload_n C dP_open_54 rfl ?_
  refine xa_laloadN C dP_open_55 rfl ?_ (by omega) ?_
  · omega
  rw [va_up_s]
  refine xa_callS1 C (p_E_ofNumber g l (pd_lt _ _ _) _) b_P_32 (xw_in wt_E_ofNumber rfl) dP_open_56 rfl (Nat.le_of_ble_eq_true rfl) ⟨Nat.le_of_ble_eq_true rfl, Nat.le_of_ble_eq_true rfl⟩ ⟨Nat.zero_le _, Nat.zero_le _⟩ ?_
  refine xa_lastoreN C dP_open_59 rfl ?_ (by omega) ?_
  · omega
  refine xa_eq rfl rfl (hp' := (hC g n t co se ke dn (va_up f1 i (pd_ 2 w i)) (va_up f2 i (pd_ 3 w i)) (va_up e1 i (4 ^ pd_ 2 w i % 2147483579)) (va_up e2 i (4 ^ pd_ 3 w i % 2147483579)) op x1 x2 fa we sh ms ps md tk bl pr ch sm ++ rest)) rfl ?_
  refine xa_aload_n C dP_open_60 rfl ?_
  refine xa_dup C dP_open_61 rfl ?_
  refine xa_get C f_P_38 dP_open_62 rfl rfl ?_
  refine xa_iload_n C dP_open_65 rfl ?_
  refine xa_callS1 C (p_I_only g l _ _) b_P_42 (xw_in wt_I_only rfl) dP_open_66 rfl (Nat.le_of_ble_eq_true rfl) ⟨Nat.le_of_ble_eq_true rfl, Nat.le_of_ble_eq_true rfl⟩ ⟨Nat.zero_le _, Nat.zero_le _⟩ ?_
  refine xa_ior C dP_open_69 ?_
  refine xa_put C f_P_38 u_P_4 dP_open_70 rfl (Nat.le_of_ble_eq_true rfl) rfl rfl (fun _ h => by cases h) ?_
  exact xa_eq rfl rfl rfl (xa_vret C hr hk dP_open_73)
set_option maxHeartbeats 4000000 in
set_option maxRecDepth 100000 in
theorem p_P_drop (g : xw_G) (l : Launch) {n t : Nat} {co se ke f1 f2 e1 e2 x1 x2 fa we sh : Nat → Nat} {dn op ms ps md tk bl : Int32} {pr ch sm : Nat} {rest : List va_E} (hn : n ≤ 6) (ht : t ≤ 6) {i : Nat} (h1 : 1 ≤ i) (hi : i ≤ n) : xm_R g l false m_P_drop [.ref 5, .int (nI i)] (hC g n t co se ke dn f1 f2 e1 e2 op x1 x2 fa we sh ms ps md tk bl pr ch sm ++ rest) none (hC g n t co se ke dn f1 f2 e1 e2 (op &&& (on_ i ^^^ (-1))) x1 x2 fa we sh ms ps md tk bl pr ch sm ++ rest) := by
  refine xm_of [some (.ref 5), some (.int (nI i))] rfl (Nat.le_of_ble_eq_true rfl) rfl ?_
  intro p e s m args below meth c C hr hk
  refine xa_aload_n C dP_drop_0 rfl ?_
  refine xa_dup C dP_drop_1 rfl ?_
  refine xa_get C f_P_38 dP_drop_2 rfl rfl ?_
  refine xa_iload_n C dP_drop_5 rfl ?_
  refine xa_callS1 C (p_I_only g l _ _) b_P_42 (xw_in wt_I_only rfl) dP_drop_6 rfl (Nat.le_of_ble_eq_true rfl) ⟨Nat.le_of_ble_eq_true rfl, Nat.le_of_ble_eq_true rfl⟩ ⟨Nat.zero_le _, Nat.zero_le _⟩ ?_
  refine xa_iconst C dP_drop_9 ?_
  refine xa_ixor C dP_drop_10 ?_
  refine xa_iand C dP_drop_11 ?_
  refine xa_put C f_P_38 u_P_4 dP_drop_12 rfl (Nat.le_of_ble_eq_true rfl) rfl rfl (fun _ h => by cases h) ?_
  exact xa_eq rfl rfl rfl (xa_vret C hr hk dP_drop_15)
set_option maxHeartbeats 4000000 in
set_option maxRecDepth 100000 in
theorem p_P_dropAll (g : xw_G) (l : Launch) {n t : Nat} {co se ke f1 f2 e1 e2 x1 x2 fa we sh : Nat → Nat} {dn op ms ps md tk bl : Int32} {pr ch sm : Nat} {rest : List va_E} (hn : n ≤ 6) (ht : t ≤ 6) : xm_R g l false m_P_dropAll [.ref 5] (hC g n t co se ke dn f1 f2 e1 e2 op x1 x2 fa we sh ms ps md tk bl pr ch sm ++ rest) none (hC g n t co se ke dn f1 f2 e1 e2 0 x1 x2 fa we sh ms ps md tk bl pr ch sm ++ rest) := by
  refine xm_of [some (.ref 5)] rfl (Nat.le_of_ble_eq_true rfl) rfl ?_
  intro p e s m args below meth c C hr hk
  refine xa_aload_n C dP_dropAll_0 rfl ?_
  refine xa_icN C 0 dP_dropAll_1 ?_
  refine xa_put C f_P_38 u_P_4 dP_dropAll_2 rfl (Nat.le_of_ble_eq_true rfl) rfl rfl (fun _ h => by cases h) ?_
  exact xa_eq rfl rfl rfl (xa_vret C hr hk dP_dropAll_5)
set_option maxHeartbeats 4000000 in
set_option maxRecDepth 100000 in
theorem p_P_areOpen (g : xw_G) (l : Launch) {n t : Nat} {co se ke f1 f2 e1 e2 x1 x2 fa we sh : Nat → Nat} {dn op ms ps md tk bl : Int32} {pr ch sm : Nat} {rest : List va_E} (hn : n ≤ 6) (ht : t ≤ 6) (x : Int32) : xm_R g l true m_P_areOpen [.ref 5, .int x] (hC g n t co se ke dn f1 f2 e1 e2 op x1 x2 fa we sh ms ps md tk bl pr ch sm ++ rest) (some (.int (xb (x &&& (op ^^^ (-1)) = 0)))) (hC g n t co se ke dn f1 f2 e1 e2 op x1 x2 fa we sh ms ps md tk bl pr ch sm ++ rest) := by
  refine xm_of [some (.ref 5), some (.int x)] rfl (Nat.le_of_ble_eq_true rfl) rfl ?_
  intro p e s m args below meth c C hr hk
  refine xa_iload_n C dP_areOpen_0 rfl ?_
  refine xa_aload_n C dP_areOpen_1 rfl ?_
  refine xa_get C f_P_38 dP_areOpen_2 rfl rfl ?_
  refine xa_iconst C dP_areOpen_5 ?_
  refine xa_ixor C dP_areOpen_6 ?_
  refine xa_iand C dP_areOpen_7 ?_
  refine xa_if_ne C dP_areOpen_8 (tgt := 15) rfl (fun h8 => ?_) (fun h8 => ?_)
  · refine xa_icN C 0 dP_areOpen_15 ?_
    exact xa_eq rfl (congrArg (fun z => [Value.int z]) (xb_f (P := x &&& (op ^^^ (-1)) = 0) (h8)).symm) rfl (xa_zret C hr hk (xb_nar _) dP_areOpen_16)
  · refine xa_icN C 1 dP_areOpen_11 ?_
    refine xa_goto C dP_areOpen_12 (tgt := 16) rfl ?_
    exact xa_eq rfl (congrArg (fun z => [Value.int z]) (xb_t (P := x &&& (op ^^^ (-1)) = 0) (h8)).symm) rfl (xa_zret C hr hk (xb_nar _) dP_areOpen_16)
set_option maxHeartbeats 4000000 in
set_option maxRecDepth 100000 in
theorem p_X_isOn (g : xw_G) (l : Launch) {n t : Nat} {co se ke f1 f2 e1 e2 x1 x2 fa we sh : Nat → Nat} {dn op ms ps md tk bl : Int32} {pr ch sm : Nat} {rest : List va_E}  : xm_R g l true m_X_isOn [.ref 10] (hC g n t co se ke dn f1 f2 e1 e2 op x1 x2 fa we sh ms ps md tk bl pr ch sm ++ rest) (some (.int (xb (¬ ms = 0)))) (hC g n t co se ke dn f1 f2 e1 e2 op x1 x2 fa we sh ms ps md tk bl pr ch sm ++ rest) := by
  refine xm_of [some (.ref 10)] rfl (Nat.le_of_ble_eq_true rfl) rfl ?_
  intro p e s m args below meth c C hr hk
  refine xa_aload_n C dX_isOn_0 rfl ?_
  refine xa_get C f_X_29 dX_isOn_1 rfl rfl ?_
  refine xa_if_eq C dX_isOn_4 (tgt := 11) rfl (fun h4 => ?_) (fun h4 => ?_)
  · refine xa_icN C 0 dX_isOn_11 ?_
    exact xa_eq rfl (congrArg (fun z => [Value.int z]) (xb_f (P := ¬ ms = 0) (fun q => q h4)).symm) rfl (xa_zret C hr hk (xb_nar _) dX_isOn_12)
  · refine xa_icN C 1 dX_isOn_7 ?_
    refine xa_goto C dX_isOn_8 (tgt := 12) rfl ?_
    exact xa_eq rfl (congrArg (fun z => [Value.int z]) (xb_t (P := ¬ ms = 0) (h4)).symm) rfl (xa_zret C hr hk (xb_nar _) dX_isOn_12)
set_option maxHeartbeats 4000000 in
set_option maxRecDepth 100000 in
theorem p_X_losePair (g : xw_G) (l : Launch) {n t : Nat} {co se ke f1 f2 e1 e2 x1 x2 fa we sh : Nat → Nat} {dn op ms ps md tk bl : Int32} {pr ch sm : Nat} {rest : List va_E} (hn : n ≤ 6) (ht : t ≤ 6) {i : Nat} (h1 : 1 ≤ i) (hi : i ≤ n) : xm_R g l false m_X_losePair [.ref 10, .int (nI i)] (hC g n t co se ke dn f1 f2 e1 e2 op x1 x2 fa we sh ms ps md tk bl pr ch sm ++ rest) none (hC g n t co se ke dn f1 f2 e1 e2 op x1 x2 fa we sh ms (ps &&& (on_ i ^^^ (-1))) md tk bl pr ch sm ++ rest) := by
  refine xm_of [some (.ref 10), some (.int (nI i))] rfl (Nat.le_of_ble_eq_true rfl) rfl ?_
  intro p e s m args below meth c C hr hk
  refine xa_aload_n C dX_losePair_0 rfl ?_
  refine xa_dup C dX_losePair_1 rfl ?_
  refine xa_get C f_X_77 dX_losePair_2 rfl rfl ?_
  refine xa_iload_n C dX_losePair_5 rfl ?_
  refine xa_callS1 C (p_I_only g l _ _) b_X_80 (xw_in wt_I_only rfl) dX_losePair_6 rfl (Nat.le_of_ble_eq_true rfl) ⟨Nat.le_of_ble_eq_true rfl, Nat.le_of_ble_eq_true rfl⟩ ⟨Nat.zero_le _, Nat.zero_le _⟩ ?_
  refine xa_iconst C dX_losePair_9 ?_
  refine xa_ixor C dX_losePair_10 ?_
  refine xa_iand C dX_losePair_11 ?_
  refine xa_put C f_X_77 u_X_7 dX_losePair_12 rfl (Nat.le_of_ble_eq_true rfl) rfl rfl (fun _ h => by cases h) ?_
  exact xa_eq rfl rfl rfl (xa_vret C hr hk dX_losePair_15)
set_option maxHeartbeats 4000000 in
set_option maxRecDepth 100000 in
theorem p_X_reset (g : xw_G) (l : Launch) {n t : Nat} {co se ke f1 f2 e1 e2 x1 x2 fa we sh : Nat → Nat} {dn op ms ps md tk bl : Int32} {pr ch sm : Nat} {rest : List va_E} (x : Int32) : xm_R g l false m_X_reset [.ref 10, .int x] (hC g n t co se ke dn f1 f2 e1 e2 op x1 x2 fa we sh ms ps md tk bl pr ch sm ++ rest) none (hC g n t co se ke dn f1 f2 e1 e2 op x1 x2 fa we sh x x 0 0 0 1 ch 0 ++ rest) := by
  refine xm_of [some (.ref 10), some (.int x)] rfl (Nat.le_of_ble_eq_true rfl) rfl ?_
  intro p e s m args below meth c C hr hk
  refine xa_aload_n C dX_reset_0 rfl ?_
  refine xa_iload_n C dX_reset_1 rfl ?_
  refine xa_put C f_X_29 u_X_6 dX_reset_2 rfl (Nat.le_of_ble_eq_true rfl) rfl rfl (fun _ h => by cases h) ?_
  refine xa_aload_n C dX_reset_5 rfl ?_
  refine xa_iload_n C dX_reset_6 rfl ?_
  refine xa_put C f_X_77 u_X_7 dX_reset_7 rfl (Nat.le_of_ble_eq_true rfl) rfl rfl (fun _ h => by cases h) ?_
  refine xa_aload_n C dX_reset_10 rfl ?_
  refine xa_icN C 0 dX_reset_11 ?_
  refine xa_put C f_X_99 u_X_8 dX_reset_12 rfl (Nat.le_of_ble_eq_true rfl) rfl rfl (fun _ h => by cases h) ?_
  refine xa_aload_n C dX_reset_15 rfl ?_
  refine xa_icN C 0 dX_reset_16 ?_
  refine xa_put C f_X_109 u_X_9 dX_reset_17 rfl (Nat.le_of_ble_eq_true rfl) rfl rfl (fun _ h => by cases h) ?_
  refine xa_aload_n C dX_reset_20 rfl ?_
  refine xa_icN C 0 dX_reset_21 ?_
  refine xa_put C f_X_106 u_X_10 dX_reset_22 rfl (Nat.le_of_ble_eq_true rfl) rfl rfl (fun _ h => by cases h) ?_
  refine xa_aload_n C dX_reset_25 rfl ?_
  refine xa_lcN C 1 dX_reset_26 ?_
  refine xa_put C f_X_54 u_X_11 dX_reset_27 rfl (Nat.le_of_ble_eq_true rfl) rfl rfl (fun _ h => by cases h) ?_
  refine xa_aload_n C dX_reset_30 rfl ?_
  refine xa_lcN C 0 dX_reset_31 ?_
  refine xa_put C f_X_112 u_X_13 dX_reset_32 rfl (Nat.le_of_ble_eq_true rfl) rfl rfl (fun _ h => by cases h) ?_
  exact xa_eq rfl rfl rfl (xa_vret C hr hk dX_reset_35)
set_option maxHeartbeats 4000000 in
set_option maxRecDepth 100000 in
theorem p_X_end (g : xw_G) (l : Launch) {n t : Nat} {co se ke f1 f2 e1 e2 x1 x2 fa we sh : Nat → Nat} {dn op ms ps md tk bl : Int32} {pr ch sm : Nat} {rest : List va_E}  : xm_R g l false m_X_end [.ref 10] (hC g n t co se ke dn f1 f2 e1 e2 op x1 x2 fa we sh ms ps md tk bl pr ch sm ++ rest) none (hC g n t co se ke dn f1 f2 e1 e2 op x1 x2 fa we sh 0 0 0 0 0 1 ch 0 ++ rest) := by
  refine xm_of [some (.ref 10)] rfl (Nat.le_of_ble_eq_true rfl) rfl ?_
  intro p e s m args below meth c C hr hk
  refine xa_aload_n C dX_end_0 rfl ?_
  refine xa_icN C 0 dX_end_1 ?_
  refine xa_callVv C (p_X_reset g l (nI 0)) b_X_32 (xw_in wi_X_reset rfl) e_X_reset dX_end_2 rfl rfl rfl rfl (Nat.le_of_ble_eq_true rfl) ⟨Nat.le_of_ble_eq_true rfl, Nat.le_of_ble_eq_true rfl⟩ ⟨Nat.zero_le _, Nat.zero_le _⟩ ?_
  exact xa_eq rfl rfl rfl (xa_vret C hr hk dX_end_5)
set_option maxHeartbeats 4000000 in
set_option maxRecDepth 100000 in
theorem p_X_toldPart (g : xw_G) (l : Launch) {n t : Nat} {co se ke f1 f2 e1 e2 x1 x2 fa we sh : Nat → Nat} {dn op ms ps md tk bl : Int32} {pr ch sm : Nat} {rest : List va_E} (hn : n ≤ 6) (ht : t ≤ 6) {i : Nat} (h1 : 1 ≤ i) (hi : i ≤ n) (hx1 : ∀ j, x1 j < 2 ^ 31) (hx2 : ∀ j, x2 j < 2 ^ 31) (hfa : ∀ j, fa j < 2 ^ 30) : xm_R g l true m_X_toldPart [.ref 10, .int (nI i)] (hC g n t co se ke dn f1 f2 e1 e2 op x1 x2 fa we sh ms ps md tk bl pr ch sm ++ rest) (some (.long (lN (x1 i * (x2 i ^ fa i % 2147483579) % 2147483579)))) (hC g n t co se ke dn f1 f2 e1 e2 op x1 x2 fa we sh ms ps md tk bl pr ch sm ++ rest) := by
  refine xm_of [some (.ref 10), some (.int (nI i))] rfl (Nat.le_of_ble_eq_true rfl) rfl ?_
  intro p e s m args below meth c C hr hk
  refine xa_aload_n C dX_toldPart_0 rfl ?_
  refine xa_get C f_X_13 dX_toldPart_1 rfl rfl ?_
  refine xa_iload_n C dX_toldPart_4 rfl ?_
  refine xa_laloadN C dX_toldPart_5 rfl ?_ (by omega) ?_
  · omega
  refine xa_aload_n C dX_toldPart_6 rfl ?_
  refine xa_get C f_X_17 dX_toldPart_7 rfl rfl ?_
  refine xa_iload_n C dX_toldPart_10 rfl ?_
  refine xa_laloadN C dX_toldPart_11 rfl ?_ (by omega) ?_
  · omega
  refine xa_aload_n C dX_toldPart_12 rfl ?_
  refine xa_get C f_X_20 dX_toldPart_13 rfl rfl ?_
  refine xa_iload_n C dX_toldPart_16 rfl ?_
  refine xa_laloadN C dX_toldPart_17 rfl ?_ (by omega) ?_
  · omega
  refine xa_callS1 C (p_E_power g l (by first | exact hx2 _ | omega) (by first | exact hfa _ | omega) _) b_X_124 (xw_in wt_E_power rfl) dX_toldPart_18 rfl (Nat.le_of_ble_eq_true rfl) ⟨Nat.le_of_ble_eq_true rfl, Nat.le_of_ble_eq_true rfl⟩ ⟨Nat.zero_le _, Nat.zero_le _⟩ ?_
  refine xa_callS1 C (p_E_times g l (by first | exact hx1 _ | exact tb_p _) (tb_p _) _) b_X_62 (xw_in wt_E_times rfl) dX_toldPart_21 rfl (Nat.le_of_ble_eq_true rfl) ⟨Nat.le_of_ble_eq_true rfl, Nat.le_of_ble_eq_true rfl⟩ ⟨Nat.zero_le _, Nat.zero_le _⟩ ?_
  exact xa_lret C hr hk dX_toldPart_24
set_option maxHeartbeats 4000000 in
set_option maxRecDepth 100000 in
theorem p_X_keyExponent (g : xw_G) (l : Launch) {n t : Nat} {co se ke f1 f2 e1 e2 x1 x2 fa we sh : Nat → Nat} {dn op ms ps md tk bl : Int32} {pr ch sm : Nat} {rest : List va_E} (hn : n ≤ 6) (ht : t ≤ 6) {i : Nat} (h1 : 1 ≤ i) (hi : i ≤ n) (hch : ch < 2 ^ 31) (hwe : ∀ j, we j < 2 ^ 31) : xm_R g l true m_X_keyExponent [.ref 10, .int (nI i)] (hC g n t co se ke dn f1 f2 e1 e2 op x1 x2 fa we sh ms ps md tk bl pr ch sm ++ rest) (some (.long (lN (ch * we i % 1073741789)))) (hC g n t co se ke dn f1 f2 e1 e2 op x1 x2 fa we sh ms ps md tk bl pr ch sm ++ rest) := by
  refine xm_of [some (.ref 10), some (.int (nI i))] rfl (Nat.le_of_ble_eq_true rfl) rfl ?_
  intro p e s m args below meth c C hr hk
  refine xa_aload_n C dX_keyExponent_0 rfl ?_
  refine xa_get C f_X_74 dX_keyExponent_1 rfl rfl ?_
  refine xa_aload_n C dX_keyExponent_4 rfl ?_
  refine xa_get C f_X_23 dX_keyExponent_5 rfl rfl ?_
  refine xa_iload_n C dX_keyExponent_8 rfl ?_
  refine xa_laloadN C dX_keyExponent_9 rfl ?_ (by omega) ?_
  · omega
  refine xa_callS1 C (p_N_times g l (by omega) (by first | exact hwe _ | omega) _) b_X_90 (xw_in wt_N_times rfl) dX_keyExponent_10 rfl (Nat.le_of_ble_eq_true rfl) ⟨Nat.le_of_ble_eq_true rfl, Nat.le_of_ble_eq_true rfl⟩ ⟨Nat.zero_le _, Nat.zero_le _⟩ ?_
  exact xa_lret C hr hk dX_keyExponent_13
