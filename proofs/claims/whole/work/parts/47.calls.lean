/-! the class's own calls -/
set_option maxHeartbeats 4000000 in
set_option maxRecDepth 100000 in
theorem p_S_deal (g : xw_G) (l : Launch) {n t : Nat} {co se ke f1 f2 e1 e2 x1 x2 fa we sh : Nat → Nat} {dn op ms ps md tk bl : Int32} {pr ch sm : Nat} {rest : List va_E} (hn : n ≤ 6) (ht : t ≤ 6) (hco : ∀ j, co j < 2 ^ 31) (w : Int64) : xm_R g l false m_S_deal [.ref 0, .long w] (hC g n t co se ke dn f1 f2 e1 e2 op x1 x2 fa we sh ms ps md tk bl pr ch sm ++ rest) (some (.long (lN ((fun j => if j < (n + 1) then kd_ w t j else ke j) 0)))) (hC g n t (fun j => if j < t then cd_ w j else co j) (fun j => if j < (n + 1) then sd_ w t j else se j) (fun j => if j < (n + 1) then kd_ w t j else ke j) (nI 1) f1 f2 e1 e2 0 x1 x2 fa we sh 0 0 0 0 0 1 ch 0 ++ rest) := by
  refine xm_of [some (.ref 0), some (.long w), none] rfl (Nat.le_of_ble_eq_true rfl) rfl ?_
  intro p e s m args below meth c C hr hk
  refine xa_aload_n C dS_deal_0 rfl ?_
  refine xa_get C f_S_30 dS_deal_1 rfl rfl ?_
  refine xa_lload_n C dS_deal_4 rfl ?_
  refine xa_callVv C (p_D_make g l hn ht hco w) b_S_50 (xw_in wi_D_make rfl) e_D_make dS_deal_5 rfl rfl rfl rfl (Nat.le_of_ble_eq_true rfl) ⟨Nat.le_of_ble_eq_true rfl, Nat.le_of_ble_eq_true rfl⟩ ⟨Nat.zero_le _, Nat.zero_le _⟩ ?_
  refine xa_aload_n C dS_deal_8 rfl ?_
  refine xa_get C f_S_39 dS_deal_9 rfl rfl ?_
  refine xa_callVv C (p_P_dropAll g l hn ht) b_S_54 (xw_in wi_P_dropAll rfl) e_P_dropAll dS_deal_12 rfl rfl rfl rfl (Nat.le_of_ble_eq_true rfl) ⟨Nat.le_of_ble_eq_true rfl, Nat.le_of_ble_eq_true rfl⟩ ⟨Nat.zero_le _, Nat.zero_le _⟩ ?_
  refine xa_aload_n C dS_deal_15 rfl ?_
  refine xa_get C f_S_46 dS_deal_16 rfl rfl ?_
  refine xa_callVv C (p_X_end g l) b_S_57 (xw_in wi_X_end rfl) e_X_end dS_deal_19 rfl rfl rfl rfl (Nat.le_of_ble_eq_true rfl) ⟨Nat.le_of_ble_eq_true rfl, Nat.le_of_ble_eq_true rfl⟩ ⟨Nat.zero_le _, Nat.zero_le _⟩ ?_
  refine xa_aload_n C dS_deal_22 rfl ?_
  refine xa_get C f_S_30 dS_deal_23 rfl rfl ?_
  refine xa_callV1 C (p_D_keyOfAll g l hn ht) b_S_60 (xw_in wi_D_keyOfAll rfl) e_D_keyOfAll dS_deal_26 rfl rfl rfl rfl (Nat.le_of_ble_eq_true rfl) ⟨Nat.le_of_ble_eq_true rfl, Nat.le_of_ble_eq_true rfl⟩ ⟨Nat.zero_le _, Nat.zero_le _⟩ ?_
  exact xa_eq rfl rfl rfl (xa_lret C hr hk dS_deal_29)
set_option maxHeartbeats 4000000 in
set_option maxRecDepth 100000 in
theorem p_S_commit (g : xw_G) (l : Launch) {n t : Nat} {co se ke f1 f2 e1 e2 x1 x2 fa we sh : Nat → Nat} {dn op ms ps md tk bl : Int32} {pr ch sm : Nat} {rest : List va_E} (hn : n ≤ 6) (ht : t ≤ 6) {i : Nat} (h1 : 1 ≤ i) (hi : i ≤ n) (hd : ¬ dn = 0) (w : Int64) : xm_R g l false m_S_commit [.ref 0, .int (nI i), .long w] (hC g n t co se ke dn f1 f2 e1 e2 op x1 x2 fa we sh ms ps md tk bl pr ch sm ++ rest) (some (.long (lN (4 ^ pd_ 2 w i % 2147483579)))) (hC g n t co se ke dn (va_up f1 i (pd_ 2 w i)) (va_up f2 i (pd_ 3 w i)) (va_up e1 i (4 ^ pd_ 2 w i % 2147483579)) (va_up e2 i (4 ^ pd_ 3 w i % 2147483579)) (op ||| on_ i) x1 x2 fa we sh ms (ps &&& (on_ i ^^^ (-1))) md tk bl pr ch sm ++ rest) := by
  refine xm_of [some (.ref 0), some (.int (nI i)), some (.long w), none] rfl (Nat.le_of_ble_eq_true rfl) rfl ?_
  intro p e s m args below meth c C hr hk
  refine xa_aload_n C dS_commit_0 rfl ?_
  refine xa_iload_n C dS_commit_1 rfl ?_
  refine xa_callVv C (p_S_requireSigner g l _ (sg_nI hn h1 hi)) b_S_64 (xw_in wi_S_requireSigner rfl) e_S_requireSigner dS_commit_2 rfl rfl rfl rfl (Nat.le_of_ble_eq_true rfl) ⟨Nat.le_of_ble_eq_true rfl, Nat.le_of_ble_eq_true rfl⟩ ⟨Nat.zero_le _, Nat.zero_le _⟩ ?_
  refine xa_aload_n C dS_commit_5 rfl ?_
  refine xa_callVv C (p_S_requireDealt g l hd) b_S_67 (xw_in wi_S_requireDealt rfl) e_S_requireDealt dS_commit_6 rfl rfl rfl rfl (Nat.le_of_ble_eq_true rfl) ⟨Nat.le_of_ble_eq_true rfl, Nat.le_of_ble_eq_true rfl⟩ ⟨Nat.zero_le _, Nat.zero_le _⟩ ?_
  refine xa_aload_n C dS_commit_9 rfl ?_
  refine xa_get C f_S_39 dS_commit_10 rfl rfl ?_
  refine xa_iload_n C dS_commit_13 rfl ?_
  refine xa_lload_n C dS_commit_14 rfl ?_
  refine xa_callVv C (p_P_open g l hn ht h1 hi w) b_S_70 (xw_in wi_P_open rfl) e_P_open dS_commit_15 rfl rfl rfl rfl (Nat.le_of_ble_eq_true rfl) ⟨Nat.le_of_ble_eq_true rfl, Nat.le_of_ble_eq_true rfl⟩ ⟨Nat.zero_le _, Nat.zero_le _⟩ ?_
  refine xa_aload_n C dS_commit_18 rfl ?_
  refine xa_get C f_S_46 dS_commit_19 rfl rfl ?_
  refine xa_iload_n C dS_commit_22 rfl ?_
  refine xa_callVv C (p_X_losePair g l hn ht h1 hi) b_S_74 (xw_in wi_X_losePair rfl) e_X_losePair dS_commit_23 rfl rfl rfl rfl (Nat.le_of_ble_eq_true rfl) ⟨Nat.le_of_ble_eq_true rfl, Nat.le_of_ble_eq_true rfl⟩ ⟨Nat.zero_le _, Nat.zero_le _⟩ ?_
  refine xa_aload_n C dS_commit_26 rfl ?_
  refine xa_get C f_S_39 dS_commit_27 rfl rfl ?_
  refine xa_get C f_S_77 dS_commit_30 rfl rfl ?_
  refine xa_iload_n C dS_commit_33 rfl ?_
  refine xa_laloadN C dS_commit_34 rfl ?_ (by omega) ?_
  · omega
  rw [va_up_s]
  exact xa_eq rfl rfl rfl (xa_lret C hr hk dS_commit_35)
set_option maxHeartbeats 4000000 in
set_option maxRecDepth 100000 in
theorem q_S_commit_a (g : xw_G) {l : Launch} (htr : xw_tr l) {n t : Nat} {co se ke f1 f2 e1 e2 x1 x2 fa we sh : Nat → Nat} {dn op ms ps md tk bl : Int32} {pr ch sm : Nat} {rest : List va_E} (x : Int32) (hx : ¬ sg n x) (w : Int64) : xt_R g l m_S_commit [.ref 0, .int x, .long w] (hC g n t co se ke dn f1 f2 e1 e2 op x1 x2 fa we sh ms ps md tk bl pr ch sm ++ rest) "java/lang/IllegalArgumentException" := by
  refine xt_of [some (.ref 0), some (.int x), some (.long w), none] rfl (Nat.le_of_ble_eq_true rfl) rfl ?_
  intro p e s m args below meth c C hE hk
  refine xa_aload_n C dS_commit_0 rfl ?_
  refine xa_iload_n C dS_commit_1 rfl ?_
  exact xa_throwV C hE hk (q_S_requireSigner g htr _ hx) b_S_64 (xw_in wi_S_requireSigner rfl) e_S_requireSigner dS_commit_2 rfl rfl rfl rfl (Nat.le_of_ble_eq_true rfl) ⟨Nat.le_of_ble_eq_true rfl, Nat.le_of_ble_eq_true rfl⟩ ⟨Nat.le_of_ble_eq_true rfl, Nat.le_of_ble_eq_true rfl⟩
set_option maxHeartbeats 4000000 in
set_option maxRecDepth 100000 in
theorem q_S_commit_b (g : xw_G) {l : Launch} (htr : xw_tr l) {n t : Nat} {co se ke f1 f2 e1 e2 x1 x2 fa we sh : Nat → Nat} {dn op ms ps md tk bl : Int32} {pr ch sm : Nat} {rest : List va_E} (hn : n ≤ 6) {i : Nat} (h1 : 1 ≤ i) (hi : i ≤ n) (hd : dn = 0) (w : Int64) : xt_R g l m_S_commit [.ref 0, .int (nI i), .long w] (hC g n t co se ke dn f1 f2 e1 e2 op x1 x2 fa we sh ms ps md tk bl pr ch sm ++ rest) "java/lang/IllegalStateException" := by
  refine xt_of [some (.ref 0), some (.int (nI i)), some (.long w), none] rfl (Nat.le_of_ble_eq_true rfl) rfl ?_
  intro p e s m args below meth c C hE hk
  refine xa_aload_n C dS_commit_0 rfl ?_
  refine xa_iload_n C dS_commit_1 rfl ?_
  refine xa_callVv C (p_S_requireSigner g l _ (sg_nI hn h1 hi)) b_S_64 (xw_in wi_S_requireSigner rfl) e_S_requireSigner dS_commit_2 rfl rfl rfl rfl (Nat.le_of_ble_eq_true rfl) ⟨Nat.le_of_ble_eq_true rfl, Nat.le_of_ble_eq_true rfl⟩ ⟨Nat.zero_le _, Nat.zero_le _⟩ ?_
  refine xa_aload_n C dS_commit_5 rfl ?_
  exact xa_throwV C hE hk (q_S_requireDealt g htr hd) b_S_67 (xw_in wi_S_requireDealt rfl) e_S_requireDealt dS_commit_6 rfl rfl rfl rfl (Nat.le_of_ble_eq_true rfl) ⟨Nat.le_of_ble_eq_true rfl, Nat.le_of_ble_eq_true rfl⟩ ⟨Nat.le_of_ble_eq_true rfl, Nat.le_of_ble_eq_true rfl⟩
set_option maxHeartbeats 4000000 in
set_option maxRecDepth 100000 in
theorem p_S_begin (g : xw_G) (l : Launch) {n t : Nat} {co se ke f1 f2 e1 e2 x1 x2 fa we sh : Nat → Nat} {dn op ms ps md tk bl : Int32} {pr ch sm : Nat} {rest : List va_E} (hn : n ≤ 6) (ht : t ≤ 6) (x : Int32) (hx : en n t x) (hd : ¬ dn = 0) (ho : x &&& (op ^^^ (-1)) = 0) (he1 : ∀ j, e1 j < 2 ^ 31) (he2 : ∀ j, e2 j < 2 ^ 31) (hx1 : ∀ j, x1 j < 2 ^ 31) (hx2 : ∀ j, x2 j < 2 ^ 31) (hfa : ∀ j, fa j < 2 ^ 30) (w : Int64) : xm_R g l false m_S_begin [.ref 0, .int x, .long w] (hC g n t co se ke dn f1 f2 e1 e2 op x1 x2 fa we sh ms ps md tk bl pr ch sm ++ rest) (some (.long (lN (pp_ x (sl_ al_ e1 x1 n) (sl_ al_ e2 x2 n) (ff_ x (sl_ al_ e1 x1 n) (sl_ al_ e2 x2 n) n w (ke 0)) n)))) (hC g n t co se ke dn f1 f2 e1 e2 op (sl_ al_ e1 x1 n) (sl_ al_ e2 x2 n) (sl_ (hs x) (ff_ x (sl_ al_ e1 x1 n) (sl_ al_ e2 x2 n) n w (ke 0)) fa n) (sl_ (hs x) (wt_ x n) we n) sh x x 0 0 0 (pp_ x (sl_ al_ e1 x1 n) (sl_ al_ e2 x2 n) (ff_ x (sl_ al_ e1 x1 n) (sl_ al_ e2 x2 n) n w (ke 0)) n) (cs_ (pp_ x (sl_ al_ e1 x1 n) (sl_ al_ e2 x2 n) (ff_ x (sl_ al_ e1 x1 n) (sl_ al_ e2 x2 n) n w (ke 0)) n) (ke 0) w) 0 ++ rest) := by
  refine xm_of [some (.ref 0), some (.int x), some (.long w), none] rfl (Nat.le_of_ble_eq_true rfl) rfl ?_
  intro p e s m args below meth c C hr hk
  refine xa_aload_n C dS_begin_0 rfl ?_
  refine xa_iload_n C dS_begin_1 rfl ?_
  refine xa_callVv C (p_S_requireEnough g l _ hx) b_S_81 (xw_in wi_S_requireEnough rfl) e_S_requireEnough dS_begin_2 rfl rfl rfl rfl (Nat.le_of_ble_eq_true rfl) ⟨Nat.le_of_ble_eq_true rfl, Nat.le_of_ble_eq_true rfl⟩ ⟨Nat.zero_le _, Nat.zero_le _⟩ ?_
  refine xa_aload_n C dS_begin_5 rfl ?_
  refine xa_callVv C (p_S_requireDealt g l hd) b_S_67 (xw_in wi_S_requireDealt rfl) e_S_requireDealt dS_begin_6 rfl rfl rfl rfl (Nat.le_of_ble_eq_true rfl) ⟨Nat.le_of_ble_eq_true rfl, Nat.le_of_ble_eq_true rfl⟩ ⟨Nat.zero_le _, Nat.zero_le _⟩ ?_
  refine xa_aload_n C dS_begin_9 rfl ?_
  refine xa_get C f_S_39 dS_begin_10 rfl rfl ?_
  refine xa_iload_n C dS_begin_13 rfl ?_
  refine xa_callV1 C (p_P_areOpen g l hn ht _) b_S_84 (xw_in wi_P_areOpen rfl) e_P_areOpen dS_begin_14 rfl rfl rfl rfl (Nat.le_of_ble_eq_true rfl) ⟨Nat.le_of_ble_eq_true rfl, Nat.le_of_ble_eq_true rfl⟩ ⟨Nat.zero_le _, Nat.zero_le _⟩ ?_
  refine xa_if_ne C dS_begin_17 (tgt := 30) rfl (fun h17 => ?_) (fun h17 => ?_)
  · refine xa_aload_n C dS_begin_30 rfl ?_
    refine xa_get C f_S_46 dS_begin_31 rfl rfl ?_
    refine xa_iload_n C dS_begin_34 rfl ?_
    refine xa_lload_n C dS_begin_35 rfl ?_
    refine xa_aload_n C dS_begin_36 rfl ?_
    refine xa_get C f_S_30 dS_begin_37 rfl rfl ?_
    refine xa_callV1 C (p_D_keyOfAll g l hn ht) b_S_60 (xw_in wi_D_keyOfAll rfl) e_D_keyOfAll dS_begin_40 rfl rfl rfl rfl (Nat.le_of_ble_eq_true rfl) ⟨Nat.le_of_ble_eq_true rfl, Nat.le_of_ble_eq_true rfl⟩ ⟨Nat.zero_le _, Nat.zero_le _⟩ ?_
    refine xa_aload_n C dS_begin_43 rfl ?_
    refine xa_get C f_S_39 dS_begin_44 rfl rfl ?_
    refine xa_callVv C (p_X_start g l hn ht he1 he2 hx1 hx2 hfa x w (ke 0)) b_S_95 (xw_in wi_X_start rfl) e_X_start dS_begin_47 rfl rfl rfl rfl (Nat.le_of_ble_eq_true rfl) ⟨Nat.le_of_ble_eq_true rfl, Nat.le_of_ble_eq_true rfl⟩ ⟨Nat.zero_le _, Nat.zero_le _⟩ ?_
    refine xa_aload_n C dS_begin_50 rfl ?_
    refine xa_get C f_S_46 dS_begin_51 rfl rfl ?_
    refine xa_get C f_S_99 dS_begin_54 rfl rfl ?_
    exact xa_eq rfl rfl rfl (xa_lret C hr hk dS_begin_57)
  · exact absurd ho (xb_eq0.mp h17)
set_option maxHeartbeats 4000000 in
set_option maxRecDepth 100000 in
theorem q_S_begin_a (g : xw_G) {l : Launch} (htr : xw_tr l) {n t : Nat} {co se ke f1 f2 e1 e2 x1 x2 fa we sh : Nat → Nat} {dn op ms ps md tk bl : Int32} {pr ch sm : Nat} {rest : List va_E} (x : Int32) (hx : ¬ en n t x) (w : Int64) : xt_R g l m_S_begin [.ref 0, .int x, .long w] (hC g n t co se ke dn f1 f2 e1 e2 op x1 x2 fa we sh ms ps md tk bl pr ch sm ++ rest) "java/lang/IllegalArgumentException" := by
  refine xt_of [some (.ref 0), some (.int x), some (.long w), none] rfl (Nat.le_of_ble_eq_true rfl) rfl ?_
  intro p e s m args below meth c C hE hk
  refine xa_aload_n C dS_begin_0 rfl ?_
  refine xa_iload_n C dS_begin_1 rfl ?_
  exact xa_throwV C hE hk (q_S_requireEnough g htr _ hx) b_S_81 (xw_in wi_S_requireEnough rfl) e_S_requireEnough dS_begin_2 rfl rfl rfl rfl (Nat.le_of_ble_eq_true rfl) ⟨Nat.le_of_ble_eq_true rfl, Nat.le_of_ble_eq_true rfl⟩ ⟨Nat.le_of_ble_eq_true rfl, Nat.le_of_ble_eq_true rfl⟩
set_option maxHeartbeats 4000000 in
set_option maxRecDepth 100000 in
theorem q_S_begin_b (g : xw_G) {l : Launch} (htr : xw_tr l) {n t : Nat} {co se ke f1 f2 e1 e2 x1 x2 fa we sh : Nat → Nat} {dn op ms ps md tk bl : Int32} {pr ch sm : Nat} {rest : List va_E} (x : Int32) (hx : en n t x) (hd : dn = 0) (w : Int64) : xt_R g l m_S_begin [.ref 0, .int x, .long w] (hC g n t co se ke dn f1 f2 e1 e2 op x1 x2 fa we sh ms ps md tk bl pr ch sm ++ rest) "java/lang/IllegalStateException" := by
  refine xt_of [some (.ref 0), some (.int x), some (.long w), none] rfl (Nat.le_of_ble_eq_true rfl) rfl ?_
  intro p e s m args below meth c C hE hk
  refine xa_aload_n C dS_begin_0 rfl ?_
  refine xa_iload_n C dS_begin_1 rfl ?_
  refine xa_callVv C (p_S_requireEnough g l _ hx) b_S_81 (xw_in wi_S_requireEnough rfl) e_S_requireEnough dS_begin_2 rfl rfl rfl rfl (Nat.le_of_ble_eq_true rfl) ⟨Nat.le_of_ble_eq_true rfl, Nat.le_of_ble_eq_true rfl⟩ ⟨Nat.zero_le _, Nat.zero_le _⟩ ?_
  refine xa_aload_n C dS_begin_5 rfl ?_
  exact xa_throwV C hE hk (q_S_requireDealt g htr hd) b_S_67 (xw_in wi_S_requireDealt rfl) e_S_requireDealt dS_begin_6 rfl rfl rfl rfl (Nat.le_of_ble_eq_true rfl) ⟨Nat.le_of_ble_eq_true rfl, Nat.le_of_ble_eq_true rfl⟩ ⟨Nat.le_of_ble_eq_true rfl, Nat.le_of_ble_eq_true rfl⟩
set_option maxHeartbeats 4000000 in
set_option maxRecDepth 100000 in
theorem q_S_begin_c (g : xw_G) {l : Launch} (htr : xw_tr l) {n t : Nat} {co se ke f1 f2 e1 e2 x1 x2 fa we sh : Nat → Nat} {dn op ms ps md tk bl : Int32} {pr ch sm : Nat} {rest : List va_E} (hn : n ≤ 6) (ht : t ≤ 6) (x : Int32) (hx : en n t x) (hd : ¬ dn = 0) (ho : ¬ x &&& (op ^^^ (-1)) = 0) (w : Int64) : xt_R g l m_S_begin [.ref 0, .int x, .long w] (hC g n t co se ke dn f1 f2 e1 e2 op x1 x2 fa we sh ms ps md tk bl pr ch sm ++ rest) "java/lang/IllegalStateException" := by
  refine xt_of [some (.ref 0), some (.int x), some (.long w), none] rfl (Nat.le_of_ble_eq_true rfl) rfl ?_
  intro p e s m args below meth c C hE hk
  refine xa_aload_n C dS_begin_0 rfl ?_
  refine xa_iload_n C dS_begin_1 rfl ?_
  refine xa_callVv C (p_S_requireEnough g l _ hx) b_S_81 (xw_in wi_S_requireEnough rfl) e_S_requireEnough dS_begin_2 rfl rfl rfl rfl (Nat.le_of_ble_eq_true rfl) ⟨Nat.le_of_ble_eq_true rfl, Nat.le_of_ble_eq_true rfl⟩ ⟨Nat.zero_le _, Nat.zero_le _⟩ ?_
  refine xa_aload_n C dS_begin_5 rfl ?_
  refine xa_callVv C (p_S_requireDealt g l hd) b_S_67 (xw_in wi_S_requireDealt rfl) e_S_requireDealt dS_begin_6 rfl rfl rfl rfl (Nat.le_of_ble_eq_true rfl) ⟨Nat.le_of_ble_eq_true rfl, Nat.le_of_ble_eq_true rfl⟩ ⟨Nat.zero_le _, Nat.zero_le _⟩ ?_
  refine xa_aload_n C dS_begin_9 rfl ?_
  refine xa_get C f_S_39 dS_begin_10 rfl rfl ?_
  refine xa_iload_n C dS_begin_13 rfl ?_
  refine xa_callV1 C (p_P_areOpen g l hn ht _) b_S_84 (xw_in wi_P_areOpen rfl) e_P_areOpen dS_begin_14 rfl rfl rfl rfl (Nat.le_of_ble_eq_true rfl) ⟨Nat.le_of_ble_eq_true rfl, Nat.le_of_ble_eq_true rfl⟩ ⟨Nat.zero_le _, Nat.zero_le _⟩ ?_
  refine xa_if_ne C dS_begin_17 (tgt := 30) rfl (fun h17 => ?_) (fun h17 => ?_)
  · exact absurd (xb_f ho) h17
  · exact xa_throw C htr hE hk tk_S_begin_20 dS_begin_20 dS_begin_23 dS_begin_24 dS_begin_26 dS_begin_29 ⟨Nat.le_of_ble_eq_true rfl, Nat.le_of_ble_eq_true rfl⟩ ⟨Nat.le_of_ble_eq_true rfl, Nat.le_of_ble_eq_true rfl⟩
set_option maxHeartbeats 4000000 in
set_option maxRecDepth 100000 in
theorem p_S_sign (g : xw_G) (l : Launch) {n t : Nat} {co se ke f1 f2 e1 e2 x1 x2 fa we sh : Nat → Nat} {dn op ms ps md tk bl : Int32} {pr ch sm : Nat} {rest : List va_E} (hn : n ≤ 6) (ht : t ≤ 6) {i : Nat} (h1 : 1 ≤ i) (hi : i ≤ n) (hco : ∀ j, co j < 2 ^ 31) (hse : ∀ j, se j < 2 ^ 31) (hke : ∀ j, ke j < 2 ^ 31) (hf1 : ∀ j, f1 j < 2 ^ 31) (hf2 : ∀ j, f2 j < 2 ^ 31) (he1 : ∀ j, e1 j < 2 ^ 31) (he2 : ∀ j, e2 j < 2 ^ 31) (hx1 : ∀ j, x1 j < 2 ^ 31) (hx2 : ∀ j, x2 j < 2 ^ 31) (hfa : ∀ j, fa j < 2 ^ 30) (hwe : ∀ j, we j < 2 ^ 31) (hch : ch < 2 ^ 31) (hsh : ∀ j, sh j < 2 ^ 31) (hpr : pr < 2 ^ 31) (hsm : sm < 2 ^ 31) (hp9 : hs ps i = true) : xm_R g l false m_S_sign [.ref 0, .int (nI i)] (hC g n t co se ke dn f1 f2 e1 e2 op x1 x2 fa we sh ms ps md tk bl pr ch sm ++ rest) (some (.long (lN (((f1 i + f2 i * fa i % 1073741789) % 1073741789 + ch * we i % 1073741789 * se i % 1073741789) % 1073741789)))) (hC g n t co se ke dn f1 f2 e1 e2 (op &&& (on_ i ^^^ (-1))) x1 x2 fa we (va_up sh i (((f1 i + f2 i * fa i % 1073741789) % 1073741789 + ch * we i % 1073741789 * se i % 1073741789) % 1073741789)) ms (ps &&& (on_ i ^^^ (-1))) (md ||| on_ i) tk bl pr ch sm ++ rest) := by
  refine xm_of [some (.ref 0), some (.int (nI i))] rfl (Nat.le_of_ble_eq_true rfl) rfl ?_
  intro p e s m args below meth c C hr hk
  refine xa_aload_n C dS_sign_0 rfl ?_
  refine xa_iload_n C dS_sign_1 rfl ?_
  refine xa_callVv C (p_S_requireSigner g l _ (sg_nI hn h1 hi)) b_S_64 (xw_in wi_S_requireSigner rfl) e_S_requireSigner dS_sign_2 rfl rfl rfl rfl (Nat.le_of_ble_eq_true rfl) ⟨Nat.le_of_ble_eq_true rfl, Nat.le_of_ble_eq_true rfl⟩ ⟨Nat.zero_le _, Nat.zero_le _⟩ ?_
  refine xa_aload_n C dS_sign_5 rfl ?_
  refine xa_get C f_S_46 dS_sign_6 rfl rfl ?_
  refine xa_get C f_S_103 dS_sign_9 rfl rfl ?_
  refine xa_iload_n C dS_sign_12 rfl ?_
  refine xa_callS1 C (p_I_hasN g l _ (by omega) (by omega) _) b_S_106 (xw_in wt_I_has rfl) dS_sign_13 rfl (Nat.le_of_ble_eq_true rfl) ⟨Nat.le_of_ble_eq_true rfl, Nat.le_of_ble_eq_true rfl⟩ ⟨Nat.zero_le _, Nat.zero_le _⟩ ?_
  refine xa_if_ne C dS_sign_16 (tgt := 29) rfl (fun h16 => ?_) (fun h16 => ?_)
  · refine xa_aload_n C dS_sign_29 rfl ?_
    refine xa_get C f_S_46 dS_sign_30 rfl rfl ?_
    refine xa_iload_n C dS_sign_33 rfl ?_
    refine xa_aload_n C dS_sign_34 rfl ?_
    refine xa_get C f_S_30 dS_sign_35 rfl rfl ?_
    refine xa_get C f_S_114 dS_sign_38 rfl rfl ?_
    refine xa_iload_n C dS_sign_41 rfl ?_
    refine xa_laloadN C dS_sign_42 rfl ?_ (by omega) ?_
    · omega
    refine xa_aload_n C dS_sign_43 rfl ?_
    refine xa_get C f_S_39 dS_sign_44 rfl rfl ?_
    refine xa_callVv C (p_X_makeShare g l hn ht h1 hi hx1 hx2 hfa hwe hch hf1 hf2 (hse _)) b_S_117 (xw_in wi_X_makeShare rfl) e_X_makeShare dS_sign_47 rfl rfl rfl rfl (Nat.le_of_ble_eq_true rfl) ⟨Nat.le_of_ble_eq_true rfl, Nat.le_of_ble_eq_true rfl⟩ ⟨Nat.zero_le _, Nat.zero_le _⟩ ?_
    refine xa_aload_n C dS_sign_50 rfl ?_
    refine xa_get C f_S_46 dS_sign_51 rfl rfl ?_
    refine xa_iload_n C dS_sign_54 rfl ?_
    refine xa_callVv C (p_X_losePair g l hn ht h1 hi) b_S_74 (xw_in wi_X_losePair rfl) e_X_losePair dS_sign_55 rfl rfl rfl rfl (Nat.le_of_ble_eq_true rfl) ⟨Nat.le_of_ble_eq_true rfl, Nat.le_of_ble_eq_true rfl⟩ ⟨Nat.zero_le _, Nat.zero_le _⟩ ?_
    refine xa_aload_n C dS_sign_58 rfl ?_
    refine xa_get C f_S_39 dS_sign_59 rfl rfl ?_
    refine xa_iload_n C dS_sign_62 rfl ?_
    refine xa_callVv C (p_P_drop g l hn ht h1 hi) b_S_121 (xw_in wi_P_drop rfl) e_P_drop dS_sign_63 rfl rfl rfl rfl (Nat.le_of_ble_eq_true rfl) ⟨Nat.le_of_ble_eq_true rfl, Nat.le_of_ble_eq_true rfl⟩ ⟨Nat.zero_le _, Nat.zero_le _⟩ ?_
    refine xa_aload_n C dS_sign_66 rfl ?_
    refine xa_get C f_S_46 dS_sign_67 rfl rfl ?_
    refine xa_get C f_S_124 dS_sign_70 rfl rfl ?_
    refine xa_iload_n C dS_sign_73 rfl ?_
    refine xa_laloadN C dS_sign_74 rfl ?_ (by omega) ?_
    · omega
    rw [va_up_s]
    exact xa_eq rfl rfl rfl (xa_lret C hr hk dS_sign_75)
  · exact absurd hp9 (xb_eq0.mp h16)
set_option maxHeartbeats 4000000 in
set_option maxRecDepth 100000 in
theorem q_S_sign_a (g : xw_G) {l : Launch} (htr : xw_tr l) {n t : Nat} {co se ke f1 f2 e1 e2 x1 x2 fa we sh : Nat → Nat} {dn op ms ps md tk bl : Int32} {pr ch sm : Nat} {rest : List va_E} (x : Int32) (hx : ¬ sg n x) : xt_R g l m_S_sign [.ref 0, .int x] (hC g n t co se ke dn f1 f2 e1 e2 op x1 x2 fa we sh ms ps md tk bl pr ch sm ++ rest) "java/lang/IllegalArgumentException" := by
  refine xt_of [some (.ref 0), some (.int x)] rfl (Nat.le_of_ble_eq_true rfl) rfl ?_
  intro p e s m args below meth c C hE hk
  refine xa_aload_n C dS_sign_0 rfl ?_
  refine xa_iload_n C dS_sign_1 rfl ?_
  exact xa_throwV C hE hk (q_S_requireSigner g htr _ hx) b_S_64 (xw_in wi_S_requireSigner rfl) e_S_requireSigner dS_sign_2 rfl rfl rfl rfl (Nat.le_of_ble_eq_true rfl) ⟨Nat.le_of_ble_eq_true rfl, Nat.le_of_ble_eq_true rfl⟩ ⟨Nat.le_of_ble_eq_true rfl, Nat.le_of_ble_eq_true rfl⟩
set_option maxHeartbeats 4000000 in
set_option maxRecDepth 100000 in
theorem q_S_sign_b (g : xw_G) {l : Launch} (htr : xw_tr l) {n t : Nat} {co se ke f1 f2 e1 e2 x1 x2 fa we sh : Nat → Nat} {dn op ms ps md tk bl : Int32} {pr ch sm : Nat} {rest : List va_E} (hn : n ≤ 6) {i : Nat} (h1 : 1 ≤ i) (hi : i ≤ n) (hp9 : hs ps i = false) : xt_R g l m_S_sign [.ref 0, .int (nI i)] (hC g n t co se ke dn f1 f2 e1 e2 op x1 x2 fa we sh ms ps md tk bl pr ch sm ++ rest) "java/lang/IllegalStateException" := by
  refine xt_of [some (.ref 0), some (.int (nI i))] rfl (Nat.le_of_ble_eq_true rfl) rfl ?_
  intro p e s m args below meth c C hE hk
  refine xa_aload_n C dS_sign_0 rfl ?_
  refine xa_iload_n C dS_sign_1 rfl ?_
  refine xa_callVv C (p_S_requireSigner g l _ (sg_nI hn h1 hi)) b_S_64 (xw_in wi_S_requireSigner rfl) e_S_requireSigner dS_sign_2 rfl rfl rfl rfl (Nat.le_of_ble_eq_true rfl) ⟨Nat.le_of_ble_eq_true rfl, Nat.le_of_ble_eq_true rfl⟩ ⟨Nat.zero_le _, Nat.zero_le _⟩ ?_
  refine xa_aload_n C dS_sign_5 rfl ?_
  refine xa_get C f_S_46 dS_sign_6 rfl rfl ?_
  refine xa_get C f_S_103 dS_sign_9 rfl rfl ?_
  refine xa_iload_n C dS_sign_12 rfl ?_
  refine xa_callS1 C (p_I_hasN g l _ (by omega) (by omega) _) b_S_106 (xw_in wt_I_has rfl) dS_sign_13 rfl (Nat.le_of_ble_eq_true rfl) ⟨Nat.le_of_ble_eq_true rfl, Nat.le_of_ble_eq_true rfl⟩ ⟨Nat.zero_le _, Nat.zero_le _⟩ ?_
  refine xa_if_ne C dS_sign_16 (tgt := 29) rfl (fun h16 => ?_) (fun h16 => ?_)
  · exact absurd (xb_f (by rw [hp9]; decide)) h16
  · exact xa_throw C htr hE hk tk_S_sign_19 dS_sign_19 dS_sign_22 dS_sign_23 dS_sign_25 dS_sign_28 ⟨Nat.le_of_ble_eq_true rfl, Nat.le_of_ble_eq_true rfl⟩ ⟨Nat.le_of_ble_eq_true rfl, Nat.le_of_ble_eq_true rfl⟩
theorem nm_lt {z : Nat} (h : z < 1073741789) : (0 : Int64) ≤ lN z ∧ lN z < 1073741789 := by
  constructor
  · exact (pk_lLE (a := 0) (b := z) (by decide) (by omega)).mpr (Nat.zero_le _)
  · exact (pk_lLT (a := z) (b := 1073741789) (by omega) (by decide)).mpr h
theorem nm_of {x : Int64} (h : 0 ≤ x ∧ x < 1073741789) : ∃ z : Nat, z < 1073741789 ∧ x = lN z := by
  obtain ⟨k, hk, rfl⟩ := pk_lOf (Int64.not_lt.mpr h.1)
  exact ⟨k, (pk_lLT (a := k) (b := 1073741789) hk (by decide)).mp h.2, rfl⟩
theorem el_of {x : Int64} (h : 1 ≤ x ∧ x < 2147483579) : ∃ z : Nat, 1 ≤ z ∧ z < 2147483579 ∧ x = lN z := by
  have h0 : ¬ x < 0 := by
    have := h.1
    rw [Int64.le_iff_toInt_le] at this
    rw [Int64.lt_iff_toInt_lt]
    have e1 : (1 : Int64).toInt = 1 := by decide
    have e0 : (0 : Int64).toInt = 0 := by decide
    omega
  obtain ⟨k, hk, rfl⟩ := pk_lOf h0
  exact ⟨k, (pk_lLE (a := 1) (b := k) (by decide) hk).mp h.1, (pk_lLT (a := k) (b := 2147483579) hk (by decide)).mp h.2, rfl⟩
set_option maxHeartbeats 4000000 in
set_option maxRecDepth 100000 in
theorem p_S_submit_t (g : xw_G) (l : Launch) {n t : Nat} {co se ke f1 f2 e1 e2 x1 x2 fa we sh : Nat → Nat} {dn op ms ps md tk bl : Int32} {pr ch sm : Nat} {rest : List va_E} (hn : n ≤ 6) (ht : t ≤ 6) {i : Nat} (h1 : 1 ≤ i) (hi : i ≤ n) (hco : ∀ j, co j < 2 ^ 31) (hse : ∀ j, se j < 2 ^ 31) (hke : ∀ j, ke j < 2 ^ 31) (hf1 : ∀ j, f1 j < 2 ^ 31) (hf2 : ∀ j, f2 j < 2 ^ 31) (he1 : ∀ j, e1 j < 2 ^ 31) (he2 : ∀ j, e2 j < 2 ^ 31) (hx1 : ∀ j, x1 j < 2 ^ 31) (hx2 : ∀ j, x2 j < 2 ^ 31) (hfa : ∀ j, fa j < 2 ^ 30) (hwe : ∀ j, we j < 2 ^ 31) (hch : ch < 2 ^ 31) (hsh : ∀ j, sh j < 2 ^ 31) (hpr : pr < 2 ^ 31) (hsm : sm < 2 ^ 31) {z : Nat} (hz : z < 1073741789) (hm : hs ms i = true) (hk9 : hs tk i = false) (hR : 4 ^ z % 2147483579 = (x1 i * (x2 i ^ fa i % 2147483579) % 2147483579) * (ke i ^ (ch * we i % 1073741789) % 2147483579) % 2147483579) : xm_R g l false m_S_submit [.ref 0, .int (nI i), .long (lN z)] (hC g n t co se ke dn f1 f2 e1 e2 op x1 x2 fa we sh ms ps md tk bl pr ch sm ++ rest) (some (.int 1)) (hC g n t co se ke dn f1 f2 e1 e2 op x1 x2 fa we sh ms ps md (tk ||| on_ i) bl pr ch ((sm + z) % 1073741789) ++ rest) := by
  refine xm_of [some (.ref 0), some (.int (nI i)), some (.long (lN z)), none] rfl (Nat.le_of_ble_eq_true rfl) rfl ?_
  intro p e s m args below meth c C hr hk
  refine xa_aload_n C dS_submit_0 rfl ?_
  refine xa_iload_n C dS_submit_1 rfl ?_
  refine xa_callVv C (p_S_requireSigner g l _ (sg_nI hn h1 hi)) b_S_64 (xw_in wi_S_requireSigner rfl) e_S_requireSigner dS_submit_2 rfl rfl rfl rfl (Nat.le_of_ble_eq_true rfl) ⟨Nat.le_of_ble_eq_true rfl, Nat.le_of_ble_eq_true rfl⟩ ⟨Nat.zero_le _, Nat.zero_le _⟩ ?_
  refine xa_aload_n C dS_submit_5 rfl ?_
  refine xa_lload_n C dS_submit_6 rfl ?_
  refine xa_callVv C (p_S_requireNumber g l _ (nm_lt hz)) b_S_127 (xw_in wi_S_requireNumber rfl) e_S_requireNumber dS_submit_7 rfl rfl rfl rfl (Nat.le_of_ble_eq_true rfl) ⟨Nat.le_of_ble_eq_true rfl, Nat.le_of_ble_eq_true rfl⟩ ⟨Nat.zero_le _, Nat.zero_le _⟩ ?_
  refine xa_aload_n C dS_submit_10 rfl ?_
  refine xa_iload_n C dS_submit_11 rfl ?_
  refine xa_callVv C (p_S_requireUntaken g l hn h1 hi hm hk9) b_S_130 (xw_in wi_S_requireUntaken rfl) e_S_requireUntaken dS_submit_12 rfl rfl rfl rfl (Nat.le_of_ble_eq_true rfl) ⟨Nat.le_of_ble_eq_true rfl, Nat.le_of_ble_eq_true rfl⟩ ⟨Nat.zero_le _, Nat.zero_le _⟩ ?_
  refine xa_aload_n C dS_submit_15 rfl ?_
  refine xa_get C f_S_46 dS_submit_16 rfl rfl ?_
  refine xa_iload_n C dS_submit_19 rfl ?_
  refine xa_lload_n C dS_submit_20 rfl ?_
  refine xa_aload_n C dS_submit_21 rfl ?_
  refine xa_get C f_S_30 dS_submit_22 rfl rfl ?_
  refine xa_get C f_S_133 dS_submit_25 rfl rfl ?_
  refine xa_iload_n C dS_submit_28 rfl ?_
  refine xa_laloadN C dS_submit_29 rfl ?_ (by omega) ?_
  · omega
  refine xa_callV1 C (p_X_tell_t g l hn ht h1 hi hx1 hx2 hfa hwe hch hsm (by first | omega | exact Nat.lt_trans (Nat.mod_lt _ (by decide)) (by decide)) (hke _) hR) b_S_136 (xw_in wi_X_tell rfl) e_X_tell dS_submit_30 rfl rfl rfl rfl (Nat.le_of_ble_eq_true rfl) ⟨Nat.le_of_ble_eq_true rfl, Nat.le_of_ble_eq_true rfl⟩ ⟨Nat.zero_le _, Nat.zero_le _⟩ ?_
  exact xa_eq rfl rfl rfl (xa_zret C hr hk rfl dS_submit_33)
set_option maxHeartbeats 4000000 in
set_option maxRecDepth 100000 in
theorem p_S_submit_f (g : xw_G) (l : Launch) {n t : Nat} {co se ke f1 f2 e1 e2 x1 x2 fa we sh : Nat → Nat} {dn op ms ps md tk bl : Int32} {pr ch sm : Nat} {rest : List va_E} (hn : n ≤ 6) (ht : t ≤ 6) {i : Nat} (h1 : 1 ≤ i) (hi : i ≤ n) (hco : ∀ j, co j < 2 ^ 31) (hse : ∀ j, se j < 2 ^ 31) (hke : ∀ j, ke j < 2 ^ 31) (hf1 : ∀ j, f1 j < 2 ^ 31) (hf2 : ∀ j, f2 j < 2 ^ 31) (he1 : ∀ j, e1 j < 2 ^ 31) (he2 : ∀ j, e2 j < 2 ^ 31) (hx1 : ∀ j, x1 j < 2 ^ 31) (hx2 : ∀ j, x2 j < 2 ^ 31) (hfa : ∀ j, fa j < 2 ^ 30) (hwe : ∀ j, we j < 2 ^ 31) (hch : ch < 2 ^ 31) (hsh : ∀ j, sh j < 2 ^ 31) (hpr : pr < 2 ^ 31) (hsm : sm < 2 ^ 31) {z : Nat} (hz : z < 1073741789) (hm : hs ms i = true) (hk9 : hs tk i = false) (hR : ¬ 4 ^ z % 2147483579 = (x1 i * (x2 i ^ fa i % 2147483579) % 2147483579) * (ke i ^ (ch * we i % 1073741789) % 2147483579) % 2147483579) : xm_R g l false m_S_submit [.ref 0, .int (nI i), .long (lN z)] (hC g n t co se ke dn f1 f2 e1 e2 op x1 x2 fa we sh ms ps md tk bl pr ch sm ++ rest) (some (.int 0)) (hC g n t co se ke dn f1 f2 e1 e2 op x1 x2 fa we sh ms ps md tk (bl ||| on_ i) pr ch sm ++ rest) := by
  refine xm_of [some (.ref 0), some (.int (nI i)), some (.long (lN z)), none] rfl (Nat.le_of_ble_eq_true rfl) rfl ?_
  intro p e s m args below meth c C hr hk
  refine xa_aload_n C dS_submit_0 rfl ?_
  refine xa_iload_n C dS_submit_1 rfl ?_
  refine xa_callVv C (p_S_requireSigner g l _ (sg_nI hn h1 hi)) b_S_64 (xw_in wi_S_requireSigner rfl) e_S_requireSigner dS_submit_2 rfl rfl rfl rfl (Nat.le_of_ble_eq_true rfl) ⟨Nat.le_of_ble_eq_true rfl, Nat.le_of_ble_eq_true rfl⟩ ⟨Nat.zero_le _, Nat.zero_le _⟩ ?_
  refine xa_aload_n C dS_submit_5 rfl ?_
  refine xa_lload_n C dS_submit_6 rfl ?_
  refine xa_callVv C (p_S_requireNumber g l _ (nm_lt hz)) b_S_127 (xw_in wi_S_requireNumber rfl) e_S_requireNumber dS_submit_7 rfl rfl rfl rfl (Nat.le_of_ble_eq_true rfl) ⟨Nat.le_of_ble_eq_true rfl, Nat.le_of_ble_eq_true rfl⟩ ⟨Nat.zero_le _, Nat.zero_le _⟩ ?_
  refine xa_aload_n C dS_submit_10 rfl ?_
  refine xa_iload_n C dS_submit_11 rfl ?_
  refine xa_callVv C (p_S_requireUntaken g l hn h1 hi hm hk9) b_S_130 (xw_in wi_S_requireUntaken rfl) e_S_requireUntaken dS_submit_12 rfl rfl rfl rfl (Nat.le_of_ble_eq_true rfl) ⟨Nat.le_of_ble_eq_true rfl, Nat.le_of_ble_eq_true rfl⟩ ⟨Nat.zero_le _, Nat.zero_le _⟩ ?_
  refine xa_aload_n C dS_submit_15 rfl ?_
  refine xa_get C f_S_46 dS_submit_16 rfl rfl ?_
  refine xa_iload_n C dS_submit_19 rfl ?_
  refine xa_lload_n C dS_submit_20 rfl ?_
  refine xa_aload_n C dS_submit_21 rfl ?_
  refine xa_get C f_S_30 dS_submit_22 rfl rfl ?_
  refine xa_get C f_S_133 dS_submit_25 rfl rfl ?_
  refine xa_iload_n C dS_submit_28 rfl ?_
  refine xa_laloadN C dS_submit_29 rfl ?_ (by omega) ?_
  · omega
  refine xa_callV1 C (p_X_tell_f g l hn ht h1 hi hx1 hx2 hfa hwe hch hsm (by first | omega | exact Nat.lt_trans (Nat.mod_lt _ (by decide)) (by decide)) (hke _) hR) b_S_136 (xw_in wi_X_tell rfl) e_X_tell dS_submit_30 rfl rfl rfl rfl (Nat.le_of_ble_eq_true rfl) ⟨Nat.le_of_ble_eq_true rfl, Nat.le_of_ble_eq_true rfl⟩ ⟨Nat.zero_le _, Nat.zero_le _⟩ ?_
  exact xa_eq rfl rfl rfl (xa_zret C hr hk rfl dS_submit_33)
set_option maxHeartbeats 4000000 in
set_option maxRecDepth 100000 in
theorem q_S_submit_a (g : xw_G) {l : Launch} (htr : xw_tr l) {n t : Nat} {co se ke f1 f2 e1 e2 x1 x2 fa we sh : Nat → Nat} {dn op ms ps md tk bl : Int32} {pr ch sm : Nat} {rest : List va_E} (x : Int32) (hx : ¬ sg n x) (w : Int64) : xt_R g l m_S_submit [.ref 0, .int x, .long w] (hC g n t co se ke dn f1 f2 e1 e2 op x1 x2 fa we sh ms ps md tk bl pr ch sm ++ rest) "java/lang/IllegalArgumentException" := by
  refine xt_of [some (.ref 0), some (.int x), some (.long w), none] rfl (Nat.le_of_ble_eq_true rfl) rfl ?_
  intro p e s m args below meth c C hE hk
  refine xa_aload_n C dS_submit_0 rfl ?_
  refine xa_iload_n C dS_submit_1 rfl ?_
  exact xa_throwV C hE hk (q_S_requireSigner g htr _ hx) b_S_64 (xw_in wi_S_requireSigner rfl) e_S_requireSigner dS_submit_2 rfl rfl rfl rfl (Nat.le_of_ble_eq_true rfl) ⟨Nat.le_of_ble_eq_true rfl, Nat.le_of_ble_eq_true rfl⟩ ⟨Nat.le_of_ble_eq_true rfl, Nat.le_of_ble_eq_true rfl⟩
set_option maxHeartbeats 4000000 in
set_option maxRecDepth 100000 in
theorem q_S_submit_b (g : xw_G) {l : Launch} (htr : xw_tr l) {n t : Nat} {co se ke f1 f2 e1 e2 x1 x2 fa we sh : Nat → Nat} {dn op ms ps md tk bl : Int32} {pr ch sm : Nat} {rest : List va_E} (hn : n ≤ 6) {i : Nat} (h1 : 1 ≤ i) (hi : i ≤ n) (w : Int64) (hw : ¬ (0 ≤ w ∧ w < 1073741789)) : xt_R g l m_S_submit [.ref 0, .int (nI i), .long w] (hC g n t co se ke dn f1 f2 e1 e2 op x1 x2 fa we sh ms ps md tk bl pr ch sm ++ rest) "java/lang/IllegalArgumentException" := by
  refine xt_of [some (.ref 0), some (.int (nI i)), some (.long w), none] rfl (Nat.le_of_ble_eq_true rfl) rfl ?_
  intro p e s m args below meth c C hE hk
  refine xa_aload_n C dS_submit_0 rfl ?_
  refine xa_iload_n C dS_submit_1 rfl ?_
  refine xa_callVv C (p_S_requireSigner g l _ (sg_nI hn h1 hi)) b_S_64 (xw_in wi_S_requireSigner rfl) e_S_requireSigner dS_submit_2 rfl rfl rfl rfl (Nat.le_of_ble_eq_true rfl) ⟨Nat.le_of_ble_eq_true rfl, Nat.le_of_ble_eq_true rfl⟩ ⟨Nat.zero_le _, Nat.zero_le _⟩ ?_
  refine xa_aload_n C dS_submit_5 rfl ?_
  refine xa_lload_n C dS_submit_6 rfl ?_
  exact xa_throwV C hE hk (q_S_requireNumber g htr _ hw) b_S_127 (xw_in wi_S_requireNumber rfl) e_S_requireNumber dS_submit_7 rfl rfl rfl rfl (Nat.le_of_ble_eq_true rfl) ⟨Nat.le_of_ble_eq_true rfl, Nat.le_of_ble_eq_true rfl⟩ ⟨Nat.le_of_ble_eq_true rfl, Nat.le_of_ble_eq_true rfl⟩
set_option maxHeartbeats 4000000 in
set_option maxRecDepth 100000 in
theorem q_S_submit_c (g : xw_G) {l : Launch} (htr : xw_tr l) {n t : Nat} {co se ke f1 f2 e1 e2 x1 x2 fa we sh : Nat → Nat} {dn op ms ps md tk bl : Int32} {pr ch sm : Nat} {rest : List va_E} (hn : n ≤ 6) {i : Nat} (h1 : 1 ≤ i) (hi : i ≤ n) {z : Nat} (hz : z < 1073741789) (hm : hs ms i = false ∨ hs tk i = true) : xt_R g l m_S_submit [.ref 0, .int (nI i), .long (lN z)] (hC g n t co se ke dn f1 f2 e1 e2 op x1 x2 fa we sh ms ps md tk bl pr ch sm ++ rest) "java/lang/IllegalStateException" := by
  refine xt_of [some (.ref 0), some (.int (nI i)), some (.long (lN z)), none] rfl (Nat.le_of_ble_eq_true rfl) rfl ?_
  intro p e s m args below meth c C hE hk
  refine xa_aload_n C dS_submit_0 rfl ?_
  refine xa_iload_n C dS_submit_1 rfl ?_
  refine xa_callVv C (p_S_requireSigner g l _ (sg_nI hn h1 hi)) b_S_64 (xw_in wi_S_requireSigner rfl) e_S_requireSigner dS_submit_2 rfl rfl rfl rfl (Nat.le_of_ble_eq_true rfl) ⟨Nat.le_of_ble_eq_true rfl, Nat.le_of_ble_eq_true rfl⟩ ⟨Nat.zero_le _, Nat.zero_le _⟩ ?_
  refine xa_aload_n C dS_submit_5 rfl ?_
  refine xa_lload_n C dS_submit_6 rfl ?_
  refine xa_callVv C (p_S_requireNumber g l _ (nm_lt hz)) b_S_127 (xw_in wi_S_requireNumber rfl) e_S_requireNumber dS_submit_7 rfl rfl rfl rfl (Nat.le_of_ble_eq_true rfl) ⟨Nat.le_of_ble_eq_true rfl, Nat.le_of_ble_eq_true rfl⟩ ⟨Nat.zero_le _, Nat.zero_le _⟩ ?_
  refine xa_aload_n C dS_submit_10 rfl ?_
  refine xa_iload_n C dS_submit_11 rfl ?_
  exact xa_throwV C hE hk (q_S_requireUntaken g htr hn h1 hi hm) b_S_130 (xw_in wi_S_requireUntaken rfl) e_S_requireUntaken dS_submit_12 rfl rfl rfl rfl (Nat.le_of_ble_eq_true rfl) ⟨Nat.le_of_ble_eq_true rfl, Nat.le_of_ble_eq_true rfl⟩ ⟨Nat.le_of_ble_eq_true rfl, Nat.le_of_ble_eq_true rfl⟩
set_option maxHeartbeats 4000000 in
set_option maxRecDepth 100000 in
theorem p_S_relay_t (g : xw_G) (l : Launch) {n t : Nat} {co se ke f1 f2 e1 e2 x1 x2 fa we sh : Nat → Nat} {dn op ms ps md tk bl : Int32} {pr ch sm : Nat} {rest : List va_E} (hn : n ≤ 6) (ht : t ≤ 6) {i : Nat} (h1 : 1 ≤ i) (hi : i ≤ n) (hco : ∀ j, co j < 2 ^ 31) (hse : ∀ j, se j < 2 ^ 31) (hke : ∀ j, ke j < 2 ^ 31) (hf1 : ∀ j, f1 j < 2 ^ 31) (hf2 : ∀ j, f2 j < 2 ^ 31) (he1 : ∀ j, e1 j < 2 ^ 31) (he2 : ∀ j, e2 j < 2 ^ 31) (hx1 : ∀ j, x1 j < 2 ^ 31) (hx2 : ∀ j, x2 j < 2 ^ 31) (hfa : ∀ j, fa j < 2 ^ 30) (hwe : ∀ j, we j < 2 ^ 31) (hch : ch < 2 ^ 31) (hsh : ∀ j, sh j < 2 ^ 31) (hpr : pr < 2 ^ 31) (hsm : sm < 2 ^ 31) {z : Nat} (hz : z < 1073741789) (hm : hs ms i = true) (hk9 : hs tk i = false) (hmd : hs md i = true) (hR : 4 ^ ((sh i + z) % 1073741789) % 2147483579 = (x1 i * (x2 i ^ fa i % 2147483579) % 2147483579) * (ke i ^ (ch * we i % 1073741789) % 2147483579) % 2147483579) : xm_R g l false m_S_relay [.ref 0, .int (nI i), .long (lN z)] (hC g n t co se ke dn f1 f2 e1 e2 op x1 x2 fa we sh ms ps md tk bl pr ch sm ++ rest) (some (.int 1)) (hC g n t co se ke dn f1 f2 e1 e2 op x1 x2 fa we sh ms ps md (tk ||| on_ i) bl pr ch ((sm + ((sh i + z) % 1073741789)) % 1073741789) ++ rest) := by
  refine xm_of [some (.ref 0), some (.int (nI i)), some (.long (lN z)), none] rfl (Nat.le_of_ble_eq_true rfl) rfl ?_
  intro p e s m args below meth c C hr hk
  refine xa_aload_n C dS_relay_0 rfl ?_
  refine xa_iload_n C dS_relay_1 rfl ?_
  refine xa_callVv C (p_S_requireSigner g l _ (sg_nI hn h1 hi)) b_S_64 (xw_in wi_S_requireSigner rfl) e_S_requireSigner dS_relay_2 rfl rfl rfl rfl (Nat.le_of_ble_eq_true rfl) ⟨Nat.le_of_ble_eq_true rfl, Nat.le_of_ble_eq_true rfl⟩ ⟨Nat.zero_le _, Nat.zero_le _⟩ ?_
  refine xa_aload_n C dS_relay_5 rfl ?_
  refine xa_lload_n C dS_relay_6 rfl ?_
  refine xa_callVv C (p_S_requireNumber g l _ (nm_lt hz)) b_S_127 (xw_in wi_S_requireNumber rfl) e_S_requireNumber dS_relay_7 rfl rfl rfl rfl (Nat.le_of_ble_eq_true rfl) ⟨Nat.le_of_ble_eq_true rfl, Nat.le_of_ble_eq_true rfl⟩ ⟨Nat.zero_le _, Nat.zero_le _⟩ ?_
  refine xa_aload_n C dS_relay_10 rfl ?_
  refine xa_iload_n C dS_relay_11 rfl ?_
  refine xa_callVv C (p_S_requireUntaken g l hn h1 hi hm hk9) b_S_130 (xw_in wi_S_requireUntaken rfl) e_S_requireUntaken dS_relay_12 rfl rfl rfl rfl (Nat.le_of_ble_eq_true rfl) ⟨Nat.le_of_ble_eq_true rfl, Nat.le_of_ble_eq_true rfl⟩ ⟨Nat.zero_le _, Nat.zero_le _⟩ ?_
  refine xa_aload_n C dS_relay_15 rfl ?_
  refine xa_get C f_S_46 dS_relay_16 rfl rfl ?_
  refine xa_get C f_S_140 dS_relay_19 rfl rfl ?_
  refine xa_iload_n C dS_relay_22 rfl ?_
  refine xa_callS1 C (p_I_hasN g l _ (by omega) (by omega) _) b_S_106 (xw_in wt_I_has rfl) dS_relay_23 rfl (Nat.le_of_ble_eq_true rfl) ⟨Nat.le_of_ble_eq_true rfl, Nat.le_of_ble_eq_true rfl⟩ ⟨Nat.zero_le _, Nat.zero_le _⟩ ?_
  refine xa_if_ne C dS_relay_26 (tgt := 39) rfl (fun h26 => ?_) (fun h26 => ?_)
  · refine xa_aload_n C dS_relay_39 rfl ?_
    refine xa_get C f_S_46 dS_relay_40 rfl rfl ?_
    refine xa_iload_n C dS_relay_43 rfl ?_
    refine xa_aload_n C dS_relay_44 rfl ?_
    refine xa_get C f_S_46 dS_relay_45 rfl rfl ?_
    refine xa_get C f_S_124 dS_relay_48 rfl rfl ?_
    refine xa_iload_n C dS_relay_51 rfl ?_
    refine xa_laloadN C dS_relay_52 rfl ?_ (by omega) ?_
    · omega
    refine xa_lload_n C dS_relay_53 rfl ?_
    refine xa_callS1 C (p_N_plus g l (hsh _) (by omega) _) b_S_145 (xw_in wt_N_plus rfl) dS_relay_54 rfl (Nat.le_of_ble_eq_true rfl) ⟨Nat.le_of_ble_eq_true rfl, Nat.le_of_ble_eq_true rfl⟩ ⟨Nat.zero_le _, Nat.zero_le _⟩ ?_
    refine xa_aload_n C dS_relay_57 rfl ?_
    refine xa_get C f_S_30 dS_relay_58 rfl rfl ?_
    refine xa_get C f_S_133 dS_relay_61 rfl rfl ?_
    refine xa_iload_n C dS_relay_64 rfl ?_
    refine xa_laloadN C dS_relay_65 rfl ?_ (by omega) ?_
    · omega
    refine xa_callV1 C (p_X_tell_t g l hn ht h1 hi hx1 hx2 hfa hwe hch hsm (by first | omega | exact Nat.lt_trans (Nat.mod_lt _ (by decide)) (by decide)) (hke _) hR) b_S_136 (xw_in wi_X_tell rfl) e_X_tell dS_relay_66 rfl rfl rfl rfl (Nat.le_of_ble_eq_true rfl) ⟨Nat.le_of_ble_eq_true rfl, Nat.le_of_ble_eq_true rfl⟩ ⟨Nat.zero_le _, Nat.zero_le _⟩ ?_
    exact xa_eq rfl rfl rfl (xa_zret C hr hk rfl dS_relay_69)
  · exact absurd hmd (xb_eq0.mp h26)
set_option maxHeartbeats 4000000 in
set_option maxRecDepth 100000 in
theorem p_S_relay_f (g : xw_G) (l : Launch) {n t : Nat} {co se ke f1 f2 e1 e2 x1 x2 fa we sh : Nat → Nat} {dn op ms ps md tk bl : Int32} {pr ch sm : Nat} {rest : List va_E} (hn : n ≤ 6) (ht : t ≤ 6) {i : Nat} (h1 : 1 ≤ i) (hi : i ≤ n) (hco : ∀ j, co j < 2 ^ 31) (hse : ∀ j, se j < 2 ^ 31) (hke : ∀ j, ke j < 2 ^ 31) (hf1 : ∀ j, f1 j < 2 ^ 31) (hf2 : ∀ j, f2 j < 2 ^ 31) (he1 : ∀ j, e1 j < 2 ^ 31) (he2 : ∀ j, e2 j < 2 ^ 31) (hx1 : ∀ j, x1 j < 2 ^ 31) (hx2 : ∀ j, x2 j < 2 ^ 31) (hfa : ∀ j, fa j < 2 ^ 30) (hwe : ∀ j, we j < 2 ^ 31) (hch : ch < 2 ^ 31) (hsh : ∀ j, sh j < 2 ^ 31) (hpr : pr < 2 ^ 31) (hsm : sm < 2 ^ 31) {z : Nat} (hz : z < 1073741789) (hm : hs ms i = true) (hk9 : hs tk i = false) (hmd : hs md i = true) (hR : ¬ 4 ^ ((sh i + z) % 1073741789) % 2147483579 = (x1 i * (x2 i ^ fa i % 2147483579) % 2147483579) * (ke i ^ (ch * we i % 1073741789) % 2147483579) % 2147483579) : xm_R g l false m_S_relay [.ref 0, .int (nI i), .long (lN z)] (hC g n t co se ke dn f1 f2 e1 e2 op x1 x2 fa we sh ms ps md tk bl pr ch sm ++ rest) (some (.int 0)) (hC g n t co se ke dn f1 f2 e1 e2 op x1 x2 fa we sh ms ps md tk (bl ||| on_ i) pr ch sm ++ rest) := by
  refine xm_of [some (.ref 0), some (.int (nI i)), some (.long (lN z)), none] rfl (Nat.le_of_ble_eq_true rfl) rfl ?_
  intro p e s m args below meth c C hr hk
  refine xa_aload_n C dS_relay_0 rfl ?_
  refine xa_iload_n C dS_relay_1 rfl ?_
  refine xa_callVv C (p_S_requireSigner g l _ (sg_nI hn h1 hi)) b_S_64 (xw_in wi_S_requireSigner rfl) e_S_requireSigner dS_relay_2 rfl rfl rfl rfl (Nat.le_of_ble_eq_true rfl) ⟨Nat.le_of_ble_eq_true rfl, Nat.le_of_ble_eq_true rfl⟩ ⟨Nat.zero_le _, Nat.zero_le _⟩ ?_
  refine xa_aload_n C dS_relay_5 rfl ?_
  refine xa_lload_n C dS_relay_6 rfl ?_
  refine xa_callVv C (p_S_requireNumber g l _ (nm_lt hz)) b_S_127 (xw_in wi_S_requireNumber rfl) e_S_requireNumber dS_relay_7 rfl rfl rfl rfl (Nat.le_of_ble_eq_true rfl) ⟨Nat.le_of_ble_eq_true rfl, Nat.le_of_ble_eq_true rfl⟩ ⟨Nat.zero_le _, Nat.zero_le _⟩ ?_
  refine xa_aload_n C dS_relay_10 rfl ?_
  refine xa_iload_n C dS_relay_11 rfl ?_
  refine xa_callVv C (p_S_requireUntaken g l hn h1 hi hm hk9) b_S_130 (xw_in wi_S_requireUntaken rfl) e_S_requireUntaken dS_relay_12 rfl rfl rfl rfl (Nat.le_of_ble_eq_true rfl) ⟨Nat.le_of_ble_eq_true rfl, Nat.le_of_ble_eq_true rfl⟩ ⟨Nat.zero_le _, Nat.zero_le _⟩ ?_
  refine xa_aload_n C dS_relay_15 rfl ?_
  refine xa_get C f_S_46 dS_relay_16 rfl rfl ?_
  refine xa_get C f_S_140 dS_relay_19 rfl rfl ?_
  refine xa_iload_n C dS_relay_22 rfl ?_
  refine xa_callS1 C (p_I_hasN g l _ (by omega) (by omega) _) b_S_106 (xw_in wt_I_has rfl) dS_relay_23 rfl (Nat.le_of_ble_eq_true rfl) ⟨Nat.le_of_ble_eq_true rfl, Nat.le_of_ble_eq_true rfl⟩ ⟨Nat.zero_le _, Nat.zero_le _⟩ ?_
  refine xa_if_ne C dS_relay_26 (tgt := 39) rfl (fun h26 => ?_) (fun h26 => ?_)
  · refine xa_aload_n C dS_relay_39 rfl ?_
    refine xa_get C f_S_46 dS_relay_40 rfl rfl ?_
    refine xa_iload_n C dS_relay_43 rfl ?_
    refine xa_aload_n C dS_relay_44 rfl ?_
    refine xa_get C f_S_46 dS_relay_45 rfl rfl ?_
    refine xa_get C f_S_124 dS_relay_48 rfl rfl ?_
    refine xa_iload_n C dS_relay_51 rfl ?_
    refine xa_laloadN C dS_relay_52 rfl ?_ (by omega) ?_
    · omega
    refine xa_lload_n C dS_relay_53 rfl ?_
    refine xa_callS1 C (p_N_plus g l (hsh _) (by omega) _) b_S_145 (xw_in wt_N_plus rfl) dS_relay_54 rfl (Nat.le_of_ble_eq_true rfl) ⟨Nat.le_of_ble_eq_true rfl, Nat.le_of_ble_eq_true rfl⟩ ⟨Nat.zero_le _, Nat.zero_le _⟩ ?_
    refine xa_aload_n C dS_relay_57 rfl ?_
    refine xa_get C f_S_30 dS_relay_58 rfl rfl ?_
    refine xa_get C f_S_133 dS_relay_61 rfl rfl ?_
    refine xa_iload_n C dS_relay_64 rfl ?_
    refine xa_laloadN C dS_relay_65 rfl ?_ (by omega) ?_
    · omega
    refine xa_callV1 C (p_X_tell_f g l hn ht h1 hi hx1 hx2 hfa hwe hch hsm (by first | omega | exact Nat.lt_trans (Nat.mod_lt _ (by decide)) (by decide)) (hke _) hR) b_S_136 (xw_in wi_X_tell rfl) e_X_tell dS_relay_66 rfl rfl rfl rfl (Nat.le_of_ble_eq_true rfl) ⟨Nat.le_of_ble_eq_true rfl, Nat.le_of_ble_eq_true rfl⟩ ⟨Nat.zero_le _, Nat.zero_le _⟩ ?_
    exact xa_eq rfl rfl rfl (xa_zret C hr hk rfl dS_relay_69)
  · exact absurd hmd (xb_eq0.mp h26)
set_option maxHeartbeats 4000000 in
set_option maxRecDepth 100000 in
theorem q_S_relay_a (g : xw_G) {l : Launch} (htr : xw_tr l) {n t : Nat} {co se ke f1 f2 e1 e2 x1 x2 fa we sh : Nat → Nat} {dn op ms ps md tk bl : Int32} {pr ch sm : Nat} {rest : List va_E} (x : Int32) (hx : ¬ sg n x) (w : Int64) : xt_R g l m_S_relay [.ref 0, .int x, .long w] (hC g n t co se ke dn f1 f2 e1 e2 op x1 x2 fa we sh ms ps md tk bl pr ch sm ++ rest) "java/lang/IllegalArgumentException" := by
  refine xt_of [some (.ref 0), some (.int x), some (.long w), none] rfl (Nat.le_of_ble_eq_true rfl) rfl ?_
  intro p e s m args below meth c C hE hk
  refine xa_aload_n C dS_relay_0 rfl ?_
  refine xa_iload_n C dS_relay_1 rfl ?_
  exact xa_throwV C hE hk (q_S_requireSigner g htr _ hx) b_S_64 (xw_in wi_S_requireSigner rfl) e_S_requireSigner dS_relay_2 rfl rfl rfl rfl (Nat.le_of_ble_eq_true rfl) ⟨Nat.le_of_ble_eq_true rfl, Nat.le_of_ble_eq_true rfl⟩ ⟨Nat.le_of_ble_eq_true rfl, Nat.le_of_ble_eq_true rfl⟩
set_option maxHeartbeats 4000000 in
set_option maxRecDepth 100000 in
theorem q_S_relay_b (g : xw_G) {l : Launch} (htr : xw_tr l) {n t : Nat} {co se ke f1 f2 e1 e2 x1 x2 fa we sh : Nat → Nat} {dn op ms ps md tk bl : Int32} {pr ch sm : Nat} {rest : List va_E} (hn : n ≤ 6) {i : Nat} (h1 : 1 ≤ i) (hi : i ≤ n) (w : Int64) (hw : ¬ (0 ≤ w ∧ w < 1073741789)) : xt_R g l m_S_relay [.ref 0, .int (nI i), .long w] (hC g n t co se ke dn f1 f2 e1 e2 op x1 x2 fa we sh ms ps md tk bl pr ch sm ++ rest) "java/lang/IllegalArgumentException" := by
  refine xt_of [some (.ref 0), some (.int (nI i)), some (.long w), none] rfl (Nat.le_of_ble_eq_true rfl) rfl ?_
  intro p e s m args below meth c C hE hk
  refine xa_aload_n C dS_relay_0 rfl ?_
  refine xa_iload_n C dS_relay_1 rfl ?_
  refine xa_callVv C (p_S_requireSigner g l _ (sg_nI hn h1 hi)) b_S_64 (xw_in wi_S_requireSigner rfl) e_S_requireSigner dS_relay_2 rfl rfl rfl rfl (Nat.le_of_ble_eq_true rfl) ⟨Nat.le_of_ble_eq_true rfl, Nat.le_of_ble_eq_true rfl⟩ ⟨Nat.zero_le _, Nat.zero_le _⟩ ?_
  refine xa_aload_n C dS_relay_5 rfl ?_
  refine xa_lload_n C dS_relay_6 rfl ?_
  exact xa_throwV C hE hk (q_S_requireNumber g htr _ hw) b_S_127 (xw_in wi_S_requireNumber rfl) e_S_requireNumber dS_relay_7 rfl rfl rfl rfl (Nat.le_of_ble_eq_true rfl) ⟨Nat.le_of_ble_eq_true rfl, Nat.le_of_ble_eq_true rfl⟩ ⟨Nat.le_of_ble_eq_true rfl, Nat.le_of_ble_eq_true rfl⟩
set_option maxHeartbeats 4000000 in
set_option maxRecDepth 100000 in
theorem q_S_relay_c (g : xw_G) {l : Launch} (htr : xw_tr l) {n t : Nat} {co se ke f1 f2 e1 e2 x1 x2 fa we sh : Nat → Nat} {dn op ms ps md tk bl : Int32} {pr ch sm : Nat} {rest : List va_E} (hn : n ≤ 6) {i : Nat} (h1 : 1 ≤ i) (hi : i ≤ n) {z : Nat} (hz : z < 1073741789) (hm : hs ms i = false ∨ hs tk i = true) : xt_R g l m_S_relay [.ref 0, .int (nI i), .long (lN z)] (hC g n t co se ke dn f1 f2 e1 e2 op x1 x2 fa we sh ms ps md tk bl pr ch sm ++ rest) "java/lang/IllegalStateException" := by
  refine xt_of [some (.ref 0), some (.int (nI i)), some (.long (lN z)), none] rfl (Nat.le_of_ble_eq_true rfl) rfl ?_
  intro p e s m args below meth c C hE hk
  refine xa_aload_n C dS_relay_0 rfl ?_
  refine xa_iload_n C dS_relay_1 rfl ?_
  refine xa_callVv C (p_S_requireSigner g l _ (sg_nI hn h1 hi)) b_S_64 (xw_in wi_S_requireSigner rfl) e_S_requireSigner dS_relay_2 rfl rfl rfl rfl (Nat.le_of_ble_eq_true rfl) ⟨Nat.le_of_ble_eq_true rfl, Nat.le_of_ble_eq_true rfl⟩ ⟨Nat.zero_le _, Nat.zero_le _⟩ ?_
  refine xa_aload_n C dS_relay_5 rfl ?_
  refine xa_lload_n C dS_relay_6 rfl ?_
  refine xa_callVv C (p_S_requireNumber g l _ (nm_lt hz)) b_S_127 (xw_in wi_S_requireNumber rfl) e_S_requireNumber dS_relay_7 rfl rfl rfl rfl (Nat.le_of_ble_eq_true rfl) ⟨Nat.le_of_ble_eq_true rfl, Nat.le_of_ble_eq_true rfl⟩ ⟨Nat.zero_le _, Nat.zero_le _⟩ ?_
  refine xa_aload_n C dS_relay_10 rfl ?_
  refine xa_iload_n C dS_relay_11 rfl ?_
  exact xa_throwV C hE hk (q_S_requireUntaken g htr hn h1 hi hm) b_S_130 (xw_in wi_S_requireUntaken rfl) e_S_requireUntaken dS_relay_12 rfl rfl rfl rfl (Nat.le_of_ble_eq_true rfl) ⟨Nat.le_of_ble_eq_true rfl, Nat.le_of_ble_eq_true rfl⟩ ⟨Nat.le_of_ble_eq_true rfl, Nat.le_of_ble_eq_true rfl⟩
set_option maxHeartbeats 4000000 in
set_option maxRecDepth 100000 in
theorem q_S_relay_d (g : xw_G) {l : Launch} (htr : xw_tr l) {n t : Nat} {co se ke f1 f2 e1 e2 x1 x2 fa we sh : Nat → Nat} {dn op ms ps md tk bl : Int32} {pr ch sm : Nat} {rest : List va_E} (hn : n ≤ 6) {i : Nat} (h1 : 1 ≤ i) (hi : i ≤ n) {z : Nat} (hz : z < 1073741789) (hm : hs ms i = true) (hk9 : hs tk i = false) (hmd : hs md i = false) : xt_R g l m_S_relay [.ref 0, .int (nI i), .long (lN z)] (hC g n t co se ke dn f1 f2 e1 e2 op x1 x2 fa we sh ms ps md tk bl pr ch sm ++ rest) "java/lang/IllegalStateException" := by
  refine xt_of [some (.ref 0), some (.int (nI i)), some (.long (lN z)), none] rfl (Nat.le_of_ble_eq_true rfl) rfl ?_
  intro p e s m args below meth c C hE hk
  refine xa_aload_n C dS_relay_0 rfl ?_
  refine xa_iload_n C dS_relay_1 rfl ?_
  refine xa_callVv C (p_S_requireSigner g l _ (sg_nI hn h1 hi)) b_S_64 (xw_in wi_S_requireSigner rfl) e_S_requireSigner dS_relay_2 rfl rfl rfl rfl (Nat.le_of_ble_eq_true rfl) ⟨Nat.le_of_ble_eq_true rfl, Nat.le_of_ble_eq_true rfl⟩ ⟨Nat.zero_le _, Nat.zero_le _⟩ ?_
  refine xa_aload_n C dS_relay_5 rfl ?_
  refine xa_lload_n C dS_relay_6 rfl ?_
  refine xa_callVv C (p_S_requireNumber g l _ (nm_lt hz)) b_S_127 (xw_in wi_S_requireNumber rfl) e_S_requireNumber dS_relay_7 rfl rfl rfl rfl (Nat.le_of_ble_eq_true rfl) ⟨Nat.le_of_ble_eq_true rfl, Nat.le_of_ble_eq_true rfl⟩ ⟨Nat.zero_le _, Nat.zero_le _⟩ ?_
  refine xa_aload_n C dS_relay_10 rfl ?_
  refine xa_iload_n C dS_relay_11 rfl ?_
  refine xa_callVv C (p_S_requireUntaken g l hn h1 hi hm hk9) b_S_130 (xw_in wi_S_requireUntaken rfl) e_S_requireUntaken dS_relay_12 rfl rfl rfl rfl (Nat.le_of_ble_eq_true rfl) ⟨Nat.le_of_ble_eq_true rfl, Nat.le_of_ble_eq_true rfl⟩ ⟨Nat.zero_le _, Nat.zero_le _⟩ ?_
  refine xa_aload_n C dS_relay_15 rfl ?_
  refine xa_get C f_S_46 dS_relay_16 rfl rfl ?_
  refine xa_get C f_S_140 dS_relay_19 rfl rfl ?_
  refine xa_iload_n C dS_relay_22 rfl ?_
  refine xa_callS1 C (p_I_hasN g l _ (by omega) (by omega) _) b_S_106 (xw_in wt_I_has rfl) dS_relay_23 rfl (Nat.le_of_ble_eq_true rfl) ⟨Nat.le_of_ble_eq_true rfl, Nat.le_of_ble_eq_true rfl⟩ ⟨Nat.zero_le _, Nat.zero_le _⟩ ?_
  refine xa_if_ne C dS_relay_26 (tgt := 39) rfl (fun h26 => ?_) (fun h26 => ?_)
  · exact absurd (xb_f (by rw [hmd]; decide)) h26
  · exact xa_throw C htr hE hk tk_S_relay_29 dS_relay_29 dS_relay_32 dS_relay_33 dS_relay_35 dS_relay_38 ⟨Nat.le_of_ble_eq_true rfl, Nat.le_of_ble_eq_true rfl⟩ ⟨Nat.le_of_ble_eq_true rfl, Nat.le_of_ble_eq_true rfl⟩
set_option maxHeartbeats 4000000 in
set_option maxRecDepth 100000 in
theorem p_S_seal (g : xw_G) (l : Launch) {n t : Nat} {co se ke f1 f2 e1 e2 x1 x2 fa we sh : Nat → Nat} {dn op ms ps md tk bl : Int32} {pr ch sm : Nat} {rest : List va_E} (h0 : ¬ ms = 0) (he : tk = ms) : xm_R g l true m_S_seal [.ref 0] (hC g n t co se ke dn f1 f2 e1 e2 op x1 x2 fa we sh ms ps md tk bl pr ch sm ++ rest) (some (.long (lN sm))) (hC g n t co se ke dn f1 f2 e1 e2 op x1 x2 fa we sh ms ps md tk bl pr ch sm ++ rest) := by
  refine xm_of [some (.ref 0)] rfl (Nat.le_of_ble_eq_true rfl) rfl ?_
  intro p e s m args below meth c C hr hk
  refine xa_aload_n C dS_seal_0 rfl ?_
  refine xa_callVv C (p_S_requireSealed g l h0 he) b_S_151 (xw_in wi_S_requireSealed rfl) e_S_requireSealed dS_seal_1 rfl rfl rfl rfl (Nat.le_of_ble_eq_true rfl) ⟨Nat.le_of_ble_eq_true rfl, Nat.le_of_ble_eq_true rfl⟩ ⟨Nat.zero_le _, Nat.zero_le _⟩ ?_
  refine xa_aload_n C dS_seal_4 rfl ?_
  refine xa_get C f_S_46 dS_seal_5 rfl rfl ?_
  refine xa_get C f_S_154 dS_seal_8 rfl rfl ?_
  exact xa_lret C hr hk dS_seal_11
set_option maxHeartbeats 4000000 in
set_option maxRecDepth 100000 in
theorem q_S_seal_a (g : xw_G) {l : Launch} (htr : xw_tr l) {n t : Nat} {co se ke f1 f2 e1 e2 x1 x2 fa we sh : Nat → Nat} {dn op ms ps md tk bl : Int32} {pr ch sm : Nat} {rest : List va_E} (h0 : ms = 0 ∨ ¬ tk = ms) : xt_R g l m_S_seal [.ref 0] (hC g n t co se ke dn f1 f2 e1 e2 op x1 x2 fa we sh ms ps md tk bl pr ch sm ++ rest) "java/lang/IllegalStateException" := by
  refine xt_of [some (.ref 0)] rfl (Nat.le_of_ble_eq_true rfl) rfl ?_
  intro p e s m args below meth c C hE hk
  refine xa_aload_n C dS_seal_0 rfl ?_
  exact xa_throwV C hE hk (q_S_requireSealed g htr h0) b_S_151 (xw_in wi_S_requireSealed rfl) e_S_requireSealed dS_seal_1 rfl rfl rfl rfl (Nat.le_of_ble_eq_true rfl) ⟨Nat.le_of_ble_eq_true rfl, Nat.le_of_ble_eq_true rfl⟩ ⟨Nat.le_of_ble_eq_true rfl, Nat.le_of_ble_eq_true rfl⟩
