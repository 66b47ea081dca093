/-! the constructors -/
abbrev m_D_init : xw_M := (yD_init, cD_init, 3, (Option.none : Option ClassFile.FieldType), 1, 20)
abbrev m_P_init : xw_M := (yP_init, cP_init, 2, (Option.none : Option ClassFile.FieldType), 1, 20)
abbrev m_X_init : xw_M := (yX_init, cX_init, 2, (Option.none : Option ClassFile.FieldType), 1, 20)
abbrev m_S_init : xw_M := (yS_init, cS_init, 3, (Option.none : Option ClassFile.FieldType), 2, 60)
abbrev m_M_init : xw_M := (yM_init, cM_init, 3, (Option.none : Option ClassFile.FieldType), 1, 20)
theorem b_S_27 : xm_B "ThresholdSeal" 27 m_D_init 2 := ⟨xw_in wc_D_init rfl, xw_in wn_D rfl, xw_in wm_S_27 rfl, by decide, by decide, by decide +kernel⟩
theorem b_S_36 : xm_B "ThresholdSeal" 36 m_P_init 1 := ⟨xw_in wc_P_init rfl, xw_in wn_P rfl, xw_in wm_S_36 rfl, by decide, by decide, by decide +kernel⟩
theorem b_S_45 : xm_B "ThresholdSeal" 45 m_X_init 1 := ⟨xw_in wc_X_init rfl, xw_in wn_X rfl, xw_in wm_S_45 rfl, by decide, by decide, by decide +kernel⟩
theorem b_L_48 : xm_B "ThresholdSealLaw" 48 m_S_init 2 := ⟨xw_in wc_S_init rfl, xw_in wn_S rfl, xw_in wm_L_48 rfl, by decide, by decide, by decide +kernel⟩
theorem b_L_53 : xm_B "ThresholdSealLaw" 53 m_M_init 2 := ⟨xw_in wc_M_init rfl, xw_in wn_M rfl, xw_in wm_L_53 rfl, by decide, by decide, by decide +kernel⟩
theorem v_S_0 : xf_fin "ThresholdSeal" 0 0 (.int) := ⟨_, rfl, ⟨tS_, tS_ok⟩, nS_, rfl, by decide +kernel, rfl⟩
theorem v_S_1 : xf_fin "ThresholdSeal" 0 1 (.int) := ⟨_, rfl, ⟨tS_, tS_ok⟩, nS_, rfl, by decide +kernel, rfl⟩
theorem v_S_2 : xf_fin "ThresholdSeal" 0 2 (.object "ThresholdSeal$Dealing") := ⟨_, rfl, ⟨tS_, tS_ok⟩, nS_, rfl, by decide +kernel, rfl⟩
theorem v_S_3 : xf_fin "ThresholdSeal" 0 3 (.object "ThresholdSeal$Pairs") := ⟨_, rfl, ⟨tS_, tS_ok⟩, nS_, rfl, by decide +kernel, rfl⟩
theorem v_S_4 : xf_fin "ThresholdSeal" 0 4 (.object "ThresholdSeal$Session") := ⟨_, rfl, ⟨tS_, tS_ok⟩, nS_, rfl, by decide +kernel, rfl⟩
theorem bl_S (ad : Nat → Nat) : ∀ j, j < 5 → defaultValue (tS_ j) = vp_V (([.int 0, .int 0, .null, .null, .null] : List Value).map (xw_v ad)) j := by
  intro j hj
  rcases (by omega : j = 0 ∨ j = 1 ∨ j = 2 ∨ j = 3 ∨ j = 4) with rfl | rfl | rfl | rfl | rfl <;> rfl
theorem v_D_0 : xf_fin "ThresholdSeal$Dealing" 1 0 (.int) := ⟨_, rfl, ⟨tD_, tD_ok⟩, nD_, rfl, by decide +kernel, rfl⟩
theorem v_D_1 : xf_fin "ThresholdSeal$Dealing" 1 1 (.int) := ⟨_, rfl, ⟨tD_, tD_ok⟩, nD_, rfl, by decide +kernel, rfl⟩
theorem v_D_2 : xf_fin "ThresholdSeal$Dealing" 1 2 (.array .long) := ⟨_, rfl, ⟨tD_, tD_ok⟩, nD_, rfl, by decide +kernel, rfl⟩
theorem v_D_3 : xf_fin "ThresholdSeal$Dealing" 1 3 (.array .long) := ⟨_, rfl, ⟨tD_, tD_ok⟩, nD_, rfl, by decide +kernel, rfl⟩
theorem v_D_4 : xf_fin "ThresholdSeal$Dealing" 1 4 (.array .long) := ⟨_, rfl, ⟨tD_, tD_ok⟩, nD_, rfl, by decide +kernel, rfl⟩
theorem bl_D (ad : Nat → Nat) : ∀ j, j < 6 → defaultValue (tD_ j) = vp_V (([.int 0, .int 0, .null, .null, .null, .int 0] : List Value).map (xw_v ad)) j := by
  intro j hj
  rcases (by omega : j = 0 ∨ j = 1 ∨ j = 2 ∨ j = 3 ∨ j = 4 ∨ j = 5) with rfl | rfl | rfl | rfl | rfl | rfl <;> rfl
theorem v_P_0 : xf_fin "ThresholdSeal$Pairs" 2 0 (.array .long) := ⟨_, rfl, ⟨tP_, tP_ok⟩, nP_, rfl, by decide +kernel, rfl⟩
theorem v_P_1 : xf_fin "ThresholdSeal$Pairs" 2 1 (.array .long) := ⟨_, rfl, ⟨tP_, tP_ok⟩, nP_, rfl, by decide +kernel, rfl⟩
theorem v_P_2 : xf_fin "ThresholdSeal$Pairs" 2 2 (.array .long) := ⟨_, rfl, ⟨tP_, tP_ok⟩, nP_, rfl, by decide +kernel, rfl⟩
theorem v_P_3 : xf_fin "ThresholdSeal$Pairs" 2 3 (.array .long) := ⟨_, rfl, ⟨tP_, tP_ok⟩, nP_, rfl, by decide +kernel, rfl⟩
theorem bl_P (ad : Nat → Nat) : ∀ j, j < 5 → defaultValue (tP_ j) = vp_V (([.null, .null, .null, .null, .int 0] : List Value).map (xw_v ad)) j := by
  intro j hj
  rcases (by omega : j = 0 ∨ j = 1 ∨ j = 2 ∨ j = 3 ∨ j = 4) with rfl | rfl | rfl | rfl | rfl <;> rfl
theorem v_X_0 : xf_fin "ThresholdSeal$Session" 3 0 (.int) := ⟨_, rfl, ⟨tX_, tX_ok⟩, nX_, rfl, by decide +kernel, rfl⟩
theorem v_X_1 : xf_fin "ThresholdSeal$Session" 3 1 (.array .long) := ⟨_, rfl, ⟨tX_, tX_ok⟩, nX_, rfl, by decide +kernel, rfl⟩
theorem v_X_2 : xf_fin "ThresholdSeal$Session" 3 2 (.array .long) := ⟨_, rfl, ⟨tX_, tX_ok⟩, nX_, rfl, by decide +kernel, rfl⟩
theorem v_X_3 : xf_fin "ThresholdSeal$Session" 3 3 (.array .long) := ⟨_, rfl, ⟨tX_, tX_ok⟩, nX_, rfl, by decide +kernel, rfl⟩
theorem v_X_4 : xf_fin "ThresholdSeal$Session" 3 4 (.array .long) := ⟨_, rfl, ⟨tX_, tX_ok⟩, nX_, rfl, by decide +kernel, rfl⟩
theorem v_X_5 : xf_fin "ThresholdSeal$Session" 3 5 (.array .long) := ⟨_, rfl, ⟨tX_, tX_ok⟩, nX_, rfl, by decide +kernel, rfl⟩
theorem bl_X (ad : Nat → Nat) : ∀ j, j < 14 → defaultValue (tX_ j) = vp_V (([.int 0, .null, .null, .null, .null, .null, .int 0, .int 0, .int 0, .int 0, .int 0, .long 0, .long 0, .long 0] : List Value).map (xw_v ad)) j := by
  intro j hj
  rcases (by omega : j = 0 ∨ j = 1 ∨ j = 2 ∨ j = 3 ∨ j = 4 ∨ j = 5 ∨ j = 6 ∨ j = 7 ∨ j = 8 ∨ j = 9 ∨ j = 10 ∨ j = 11 ∨ j = 12 ∨ j = 13) with rfl | rfl | rfl | rfl | rfl | rfl | rfl | rfl | rfl | rfl | rfl | rfl | rfl | rfl <;> rfl
theorem v_M_1 : xf_fin "ThresholdSealModel" 4 1 (.int) := ⟨_, rfl, ⟨tM_, tM_ok⟩, nM_, rfl, by decide +kernel, rfl⟩
theorem v_M_2 : xf_fin "ThresholdSealModel" 4 2 (.int) := ⟨_, rfl, ⟨tM_, tM_ok⟩, nM_, rfl, by decide +kernel, rfl⟩
theorem v_M_4 : xf_fin "ThresholdSealModel" 4 4 (.array .long) := ⟨_, rfl, ⟨tM_, tM_ok⟩, nM_, rfl, by decide +kernel, rfl⟩
theorem v_M_5 : xf_fin "ThresholdSealModel" 4 5 (.array .long) := ⟨_, rfl, ⟨tM_, tM_ok⟩, nM_, rfl, by decide +kernel, rfl⟩
theorem v_M_6 : xf_fin "ThresholdSealModel" 4 6 (.array .boolean) := ⟨_, rfl, ⟨tM_, tM_ok⟩, nM_, rfl, by decide +kernel, rfl⟩
theorem v_M_7 : xf_fin "ThresholdSealModel" 4 7 (.array .long) := ⟨_, rfl, ⟨tM_, tM_ok⟩, nM_, rfl, by decide +kernel, rfl⟩
theorem v_M_8 : xf_fin "ThresholdSealModel" 4 8 (.array .long) := ⟨_, rfl, ⟨tM_, tM_ok⟩, nM_, rfl, by decide +kernel, rfl⟩
theorem v_M_9 : xf_fin "ThresholdSealModel" 4 9 (.array .long) := ⟨_, rfl, ⟨tM_, tM_ok⟩, nM_, rfl, by decide +kernel, rfl⟩
theorem v_M_10 : xf_fin "ThresholdSealModel" 4 10 (.array .long) := ⟨_, rfl, ⟨tM_, tM_ok⟩, nM_, rfl, by decide +kernel, rfl⟩
theorem v_M_14 : xf_fin "ThresholdSealModel" 4 14 (.array .long) := ⟨_, rfl, ⟨tM_, tM_ok⟩, nM_, rfl, by decide +kernel, rfl⟩
theorem v_M_15 : xf_fin "ThresholdSealModel" 4 15 (.array .long) := ⟨_, rfl, ⟨tM_, tM_ok⟩, nM_, rfl, by decide +kernel, rfl⟩
theorem v_M_16 : xf_fin "ThresholdSealModel" 4 16 (.array .long) := ⟨_, rfl, ⟨tM_, tM_ok⟩, nM_, rfl, by decide +kernel, rfl⟩
theorem v_M_17 : xf_fin "ThresholdSealModel" 4 17 (.array .long) := ⟨_, rfl, ⟨tM_, tM_ok⟩, nM_, rfl, by decide +kernel, rfl⟩
theorem v_M_18 : xf_fin "ThresholdSealModel" 4 18 (.array .boolean) := ⟨_, rfl, ⟨tM_, tM_ok⟩, nM_, rfl, by decide +kernel, rfl⟩
theorem v_M_19 : xf_fin "ThresholdSealModel" 4 19 (.array .boolean) := ⟨_, rfl, ⟨tM_, tM_ok⟩, nM_, rfl, by decide +kernel, rfl⟩
theorem v_M_20 : xf_fin "ThresholdSealModel" 4 20 (.array .long) := ⟨_, rfl, ⟨tM_, tM_ok⟩, nM_, rfl, by decide +kernel, rfl⟩
theorem v_M_21 : xf_fin "ThresholdSealModel" 4 21 (.array .long) := ⟨_, rfl, ⟨tM_, tM_ok⟩, nM_, rfl, by decide +kernel, rfl⟩
theorem bl_M (ad : Nat → Nat) : ∀ j, j < 25 → defaultValue (tM_ j) = vp_V (([.int 0, .int 0, .int 0, .int 0, .null, .null, .null, .null, .null, .null, .null, .int 0, .long 0, .long 0, .null, .null, .null, .null, .null, .null, .null, .null, .int 0, .int 0, .long 0] : List Value).map (xw_v ad)) j := by
  intro j hj
  rcases (by omega : j = 0 ∨ j = 1 ∨ j = 2 ∨ j = 3 ∨ j = 4 ∨ j = 5 ∨ j = 6 ∨ j = 7 ∨ j = 8 ∨ j = 9 ∨ j = 10 ∨ j = 11 ∨ j = 12 ∨ j = 13 ∨ j = 14 ∨ j = 15 ∨ j = 16 ∨ j = 17 ∨ j = 18 ∨ j = 19 ∨ j = 20 ∨ j = 21 ∨ j = 22 ∨ j = 23 ∨ j = 24) with rfl | rfl | rfl | rfl | rfl | rfl | rfl | rfl | rfl | rfl | rfl | rfl | rfl | rfl | rfl | rfl | rfl | rfl | rfl | rfl | rfl | rfl | rfl | rfl | rfl <;> rfl
def mx_ (a b : Int32) : Int32 := if a < b then b else a
def mn_ (a b : Int32) : Int32 := if b < a then b else a
section XMM
variable {κ : xn_K} {cc : ByteArray} {nL : Nat} {own : String} {p : Program} {l : Launch} {e : Env} {R : Room} {s : State} {m : MethodId} {args : Array Value} {below : List Frame} {meth : Method} {c : Code} {cells slots : Nat} {Q : State → Prop}
variable {pc : Nat} {lv : List (Option Value)} {st : List Value} {hp : List va_E}
theorem xn_max (C : xn_C κ cc nL own p s m args c) {idx : Nat} {x y : Int32} (hl : Cond.methodLink own idx yJM_max ∈ xw_tb) (hdg : decode cc pc = .ok (.invokestatic idx, 3)) (hwt : (st.map fun v => v.category).sum ≤ 8) (hR : 1 ≤ R.frames ∧ 21 ≤ R.locals) (hcl : cells ≤ R.cells ∧ slots ≤ R.slots) (k : xn_At κ nL p l e R s m args below meth c cells slots Q (pc + 3) lv (.int (mx_ x y) :: st) hp) : xn_At κ nL p l e R s m args below meth c cells slots Q pc lv (.int y :: .int x :: st) hp := fun ls H locs hL hP hn hS => by
  obtain ⟨hx, hb, hml, hown, hts, hW⟩ := C
  have h2 := hR.2
  exact va_mmax hx hb (by rw [hml]; exact hL.1.symm) hown (hts _ hl) (hts _ (xw_in wt_JM_max rfl)) (hts _ (xw_in wn_JM rfl)) (hts _ (xw_in wc_JM_max rfl)) hR.1 (by rw [xm_cats]; omega) hcl.1 hcl.2 hdg (k ls H locs hL hP hn hS)
theorem xn_min (C : xn_C κ cc nL own p s m args c) {idx : Nat} {x y : Int32} (hl : Cond.methodLink own idx yJM_min ∈ xw_tb) (hdg : decode cc pc = .ok (.invokestatic idx, 3)) (hwt : (st.map fun v => v.category).sum ≤ 8) (hR : 1 ≤ R.frames ∧ 21 ≤ R.locals) (hcl : cells ≤ R.cells ∧ slots ≤ R.slots) (k : xn_At κ nL p l e R s m args below meth c cells slots Q (pc + 3) lv (.int (mn_ x y) :: st) hp) : xn_At κ nL p l e R s m args below meth c cells slots Q pc lv (.int y :: .int x :: st) hp := fun ls H locs hL hP hn hS => by
  obtain ⟨hx, hb, hml, hown, hts, hW⟩ := C
  have h2 := hR.2
  exact va_mmin hx hb (by rw [hml]; exact hL.1.symm) hown (hts _ hl) (hts _ (xw_in wt_JM_min rfl)) (hts _ (xw_in wn_JM rfl)) (hts _ (xw_in wc_JM_min rfl)) hR.1 (by rw [xm_cats]; omega) hcl.1 hcl.2 hdg (k ls H locs hL hP hn hS)
end XMM
def ce_ (g : xw_G) (j : Nat) : Int32 := if j < xg_L g then xg_x g j else nI 0
theorem p_L_cell (g : xw_G) (l : Launch) (hL : xg_L g ≤ 3586) {j : Nat} (hj : j ≤ 1) (hp : List va_E) : xm_R g l true m_L_cell [.ref xw_sp, .int (nI j)] hp (some (.int (ce_ g j))) hp := by
  refine xm_of [some (.ref xw_sp), some (.int (nI j))] rfl (Nat.le_of_ble_eq_true rfl) rfl ?_
  intro p e s m args below meth c C hr hk
  refine xa_iload_n C dL_cell_0 rfl ?_
  refine xa_aload_n C dL_cell_1 rfl ?_
  refine xa_alen C dL_cell_2 ?_
  refine xa_icmp_ge C dL_cell_3 (tgt := 12) rfl (fun h => ?_) (fun h => ?_)
  · refine xa_icN C 0 dL_cell_12 ?_
    have h1 : ¬ j < xg_L g := fun q => absurd h (nI_ge q (by omega))
    rw [show ce_ g j = nI 0 from if_neg h1]
    exact xa_iret C hr hk dL_cell_13
  · have h1 : j < xg_L g := Nat.lt_of_not_le (fun q => h (nI_le q (by omega)))
    refine xa_aload_n C dL_cell_6 rfl ?_
    refine xa_iload_n C dL_cell_7 rfl ?_
    refine xa_ialoadN C dL_cell_8 h1 (by omega) ?_
    refine xa_goto C dL_cell_9 (tgt := 13) rfl ?_
    rw [show ce_ g j = xg_x g j from if_pos h1]
    exact xa_iret C hr hk dL_cell_13
theorem mm_lo {x : Int32} {k n : Nat} (hk : 1 ≤ k) (hk6 : k ≤ 6) (h : mn_ (mx_ x (nI 1)) (nI k) = nI n) (h1 : ¬ nI 1 ≤ x) : nI 1 = nI n := by
  rw [← h, show mx_ x (nI 1) = nI 1 from if_pos (Int32.not_le.mp h1)]
  exact (if_neg (nI_nlt (by omega) (by omega))).symm
theorem mm_hi {x : Int32} {k n : Nat} (h : mn_ (mx_ x (nI 1)) (nI k) = nI n) (h1 : nI 1 ≤ x) (h2 : ¬ x ≤ nI k) : nI k = nI n := by
  rw [← h, show mx_ x (nI 1) = x from if_neg (Int32.not_lt.mpr h1)]
  exact (if_pos (Int32.not_le.mp h2)).symm
theorem mm_in {x : Int32} {k n : Nat} (h : mn_ (mx_ x (nI 1)) (nI k) = nI n) (h1 : nI 1 ≤ x) (h2 : x ≤ nI k) : x = nI n := by
  rw [← h, show mx_ x (nI 1) = x from if_neg (Int32.not_lt.mpr h1)]
  exact (if_neg (Int32.not_lt.mpr h2)).symm
theorem mm_ex {k : Nat} (hk : 1 ≤ k) (hk6 : k ≤ 6) (x : Int32) : ∃ n : Nat, 1 ≤ n ∧ n ≤ k ∧ mn_ (mx_ x (nI 1)) (nI k) = nI n := by
  by_cases h1 : nI 1 ≤ x
  · by_cases h2 : x ≤ nI k
    · rw [show mx_ x (nI 1) = x from if_neg (Int32.not_lt.mpr h1), show mn_ x (nI k) = x from if_neg (Int32.not_lt.mpr h2)]
      rw [Int32.le_iff_toInt_le, nI_toInt (by omega)] at h1
      rw [Int32.le_iff_toInt_le, nI_toInt (by omega)] at h2
      refine ⟨x.toInt.toNat, by omega, by omega, ?_⟩
      rw [← Int32.toInt_inj, nI_toInt (by omega)]
      omega
    · refine ⟨k, hk, Nat.le_refl _, ?_⟩
      rw [show mx_ x (nI 1) = x from if_neg (Int32.not_lt.mpr h1)]
      exact if_pos (Int32.not_le.mp h2)
  · refine ⟨1, Nat.le_refl _, hk, ?_⟩
    rw [show mx_ x (nI 1) = nI 1 from if_pos (Int32.not_le.mp h1)]
    exact if_neg (nI_nlt (by omega) (by omega))
set_option maxHeartbeats 1000000 in
set_option maxRecDepth 100000 in
theorem p_D_init (κ : xn_K) (l : Launch) {n t : Nat} (hn : n ≤ 6) (ht : t ≤ 6) : xn_R κ l m_D_init 3 21 [.ref 1, .int (nI n), .int (nI t)] [.inr (0, [.int (nI n), .int (nI t), .null, .null, .null]), .inr (1, [.int 0, .int 0, .null, .null, .null, .int 0])] [.inr (0, [.int (nI n), .int (nI t), .null, .null, .null]), .inr (1, [.int (nI n), .int (nI t), .ref 2, .ref 3, .ref 4, .int 0]), xj (xn_g κ 0) t (fun _ => 0), xj (xn_g κ 0) (n + 1) (fun _ => 0), xj (xn_g κ 0) (n + 1) (fun _ => 0)] := by
  refine xn_of [some (.ref 1), some (.int (nI n)), some (.int (nI t))] rfl (Nat.le_of_ble_eq_true rfl) rfl ?_
  intro p e s m args below meth c C hnm hr hk
  refine xn_aload_n C dD_init_0 rfl ?_
  refine xn_obj C (xw_in wm_D_1 rfl) dD_init_1 ⟨(Nat.le_of_ble_eq_true rfl), (Nat.le_of_ble_eq_true rfl)⟩ (Nat.le_of_ble_eq_true rfl) ?_
  refine xn_aload_n C dD_init_4 rfl ?_
  refine xn_iload_n C dD_init_5 rfl ?_
  refine xn_put C hnm f_D_7 v_D_0 (Nat.le_of_ble_eq_true rfl) dD_init_6 rfl (Nat.le_of_ble_eq_true rfl) rfl rfl (hp' := [.inr (0, [.int (nI n), .int (nI t), .null, .null, .null]), .inr (1, [.int (nI n), .int 0, .null, .null, .null, .int 0])]) rfl ?_
  refine xn_aload_n C dD_init_9 rfl ?_
  refine xn_iload_n C dD_init_10 rfl ?_
  refine xn_put C hnm f_D_13 v_D_1 (Nat.le_of_ble_eq_true rfl) dD_init_11 rfl (Nat.le_of_ble_eq_true rfl) rfl rfl (hp' := [.inr (0, [.int (nI n), .int (nI t), .null, .null, .null]), .inr (1, [.int (nI n), .int (nI t), .null, .null, .null, .int 0])]) rfl ?_
  refine xn_aload_n C dD_init_14 rfl ?_
  refine xn_iload_n C dD_init_15 rfl ?_
  refine xn_newJ C (N := t) (i := 2) (by omega) rfl (Nat.le_of_ble_eq_true rfl) ⟨(Nat.le_of_ble_eq_true rfl), (Nat.le_of_ble_eq_true rfl)⟩ dD_init_16 ?_
  refine xn_put C hnm f_D_16 v_D_2 (Nat.le_of_ble_eq_true rfl) dD_init_18 rfl (Nat.le_of_ble_eq_true rfl) rfl rfl (hp' := [.inr (0, [.int (nI n), .int (nI t), .null, .null, .null]), .inr (1, [.int (nI n), .int (nI t), .ref 2, .null, .null, .int 0]), xj (xn_g κ 0) t (fun _ => 0)]) rfl ?_
  refine xn_aload_n C dD_init_21 rfl ?_
  refine xn_iload_n C dD_init_22 rfl ?_
  refine xn_icN C 1 dD_init_23 ?_
  refine xn_addN C dD_init_24 ?_
  refine xn_newJ C (N := (n + 1)) (i := 3) (by omega) rfl (Nat.le_of_ble_eq_true rfl) ⟨(Nat.le_of_ble_eq_true rfl), (Nat.le_of_ble_eq_true rfl)⟩ dD_init_25 ?_
  refine xn_put C hnm f_D_20 v_D_3 (Nat.le_of_ble_eq_true rfl) dD_init_27 rfl (Nat.le_of_ble_eq_true rfl) rfl rfl (hp' := [.inr (0, [.int (nI n), .int (nI t), .null, .null, .null]), .inr (1, [.int (nI n), .int (nI t), .ref 2, .ref 3, .null, .int 0]), xj (xn_g κ 0) t (fun _ => 0), xj (xn_g κ 0) (n + 1) (fun _ => 0)]) rfl ?_
  refine xn_aload_n C dD_init_30 rfl ?_
  refine xn_iload_n C dD_init_31 rfl ?_
  refine xn_icN C 1 dD_init_32 ?_
  refine xn_addN C dD_init_33 ?_
  refine xn_newJ C (N := (n + 1)) (i := 4) (by omega) rfl (Nat.le_of_ble_eq_true rfl) ⟨(Nat.le_of_ble_eq_true rfl), (Nat.le_of_ble_eq_true rfl)⟩ dD_init_34 ?_
  refine xn_put C hnm f_D_23 v_D_4 (Nat.le_of_ble_eq_true rfl) dD_init_36 rfl (Nat.le_of_ble_eq_true rfl) rfl rfl (hp' := [.inr (0, [.int (nI n), .int (nI t), .null, .null, .null]), .inr (1, [.int (nI n), .int (nI t), .ref 2, .ref 3, .ref 4, .int 0]), xj (xn_g κ 0) t (fun _ => 0), xj (xn_g κ 0) (n + 1) (fun _ => 0), xj (xn_g κ 0) (n + 1) (fun _ => 0)]) rfl ?_
  exact xn_vret C hr hk (Nat.le_of_ble_eq_true rfl) (Nat.le_of_ble_eq_true rfl) dD_init_39
set_option maxHeartbeats 1000000 in
set_option maxRecDepth 100000 in
theorem p_P_init (κ : xn_K) (l : Launch) {n t : Nat} (hn : n ≤ 6) : xn_R κ l m_P_init 4 28 [.ref 5, .int (nI n)] [.inr (0, [.int (nI n), .int (nI t), .ref 1, .null, .null]), .inr (1, [.int (nI n), .int (nI t), .ref 2, .ref 3, .ref 4, .int 0]), xj (xn_g κ 0) t (fun _ => 0), xj (xn_g κ 0) (n + 1) (fun _ => 0), xj (xn_g κ 0) (n + 1) (fun _ => 0), .inr (2, [.null, .null, .null, .null, .int 0])] [.inr (0, [.int (nI n), .int (nI t), .ref 1, .null, .null]), .inr (1, [.int (nI n), .int (nI t), .ref 2, .ref 3, .ref 4, .int 0]), xj (xn_g κ 0) t (fun _ => 0), xj (xn_g κ 0) (n + 1) (fun _ => 0), xj (xn_g κ 0) (n + 1) (fun _ => 0), .inr (2, [.ref 6, .ref 7, .ref 8, .ref 9, .int 0]), xj (xn_g κ 0) (n + 1) (fun _ => 0), xj (xn_g κ 0) (n + 1) (fun _ => 0), xj (xn_g κ 0) (n + 1) (fun _ => 0), xj (xn_g κ 0) (n + 1) (fun _ => 0)] := by
  refine xn_of [some (.ref 5), some (.int (nI n))] rfl (Nat.le_of_ble_eq_true rfl) rfl ?_
  intro p e s m args below meth c C hnm hr hk
  refine xn_aload_n C dP_init_0 rfl ?_
  refine xn_obj C (xw_in wm_P_1 rfl) dP_init_1 ⟨(Nat.le_of_ble_eq_true rfl), (Nat.le_of_ble_eq_true rfl)⟩ (Nat.le_of_ble_eq_true rfl) ?_
  refine xn_aload_n C dP_init_4 rfl ?_
  refine xn_iload_n C dP_init_5 rfl ?_
  refine xn_icN C 1 dP_init_6 ?_
  refine xn_addN C dP_init_7 ?_
  refine xn_newJ C (N := (n + 1)) (i := 6) (by omega) rfl (Nat.le_of_ble_eq_true rfl) ⟨(Nat.le_of_ble_eq_true rfl), (Nat.le_of_ble_eq_true rfl)⟩ dP_init_8 ?_
  refine xn_put C hnm f_P_7 v_P_0 (Nat.le_of_ble_eq_true rfl) dP_init_10 rfl (Nat.le_of_ble_eq_true rfl) rfl rfl (hp' := [.inr (0, [.int (nI n), .int (nI t), .ref 1, .null, .null]), .inr (1, [.int (nI n), .int (nI t), .ref 2, .ref 3, .ref 4, .int 0]), xj (xn_g κ 0) t (fun _ => 0), xj (xn_g κ 0) (n + 1) (fun _ => 0), xj (xn_g κ 0) (n + 1) (fun _ => 0), .inr (2, [.ref 6, .null, .null, .null, .int 0]), xj (xn_g κ 0) (n + 1) (fun _ => 0)]) rfl ?_
  refine xn_aload_n C dP_init_13 rfl ?_
  refine xn_iload_n C dP_init_14 rfl ?_
  refine xn_icN C 1 dP_init_15 ?_
  refine xn_addN C dP_init_16 ?_
  refine xn_newJ C (N := (n + 1)) (i := 7) (by omega) rfl (Nat.le_of_ble_eq_true rfl) ⟨(Nat.le_of_ble_eq_true rfl), (Nat.le_of_ble_eq_true rfl)⟩ dP_init_17 ?_
  refine xn_put C hnm f_P_13 v_P_1 (Nat.le_of_ble_eq_true rfl) dP_init_19 rfl (Nat.le_of_ble_eq_true rfl) rfl rfl (hp' := [.inr (0, [.int (nI n), .int (nI t), .ref 1, .null, .null]), .inr (1, [.int (nI n), .int (nI t), .ref 2, .ref 3, .ref 4, .int 0]), xj (xn_g κ 0) t (fun _ => 0), xj (xn_g κ 0) (n + 1) (fun _ => 0), xj (xn_g κ 0) (n + 1) (fun _ => 0), .inr (2, [.ref 6, .ref 7, .null, .null, .int 0]), xj (xn_g κ 0) (n + 1) (fun _ => 0), xj (xn_g κ 0) (n + 1) (fun _ => 0)]) rfl ?_
  refine xn_aload_n C dP_init_22 rfl ?_
  refine xn_iload_n C dP_init_23 rfl ?_
  refine xn_icN C 1 dP_init_24 ?_
  refine xn_addN C dP_init_25 ?_
  refine xn_newJ C (N := (n + 1)) (i := 8) (by omega) rfl (Nat.le_of_ble_eq_true rfl) ⟨(Nat.le_of_ble_eq_true rfl), (Nat.le_of_ble_eq_true rfl)⟩ dP_init_26 ?_
  refine xn_put C hnm f_P_16 v_P_2 (Nat.le_of_ble_eq_true rfl) dP_init_28 rfl (Nat.le_of_ble_eq_true rfl) rfl rfl (hp' := [.inr (0, [.int (nI n), .int (nI t), .ref 1, .null, .null]), .inr (1, [.int (nI n), .int (nI t), .ref 2, .ref 3, .ref 4, .int 0]), xj (xn_g κ 0) t (fun _ => 0), xj (xn_g κ 0) (n + 1) (fun _ => 0), xj (xn_g κ 0) (n + 1) (fun _ => 0), .inr (2, [.ref 6, .ref 7, .ref 8, .null, .int 0]), xj (xn_g κ 0) (n + 1) (fun _ => 0), xj (xn_g κ 0) (n + 1) (fun _ => 0), xj (xn_g κ 0) (n + 1) (fun _ => 0)]) rfl ?_
  refine xn_aload_n C dP_init_31 rfl ?_
  refine xn_iload_n C dP_init_32 rfl ?_
  refine xn_icN C 1 dP_init_33 ?_
  refine xn_addN C dP_init_34 ?_
  refine xn_newJ C (N := (n + 1)) (i := 9) (by omega) rfl (Nat.le_of_ble_eq_true rfl) ⟨(Nat.le_of_ble_eq_true rfl), (Nat.le_of_ble_eq_true rfl)⟩ dP_init_35 ?_
  refine xn_put C hnm f_P_19 v_P_3 (Nat.le_of_ble_eq_true rfl) dP_init_37 rfl (Nat.le_of_ble_eq_true rfl) rfl rfl (hp' := [.inr (0, [.int (nI n), .int (nI t), .ref 1, .null, .null]), .inr (1, [.int (nI n), .int (nI t), .ref 2, .ref 3, .ref 4, .int 0]), xj (xn_g κ 0) t (fun _ => 0), xj (xn_g κ 0) (n + 1) (fun _ => 0), xj (xn_g κ 0) (n + 1) (fun _ => 0), .inr (2, [.ref 6, .ref 7, .ref 8, .ref 9, .int 0]), xj (xn_g κ 0) (n + 1) (fun _ => 0), xj (xn_g κ 0) (n + 1) (fun _ => 0), xj (xn_g κ 0) (n + 1) (fun _ => 0), xj (xn_g κ 0) (n + 1) (fun _ => 0)]) rfl ?_
  exact xn_vret C hr hk (Nat.le_of_ble_eq_true rfl) (Nat.le_of_ble_eq_true rfl) dP_init_40
set_option maxHeartbeats 1000000 in
set_option maxRecDepth 100000 in
theorem p_X_init (κ : xn_K) (l : Launch) {n t : Nat} (hn : n ≤ 6) : xn_R κ l m_X_init 5 35 [.ref 10, .int (nI n)] [.inr (0, [.int (nI n), .int (nI t), .ref 1, .ref 5, .null]), .inr (1, [.int (nI n), .int (nI t), .ref 2, .ref 3, .ref 4, .int 0]), xj (xn_g κ 0) t (fun _ => 0), xj (xn_g κ 0) (n + 1) (fun _ => 0), xj (xn_g κ 0) (n + 1) (fun _ => 0), .inr (2, [.ref 6, .ref 7, .ref 8, .ref 9, .int 0]), xj (xn_g κ 0) (n + 1) (fun _ => 0), xj (xn_g κ 0) (n + 1) (fun _ => 0), xj (xn_g κ 0) (n + 1) (fun _ => 0), xj (xn_g κ 0) (n + 1) (fun _ => 0), .inr (3, [.int 0, .null, .null, .null, .null, .null, .int 0, .int 0, .int 0, .int 0, .int 0, .long 0, .long 0, .long 0])] [.inr (0, [.int (nI n), .int (nI t), .ref 1, .ref 5, .null]), .inr (1, [.int (nI n), .int (nI t), .ref 2, .ref 3, .ref 4, .int 0]), xj (xn_g κ 0) t (fun _ => 0), xj (xn_g κ 0) (n + 1) (fun _ => 0), xj (xn_g κ 0) (n + 1) (fun _ => 0), .inr (2, [.ref 6, .ref 7, .ref 8, .ref 9, .int 0]), xj (xn_g κ 0) (n + 1) (fun _ => 0), xj (xn_g κ 0) (n + 1) (fun _ => 0), xj (xn_g κ 0) (n + 1) (fun _ => 0), xj (xn_g κ 0) (n + 1) (fun _ => 0), .inr (3, [.int (nI n), .ref 11, .ref 12, .ref 13, .ref 14, .ref 15, .int 0, .int 0, .int 0, .int 0, .int 0, .long 0, .long 0, .long 0]), xj (xn_g κ 0) (n + 1) (fun _ => 0), xj (xn_g κ 0) (n + 1) (fun _ => 0), xj (xn_g κ 0) (n + 1) (fun _ => 0), xj (xn_g κ 0) (n + 1) (fun _ => 0), xj (xn_g κ 0) (n + 1) (fun _ => 0)] := by
  refine xn_of [some (.ref 10), some (.int (nI n))] rfl (Nat.le_of_ble_eq_true rfl) rfl ?_
  intro p e s m args below meth c C hnm hr hk
  refine xn_aload_n C dX_init_0 rfl ?_
  refine xn_obj C (xw_in wm_X_1 rfl) dX_init_1 ⟨(Nat.le_of_ble_eq_true rfl), (Nat.le_of_ble_eq_true rfl)⟩ (Nat.le_of_ble_eq_true rfl) ?_
  refine xn_aload_n C dX_init_4 rfl ?_
  refine xn_iload_n C dX_init_5 rfl ?_
  refine xn_put C hnm f_X_7 v_X_0 (Nat.le_of_ble_eq_true rfl) dX_init_6 rfl (Nat.le_of_ble_eq_true rfl) rfl rfl (hp' := [.inr (0, [.int (nI n), .int (nI t), .ref 1, .ref 5, .null]), .inr (1, [.int (nI n), .int (nI t), .ref 2, .ref 3, .ref 4, .int 0]), xj (xn_g κ 0) t (fun _ => 0), xj (xn_g κ 0) (n + 1) (fun _ => 0), xj (xn_g κ 0) (n + 1) (fun _ => 0), .inr (2, [.ref 6, .ref 7, .ref 8, .ref 9, .int 0]), xj (xn_g κ 0) (n + 1) (fun _ => 0), xj (xn_g κ 0) (n + 1) (fun _ => 0), xj (xn_g κ 0) (n + 1) (fun _ => 0), xj (xn_g κ 0) (n + 1) (fun _ => 0), .inr (3, [.int (nI n), .null, .null, .null, .null, .null, .int 0, .int 0, .int 0, .int 0, .int 0, .long 0, .long 0, .long 0])]) rfl ?_
  refine xn_aload_n C dX_init_9 rfl ?_
  refine xn_iload_n C dX_init_10 rfl ?_
  refine xn_icN C 1 dX_init_11 ?_
  refine xn_addN C dX_init_12 ?_
  refine xn_newJ C (N := (n + 1)) (i := 11) (by omega) rfl (Nat.le_of_ble_eq_true rfl) ⟨(Nat.le_of_ble_eq_true rfl), (Nat.le_of_ble_eq_true rfl)⟩ dX_init_13 ?_
  refine xn_put C hnm f_X_13 v_X_1 (Nat.le_of_ble_eq_true rfl) dX_init_15 rfl (Nat.le_of_ble_eq_true rfl) rfl rfl (hp' := [.inr (0, [.int (nI n), .int (nI t), .ref 1, .ref 5, .null]), .inr (1, [.int (nI n), .int (nI t), .ref 2, .ref 3, .ref 4, .int 0]), xj (xn_g κ 0) t (fun _ => 0), xj (xn_g κ 0) (n + 1) (fun _ => 0), xj (xn_g κ 0) (n + 1) (fun _ => 0), .inr (2, [.ref 6, .ref 7, .ref 8, .ref 9, .int 0]), xj (xn_g κ 0) (n + 1) (fun _ => 0), xj (xn_g κ 0) (n + 1) (fun _ => 0), xj (xn_g κ 0) (n + 1) (fun _ => 0), xj (xn_g κ 0) (n + 1) (fun _ => 0), .inr (3, [.int (nI n), .ref 11, .null, .null, .null, .null, .int 0, .int 0, .int 0, .int 0, .int 0, .long 0, .long 0, .long 0]), xj (xn_g κ 0) (n + 1) (fun _ => 0)]) rfl ?_
  refine xn_aload_n C dX_init_18 rfl ?_
  refine xn_iload_n C dX_init_19 rfl ?_
  refine xn_icN C 1 dX_init_20 ?_
  refine xn_addN C dX_init_21 ?_
  refine xn_newJ C (N := (n + 1)) (i := 12) (by omega) rfl (Nat.le_of_ble_eq_true rfl) ⟨(Nat.le_of_ble_eq_true rfl), (Nat.le_of_ble_eq_true rfl)⟩ dX_init_22 ?_
  refine xn_put C hnm f_X_17 v_X_2 (Nat.le_of_ble_eq_true rfl) dX_init_24 rfl (Nat.le_of_ble_eq_true rfl) rfl rfl (hp' := [.inr (0, [.int (nI n), .int (nI t), .ref 1, .ref 5, .null]), .inr (1, [.int (nI n), .int (nI t), .ref 2, .ref 3, .ref 4, .int 0]), xj (xn_g κ 0) t (fun _ => 0), xj (xn_g κ 0) (n + 1) (fun _ => 0), xj (xn_g κ 0) (n + 1) (fun _ => 0), .inr (2, [.ref 6, .ref 7, .ref 8, .ref 9, .int 0]), xj (xn_g κ 0) (n + 1) (fun _ => 0), xj (xn_g κ 0) (n + 1) (fun _ => 0), xj (xn_g κ 0) (n + 1) (fun _ => 0), xj (xn_g κ 0) (n + 1) (fun _ => 0), .inr (3, [.int (nI n), .ref 11, .ref 12, .null, .null, .null, .int 0, .int 0, .int 0, .int 0, .int 0, .long 0, .long 0, .long 0]), xj (xn_g κ 0) (n + 1) (fun _ => 0), xj (xn_g κ 0) (n + 1) (fun _ => 0)]) rfl ?_
  refine xn_aload_n C dX_init_27 rfl ?_
  refine xn_iload_n C dX_init_28 rfl ?_
  refine xn_icN C 1 dX_init_29 ?_
  refine xn_addN C dX_init_30 ?_
  refine xn_newJ C (N := (n + 1)) (i := 13) (by omega) rfl (Nat.le_of_ble_eq_true rfl) ⟨(Nat.le_of_ble_eq_true rfl), (Nat.le_of_ble_eq_true rfl)⟩ dX_init_31 ?_
  refine xn_put C hnm f_X_20 v_X_3 (Nat.le_of_ble_eq_true rfl) dX_init_33 rfl (Nat.le_of_ble_eq_true rfl) rfl rfl (hp' := [.inr (0, [.int (nI n), .int (nI t), .ref 1, .ref 5, .null]), .inr (1, [.int (nI n), .int (nI t), .ref 2, .ref 3, .ref 4, .int 0]), xj (xn_g κ 0) t (fun _ => 0), xj (xn_g κ 0) (n + 1) (fun _ => 0), xj (xn_g κ 0) (n + 1) (fun _ => 0), .inr (2, [.ref 6, .ref 7, .ref 8, .ref 9, .int 0]), xj (xn_g κ 0) (n + 1) (fun _ => 0), xj (xn_g κ 0) (n + 1) (fun _ => 0), xj (xn_g κ 0) (n + 1) (fun _ => 0), xj (xn_g κ 0) (n + 1) (fun _ => 0), .inr (3, [.int (nI n), .ref 11, .ref 12, .ref 13, .null, .null, .int 0, .int 0, .int 0, .int 0, .int 0, .long 0, .long 0, .long 0]), xj (xn_g κ 0) (n + 1) (fun _ => 0), xj (xn_g κ 0) (n + 1) (fun _ => 0), xj (xn_g κ 0) (n + 1) (fun _ => 0)]) rfl ?_
  refine xn_aload_n C dX_init_36 rfl ?_
  refine xn_iload_n C dX_init_37 rfl ?_
  refine xn_icN C 1 dX_init_38 ?_
  refine xn_addN C dX_init_39 ?_
  refine xn_newJ C (N := (n + 1)) (i := 14) (by omega) rfl (Nat.le_of_ble_eq_true rfl) ⟨(Nat.le_of_ble_eq_true rfl), (Nat.le_of_ble_eq_true rfl)⟩ dX_init_40 ?_
  refine xn_put C hnm f_X_23 v_X_4 (Nat.le_of_ble_eq_true rfl) dX_init_42 rfl (Nat.le_of_ble_eq_true rfl) rfl rfl (hp' := [.inr (0, [.int (nI n), .int (nI t), .ref 1, .ref 5, .null]), .inr (1, [.int (nI n), .int (nI t), .ref 2, .ref 3, .ref 4, .int 0]), xj (xn_g κ 0) t (fun _ => 0), xj (xn_g κ 0) (n + 1) (fun _ => 0), xj (xn_g κ 0) (n + 1) (fun _ => 0), .inr (2, [.ref 6, .ref 7, .ref 8, .ref 9, .int 0]), xj (xn_g κ 0) (n + 1) (fun _ => 0), xj (xn_g κ 0) (n + 1) (fun _ => 0), xj (xn_g κ 0) (n + 1) (fun _ => 0), xj (xn_g κ 0) (n + 1) (fun _ => 0), .inr (3, [.int (nI n), .ref 11, .ref 12, .ref 13, .ref 14, .null, .int 0, .int 0, .int 0, .int 0, .int 0, .long 0, .long 0, .long 0]), xj (xn_g κ 0) (n + 1) (fun _ => 0), xj (xn_g κ 0) (n + 1) (fun _ => 0), xj (xn_g κ 0) (n + 1) (fun _ => 0), xj (xn_g κ 0) (n + 1) (fun _ => 0)]) rfl ?_
  refine xn_aload_n C dX_init_45 rfl ?_
  refine xn_iload_n C dX_init_46 rfl ?_
  refine xn_icN C 1 dX_init_47 ?_
  refine xn_addN C dX_init_48 ?_
  refine xn_newJ C (N := (n + 1)) (i := 15) (by omega) rfl (Nat.le_of_ble_eq_true rfl) ⟨(Nat.le_of_ble_eq_true rfl), (Nat.le_of_ble_eq_true rfl)⟩ dX_init_49 ?_
  refine xn_put C hnm f_X_26 v_X_5 (Nat.le_of_ble_eq_true rfl) dX_init_51 rfl (Nat.le_of_ble_eq_true rfl) rfl rfl (hp' := [.inr (0, [.int (nI n), .int (nI t), .ref 1, .ref 5, .null]), .inr (1, [.int (nI n), .int (nI t), .ref 2, .ref 3, .ref 4, .int 0]), xj (xn_g κ 0) t (fun _ => 0), xj (xn_g κ 0) (n + 1) (fun _ => 0), xj (xn_g κ 0) (n + 1) (fun _ => 0), .inr (2, [.ref 6, .ref 7, .ref 8, .ref 9, .int 0]), xj (xn_g κ 0) (n + 1) (fun _ => 0), xj (xn_g κ 0) (n + 1) (fun _ => 0), xj (xn_g κ 0) (n + 1) (fun _ => 0), xj (xn_g κ 0) (n + 1) (fun _ => 0), .inr (3, [.int (nI n), .ref 11, .ref 12, .ref 13, .ref 14, .ref 15, .int 0, .int 0, .int 0, .int 0, .int 0, .long 0, .long 0, .long 0]), xj (xn_g κ 0) (n + 1) (fun _ => 0), xj (xn_g κ 0) (n + 1) (fun _ => 0), xj (xn_g κ 0) (n + 1) (fun _ => 0), xj (xn_g κ 0) (n + 1) (fun _ => 0), xj (xn_g κ 0) (n + 1) (fun _ => 0)]) rfl ?_
  exact xn_vret C hr hk (Nat.le_of_ble_eq_true rfl) (Nat.le_of_ble_eq_true rfl) dX_init_54
set_option maxHeartbeats 1000000 in
set_option maxRecDepth 100000 in
theorem p_S_init (κ : xn_K) (l : Launch) {n t : Nat} (hn : n ≤ 6) (ht : t ≤ 6) {x y : Int32} (hx : mn_ (mx_ x (nI 1)) (nI 6) = nI n) (hy : mn_ (mx_ y (nI 1)) (nI n) = nI t) : xn_R κ l m_S_init 15 109 [.ref 0, .int x, .int y] [.inr (0, [.int 0, .int 0, .null, .null, .null])] [.inr (0, [.int (nI n), .int (nI t), .ref 1, .ref 5, .ref 10]), .inr (1, [.int (nI n), .int (nI t), .ref 2, .ref 3, .ref 4, .int 0]), xj (xn_g κ 0) t (fun _ => 0), xj (xn_g κ 0) (n + 1) (fun _ => 0), xj (xn_g κ 0) (n + 1) (fun _ => 0), .inr (2, [.ref 6, .ref 7, .ref 8, .ref 9, .int 0]), xj (xn_g κ 0) (n + 1) (fun _ => 0), xj (xn_g κ 0) (n + 1) (fun _ => 0), xj (xn_g κ 0) (n + 1) (fun _ => 0), xj (xn_g κ 0) (n + 1) (fun _ => 0), .inr (3, [.int (nI n), .ref 11, .ref 12, .ref 13, .ref 14, .ref 15, .int 0, .int 0, .int 0, .int 0, .int 0, .long 0, .long 0, .long 0]), xj (xn_g κ 0) (n + 1) (fun _ => 0), xj (xn_g κ 0) (n + 1) (fun _ => 0), xj (xn_g κ 0) (n + 1) (fun _ => 0), xj (xn_g κ 0) (n + 1) (fun _ => 0), xj (xn_g κ 0) (n + 1) (fun _ => 0)] := by
  refine xn_of [some (.ref 0), some (.int x), some (.int y)] rfl (Nat.le_of_ble_eq_true rfl) rfl ?_
  intro p e s m args below meth c C hnm hr hk
  refine xn_aload_n C dS_init_0 rfl ?_
  refine xn_obj C (xw_in wm_S_1 rfl) dS_init_1 ⟨(Nat.le_of_ble_eq_true rfl), (Nat.le_of_ble_eq_true rfl)⟩ (Nat.le_of_ble_eq_true rfl) ?_
  refine xn_aload_n C dS_init_4 rfl ?_
  refine xn_iload_n C dS_init_5 rfl ?_
  refine xn_icN C 1 dS_init_6 ?_
  refine xn_max C (xw_in wm_S_7 rfl) dS_init_7 (Nat.le_of_ble_eq_true rfl) ⟨(Nat.le_of_ble_eq_true rfl), (Nat.le_of_ble_eq_true rfl)⟩ ⟨(Nat.le_of_ble_eq_true rfl), (Nat.le_of_ble_eq_true rfl)⟩ ?_
  refine xn_bpN C 6 dS_init_10 (by decide) ?_
  refine xn_min C (xw_in wm_S_15 rfl) dS_init_12 (Nat.le_of_ble_eq_true rfl) ⟨(Nat.le_of_ble_eq_true rfl), (Nat.le_of_ble_eq_true rfl)⟩ ⟨(Nat.le_of_ble_eq_true rfl), (Nat.le_of_ble_eq_true rfl)⟩ ?_
  rw [hx]
  refine xn_put C hnm f_S_18 v_S_0 (Nat.le_of_ble_eq_true rfl) dS_init_15 rfl (Nat.le_of_ble_eq_true rfl) rfl rfl (hp' := [.inr (0, [.int (nI n), .int 0, .null, .null, .null])]) rfl ?_
  refine xn_aload_n C dS_init_18 rfl ?_
  refine xn_iload_n C dS_init_19 rfl ?_
  refine xn_icN C 1 dS_init_20 ?_
  refine xn_max C (xw_in wm_S_7 rfl) dS_init_21 (Nat.le_of_ble_eq_true rfl) ⟨(Nat.le_of_ble_eq_true rfl), (Nat.le_of_ble_eq_true rfl)⟩ ⟨(Nat.le_of_ble_eq_true rfl), (Nat.le_of_ble_eq_true rfl)⟩ ?_
  refine xn_aload_n C dS_init_24 rfl ?_
  refine xn_get C f_S_18 dS_init_25 rfl rfl ?_
  refine xn_min C (xw_in wm_S_15 rfl) dS_init_28 (Nat.le_of_ble_eq_true rfl) ⟨(Nat.le_of_ble_eq_true rfl), (Nat.le_of_ble_eq_true rfl)⟩ ⟨(Nat.le_of_ble_eq_true rfl), (Nat.le_of_ble_eq_true rfl)⟩ ?_
  rw [hy]
  refine xn_put C hnm f_S_22 v_S_1 (Nat.le_of_ble_eq_true rfl) dS_init_31 rfl (Nat.le_of_ble_eq_true rfl) rfl rfl (hp' := [.inr (0, [.int (nI n), .int (nI t), .null, .null, .null])]) rfl ?_
  refine xn_aload_n C dS_init_34 rfl ?_
  refine xn_new C (i := 1) (ci := 1) (fs := [.int 0, .int 0, .null, .null, .null, .int 0]) rfl u_D tD_ tD_ok (xw_in wl_S_25 rfl) (xw_in wz_D rfl) (xw_in wn_D rfl) (bl_D _) rfl (Nat.le_of_ble_eq_true rfl) ⟨(Nat.le_of_ble_eq_true rfl), (Nat.le_of_ble_eq_true rfl)⟩ dS_init_35 ?_
  refine xn_dup C dS_init_38 rfl ?_
  refine xn_aload_n C dS_init_39 rfl ?_
  refine xn_get C f_S_18 dS_init_40 rfl rfl ?_
  refine xn_aload_n C dS_init_43 rfl ?_
  refine xn_get C f_S_22 dS_init_44 rfl rfl ?_
  refine xn_callI C (p_D_init κ l hn ht) b_S_27 (xw_in wi_D_init rfl) rfl rfl dS_init_47 rfl (Nat.le_of_ble_eq_true rfl) ⟨(Nat.le_of_ble_eq_true rfl), (Nat.le_of_ble_eq_true rfl)⟩ ⟨(Nat.le_of_ble_eq_true rfl), (Nat.le_of_ble_eq_true rfl)⟩ ?_
  refine xn_put C hnm f_S_30 v_S_2 (Nat.le_of_ble_eq_true rfl) dS_init_50 rfl (Nat.le_of_ble_eq_true rfl) rfl rfl (hp' := [.inr (0, [.int (nI n), .int (nI t), .ref 1, .null, .null]), .inr (1, [.int (nI n), .int (nI t), .ref 2, .ref 3, .ref 4, .int 0]), xj (xn_g κ 0) t (fun _ => 0), xj (xn_g κ 0) (n + 1) (fun _ => 0), xj (xn_g κ 0) (n + 1) (fun _ => 0)]) rfl ?_
  refine xn_aload_n C dS_init_53 rfl ?_
  refine xn_new C (i := 5) (ci := 2) (fs := [.null, .null, .null, .null, .int 0]) rfl u_P tP_ tP_ok (xw_in wl_S_34 rfl) (xw_in wz_P rfl) (xw_in wn_P rfl) (bl_P _) rfl (Nat.le_of_ble_eq_true rfl) ⟨(Nat.le_of_ble_eq_true rfl), (Nat.le_of_ble_eq_true rfl)⟩ dS_init_54 ?_
  refine xn_dup C dS_init_57 rfl ?_
  refine xn_aload_n C dS_init_58 rfl ?_
  refine xn_get C f_S_18 dS_init_59 rfl rfl ?_
  refine xn_callI C (p_P_init κ l (t := t) hn) b_S_36 (xw_in wi_P_init rfl) rfl rfl dS_init_62 rfl (Nat.le_of_ble_eq_true rfl) ⟨(Nat.le_of_ble_eq_true rfl), (Nat.le_of_ble_eq_true rfl)⟩ ⟨(Nat.le_of_ble_eq_true rfl), (Nat.le_of_ble_eq_true rfl)⟩ ?_
  refine xn_put C hnm f_S_39 v_S_3 (Nat.le_of_ble_eq_true rfl) dS_init_65 rfl (Nat.le_of_ble_eq_true rfl) rfl rfl (hp' := [.inr (0, [.int (nI n), .int (nI t), .ref 1, .ref 5, .null]), .inr (1, [.int (nI n), .int (nI t), .ref 2, .ref 3, .ref 4, .int 0]), xj (xn_g κ 0) t (fun _ => 0), xj (xn_g κ 0) (n + 1) (fun _ => 0), xj (xn_g κ 0) (n + 1) (fun _ => 0), .inr (2, [.ref 6, .ref 7, .ref 8, .ref 9, .int 0]), xj (xn_g κ 0) (n + 1) (fun _ => 0), xj (xn_g κ 0) (n + 1) (fun _ => 0), xj (xn_g κ 0) (n + 1) (fun _ => 0), xj (xn_g κ 0) (n + 1) (fun _ => 0)]) rfl ?_
  refine xn_aload_n C dS_init_68 rfl ?_
  refine xn_new C (i := 10) (ci := 3) (fs := [.int 0, .null, .null, .null, .null, .null, .int 0, .int 0, .int 0, .int 0, .int 0, .long 0, .long 0, .long 0]) rfl u_X tX_ tX_ok (xw_in wl_S_43 rfl) (xw_in wz_X rfl) (xw_in wn_X rfl) (bl_X _) rfl (Nat.le_of_ble_eq_true rfl) ⟨(Nat.le_of_ble_eq_true rfl), (Nat.le_of_ble_eq_true rfl)⟩ dS_init_69 ?_
  refine xn_dup C dS_init_72 rfl ?_
  refine xn_aload_n C dS_init_73 rfl ?_
  refine xn_get C f_S_18 dS_init_74 rfl rfl ?_
  refine xn_callI C (p_X_init κ l (t := t) hn) b_S_45 (xw_in wi_X_init rfl) rfl rfl dS_init_77 rfl (Nat.le_of_ble_eq_true rfl) ⟨(Nat.le_of_ble_eq_true rfl), (Nat.le_of_ble_eq_true rfl)⟩ ⟨(Nat.le_of_ble_eq_true rfl), (Nat.le_of_ble_eq_true rfl)⟩ ?_
  refine xn_put C hnm f_S_46 v_S_4 (Nat.le_of_ble_eq_true rfl) dS_init_80 rfl (Nat.le_of_ble_eq_true rfl) rfl rfl (hp' := [.inr (0, [.int (nI n), .int (nI t), .ref 1, .ref 5, .ref 10]), .inr (1, [.int (nI n), .int (nI t), .ref 2, .ref 3, .ref 4, .int 0]), xj (xn_g κ 0) t (fun _ => 0), xj (xn_g κ 0) (n + 1) (fun _ => 0), xj (xn_g κ 0) (n + 1) (fun _ => 0), .inr (2, [.ref 6, .ref 7, .ref 8, .ref 9, .int 0]), xj (xn_g κ 0) (n + 1) (fun _ => 0), xj (xn_g κ 0) (n + 1) (fun _ => 0), xj (xn_g κ 0) (n + 1) (fun _ => 0), xj (xn_g κ 0) (n + 1) (fun _ => 0), .inr (3, [.int (nI n), .ref 11, .ref 12, .ref 13, .ref 14, .ref 15, .int 0, .int 0, .int 0, .int 0, .int 0, .long 0, .long 0, .long 0]), xj (xn_g κ 0) (n + 1) (fun _ => 0), xj (xn_g κ 0) (n + 1) (fun _ => 0), xj (xn_g κ 0) (n + 1) (fun _ => 0), xj (xn_g κ 0) (n + 1) (fun _ => 0), xj (xn_g κ 0) (n + 1) (fun _ => 0)]) rfl ?_
  exact xn_vret C hr hk (Nat.le_of_ble_eq_true rfl) (Nat.le_of_ble_eq_true rfl) dS_init_83
set_option maxHeartbeats 1000000 in
set_option maxRecDepth 100000 in
theorem M_t2 {κ : xn_K} {l : Launch} {p : Program} {e : Env} {s : State} {m : MethodId} {args : Array Value} {below : List Frame} {meth : Method} {c : Code} (C : xn_C κ cM_init 3 "ThresholdSealModel" p s m args c) (hnm : meth.name = "<init>") (hr : meth.sig.returnType = none) (hk : meth.locks = false) {a0 a1 a2 a3 a4 a5 a6 a7 a8 a9 a10 a11 a12 a13 a14 a15 : va_E} {n t : Nat} {x y : Int32} : xn_At κ 3 p l e (xn_rm m_M_init 15 105) s m args below meth c 15 105 (MQ below (xn_Q κ [a0, a1, a2, a3, a4, a5, a6, a7, a8, a9, a10, a11, a12, a13, a14, a15, .inr (4, [.int 0, .int (nI n), .int (nI t), .int 0, .ref 17, .ref 18, .ref 19, .ref 20, .ref 21, .ref 22, .ref 23, .int 0, .long 0, .long 0, .ref 24, .ref 25, .ref 26, .ref 27, .ref 28, .ref 29, .ref 30, .ref 31, .int 0, .int 0, .long 0]), xj (xn_g κ 0) 7 (fun _ => 0), xj (xn_g κ 0) 7 (fun _ => 0), xz (xn_g κ 0) 7 (fun _ => 0), xj (xn_g κ 0) 7 (fun _ => 0), xj (xn_g κ 0) 7 (fun _ => 0), xj (xn_g κ 0) 7 (fun _ => 0), xj (xn_g κ 0) 7 (fun _ => 0), xj (xn_g κ 0) 7 (fun _ => 0), xj (xn_g κ 0) 7 (fun _ => 0), xj (xn_g κ 0) 7 (fun _ => 0), xj (xn_g κ 0) 7 (fun _ => 0), xz (xn_g κ 0) 7 (fun _ => 0), xz (xn_g κ 0) 7 (fun _ => 0), xj (xn_g κ 0) 7 (fun _ => 0), xj (xn_g κ 0) 7 (fun _ => 0)]) args s 15 105 (xn_B κ)) 175 [some (.ref 16), some (.int x), some (.int y)] [.int (nI t), .ref 16] [a0, a1, a2, a3, a4, a5, a6, a7, a8, a9, a10, a11, a12, a13, a14, a15, .inr (4, [.int 0, .int (nI n), .int 0, .int 0, .ref 17, .ref 18, .ref 19, .ref 20, .ref 21, .ref 22, .ref 23, .int 0, .long 0, .long 0, .ref 24, .ref 25, .ref 26, .ref 27, .ref 28, .ref 29, .ref 30, .ref 31, .int 0, .int 0, .long 0]), xj (xn_g κ 0) 7 (fun _ => 0), xj (xn_g κ 0) 7 (fun _ => 0), xz (xn_g κ 0) 7 (fun _ => 0), xj (xn_g κ 0) 7 (fun _ => 0), xj (xn_g κ 0) 7 (fun _ => 0), xj (xn_g κ 0) 7 (fun _ => 0), xj (xn_g κ 0) 7 (fun _ => 0), xj (xn_g κ 0) 7 (fun _ => 0), xj (xn_g κ 0) 7 (fun _ => 0), xj (xn_g κ 0) 7 (fun _ => 0), xj (xn_g κ 0) 7 (fun _ => 0), xz (xn_g κ 0) 7 (fun _ => 0), xz (xn_g κ 0) 7 (fun _ => 0), xj (xn_g κ 0) 7 (fun _ => 0), xj (xn_g κ 0) 7 (fun _ => 0)] := by
  refine xn_put C hnm f_M_60 v_M_2 (Nat.le_of_ble_eq_true rfl) dM_init_175 rfl (Nat.le_of_ble_eq_true rfl) rfl rfl (hp' := [a0, a1, a2, a3, a4, a5, a6, a7, a8, a9, a10, a11, a12, a13, a14, a15, .inr (4, [.int 0, .int (nI n), .int (nI t), .int 0, .ref 17, .ref 18, .ref 19, .ref 20, .ref 21, .ref 22, .ref 23, .int 0, .long 0, .long 0, .ref 24, .ref 25, .ref 26, .ref 27, .ref 28, .ref 29, .ref 30, .ref 31, .int 0, .int 0, .long 0]), xj (xn_g κ 0) 7 (fun _ => 0), xj (xn_g κ 0) 7 (fun _ => 0), xz (xn_g κ 0) 7 (fun _ => 0), xj (xn_g κ 0) 7 (fun _ => 0), xj (xn_g κ 0) 7 (fun _ => 0), xj (xn_g κ 0) 7 (fun _ => 0), xj (xn_g κ 0) 7 (fun _ => 0), xj (xn_g κ 0) 7 (fun _ => 0), xj (xn_g κ 0) 7 (fun _ => 0), xj (xn_g κ 0) 7 (fun _ => 0), xj (xn_g κ 0) 7 (fun _ => 0), xz (xn_g κ 0) 7 (fun _ => 0), xz (xn_g κ 0) 7 (fun _ => 0), xj (xn_g κ 0) 7 (fun _ => 0), xj (xn_g κ 0) 7 (fun _ => 0)]) rfl ?_
  exact xn_vret C hr hk (Nat.le_of_ble_eq_true rfl) (Nat.le_of_ble_eq_true rfl) dM_init_178
set_option maxHeartbeats 1000000 in
set_option maxRecDepth 100000 in
theorem M_t1 {κ : xn_K} {l : Launch} {p : Program} {e : Env} {s : State} {m : MethodId} {args : Array Value} {below : List Frame} {meth : Method} {c : Code} (C : xn_C κ cM_init 3 "ThresholdSealModel" p s m args c) (hnm : meth.name = "<init>") (hr : meth.sig.returnType = none) (hk : meth.locks = false) {a0 a1 a2 a3 a4 a5 a6 a7 a8 a9 a10 a11 a12 a13 a14 a15 : va_E} {n t : Nat} {x y : Int32} (hn1 : 1 ≤ n) (hn : n ≤ 6) (hy : mn_ (mx_ y (nI 1)) (nI n) = nI t) : xn_At κ 3 p l e (xn_rm m_M_init 15 105) s m args below meth c 15 105 (MQ below (xn_Q κ [a0, a1, a2, a3, a4, a5, a6, a7, a8, a9, a10, a11, a12, a13, a14, a15, .inr (4, [.int 0, .int (nI n), .int (nI t), .int 0, .ref 17, .ref 18, .ref 19, .ref 20, .ref 21, .ref 22, .ref 23, .int 0, .long 0, .long 0, .ref 24, .ref 25, .ref 26, .ref 27, .ref 28, .ref 29, .ref 30, .ref 31, .int 0, .int 0, .long 0]), xj (xn_g κ 0) 7 (fun _ => 0), xj (xn_g κ 0) 7 (fun _ => 0), xz (xn_g κ 0) 7 (fun _ => 0), xj (xn_g κ 0) 7 (fun _ => 0), xj (xn_g κ 0) 7 (fun _ => 0), xj (xn_g κ 0) 7 (fun _ => 0), xj (xn_g κ 0) 7 (fun _ => 0), xj (xn_g κ 0) 7 (fun _ => 0), xj (xn_g κ 0) 7 (fun _ => 0), xj (xn_g κ 0) 7 (fun _ => 0), xj (xn_g κ 0) 7 (fun _ => 0), xz (xn_g κ 0) 7 (fun _ => 0), xz (xn_g κ 0) 7 (fun _ => 0), xj (xn_g κ 0) 7 (fun _ => 0), xj (xn_g κ 0) 7 (fun _ => 0)]) args s 15 105 (xn_B κ)) 146 [some (.ref 16), some (.int x), some (.int y)] [.int (nI n), .ref 16] [a0, a1, a2, a3, a4, a5, a6, a7, a8, a9, a10, a11, a12, a13, a14, a15, .inr (4, [.int 0, .int 0, .int 0, .int 0, .ref 17, .ref 18, .ref 19, .ref 20, .ref 21, .ref 22, .ref 23, .int 0, .long 0, .long 0, .ref 24, .ref 25, .ref 26, .ref 27, .ref 28, .ref 29, .ref 30, .ref 31, .int 0, .int 0, .long 0]), xj (xn_g κ 0) 7 (fun _ => 0), xj (xn_g κ 0) 7 (fun _ => 0), xz (xn_g κ 0) 7 (fun _ => 0), xj (xn_g κ 0) 7 (fun _ => 0), xj (xn_g κ 0) 7 (fun _ => 0), xj (xn_g κ 0) 7 (fun _ => 0), xj (xn_g κ 0) 7 (fun _ => 0), xj (xn_g κ 0) 7 (fun _ => 0), xj (xn_g κ 0) 7 (fun _ => 0), xj (xn_g κ 0) 7 (fun _ => 0), xj (xn_g κ 0) 7 (fun _ => 0), xz (xn_g κ 0) 7 (fun _ => 0), xz (xn_g κ 0) 7 (fun _ => 0), xj (xn_g κ 0) 7 (fun _ => 0), xj (xn_g κ 0) 7 (fun _ => 0)] := by
  refine xn_put C hnm f_M_56 v_M_1 (Nat.le_of_ble_eq_true rfl) dM_init_146 rfl (Nat.le_of_ble_eq_true rfl) rfl rfl (hp' := [a0, a1, a2, a3, a4, a5, a6, a7, a8, a9, a10, a11, a12, a13, a14, a15, .inr (4, [.int 0, .int (nI n), .int 0, .int 0, .ref 17, .ref 18, .ref 19, .ref 20, .ref 21, .ref 22, .ref 23, .int 0, .long 0, .long 0, .ref 24, .ref 25, .ref 26, .ref 27, .ref 28, .ref 29, .ref 30, .ref 31, .int 0, .int 0, .long 0]), xj (xn_g κ 0) 7 (fun _ => 0), xj (xn_g κ 0) 7 (fun _ => 0), xz (xn_g κ 0) 7 (fun _ => 0), xj (xn_g κ 0) 7 (fun _ => 0), xj (xn_g κ 0) 7 (fun _ => 0), xj (xn_g κ 0) 7 (fun _ => 0), xj (xn_g κ 0) 7 (fun _ => 0), xj (xn_g κ 0) 7 (fun _ => 0), xj (xn_g κ 0) 7 (fun _ => 0), xj (xn_g κ 0) 7 (fun _ => 0), xj (xn_g κ 0) 7 (fun _ => 0), xz (xn_g κ 0) 7 (fun _ => 0), xz (xn_g κ 0) 7 (fun _ => 0), xj (xn_g κ 0) 7 (fun _ => 0), xj (xn_g κ 0) 7 (fun _ => 0)]) rfl ?_
  refine xn_aload_n C dM_init_149 rfl ?_
  refine xn_iload_n C dM_init_150 rfl ?_
  refine xn_icN C 1 dM_init_151 ?_
  refine xn_icmp_ge C dM_init_152 (tgt := 159) rfl (fun h1 => ?_) (fun h1 => ?_)
  · refine xn_iload_n C dM_init_159 rfl ?_
    refine xn_aload_n C dM_init_160 rfl ?_
    refine xn_get C f_M_56 dM_init_161 rfl rfl ?_
    refine xn_icmp_le C dM_init_164 (tgt := 174) rfl (fun h2 => ?_) (fun h2 => ?_)
    · refine xn_iload_n C dM_init_174 rfl ?_
      refine xn_eq (st' := [.int (nI t), .ref 16]) rfl (by rw [mm_in hy h1 h2]) rfl ?_
      exact M_t2 C hnm hr hk
    · refine xn_aload_n C dM_init_167 rfl ?_
      refine xn_get C f_M_56 dM_init_168 rfl rfl ?_
      refine xn_goto C dM_init_171 (tgt := 175) rfl ?_
      refine xn_eq (st' := [.int (nI t), .ref 16]) rfl (by rw [mm_hi hy h1 h2]) rfl ?_
      exact M_t2 C hnm hr hk
  · refine xn_icN C 1 dM_init_155 ?_
    refine xn_goto C dM_init_156 (tgt := 175) rfl ?_
    refine xn_eq (st' := [.int (nI t), .ref 16]) rfl (by rw [mm_lo hn1 hn hy h1]) rfl ?_
    exact M_t2 C hnm hr hk
set_option maxHeartbeats 1000000 in
set_option maxRecDepth 100000 in
theorem p_M_init (κ : xn_K) (l : Launch) {a0 a1 a2 a3 a4 a5 a6 a7 a8 a9 a10 a11 a12 a13 a14 a15 : va_E} {n t : Nat} {x y : Int32} (hn1 : 1 ≤ n) (hn : n ≤ 6) (hx : mn_ (mx_ x (nI 1)) (nI 6) = nI n) (hy : mn_ (mx_ y (nI 1)) (nI n) = nI t) : xn_R κ l m_M_init 15 105 [.ref 16, .int x, .int y] [a0, a1, a2, a3, a4, a5, a6, a7, a8, a9, a10, a11, a12, a13, a14, a15, .inr (4, [.int 0, .int 0, .int 0, .int 0, .null, .null, .null, .null, .null, .null, .null, .int 0, .long 0, .long 0, .null, .null, .null, .null, .null, .null, .null, .null, .int 0, .int 0, .long 0])] [a0, a1, a2, a3, a4, a5, a6, a7, a8, a9, a10, a11, a12, a13, a14, a15, .inr (4, [.int 0, .int (nI n), .int (nI t), .int 0, .ref 17, .ref 18, .ref 19, .ref 20, .ref 21, .ref 22, .ref 23, .int 0, .long 0, .long 0, .ref 24, .ref 25, .ref 26, .ref 27, .ref 28, .ref 29, .ref 30, .ref 31, .int 0, .int 0, .long 0]), xj (xn_g κ 0) 7 (fun _ => 0), xj (xn_g κ 0) 7 (fun _ => 0), xz (xn_g κ 0) 7 (fun _ => 0), xj (xn_g κ 0) 7 (fun _ => 0), xj (xn_g κ 0) 7 (fun _ => 0), xj (xn_g κ 0) 7 (fun _ => 0), xj (xn_g κ 0) 7 (fun _ => 0), xj (xn_g κ 0) 7 (fun _ => 0), xj (xn_g κ 0) 7 (fun _ => 0), xj (xn_g κ 0) 7 (fun _ => 0), xj (xn_g κ 0) 7 (fun _ => 0), xz (xn_g κ 0) 7 (fun _ => 0), xz (xn_g κ 0) 7 (fun _ => 0), xj (xn_g κ 0) 7 (fun _ => 0), xj (xn_g κ 0) 7 (fun _ => 0)] := by
  refine xn_of [some (.ref 16), some (.int x), some (.int y)] rfl (Nat.le_of_ble_eq_true rfl) rfl ?_
  intro p e s m args below meth c C hnm hr hk
  refine xn_aload_n C dM_init_0 rfl ?_
  refine xn_obj C (xw_in wm_M_1 rfl) dM_init_1 ⟨(Nat.le_of_ble_eq_true rfl), (Nat.le_of_ble_eq_true rfl)⟩ (Nat.le_of_ble_eq_true rfl) ?_
  refine xn_aload_n C dM_init_4 rfl ?_
  refine xn_bpN C 7 dM_init_5 (by decide) ?_
  refine xn_newJ C (N := 7) (i := 17) (by omega) rfl (Nat.le_of_ble_eq_true rfl) ⟨(Nat.le_of_ble_eq_true rfl), (Nat.le_of_ble_eq_true rfl)⟩ dM_init_7 ?_
  refine xn_put C hnm f_M_7 v_M_4 (Nat.le_of_ble_eq_true rfl) dM_init_9 rfl (Nat.le_of_ble_eq_true rfl) rfl rfl (hp' := [a0, a1, a2, a3, a4, a5, a6, a7, a8, a9, a10, a11, a12, a13, a14, a15, .inr (4, [.int 0, .int 0, .int 0, .int 0, .ref 17, .null, .null, .null, .null, .null, .null, .int 0, .long 0, .long 0, .null, .null, .null, .null, .null, .null, .null, .null, .int 0, .int 0, .long 0]), xj (xn_g κ 0) 7 (fun _ => 0)]) rfl ?_
  refine xn_aload_n C dM_init_12 rfl ?_
  refine xn_bpN C 7 dM_init_13 (by decide) ?_
  refine xn_newJ C (N := 7) (i := 18) (by omega) rfl (Nat.le_of_ble_eq_true rfl) ⟨(Nat.le_of_ble_eq_true rfl), (Nat.le_of_ble_eq_true rfl)⟩ dM_init_15 ?_
  refine xn_put C hnm f_M_13 v_M_5 (Nat.le_of_ble_eq_true rfl) dM_init_17 rfl (Nat.le_of_ble_eq_true rfl) rfl rfl (hp' := [a0, a1, a2, a3, a4, a5, a6, a7, a8, a9, a10, a11, a12, a13, a14, a15, .inr (4, [.int 0, .int 0, .int 0, .int 0, .ref 17, .ref 18, .null, .null, .null, .null, .null, .int 0, .long 0, .long 0, .null, .null, .null, .null, .null, .null, .null, .null, .int 0, .int 0, .long 0]), xj (xn_g κ 0) 7 (fun _ => 0), xj (xn_g κ 0) 7 (fun _ => 0)]) rfl ?_
  refine xn_aload_n C dM_init_20 rfl ?_
  refine xn_bpN C 7 dM_init_21 (by decide) ?_
  refine xn_newZ C (N := 7) (i := 19) (by omega) rfl (Nat.le_of_ble_eq_true rfl) ⟨(Nat.le_of_ble_eq_true rfl), (Nat.le_of_ble_eq_true rfl)⟩ dM_init_23 ?_
  refine xn_put C hnm f_M_16 v_M_6 (Nat.le_of_ble_eq_true rfl) dM_init_25 rfl (Nat.le_of_ble_eq_true rfl) rfl rfl (hp' := [a0, a1, a2, a3, a4, a5, a6, a7, a8, a9, a10, a11, a12, a13, a14, a15, .inr (4, [.int 0, .int 0, .int 0, .int 0, .ref 17, .ref 18, .ref 19, .null, .null, .null, .null, .int 0, .long 0, .long 0, .null, .null, .null, .null, .null, .null, .null, .null, .int 0, .int 0, .long 0]), xj (xn_g κ 0) 7 (fun _ => 0), xj (xn_g κ 0) 7 (fun _ => 0), xz (xn_g κ 0) 7 (fun _ => 0)]) rfl ?_
  refine xn_aload_n C dM_init_28 rfl ?_
  refine xn_bpN C 7 dM_init_29 (by decide) ?_
  refine xn_newJ C (N := 7) (i := 20) (by omega) rfl (Nat.le_of_ble_eq_true rfl) ⟨(Nat.le_of_ble_eq_true rfl), (Nat.le_of_ble_eq_true rfl)⟩ dM_init_31 ?_
  refine xn_put C hnm f_M_20 v_M_7 (Nat.le_of_ble_eq_true rfl) dM_init_33 rfl (Nat.le_of_ble_eq_true rfl) rfl rfl (hp' := [a0, a1, a2, a3, a4, a5, a6, a7, a8, a9, a10, a11, a12, a13, a14, a15, .inr (4, [.int 0, .int 0, .int 0, .int 0, .ref 17, .ref 18, .ref 19, .ref 20, .null, .null, .null, .int 0, .long 0, .long 0, .null, .null, .null, .null, .null, .null, .null, .null, .int 0, .int 0, .long 0]), xj (xn_g κ 0) 7 (fun _ => 0), xj (xn_g κ 0) 7 (fun _ => 0), xz (xn_g κ 0) 7 (fun _ => 0), xj (xn_g κ 0) 7 (fun _ => 0)]) rfl ?_
  refine xn_aload_n C dM_init_36 rfl ?_
  refine xn_bpN C 7 dM_init_37 (by decide) ?_
  refine xn_newJ C (N := 7) (i := 21) (by omega) rfl (Nat.le_of_ble_eq_true rfl) ⟨(Nat.le_of_ble_eq_true rfl), (Nat.le_of_ble_eq_true rfl)⟩ dM_init_39 ?_
  refine xn_put C hnm f_M_23 v_M_8 (Nat.le_of_ble_eq_true rfl) dM_init_41 rfl (Nat.le_of_ble_eq_true rfl) rfl rfl (hp' := [a0, a1, a2, a3, a4, a5, a6, a7, a8, a9, a10, a11, a12, a13, a14, a15, .inr (4, [.int 0, .int 0, .int 0, .int 0, .ref 17, .ref 18, .ref 19, .ref 20, .ref 21, .null, .null, .int 0, .long 0, .long 0, .null, .null, .null, .null, .null, .null, .null, .null, .int 0, .int 0, .long 0]), xj (xn_g κ 0) 7 (fun _ => 0), xj (xn_g κ 0) 7 (fun _ => 0), xz (xn_g κ 0) 7 (fun _ => 0), xj (xn_g κ 0) 7 (fun _ => 0), xj (xn_g κ 0) 7 (fun _ => 0)]) rfl ?_
  refine xn_aload_n C dM_init_44 rfl ?_
  refine xn_bpN C 7 dM_init_45 (by decide) ?_
  refine xn_newJ C (N := 7) (i := 22) (by omega) rfl (Nat.le_of_ble_eq_true rfl) ⟨(Nat.le_of_ble_eq_true rfl), (Nat.le_of_ble_eq_true rfl)⟩ dM_init_47 ?_
  refine xn_put C hnm f_M_26 v_M_9 (Nat.le_of_ble_eq_true rfl) dM_init_49 rfl (Nat.le_of_ble_eq_true rfl) rfl rfl (hp' := [a0, a1, a2, a3, a4, a5, a6, a7, a8, a9, a10, a11, a12, a13, a14, a15, .inr (4, [.int 0, .int 0, .int 0, .int 0, .ref 17, .ref 18, .ref 19, .ref 20, .ref 21, .ref 22, .null, .int 0, .long 0, .long 0, .null, .null, .null, .null, .null, .null, .null, .null, .int 0, .int 0, .long 0]), xj (xn_g κ 0) 7 (fun _ => 0), xj (xn_g κ 0) 7 (fun _ => 0), xz (xn_g κ 0) 7 (fun _ => 0), xj (xn_g κ 0) 7 (fun _ => 0), xj (xn_g κ 0) 7 (fun _ => 0), xj (xn_g κ 0) 7 (fun _ => 0)]) rfl ?_
  refine xn_aload_n C dM_init_52 rfl ?_
  refine xn_bpN C 7 dM_init_53 (by decide) ?_
  refine xn_newJ C (N := 7) (i := 23) (by omega) rfl (Nat.le_of_ble_eq_true rfl) ⟨(Nat.le_of_ble_eq_true rfl), (Nat.le_of_ble_eq_true rfl)⟩ dM_init_55 ?_
  refine xn_put C hnm f_M_29 v_M_10 (Nat.le_of_ble_eq_true rfl) dM_init_57 rfl (Nat.le_of_ble_eq_true rfl) rfl rfl (hp' := [a0, a1, a2, a3, a4, a5, a6, a7, a8, a9, a10, a11, a12, a13, a14, a15, .inr (4, [.int 0, .int 0, .int 0, .int 0, .ref 17, .ref 18, .ref 19, .ref 20, .ref 21, .ref 22, .ref 23, .int 0, .long 0, .long 0, .null, .null, .null, .null, .null, .null, .null, .null, .int 0, .int 0, .long 0]), xj (xn_g κ 0) 7 (fun _ => 0), xj (xn_g κ 0) 7 (fun _ => 0), xz (xn_g κ 0) 7 (fun _ => 0), xj (xn_g κ 0) 7 (fun _ => 0), xj (xn_g κ 0) 7 (fun _ => 0), xj (xn_g κ 0) 7 (fun _ => 0), xj (xn_g κ 0) 7 (fun _ => 0)]) rfl ?_
  refine xn_aload_n C dM_init_60 rfl ?_
  refine xn_bpN C 7 dM_init_61 (by decide) ?_
  refine xn_newJ C (N := 7) (i := 24) (by omega) rfl (Nat.le_of_ble_eq_true rfl) ⟨(Nat.le_of_ble_eq_true rfl), (Nat.le_of_ble_eq_true rfl)⟩ dM_init_63 ?_
  refine xn_put C hnm f_M_32 v_M_14 (Nat.le_of_ble_eq_true rfl) dM_init_65 rfl (Nat.le_of_ble_eq_true rfl) rfl rfl (hp' := [a0, a1, a2, a3, a4, a5, a6, a7, a8, a9, a10, a11, a12, a13, a14, a15, .inr (4, [.int 0, .int 0, .int 0, .int 0, .ref 17, .ref 18, .ref 19, .ref 20, .ref 21, .ref 22, .ref 23, .int 0, .long 0, .long 0, .ref 24, .null, .null, .null, .null, .null, .null, .null, .int 0, .int 0, .long 0]), xj (xn_g κ 0) 7 (fun _ => 0), xj (xn_g κ 0) 7 (fun _ => 0), xz (xn_g κ 0) 7 (fun _ => 0), xj (xn_g κ 0) 7 (fun _ => 0), xj (xn_g κ 0) 7 (fun _ => 0), xj (xn_g κ 0) 7 (fun _ => 0), xj (xn_g κ 0) 7 (fun _ => 0), xj (xn_g κ 0) 7 (fun _ => 0)]) rfl ?_
  refine xn_aload_n C dM_init_68 rfl ?_
  refine xn_bpN C 7 dM_init_69 (by decide) ?_
  refine xn_newJ C (N := 7) (i := 25) (by omega) rfl (Nat.le_of_ble_eq_true rfl) ⟨(Nat.le_of_ble_eq_true rfl), (Nat.le_of_ble_eq_true rfl)⟩ dM_init_71 ?_
  refine xn_put C hnm f_M_35 v_M_15 (Nat.le_of_ble_eq_true rfl) dM_init_73 rfl (Nat.le_of_ble_eq_true rfl) rfl rfl (hp' := [a0, a1, a2, a3, a4, a5, a6, a7, a8, a9, a10, a11, a12, a13, a14, a15, .inr (4, [.int 0, .int 0, .int 0, .int 0, .ref 17, .ref 18, .ref 19, .ref 20, .ref 21, .ref 22, .ref 23, .int 0, .long 0, .long 0, .ref 24, .ref 25, .null, .null, .null, .null, .null, .null, .int 0, .int 0, .long 0]), xj (xn_g κ 0) 7 (fun _ => 0), xj (xn_g κ 0) 7 (fun _ => 0), xz (xn_g κ 0) 7 (fun _ => 0), xj (xn_g κ 0) 7 (fun _ => 0), xj (xn_g κ 0) 7 (fun _ => 0), xj (xn_g κ 0) 7 (fun _ => 0), xj (xn_g κ 0) 7 (fun _ => 0), xj (xn_g κ 0) 7 (fun _ => 0), xj (xn_g κ 0) 7 (fun _ => 0)]) rfl ?_
  refine xn_aload_n C dM_init_76 rfl ?_
  refine xn_bpN C 7 dM_init_77 (by decide) ?_
  refine xn_newJ C (N := 7) (i := 26) (by omega) rfl (Nat.le_of_ble_eq_true rfl) ⟨(Nat.le_of_ble_eq_true rfl), (Nat.le_of_ble_eq_true rfl)⟩ dM_init_79 ?_
  refine xn_put C hnm f_M_38 v_M_16 (Nat.le_of_ble_eq_true rfl) dM_init_81 rfl (Nat.le_of_ble_eq_true rfl) rfl rfl (hp' := [a0, a1, a2, a3, a4, a5, a6, a7, a8, a9, a10, a11, a12, a13, a14, a15, .inr (4, [.int 0, .int 0, .int 0, .int 0, .ref 17, .ref 18, .ref 19, .ref 20, .ref 21, .ref 22, .ref 23, .int 0, .long 0, .long 0, .ref 24, .ref 25, .ref 26, .null, .null, .null, .null, .null, .int 0, .int 0, .long 0]), xj (xn_g κ 0) 7 (fun _ => 0), xj (xn_g κ 0) 7 (fun _ => 0), xz (xn_g κ 0) 7 (fun _ => 0), xj (xn_g κ 0) 7 (fun _ => 0), xj (xn_g κ 0) 7 (fun _ => 0), xj (xn_g κ 0) 7 (fun _ => 0), xj (xn_g κ 0) 7 (fun _ => 0), xj (xn_g κ 0) 7 (fun _ => 0), xj (xn_g κ 0) 7 (fun _ => 0), xj (xn_g κ 0) 7 (fun _ => 0)]) rfl ?_
  refine xn_aload_n C dM_init_84 rfl ?_
  refine xn_bpN C 7 dM_init_85 (by decide) ?_
  refine xn_newJ C (N := 7) (i := 27) (by omega) rfl (Nat.le_of_ble_eq_true rfl) ⟨(Nat.le_of_ble_eq_true rfl), (Nat.le_of_ble_eq_true rfl)⟩ dM_init_87 ?_
  refine xn_put C hnm f_M_41 v_M_17 (Nat.le_of_ble_eq_true rfl) dM_init_89 rfl (Nat.le_of_ble_eq_true rfl) rfl rfl (hp' := [a0, a1, a2, a3, a4, a5, a6, a7, a8, a9, a10, a11, a12, a13, a14, a15, .inr (4, [.int 0, .int 0, .int 0, .int 0, .ref 17, .ref 18, .ref 19, .ref 20, .ref 21, .ref 22, .ref 23, .int 0, .long 0, .long 0, .ref 24, .ref 25, .ref 26, .ref 27, .null, .null, .null, .null, .int 0, .int 0, .long 0]), xj (xn_g κ 0) 7 (fun _ => 0), xj (xn_g κ 0) 7 (fun _ => 0), xz (xn_g κ 0) 7 (fun _ => 0), xj (xn_g κ 0) 7 (fun _ => 0), xj (xn_g κ 0) 7 (fun _ => 0), xj (xn_g κ 0) 7 (fun _ => 0), xj (xn_g κ 0) 7 (fun _ => 0), xj (xn_g κ 0) 7 (fun _ => 0), xj (xn_g κ 0) 7 (fun _ => 0), xj (xn_g κ 0) 7 (fun _ => 0), xj (xn_g κ 0) 7 (fun _ => 0)]) rfl ?_
  refine xn_aload_n C dM_init_92 rfl ?_
  refine xn_bpN C 7 dM_init_93 (by decide) ?_
  refine xn_newZ C (N := 7) (i := 28) (by omega) rfl (Nat.le_of_ble_eq_true rfl) ⟨(Nat.le_of_ble_eq_true rfl), (Nat.le_of_ble_eq_true rfl)⟩ dM_init_95 ?_
  refine xn_put C hnm f_M_44 v_M_18 (Nat.le_of_ble_eq_true rfl) dM_init_97 rfl (Nat.le_of_ble_eq_true rfl) rfl rfl (hp' := [a0, a1, a2, a3, a4, a5, a6, a7, a8, a9, a10, a11, a12, a13, a14, a15, .inr (4, [.int 0, .int 0, .int 0, .int 0, .ref 17, .ref 18, .ref 19, .ref 20, .ref 21, .ref 22, .ref 23, .int 0, .long 0, .long 0, .ref 24, .ref 25, .ref 26, .ref 27, .ref 28, .null, .null, .null, .int 0, .int 0, .long 0]), xj (xn_g κ 0) 7 (fun _ => 0), xj (xn_g κ 0) 7 (fun _ => 0), xz (xn_g κ 0) 7 (fun _ => 0), xj (xn_g κ 0) 7 (fun _ => 0), xj (xn_g κ 0) 7 (fun _ => 0), xj (xn_g κ 0) 7 (fun _ => 0), xj (xn_g κ 0) 7 (fun _ => 0), xj (xn_g κ 0) 7 (fun _ => 0), xj (xn_g κ 0) 7 (fun _ => 0), xj (xn_g κ 0) 7 (fun _ => 0), xj (xn_g κ 0) 7 (fun _ => 0), xz (xn_g κ 0) 7 (fun _ => 0)]) rfl ?_
  refine xn_aload_n C dM_init_100 rfl ?_
  refine xn_bpN C 7 dM_init_101 (by decide) ?_
  refine xn_newZ C (N := 7) (i := 29) (by omega) rfl (Nat.le_of_ble_eq_true rfl) ⟨(Nat.le_of_ble_eq_true rfl), (Nat.le_of_ble_eq_true rfl)⟩ dM_init_103 ?_
  refine xn_put C hnm f_M_47 v_M_19 (Nat.le_of_ble_eq_true rfl) dM_init_105 rfl (Nat.le_of_ble_eq_true rfl) rfl rfl (hp' := [a0, a1, a2, a3, a4, a5, a6, a7, a8, a9, a10, a11, a12, a13, a14, a15, .inr (4, [.int 0, .int 0, .int 0, .int 0, .ref 17, .ref 18, .ref 19, .ref 20, .ref 21, .ref 22, .ref 23, .int 0, .long 0, .long 0, .ref 24, .ref 25, .ref 26, .ref 27, .ref 28, .ref 29, .null, .null, .int 0, .int 0, .long 0]), xj (xn_g κ 0) 7 (fun _ => 0), xj (xn_g κ 0) 7 (fun _ => 0), xz (xn_g κ 0) 7 (fun _ => 0), xj (xn_g κ 0) 7 (fun _ => 0), xj (xn_g κ 0) 7 (fun _ => 0), xj (xn_g κ 0) 7 (fun _ => 0), xj (xn_g κ 0) 7 (fun _ => 0), xj (xn_g κ 0) 7 (fun _ => 0), xj (xn_g κ 0) 7 (fun _ => 0), xj (xn_g κ 0) 7 (fun _ => 0), xj (xn_g κ 0) 7 (fun _ => 0), xz (xn_g κ 0) 7 (fun _ => 0), xz (xn_g κ 0) 7 (fun _ => 0)]) rfl ?_
  refine xn_aload_n C dM_init_108 rfl ?_
  refine xn_bpN C 7 dM_init_109 (by decide) ?_
  refine xn_newJ C (N := 7) (i := 30) (by omega) rfl (Nat.le_of_ble_eq_true rfl) ⟨(Nat.le_of_ble_eq_true rfl), (Nat.le_of_ble_eq_true rfl)⟩ dM_init_111 ?_
  refine xn_put C hnm f_M_50 v_M_20 (Nat.le_of_ble_eq_true rfl) dM_init_113 rfl (Nat.le_of_ble_eq_true rfl) rfl rfl (hp' := [a0, a1, a2, a3, a4, a5, a6, a7, a8, a9, a10, a11, a12, a13, a14, a15, .inr (4, [.int 0, .int 0, .int 0, .int 0, .ref 17, .ref 18, .ref 19, .ref 20, .ref 21, .ref 22, .ref 23, .int 0, .long 0, .long 0, .ref 24, .ref 25, .ref 26, .ref 27, .ref 28, .ref 29, .ref 30, .null, .int 0, .int 0, .long 0]), xj (xn_g κ 0) 7 (fun _ => 0), xj (xn_g κ 0) 7 (fun _ => 0), xz (xn_g κ 0) 7 (fun _ => 0), xj (xn_g κ 0) 7 (fun _ => 0), xj (xn_g κ 0) 7 (fun _ => 0), xj (xn_g κ 0) 7 (fun _ => 0), xj (xn_g κ 0) 7 (fun _ => 0), xj (xn_g κ 0) 7 (fun _ => 0), xj (xn_g κ 0) 7 (fun _ => 0), xj (xn_g κ 0) 7 (fun _ => 0), xj (xn_g κ 0) 7 (fun _ => 0), xz (xn_g κ 0) 7 (fun _ => 0), xz (xn_g κ 0) 7 (fun _ => 0), xj (xn_g κ 0) 7 (fun _ => 0)]) rfl ?_
  refine xn_aload_n C dM_init_116 rfl ?_
  refine xn_bpN C 7 dM_init_117 (by decide) ?_
  refine xn_newJ C (N := 7) (i := 31) (by omega) rfl (Nat.le_of_ble_eq_true rfl) ⟨(Nat.le_of_ble_eq_true rfl), (Nat.le_of_ble_eq_true rfl)⟩ dM_init_119 ?_
  refine xn_put C hnm f_M_53 v_M_21 (Nat.le_of_ble_eq_true rfl) dM_init_121 rfl (Nat.le_of_ble_eq_true rfl) rfl rfl (hp' := [a0, a1, a2, a3, a4, a5, a6, a7, a8, a9, a10, a11, a12, a13, a14, a15, .inr (4, [.int 0, .int 0, .int 0, .int 0, .ref 17, .ref 18, .ref 19, .ref 20, .ref 21, .ref 22, .ref 23, .int 0, .long 0, .long 0, .ref 24, .ref 25, .ref 26, .ref 27, .ref 28, .ref 29, .ref 30, .ref 31, .int 0, .int 0, .long 0]), xj (xn_g κ 0) 7 (fun _ => 0), xj (xn_g κ 0) 7 (fun _ => 0), xz (xn_g κ 0) 7 (fun _ => 0), xj (xn_g κ 0) 7 (fun _ => 0), xj (xn_g κ 0) 7 (fun _ => 0), xj (xn_g κ 0) 7 (fun _ => 0), xj (xn_g κ 0) 7 (fun _ => 0), xj (xn_g κ 0) 7 (fun _ => 0), xj (xn_g κ 0) 7 (fun _ => 0), xj (xn_g κ 0) 7 (fun _ => 0), xj (xn_g κ 0) 7 (fun _ => 0), xz (xn_g κ 0) 7 (fun _ => 0), xz (xn_g κ 0) 7 (fun _ => 0), xj (xn_g κ 0) 7 (fun _ => 0), xj (xn_g κ 0) 7 (fun _ => 0)]) rfl ?_
  refine xn_widen (k := 15) (n := 105) (Nat.le_of_ble_eq_true rfl) (Nat.le_of_ble_eq_true rfl) ?_
  refine xn_aload_n C dM_init_124 rfl ?_
  refine xn_iload_n C dM_init_125 rfl ?_
  refine xn_icN C 1 dM_init_126 ?_
  refine xn_icmp_ge C dM_init_127 (tgt := 134) rfl (fun h1 => ?_) (fun h1 => ?_)
  · refine xn_iload_n C dM_init_134 rfl ?_
    refine xn_bpN C 6 dM_init_135 (by decide) ?_
    refine xn_icmp_le C dM_init_137 (tgt := 145) rfl (fun h2 => ?_) (fun h2 => ?_)
    · refine xn_iload_n C dM_init_145 rfl ?_
      refine xn_eq (st' := [.int (nI n), .ref 16]) rfl (by rw [mm_in hx h1 h2]) rfl ?_
      exact M_t1 C hnm hr hk hn1 hn hy
    · refine xn_bpN C 6 dM_init_140 (by decide) ?_
      refine xn_goto C dM_init_142 (tgt := 146) rfl ?_
      refine xn_eq (st' := [.int (nI n), .ref 16]) rfl (by rw [mm_hi hx h1 h2]) rfl ?_
      exact M_t1 C hnm hr hk hn1 hn hy
  · refine xn_icN C 1 dM_init_130 ?_
    refine xn_goto C dM_init_131 (tgt := 146) rfl ?_
    refine xn_eq (st' := [.int (nI n), .ref 16]) rfl (by rw [mm_lo (by decide) (by decide) hx h1]) rfl ?_
    exact M_t1 C hnm hr hk hn1 hn hy
