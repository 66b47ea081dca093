/-! where class and reference reckon otherwise and mean the same -/
theorem us_toNat (x : Int32) {n : Nat} (hn : n ≤ 6) : (us_ x n).toBitVec.toNat = x.toBitVec.toNat / 2 ^ n := pk_ushr x (nI n) n (s_u n (by omega))
theorem us_0 {x : Int32} {n : Nat} (hn : n ≤ 6) : us_ x n = 0 ↔ x.toBitVec.toNat < 2 ^ n := by
  have h := us_toNat x hn
  constructor
  · intro q
    rw [q] at h
    have h0 : (0 : Int32).toBitVec.toNat = 0 := by decide
    rw [h0] at h
    exact (Nat.div_eq_zero_iff_lt (Nat.two_pow_pos n)).mp h.symm
  · intro q
    rw [Nat.div_eq_of_lt q] at h
    apply Int32.toBitVec_inj.mp
    apply BitVec.eq_of_toNat_eq
    rw [h]
    decide
theorem nI_self (x : Int32) : x = nI x.toBitVec.toNat := by
  apply Int32.toBitVec_inj.mp
  show x.toBitVec = BitVec.ofNat 32 _
  simp
theorem sh_1 : ∀ n, n < 7 → nI 1 <<< (nI n &&& 31) = nI (2 ^ n) := by decide +kernel
theorem pw_64 {n : Nat} (hn : n ≤ 6) : 2 ^ n ≤ 64 := Nat.pow_le_pow_right (by decide) hn
theorem bc_ct : ∀ n, n < 7 → ∀ v, v < 64 → v < 2 ^ n → bc_ (nI v) = nI (ct_ (nI v) n) := by decide +kernel
theorem en_small {n t : Nat} {x : Int32} (hn : n ≤ 6) (h : en n t x) : ∃ v, v < 2 ^ n ∧ x = nI v := ⟨x.toBitVec.toNat, (us_0 hn).mp h.1, nI_self x⟩
theorem en_em {n t : Nat} (hn : n ≤ 6) (ht : t ≤ 6) (x : Int32) : en n t x ↔ em n t x := by
  have h64 := pw_64 hn
  constructor
  · intro h
    obtain ⟨v, hv, rfl⟩ := en_small hn h
    have hc := ct_le (nI v) n
    refine ⟨nI_pos (by omega), ?_, ?_⟩
    · rw [sh_1 n (by omega)]
      exact nI_ge hv (by omega)
    · have h2 := h.2
      rw [bc_ct n (by omega) v (by omega) hv] at h2
      exact nI_nlt ((nI_leI (by omega) (by omega)).mp h2) (by omega)
  · intro h
    obtain ⟨v, hv31, rfl⟩ := nI_of h.1
    have h2 := h.2.1
    rw [sh_1 n (by omega)] at h2
    have hv : v < 2 ^ n := by
      rcases Nat.lt_or_ge v (2 ^ n) with q | q
      · exact q
      · exact absurd (nI_le q hv31) h2
    have hc := ct_le (nI v) n
    refine ⟨(us_0 hn).mpr (by rw [pk_tn (by omega)]; exact hv), ?_⟩
    rw [bc_ct n (by omega) v (by omega) hv]
    rcases Nat.lt_or_ge (ct_ (nI v) n) t with q | q
    · exact absurd (nI_lt q (by omega)) h.2.2
    · exact nI_le q (by omega)
theorem bt_small {v n : Nat} (hv : v < 2 ^ n) {i : Nat} (hi : n ≤ i) : bt (nI v) i = false := by
  show (BitVec.ofNat 32 v).getLsbD i = false
  rw [BitVec.getLsbD_ofNat, Nat.testBit_lt_two_pow (Nat.lt_of_lt_of_le hv (Nat.pow_le_pow_right (by decide) hi)), Bool.and_false]
theorem ao_iff (x : Int32) (oz : Nat → Int32) : ∀ n, ao_ x oz n = true ↔ ∀ j, 1 ≤ j → j ≤ n → hs x j = true → ¬ oz j = 0
  | 0 => ⟨fun _ j h1 h2 => by omega, fun _ => rfl⟩
  | n + 1 => by
    rw [ao_, Bool.and_eq_true, ao_iff x oz n, Bool.or_eq_true, decide_eq_true_eq, Bool.not_eq_true']
    constructor
    · rintro ⟨h1, h2⟩ j hj1 hj2 hb
      by_cases e : j = n + 1
      · subst e
        rcases h2 with h2 | h2
        · rw [h2] at hb; exact absurd hb (by decide)
        · exact h2
      · exact h1 j hj1 (by omega) hb
    · intro h
      refine ⟨fun j h1 h2 => h j h1 (by omega), ?_⟩
      cases hb : hs x (n + 1) with
      | false => exact Or.inl rfl
      | true => exact Or.inr (h (n + 1) (by omega) (Nat.le_refl _) hb)
theorem op_ao {n : Nat} {x op : Int32} {oz : Nat → Int32} (hn : n ≤ 6) {v : Nat} (hv : v < 2 ^ n) (hx : x = nI v) (h : ∀ i, 1 ≤ i → i ≤ n → (hs op i = true ↔ ¬ oz i = 0)) : x &&& (op ^^^ (-1)) = 0 ↔ ao_ x oz n = true := by
  rw [ao_iff]
  constructor
  · intro q j h1 h2 hb
    refine (h j h1 h2).mp ?_
    have e : bt (x &&& (op ^^^ (-1))) (j - 1) = false := by rw [q]; exact b_0 _
    rw [b_and, b_xor, b_m1 _ (by omega), Bool.xor_true] at e
    have hb' : bt x (j - 1) = true := hb
    rw [hb', Bool.true_and] at e
    show bt op (j - 1) = true
    cases ho : bt op (j - 1) with
    | true => rfl
    | false => rw [ho] at e; cases e
  · intro q
    refine b_ext fun i hi => ?_
    rw [b_and, b_xor, b_m1 _ hi, Bool.xor_true, b_0]
    rcases Nat.lt_or_ge i n with h9 | h9
    · cases hb : bt x i with
      | false => rfl
      | true =>
        have h8 : hs op (i + 1) = true := (h (i + 1) (by omega) (by omega)).mpr (q (i + 1) (by omega) (by omega) (by show bt x (i + 1 - 1) = true; rw [Nat.add_sub_cancel]; exact hb))
        have h7 : bt op i = true := by have : bt op (i + 1 - 1) = true := h8; rwa [Nat.add_sub_cancel] at this
        rw [h7]; rfl
    · rw [hx, bt_small hv h9, Bool.false_and]
theorem ts_0 (to : Nat → Nat) : ∀ n, ts_ 0 to n = 0
  | 0 => rfl
  | n + 1 => by
    rw [ts_, if_neg (by rw [hs_0]; decide)]
    exact ts_0 to n
theorem ts_lo {tk : Int32} {to : Nat → Nat} {i z : Nat} (h1 : 1 ≤ i) (h6 : i ≤ 6) : ∀ k, k < i → ts_ (tk ||| on_ i) (va_up to i z) k = ts_ tk to k
  | 0, _ => rfl
  | k + 1, hk => by
    rw [ts_, ts_, ts_lo h1 h6 k (by omega), hs_or h1 h6 (by omega) (by omega), show decide (k + 1 = i) = false from decide_eq_false (by omega), Bool.or_false, show va_up to i z (k + 1) = to (k + 1) from if_neg (by omega)]
theorem ts_hi {tk : Int32} {to : Nat → Nat} {i z : Nat} (h1 : 1 ≤ i) (h6 : i ≤ 6) (hb : hs tk i = false) : ∀ k, i ≤ k → k ≤ 6 → ts_ (tk ||| on_ i) (va_up to i z) k = (ts_ tk to k + z) % 1073741789
  | 0, hk, _ => by omega
  | k + 1, hk, hk6 => by
    by_cases e : k + 1 = i
    · rw [ts_, ts_lo h1 h6 k (by omega), hs_or h1 h6 (by omega) (by omega), show decide (k + 1 = i) = true from decide_eq_true e, Bool.or_true, if_pos rfl, ts_, if_neg (by rw [e, hb]; decide), show va_up to i z (k + 1) = z from if_pos e]
    · rw [ts_, ts_, ts_hi h1 h6 hb k (by omega) (by omega), hs_or h1 h6 (by omega) (by omega), show decide (k + 1 = i) = false from decide_eq_false e, Bool.or_false, show va_up to i z (k + 1) = to (k + 1) from if_neg e]
      by_cases q : hs tk (k + 1) = true
      · rw [if_pos q, if_pos q, Nat.mod_add_mod, Nat.mod_add_mod]
        congr 1
        omega
      · rw [if_neg q, if_neg q]
theorem pp_same {s : Int32} {a b f a' b' f' : Nat → Nat} : ∀ n, (∀ j, 1 ≤ j → j ≤ n → hs s j = true → a j = a' j ∧ b j = b' j ∧ f j = f' j) → pp_ s a b f n = pp_ s a' b' f' n
  | 0, _ => rfl
  | n + 1, h => by
    rw [pp_, pp_, pp_same n (fun j h1 h2 => h j h1 (by omega))]
    by_cases q : hs s (n + 1) = true
    · obtain ⟨e1, e2, e3⟩ := h (n + 1) (by omega) (by omega) q
      rw [if_pos q, if_pos q, e1, e2, e3]
    · rw [if_neg q, if_neg q]
theorem ff_same {x : Int32} {e1 e2 x1 x2 : Nat → Nat} {n : Nat} {w : Int64} {key : Nat} : ff_ x (sl_ al_ e1 x1 n) (sl_ al_ e2 x2 n) n w key = ff_ x e1 e2 n w key := by
  funext i
  unfold ff_
  rw [fh_same n (fun j h1 h2 _ => ⟨sl_at (p := al_) h1 h2 rfl, sl_at (p := al_) h1 h2 rfl⟩)]
theorem slz_at {p : Nat → Bool} {v : Int32} {f : Nat → Int32} {k j : Nat} (h1 : 1 ≤ j) (h2 : j ≤ k) (h : p j = true) : slz p v f k j = v := by
  unfold slz
  rw [if_pos ⟨h1, h2, h⟩]
theorem upd_at (f : Nat → Int32) (k j : Nat) (v : Int32) : upd f k v j = if j = k then v else f j := rfl
