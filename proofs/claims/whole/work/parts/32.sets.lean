/-! Sets of signers by their bits (the bt family of kit/laws, pasted; then our own) -/
def bt (x : Int32) (i : Nat) : Bool := x.toBitVec.getLsbD i
theorem b_ext {x y : Int32} (h : ∀ i, i < 32 → bt x i = bt y i) : x = y := Int32.toBitVec_inj.mp (BitVec.eq_of_getLsbD_eq (fun i hi => h i hi))
theorem b_or (x y : Int32) (i : Nat) : bt (x ||| y) i = (bt x i || bt y i) := by unfold bt; rw [Int32.toBitVec_or, BitVec.getLsbD_or]
theorem b_and (x y : Int32) (i : Nat) : bt (x &&& y) i = (bt x i && bt y i) := by unfold bt; rw [Int32.toBitVec_and, BitVec.getLsbD_and]
theorem b_xor (x y : Int32) (i : Nat) : bt (x ^^^ y) i = (bt x i ^^ bt y i) := by unfold bt; rw [Int32.toBitVec_xor, BitVec.getLsbD_xor]
theorem b_big {x : Int32} {i : Nat} (h : 32 ≤ i) : bt x i = false := BitVec.getLsbD_of_ge _ _ h
theorem b_m1 : ∀ i, i < 32 → bt (-1) i = true := by decide +kernel
theorem b_0 (i : Nat) : bt 0 i = false := BitVec.getLsbD_zero
theorem s_l : ∀ n, n < 32 → ((nI n &&& 31).toBitVec.smod 32).toNat = n := by decide +kernel
theorem s_u : ∀ n, n < 32 → (((nI n).toUInt32 &&& Int32.toUInt32 31).toBitVec % 32).toNat = n := by decide +kernel
theorem b_shl (n : Nat) (hn : n < 32) (x : Int32) {i : Nat} (hi : i < 32) : bt (x <<< (nI n &&& 31)) i = (decide (n ≤ i) && bt x (i - n)) := by
  unfold bt
  rw [Int32.toBitVec_shiftLeft]
  show (x.toBitVec <<< ((nI n &&& 31).toBitVec.smod 32).toNat).getLsbD i = _
  rw [s_l n hn, BitVec.getLsbD_shiftLeft]
  rcases Nat.lt_or_ge i n with h | h
  · simp [h, Nat.not_le.mpr h]
  · simp [hi, h, Nat.not_lt.mpr h]
theorem b_ushr (n : Nat) (hn : n < 32) (x : Int32) (i : Nat) : bt ((x.toUInt32 >>> ((nI n).toUInt32 &&& Int32.toUInt32 31)).toInt32) i = bt x (n + i) := by
  show (x.toUInt32 >>> ((nI n).toUInt32 &&& Int32.toUInt32 31)).toBitVec.getLsbD i = x.toUInt32.toBitVec.getLsbD (n + i)
  rw [UInt32.toBitVec_shiftRight]
  show (x.toUInt32.toBitVec >>> (((nI n).toUInt32 &&& Int32.toUInt32 31).toBitVec % 32).toNat).getLsbD i = _
  rw [s_u n hn, BitVec.getLsbD_ushiftRight]
theorem b_sshr (n : Nat) (hn : n < 32) (x : Int32) {i : Nat} (hi : i < 32) : bt (x >>> (nI n &&& 31)) i = if n + i < 32 then bt x (n + i) else bt x 31 := by
  unfold bt
  rw [Int32.toBitVec_shiftRight]
  show (x.toBitVec.sshiftRight ((nI n &&& 31).toBitVec.smod 32).toNat).getLsbD i = _
  rw [s_l n hn, BitVec.getLsbD_sshiftRight, BitVec.msb_eq_getLsbD_last]
  simp [hi]
/-- signer j (1 ..) is in the set -/
def hs (s : Int32) (j : Nat) : Bool := bt s (j - 1)
abbrev on_ (j : Nat) : Int32 := nI 1 <<< ((nI j - nI 1) &&& 31)
theorem on_eq {j : Nat} (h : 1 ≤ j) : on_ j = nI 1 <<< (nI (j - 1) &&& 31) := by
  unfold on_
  rw [pk_sub h]
theorem on_bt {j : Nat} (h : 1 ≤ j) (h6 : j ≤ 6) {i : Nat} (hi : i < 32) : bt (on_ j) i = decide (i = j - 1) := by
  rw [on_eq h, b_shl (j - 1) (by omega) _ hi]
  by_cases e : i = j - 1
  · subst e
    simp
    decide
  · by_cases h3 : j - 1 ≤ i
    · have h4 : bt (nI 1) (i - (j - 1)) = false := (by decide +kernel : ∀ q, q < 32 → 0 < q → bt (nI 1) q = false) (i - (j - 1)) (by omega) (by omega)
      simp [h3, h4, e]
    · simp [h3, e]
theorem hs_or {s : Int32} {j i : Nat} (h : 1 ≤ j) (h6 : j ≤ 6) (hi : 1 ≤ i) (hi6 : i ≤ 6) : hs (s ||| on_ j) i = (hs s i || decide (i = j)) := by
  unfold hs
  rw [b_or, on_bt h h6 (by omega)]
  congr 1
  exact decide_eq_decide.mpr ⟨fun _ => by omega, fun _ => by omega⟩
theorem hs_del {s : Int32} {j i : Nat} (h : 1 ≤ j) (h6 : j ≤ 6) (hi : 1 ≤ i) (hi6 : i ≤ 6) : hs (s &&& (on_ j ^^^ (-1))) i = (hs s i && !decide (i = j)) := by
  unfold hs
  rw [b_and, b_xor, on_bt h h6 (by omega), b_m1 _ (by omega), Bool.xor_true]
  congr 2
  exact decide_eq_decide.mpr ⟨fun _ => by omega, fun _ => by omega⟩
theorem hs_0 (i : Nat) : hs 0 i = false := b_0 _
theorem hs_has {s : Int32} {j : Nat} (h : 1 ≤ j) (h6 : j ≤ 6) : (¬ s &&& on_ j = 0) ↔ hs s j = true := by
  constructor
  · intro q
    cases hb : hs s j with
    | true => rfl
    | false =>
      refine absurd (b_ext fun i hi => ?_) q
      rw [b_and, on_bt h h6 hi, b_0]
      by_cases e : i = j - 1
      · subst e
        have : bt s (j - 1) = false := hb
        rw [this, Bool.false_and]
      · simp [e]
  · intro q e
    have h1 : bt (s &&& on_ j) (j - 1) = true := by
      rw [b_and, on_bt h h6 (by omega)]
      have : bt s (j - 1) = true := q
      simp [this]
    rw [e, b_0] at h1
    cases h1
theorem hs_in {s : Int32} {j : Nat} (h : 1 ≤ j) (h6 : j ≤ 6) : (s >>> ((nI j - nI 1) &&& 31)) &&& nI 1 = nI 1 ↔ hs s j = true := by
  rw [pk_sub h]
  have h1 : ∀ q, q < 32 → bt (nI 1) q = decide (q = 0) := by decide +kernel
  constructor
  · intro q
    have e := congrArg (fun z => bt z 0) q
    rw [b_and, b_sshr (j - 1) (by omega) s (by omega), h1 0 (by omega), if_pos (by omega)] at e
    simpa [hs] using e
  · intro q
    refine b_ext fun i hi => ?_
    rw [b_and, b_sshr (j - 1) (by omega) s hi, h1 i hi]
    by_cases e : i = 0
    · subst e
      rw [if_pos (by omega)]
      simpa [hs] using q
    · simp [e]
