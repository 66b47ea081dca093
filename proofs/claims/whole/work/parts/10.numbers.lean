/-! Numbers: the bits family of kit/laws (pasted), then powers modulo m, secrets, sums: nothing of the machine. -/
theorem wb_tb (n : Nat) : (lN n).toBitVec = BitVec.ofNat 64 n := rfl
theorem wb_inj {a b : Int64} (h : a.toBitVec = b.toBitVec) : a = b := Int64.toBitVec_inj.mp h
theorem wb_tn {n : Nat} (h : n < 2 ^ 64) : (lN n).toBitVec.toNat = n := by rw [wb_tb, BitVec.toNat_ofNat, Nat.mod_eq_of_lt h]
theorem wb_of (x : Int64) : ∃ n, n < 2 ^ 64 ∧ x = lN n := ⟨x.toBitVec.toNat, x.toBitVec.isLt, wb_inj (by rw [wb_tb]; simp)⟩
theorem wb_of32 (x : Int32) : ∃ n, n < 2 ^ 32 ∧ x = nI n := ⟨x.toBitVec.toNat, x.toBitVec.isLt, Int32.toBitVec_inj.mp (by show _ = BitVec.ofNat 32 _; simp)⟩
theorem wb_c : ∀ k, k < 64 → ((nI k).toInt64 &&& 63) = lN k := by decide +kernel
theorem wb_cu : ∀ k, k < 64 → ((nI k).toInt64.toUInt64 &&& Int64.toUInt64 63) = UInt64.ofNat k := by decide +kernel
theorem wb_sm : ∀ k, k < 64 → (BitVec.ofNat 64 k).smod 64 = BitVec.ofNat 64 k := by decide +kernel
theorem wb_pw {a b : Nat} (h : a ≤ b) : 2 ^ b = 2 ^ a * 2 ^ (b - a) := by rw [← Nat.pow_add]; congr 1; omega
theorem wb_lt2 {a b : Nat} (h : a < b) : 2 ^ a < 2 ^ b := Nat.pow_lt_pow_right (by decide) h
theorem wb_mod (n : Nat) : lN n = lN (n % 2 ^ 64) := wb_inj (by rw [wb_tb, wb_tb]; apply BitVec.eq_of_toNat_eq; rw [BitVec.toNat_ofNat, BitVec.toNat_ofNat, Nat.mod_mod])
theorem wb_shr {n k : Nat} (hn : n < 2 ^ 64) (hk : k < 64) : ((lN n).toUInt64 >>> ((nI k).toInt64.toUInt64 &&& Int64.toUInt64 63)).toInt64 = lN (n / 2 ^ k) := by
  rw [wb_cu k hk]
  apply wb_inj
  apply BitVec.eq_of_toNat_eq
  show ((lN n).toUInt64 >>> UInt64.ofNat k).toNat = (BitVec.ofNat 64 _).toNat
  have h1 : (UInt64.ofNat k).toNat = k := by
    show (BitVec.ofNat 64 k).toNat = k
    rw [BitVec.toNat_ofNat, Nat.mod_eq_of_lt (by omega)]
  have h2 : (lN n).toUInt64.toNat = n := wb_tn hn
  rw [UInt64.toNat_shiftRight, h1, h2, Nat.mod_eq_of_lt hk, Nat.shiftRight_eq_div_pow, BitVec.toNat_ofNat, Nat.mod_eq_of_lt (Nat.lt_of_le_of_lt (Nat.div_le_self _ _) hn)]
theorem wb_shl (n : Nat) {k : Nat} (hk : k < 64) : lN n <<< ((nI k).toInt64 &&& 63) = lN (n * 2 ^ k) := by
  rw [wb_c k hk]
  apply wb_inj
  rw [Int64.toBitVec_shiftLeft, wb_tb, wb_tb, wb_tb, wb_sm k hk]
  apply BitVec.eq_of_toNat_eq
  rw [BitVec.shiftLeft_eq', BitVec.toNat_shiftLeft, BitVec.toNat_ofNat, BitVec.toNat_ofNat, BitVec.toNat_ofNat, Nat.mod_eq_of_lt (show k < 2 ^ 64 by omega), Nat.shiftLeft_eq, Nat.mul_mod, Nat.mod_mod, ← Nat.mul_mod]
theorem wb_and {a b : Nat} (ha : a < 2 ^ 64) (hb : b < 2 ^ 64) : lN a &&& lN b = lN (a &&& b) := by
  apply wb_inj
  rw [Int64.toBitVec_and, wb_tb, wb_tb, wb_tb]
  apply BitVec.eq_of_toNat_eq
  rw [BitVec.toNat_and, BitVec.toNat_ofNat, BitVec.toNat_ofNat, BitVec.toNat_ofNat, Nat.mod_eq_of_lt ha, Nat.mod_eq_of_lt hb, Nat.mod_eq_of_lt (Nat.and_lt_two_pow _ hb)]
theorem wb_or {a b : Nat} (ha : a < 2 ^ 64) (hb : b < 2 ^ 64) : lN a ||| lN b = lN (a ||| b) := by
  apply wb_inj
  rw [Int64.toBitVec_or, wb_tb, wb_tb, wb_tb]
  apply BitVec.eq_of_toNat_eq
  rw [BitVec.toNat_or, BitVec.toNat_ofNat, BitVec.toNat_ofNat, BitVec.toNat_ofNat, Nat.mod_eq_of_lt ha, Nat.mod_eq_of_lt hb, Nat.mod_eq_of_lt (Nat.or_lt_two_pow ha hb)]
theorem wb_mask {n k : Nat} (hn : n < 2 ^ 64) (hk : k < 64) : lN n &&& lN (2 ^ k - 1) = lN (n % 2 ^ k) := by
  rw [wb_and hn (by have := wb_lt2 hk; omega), Nat.and_two_pow_sub_one_eq_mod]
theorem wb_a1 {n : Nat} (hn : n < 2 ^ 64) : lN n &&& 1 = lN (n % 2) := wb_mask (k := 1) hn (by decide)
theorem wb_bit {n k : Nat} (hn : n < 2 ^ 64) (hk : k < 64) : ((lN n).toUInt64 >>> ((nI k).toInt64.toUInt64 &&& Int64.toUInt64 63)).toInt64 &&& 1 = lN (n / 2 ^ k % 2) := by
  rw [wb_shr hn hk, wb_a1 (Nat.lt_of_le_of_lt (Nat.div_le_self _ _) hn)]
theorem pf_lI {a : Nat} (h : a < 2 ^ 63) : (lN a).toInt = (a : Int) := lg_ofNat_toInt h
theorem pf_shr {a d : Nat} {D : Int64} (hD : (D.toBitVec.smod 64).toNat = d) (h : a < 2 ^ 62) : lN a >>> D = lN (a / 2 ^ d) := by
  have hd : a / 2 ^ d ≤ a := Nat.div_le_self _ _
  apply Int64.toInt_inj.mp
  have e : (lN a >>> D).toInt = (lN a).toInt >>> d := by
    rw [← hD]
    exact BitVec.toInt_sshiftRight ..
  rw [e, Int.shiftRight_eq_div_pow, pf_lI (by omega), pf_lI (by omega)]
  rfl
def tm_Q : Nat := 1073741789
def tm_P : Nat := 2147483579
theorem tm_sq (x n m : Nat) : x ^ n % m * (x ^ n % m) % m = x ^ (2 * n) % m := by
  rw [← Nat.mul_mod, ← Nat.pow_add, Nat.two_mul]
theorem tm_mu (x n m : Nat) : x ^ n % m * x % m = x ^ (n + 1) % m := by
  rw [Nat.pow_succ, Nat.mul_mod, Nat.mod_mod, ← Nat.mul_mod]
theorem tm_bit (e k : Nat) : e / 2 ^ k = 2 * (e / 2 ^ (k + 1)) + e / 2 ^ k % 2 := by
  rw [Nat.pow_succ, ← Nat.div_div_eq_div_mul]; omega
theorem tm_st1 {x m e k : Nat} (h : e / 2 ^ k % 2 = 1) : x ^ (e / 2 ^ (k + 1)) % m * (x ^ (e / 2 ^ (k + 1)) % m) % m * x % m = x ^ (e / 2 ^ k) % m := by
  rw [tm_sq, tm_mu]
  have h2 := tm_bit e k
  rw [h] at h2
  rw [h2]
theorem tm_st0 {x m e k : Nat} (h : e / 2 ^ k % 2 = 0) : x ^ (e / 2 ^ (k + 1)) % m * (x ^ (e / 2 ^ (k + 1)) % m) % m = x ^ (e / 2 ^ k) % m := by
  rw [tm_sq]
  have h2 := tm_bit e k
  rw [h] at h2
  rw [h2]
  exact rfl
theorem tm_dig (e j : Nat) : e / 4 ^ j = 4 * (e / 4 ^ (j + 1)) + e / 4 ^ j % 4 := by
  rw [Nat.pow_succ, ← Nat.div_div_eq_div_mul]; omega
theorem tm_top {e : Nat} (h : e < 2 ^ 30) : e / 2 ^ 30 = 0 := Nat.div_eq_of_lt h
def tm_poly (a : Nat → Nat) (i : Nat) : Nat → Nat
  | 0 => 0
  | n + 1 => tm_poly a i n + a n * i ^ n
theorem tm_poly_shift (a : Nat → Nat) (i n : Nat) : tm_poly a i (n + 1) = a 0 + i * tm_poly (fun k => a (k + 1)) i n := by
  induction n with
  | zero => simp [tm_poly]
  | succ n ih =>
    rw [tm_poly, ih, tm_poly, Nat.mul_add, Nat.pow_succ]
    have : a (n + 1) * (i ^ n * i) = i * (a (n + 1) * i ^ n) := by
      rw [Nat.mul_comm (i ^ n) i, Nat.mul_left_comm]
    omega
def tm_sum (f : Nat → Nat) (s : Nat) : Nat → Nat
  | 0 => 0
  | n + 1 => tm_sum f s n + (if s.testBit n then f (n + 1) else 0)
theorem tm_sum_same {f g : Nat → Nat} {s t : Nat} : ∀ n, (∀ i, i < n → s.testBit i = t.testBit i ∧ (s.testBit i = true → f (i + 1) = g (i + 1))) → tm_sum f s n = tm_sum g t n
  | 0, _ => rfl
  | n + 1, h => by
    obtain ⟨h1, h2⟩ := h n (Nat.lt_succ_self n)
    rw [tm_sum, tm_sum, tm_sum_same n (fun i hi => h i (Nat.lt_succ_of_lt hi)), ← h1]
    cases hb : s.testBit n with
    | false => simp
    | true => simp [h2 hb]
theorem tm_prod (a d e p : Nat) : a * (d * e % p) % p = a * d % p * e % p := by
  rw [Nat.mul_mod_mod, Nat.mod_mul_mod, Nat.mul_assoc]
theorem tm_share (d x y q : Nat) : ((d + x) % q + y) % q = (d + x + y) % q := by
  rw [Nat.mod_add_mod]

theorem tq_rem {n : Nat} (h : n < 2 ^ 63) : lN n - lN n / 1073741789 * 1073741789 = lN (n % 1073741789) := pk_lRem (b := 1073741789) h (by decide) (by decide)
theorem tp_rem {n : Nat} (h : n < 2 ^ 63) : lN n - lN n / 2147483579 * 2147483579 = lN (n % 2147483579) := pk_lRem (b := 2147483579) h (by decide) (by decide)
theorem tm_62 {a b : Nat} (ha : a < 2 ^ 31) (hb : b < 2 ^ 31) : a * b < 2 ^ 63 := by
  have h := Nat.mul_lt_mul'' ha hb
  have e : (2 : Nat) ^ 31 * 2 ^ 31 < 2 ^ 63 := by decide
  omega
theorem tq_mul {a b : Nat} (ha : a < 2 ^ 31) (hb : b < 2 ^ 31) : lN a * lN b - lN a * lN b / 1073741789 * 1073741789 = lN (a * b % 1073741789) := by rw [lN_mul]; exact tq_rem (tm_62 ha hb)
theorem tp_mul {a b : Nat} (ha : a < 2 ^ 31) (hb : b < 2 ^ 31) : lN a * lN b - lN a * lN b / 2147483579 * 2147483579 = lN (a * b % 2147483579) := by rw [lN_mul]; exact tp_rem (tm_62 ha hb)
theorem tq_add {a b : Nat} (ha : a < 2 ^ 62) (hb : b < 2 ^ 62) : lN a + lN b - (lN a + lN b) / 1073741789 * 1073741789 = lN ((a + b) % 1073741789) := by rw [lN_add]; exact tq_rem (by omega)
theorem tb_bit {e k : Nat} (he : e < 2 ^ 62) (hk : k < 64) : (lN e >>> ((nI k).toInt64 &&& 63)) &&& 1 = lN (e / 2 ^ k % 2) := by
  rw [wb_c k hk, pf_shr (d := k) (by rw [wb_tb, wb_sm k hk, BitVec.toNat_ofNat]; exact Nat.mod_eq_of_lt (by omega)) he, wb_a1 (Nat.lt_of_le_of_lt (Nat.div_le_self _ _) (by omega))]
theorem tb_q (n : Nat) : n % 1073741789 < 2 ^ 31 := Nat.lt_trans (Nat.mod_lt n (by decide)) (by decide)
theorem tb_p (n : Nat) : n % 2147483579 < 2 ^ 31 := Nat.lt_trans (Nat.mod_lt n (by decide)) (by decide)
