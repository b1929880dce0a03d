/-! ===== Int64 as an unsigned number: uN x ===== -/
def uN (x : Int64) : Nat := x.toUInt64.toNat
theorem uN_lt (x : Int64) : uN x < 18446744073709551616 := x.toUInt64.toNat_lt
theorem uN_inj {x y : Int64} (h : uN x = uN y) : x = y := congrArg UInt64.toInt64 (UInt64.toNat_inj.mp h)
theorem uN_add (x y : Int64) : uN (x + y) = (uN x + uN y) % 18446744073709551616 := by
  show (x.toUInt64 + y.toUInt64).toNat = _
  exact UInt64.toNat_add _ _
theorem uN_mul (x y : Int64) : uN (x * y) = (uN x * uN y) % 18446744073709551616 := by
  show (x.toUInt64 * y.toUInt64).toNat = _
  exact UInt64.toNat_mul _ _
theorem uN_shl (x : Int64) : uN (x <<< ((1 : Int32).toInt64 &&& 63)) = (2 * uN x) % 18446744073709551616 := by
  have h : (((1 : Int32).toInt64 &&& 63).toBitVec.smod 64).toNat = 1 := by decide
  show (x.toBitVec <<< (((1 : Int32).toInt64 &&& 63).toBitVec.smod 64).toNat).toNat = _
  rw [h, BitVec.toNat_shiftLeft, Nat.shiftLeft_eq, Nat.mul_comm]
  rfl
theorem uN_shr (x : Int64) (s : UInt64) : uN (x.toUInt64 >>> s).toInt64 = uN x / 2 ^ (s.toNat % 64) := by
  show (x.toUInt64 >>> s).toNat = _
  rw [UInt64.toNat_shiftRight, Nat.shiftRight_eq_div_pow]
  rfl
theorem uN_s32 (x : Int64) : uN (x.toUInt64 >>> ((32 : Int32).toInt64.toUInt64 &&& Int64.toUInt64 63)).toInt64 = uN x / 4294967296 := by
  have h : ((32 : Int32).toInt64.toUInt64 &&& Int64.toUInt64 63).toNat % 64 = 32 := by decide
  rw [uN_shr, h]
theorem uN_s63 (x : Int64) : uN (x.toUInt64 >>> ((63 : Int32).toInt64.toUInt64 &&& Int64.toUInt64 63)).toInt64 = uN x / 9223372036854775808 := by
  have h : ((63 : Int32).toInt64.toUInt64 &&& Int64.toUInt64 63).toNat % 64 = 63 := by decide
  rw [uN_shr, h]
theorem uN_lo (x : Int64) : uN (x &&& 4294967295) = uN x % 4294967296 := by
  show (x.toUInt64 &&& Int64.toUInt64 4294967295).toNat = _
  rw [UInt64.toNat_and]
  exact Nat.and_two_pow_sub_one_eq_mod _ 32
theorem uN_bit (x : Int64) : (x &&& 1) = 0 ↔ uN x % 2 = 0 := by
  have h : uN (x &&& 1) = uN x % 2 := by
    show (x.toUInt64 &&& Int64.toUInt64 1).toNat = _
    rw [UInt64.toNat_and]
    exact Nat.and_two_pow_sub_one_eq_mod _ 1
  rw [← h]
  exact ⟨fun z => by rw [z]; rfl, fun z => uN_inj (z.trans rfl)⟩
theorem uN_or {x y : Int64} (hy : uN y < 2) : uN ((x <<< ((1 : Int32).toInt64 &&& 63)) ||| y) = (2 * uN x) % 18446744073709551616 + uN y := by
  have h1 : uN ((x <<< ((1 : Int32).toInt64 &&& 63)) ||| y) = uN (x <<< ((1 : Int32).toInt64 &&& 63)) ||| uN y := UInt64.toNat_or _ _
  have h2 : (2 * uN x) % 18446744073709551616 = 2 ^ 1 * (uN x % 9223372036854775808) := by omega
  rw [h1, uN_shl, h2]
  exact (Nat.two_pow_add_eq_or_of_lt (i := 1) hy _).symm
theorem nat_xor {a : Nat} (h : a < 18446744073709551616) : a ^^^ 2 ^ 63 = (a + 9223372036854775808) % 18446744073709551616 := by
  have h1 : (a ^^^ 2 ^ 63) % 2 ^ 63 = a % 2 ^ 63 := by rw [Nat.xor_mod_two_pow, Nat.mod_self, Nat.xor_zero]
  have h2 : (a ^^^ 2 ^ 63) / 2 ^ 63 = (a / 2 ^ 63) ^^^ 1 := by rw [Nat.xor_div_two_pow, Nat.div_self (Nat.two_pow_pos 63)]
  have h3 : a / 2 ^ 63 = 0 ∨ a / 2 ^ 63 = 1 := by omega
  generalize a ^^^ 2 ^ 63 = t at h1 h2
  rcases h3 with h3 | h3
  · rw [h3] at h2
    have h2 : t / 2 ^ 63 = 1 := h2
    omega
  · rw [h3] at h2
    have h2 : t / 2 ^ 63 = 0 := h2
    omega
theorem uN_xor (x : Int64) : uN (x ^^^ (-9223372036854775808)) = (uN x + 9223372036854775808) % 18446744073709551616 := by
  rw [← nat_xor (uN_lt x)]
  exact UInt64.toNat_xor _ _
theorem uN_int (x : Int64) : x.toInt = if 2 * uN x < 18446744073709551616 then (uN x : Int) else (uN x : Int) - 18446744073709551616 := BitVec.toInt_eq_toNat_cond _
theorem uN_le (x y : Int64) : (x ^^^ (-9223372036854775808)) ≤ (y ^^^ (-9223372036854775808)) ↔ uN x ≤ uN y := by
  have hx := uN_lt x
  have hy := uN_lt y
  rw [Int64.le_iff_toInt_le, uN_int, uN_int, uN_xor, uN_xor]
  omega
theorem uN_sk (x : Int64) {k : Nat} (hk : k < 64) : uN (x.toUInt64 >>> ((nI k).toInt64.toUInt64 &&& Int64.toUInt64 63)).toInt64 = uN x / 2 ^ k := by
  have h : ((nI k).toInt64.toUInt64 &&& Int64.toUInt64 63).toNat % 64 = k := by
    rw [nI_l (by omega), UInt64.toNat_and]
    have e : (lN k).toUInt64.toNat = k % 2 ^ 64 := rfl
    have e2 : (Int64.toUInt64 63).toNat = 2 ^ 6 - 1 := by decide
    rw [e, e2, Nat.and_two_pow_sub_one_eq_mod]
    omega
  rw [uN_shr, h]
-- numbers: Int64 as unsigned numbers (the family uN of kit/laws/BITS stands ahead), and the class's arithmetic of 128 bits
theorem un_lN {n : Nat} (h : n < 18446744073709551616) : uN (lN n) = n := by
  show (Int64.ofNat n).toUInt64.toNat = n
  show (UInt64.ofNat n).toNat = n
  simp [UInt64.toNat_ofNat', h]
theorem un_eq (x : Int64) : lN (uN x) = x := uN_inj (un_lN (uN_lt x))
theorem un_of {x : Int64} {n : Nat} (h : uN x = n) : x = lN n := by rw [← h, un_eq]
theorem un_int {x : Int64} (h : uN x < 9223372036854775808) : x.toInt = (uN x : Int) := by
  rw [uN_int, if_pos (by omega)]
theorem un_neg (x : Int64) : x < 0 ↔ 9223372036854775808 ≤ uN x := by
  have hx := uN_lt x
  rw [Int64.lt_iff_toInt_lt, uN_int]
  have h0 : (0 : Int64).toInt = 0 := by decide
  rw [h0]
  split <;> omega
theorem un_lt {x y : Int64} (hx : uN x < 9223372036854775808) (hy : uN y < 9223372036854775808) : x < y ↔ uN x < uN y := by
  rw [Int64.lt_iff_toInt_lt, un_int hx, un_int hy]; omega
theorem un_le {x y : Int64} (hx : uN x < 9223372036854775808) (hy : uN y < 9223372036854775808) : x ≤ y ↔ uN x ≤ uN y := by
  rw [Int64.le_iff_toInt_le, un_int hx, un_int hy]; omega
theorem un_sub (x y : Int64) : uN (x - y) = (uN x + 18446744073709551616 - uN y) % 18446744073709551616 := by
  have hx := uN_lt x
  have hy := uN_lt y
  have h : uN (x - y + y) = uN x := by rw [Int64.sub_add_cancel]
  have hz := uN_lt (x - y)
  rw [uN_add] at h
  omega
/-- the upper half of a product -/
theorem A_high {A a B b : Nat} (hA : A < 2147483648) (ha : a < 4294967296) (hB : B < 2147483648) (hb : b < 4294967296) :
    ((((A * B) % 18446744073709551616 + ((A * b % 18446744073709551616 + a * b % 18446744073709551616 / 4294967296) % 18446744073709551616) / 4294967296) % 18446744073709551616) + ((a * B % 18446744073709551616 + ((A * b % 18446744073709551616 + a * b % 18446744073709551616 / 4294967296) % 18446744073709551616) % 4294967296) % 18446744073709551616) / 4294967296) % 18446744073709551616 = (A * 4294967296 + a) * (B * 4294967296 + b) / 18446744073709551616 := by
  have h1 : A * b ≤ 2147483647 * 4294967295 := Nat.mul_le_mul (by omega) (by omega)
  have h2 : a * b ≤ 4294967295 * 4294967295 := Nat.mul_le_mul (by omega) (by omega)
  have h3 : a * B ≤ 4294967295 * 2147483647 := Nat.mul_le_mul (by omega) (by omega)
  have h4 : A * B ≤ 2147483647 * 2147483647 := Nat.mul_le_mul (by omega) (by omega)
  have e : (A * 4294967296 + a) * (B * 4294967296 + b) = A * B * 18446744073709551616 + (A * b + a * B) * 4294967296 + a * b := by grind
  rw [e]
  generalize A * b = w1 at *
  generalize a * b = w2 at *
  generalize a * B = w3 at *
  generalize A * B = w4 at *
  omega
theorem A_highOf (a b : Int64) (ha : uN a < 9223372036854775808) (hb : uN b < 9223372036854775808) (N : qz_N) : ∃ h : Int64, fA_highOf a b N = some (h, N) ∧ uN h = uN a * uN b / 18446744073709551616 := by
  refine ⟨_, rfl, ?_⟩
  simp only [uN_add, uN_mul, uN_s32, uN_lo]
  have e1 : uN a = uN a / 4294967296 * 4294967296 + uN a % 4294967296 := by omega
  have e2 : uN b = uN b / 4294967296 * 4294967296 + uN b % 4294967296 := by omega
  have key := A_high (A := uN a / 4294967296) (a := uN a % 4294967296) (B := uN b / 4294967296) (b := uN b % 4294967296) (by omega) (by omega) (by omega) (by omega)
  rw [← e1, ← e2] at key
  exact key
/-- one bit of a division -/
theorem A_stepN {V d k : Nat} (hd : 0 < d) : let r := V / 2 ^ (k + 1) % d; let q := V / 2 ^ (k + 1) / d; let b := V / 2 ^ k % 2; V / 2 ^ k % d = (if 2 * r + b < d then 2 * r + b else 2 * r + b - d) ∧ V / 2 ^ k / d = (if 2 * r + b < d then 2 * q else 2 * q + 1) := by
  intro r q b
  have e1 : V / 2 ^ (k + 1) = V / 2 ^ k / 2 := by rw [Nat.pow_succ, ← Nat.div_div_eq_div_mul]
  have hq : V / 2 ^ (k + 1) = d * q + r := (Nat.div_add_mod _ _).symm
  have hr : r < d := Nat.mod_lt _ hd
  have hb : b < 2 := Nat.mod_lt _ (by decide)
  have e2 : V / 2 ^ k = d * (2 * q) + (2 * r + b) := by
    have : V / 2 ^ k = 2 * (V / 2 ^ k / 2) + b := by omega
    rw [this, ← e1, hq]; grind
  rw [e2]
  by_cases h : 2 * r + b < d
  · rw [if_pos h, if_pos h, Nat.mul_add_mod, Nat.mod_eq_of_lt h, Nat.mul_add_div hd, Nat.div_eq_of_lt h]
    exact ⟨rfl, rfl⟩
  · rw [if_neg h, if_neg h]
    have e3 : d * (2 * q) + (2 * r + b) = d * (2 * q + 1) + (2 * r + b - d) := by
      have : d * (2 * q + 1) = d * (2 * q) + d := by grind
      omega
    have h2 : 2 * r + b - d < d := by omega
    rw [e3, Nat.mul_add_mod, Nat.mod_eq_of_lt h2, Nat.mul_add_div hd, Nat.div_eq_of_lt h2]
    exact ⟨rfl, rfl⟩
theorem pf_lI {a : Nat} (h : a < 2 ^ 63) : (lN a).toInt = (a : Int) := lg_ofNat_toInt h
theorem pf_shr {a d : Nat} {D : Int64} (hD : (D.toBitVec.smod 64).toNat = d) (h : a < 2 ^ 62) : lN a >>> D = lN (a / 2 ^ d) := by
  have hd : a / 2 ^ d ≤ a := Nat.div_le_self _ _
  apply Int64.toInt_inj.mp
  have e : (lN a >>> D).toInt = (lN a).toInt >>> d := by
    rw [← hD]
    exact BitVec.toInt_sshiftRight ..
  rw [e, Int.shiftRight_eq_div_pow, pf_lI (by omega), pf_lI (by omega)]
  rfl
