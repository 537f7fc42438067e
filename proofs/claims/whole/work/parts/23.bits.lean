/-! Bits of small whole numbers, as sums and remainders. -/
theorem bt_I (n : Nat) (h : n < 2147483648) : (BitVec.ofNat 32 n).toInt = (n : Int) := by
  rw [BitVec.toInt_eq_toNat_of_lt]
  · rw [BitVec.toNat_ofNat, Nat.mod_eq_of_lt (by omega)]
  · rw [BitVec.toNat_ofNat, Nat.mod_eq_of_lt (by omega)]; omega
theorem bt_and (a b : Nat) (h : a &&& b < 2147483648) : iAnd (a : Int) (b : Int) = ((a &&& b : Nat) : Int) := by
  show (Int32.ofInt (a : Int) &&& Int32.ofInt (b : Int)).toBitVec.toInt = _
  rw [Int32.toBitVec_and]
  show (BitVec.ofInt 32 (a : Int) &&& BitVec.ofInt 32 (b : Int)).toInt = _
  rw [BitVec.ofInt_natCast, BitVec.ofInt_natCast, ← BitVec.ofNat_and, bt_I _ h]
theorem bt_or (a b : Nat) (h : a ||| b < 2147483648) : iOr (a : Int) (b : Int) = ((a ||| b : Nat) : Int) := by
  show (Int32.ofInt (a : Int) ||| Int32.ofInt (b : Int)).toBitVec.toInt = _
  rw [Int32.toBitVec_or]
  show (BitVec.ofInt 32 (a : Int) ||| BitVec.ofInt 32 (b : Int)).toInt = _
  rw [BitVec.ofInt_natCast, BitVec.ofInt_natCast, ← BitVec.ofNat_or, bt_I _ h]
theorem bt_xor (a b : Nat) (h : a ^^^ b < 2147483648) : iXor (a : Int) (b : Int) = ((a ^^^ b : Nat) : Int) := by
  show (Int32.ofInt (a : Int) ^^^ Int32.ofInt (b : Int)).toBitVec.toInt = _
  rw [Int32.toBitVec_xor]
  show (BitVec.ofInt 32 (a : Int) ^^^ BitVec.ofInt 32 (b : Int)).toInt = _
  rw [BitVec.ofInt_natCast, BitVec.ofInt_natCast, ← BitVec.ofNat_xor, bt_I _ h]
theorem bt_mask {x : Int} (k : Nat) (h0 : 0 ≤ x) (h1 : x < 2147483648) : iAnd x (((2 ^ k - 1 : Nat)) : Int) = x % (2 ^ k : Nat) := by
  obtain ⟨n, rfl⟩ := Int.eq_ofNat_of_zero_le h0
  have e : n &&& (2 ^ k - 1) = n % 2 ^ k := Nat.and_two_pow_sub_one_eq_mod n k
  have hl : n % 2 ^ k ≤ n := Nat.mod_le n _
  show iAnd (n : Int) _ = (n : Int) % _
  rw [bt_and _ _ (by rw [e]; omega), e, Int.natCast_emod]
theorem iA1 {x : Int} (h0 : 0 ≤ x) (h1 : x < 2147483648) : iAnd x 1 = x % 2 := bt_mask 1 h0 h1
theorem iA127 {x : Int} (h0 : 0 ≤ x) (h1 : x < 2147483648) : iAnd x 127 = x % 128 := bt_mask 7 h0 h1
theorem iA255 {x : Int} (h0 : 0 ≤ x) (h1 : x < 2147483648) : iAnd x 255 = x % 256 := bt_mask 8 h0 h1
theorem bt_hi (n k : Nat) (hn : n < 2147483648) (hk : k ≤ 31) : n &&& (4294967296 - 2 ^ k) = n - n % 2 ^ k := by
  have e1 : (n &&& (4294967296 - 2 ^ k)) / 2 ^ k = n / 2 ^ k := by
    rw [Nat.and_div_two_pow]
    have e : (4294967296 - 2 ^ k) / 2 ^ k = 2 ^ (32 - k) - 1 := by
      have h2 : 4294967296 = 2 ^ (32 - k) * 2 ^ k := by rw [← Nat.pow_add]; rw [show 32 - k + k = 32 by omega]
      rw [h2, show 2 ^ (32 - k) * 2 ^ k - 2 ^ k = (2 ^ (32 - k) - 1) * 2 ^ k by rw [Nat.sub_mul, Nat.one_mul], Nat.mul_div_cancel _ (Nat.two_pow_pos k)]
    rw [e, Nat.and_two_pow_sub_one_eq_mod]
    apply Nat.mod_eq_of_lt
    rw [Nat.div_lt_iff_lt_mul (Nat.two_pow_pos k), ← Nat.pow_add, show 32 - k + k = 32 by omega]
    omega
  have e2 : (n &&& (4294967296 - 2 ^ k)) % 2 ^ k = 0 := by
    rw [Nat.and_mod_two_pow]
    have e : (4294967296 - 2 ^ k) % 2 ^ k = 0 := by
      have h2 : 4294967296 = 2 ^ (32 - k) * 2 ^ k := by rw [← Nat.pow_add]; rw [show 32 - k + k = 32 by omega]
      rw [h2, show 2 ^ (32 - k) * 2 ^ k - 2 ^ k = (2 ^ (32 - k) - 1) * 2 ^ k by rw [Nat.sub_mul, Nat.one_mul], Nat.mul_mod_left]
    rw [e, Nat.and_zero]
  have e3 := Nat.div_add_mod (n &&& (4294967296 - 2 ^ k)) (2 ^ k)
  have e4 := Nat.div_add_mod n (2 ^ k)
  rw [e1, e2] at e3
  omega
theorem bt_neg (k : Nat) (hk : k ≤ 31) : BitVec.ofInt 32 (-((2 ^ k : Nat) : Int)) = BitVec.ofNat 32 (4294967296 - 2 ^ k) :=
  (by decide +kernel : ∀ k : Nat, k < 32 → BitVec.ofInt 32 (-((2 ^ k : Nat) : Int)) = BitVec.ofNat 32 (4294967296 - 2 ^ k)) k (by omega)
theorem bt_andN {x : Int} (k : Nat) (hk : k ≤ 31) (h0 : 0 ≤ x) (h1 : x < 2147483648) : iAnd x (-((2 ^ k : Nat) : Int)) = x - x % (2 ^ k : Nat) := by
  obtain ⟨n, rfl⟩ := Int.eq_ofNat_of_zero_le h0
  have hn : n < 2147483648 := by omega
  have e := bt_hi n k hn hk
  have hl : n % 2 ^ k ≤ n := Nat.mod_le n _
  show (Int32.ofInt (n : Int) &&& Int32.ofInt (-((2 ^ k : Nat) : Int))).toBitVec.toInt = _
  rw [Int32.toBitVec_and]
  show (BitVec.ofInt 32 (n : Int) &&& BitVec.ofInt 32 (-((2 ^ k : Nat) : Int))).toInt = _
  rw [BitVec.ofInt_natCast, bt_neg k hk, ← BitVec.ofNat_and, bt_I _ (by rw [e]; omega), e, Int.natCast_sub hl, Int.natCast_emod]
theorem iAm256 {x : Int} (h0 : 0 ≤ x) (h1 : x < 2147483648) : iAnd x (-256) = x - x % 256 := bt_andN 8 (by omega) h0 h1
theorem iAm2 {x : Int} (h0 : 0 ≤ x) (h1 : x < 2147483648) : iAnd x (-2) = x - x % 2 := bt_andN 1 (by omega) h0 h1
theorem iAm1 {x : Int} (h0 : 0 ≤ x) (h1 : x < 2147483648) : iAnd x (-1) = x := by
  have e := bt_andN 0 (by omega) h0 h1
  rw [show ((2 ^ 0 : Nat) : Int) = 1 from rfl, Int.emod_one, Int.sub_zero] at e
  exact e
theorem iA128 {x : Int} (h0 : 0 ≤ x) (h1 : x < 2147483648) : iAnd x 128 = 128 * (x / 128 % 2) := by
  obtain ⟨n, rfl⟩ := Int.eq_ofNat_of_zero_le h0
  have e1 : (n &&& 128) / 2 ^ 7 = n / 128 % 2 := by
    rw [Nat.and_div_two_pow]
    exact Nat.and_one_is_mod _
  have e2 : (n &&& 128) % 2 ^ 7 = 0 := by
    rw [Nat.and_mod_two_pow]
    exact Nat.and_zero _
  have e : n &&& 128 = 128 * (n / 128 % 2) := by omega
  show iAnd (n : Int) ((128 : Nat) : Int) = _
  rw [bt_and n 128 (by rw [e]; omega), e]
  omega
theorem iO_in (a b : Int) : -2147483648 ≤ iOr a b ∧ iOr a b < 2147483648 := ⟨Int32.le_toInt _, Int32.toInt_lt _⟩
theorem iX_in (a b : Int) : -2147483648 ≤ iXor a b ∧ iXor a b < 2147483648 := ⟨Int32.le_toInt _, Int32.toInt_lt _⟩
theorem iO0 {x : Int} (h0 : -2147483648 ≤ x) (h1 : x < 2147483648) : iOr x 0 = x := by
  show (Int32.ofInt x ||| Int32.ofInt 0).toInt = x
  rw [show Int32.ofInt 0 = 0 from rfl, Int32.or_zero, Int32.toInt_ofInt_of_le (by omega) (by omega)]
theorem iO_m2_0 : iOr 0 (-2) = -2 := by decide +kernel
theorem iO_m2_1 : iOr 1 (-2) = -1 := by decide +kernel
theorem bt_orS {a b : Int} (k : Nat) (h0 : 0 ≤ a) (h1 : a < (2 ^ k : Nat)) (h2 : 0 ≤ b) (h3 : (2 ^ k : Nat) * b + a < 2147483648) : iOr ((2 ^ k : Nat) * b) a = (2 ^ k : Nat) * b + a := by
  obtain ⟨n, rfl⟩ := Int.eq_ofNat_of_zero_le h0
  obtain ⟨q, rfl⟩ := Int.eq_ofNat_of_zero_le h2
  have hn : n < 2 ^ k := Int.ofNat_lt.1 h1
  have e := Nat.two_pow_add_eq_or_of_lt hn q
  have h4 : 2 ^ k * q + n < 2147483648 := by
    rw [← Int.natCast_mul] at h3
    omega
  show iOr ((2 ^ k : Nat) * (q : Int)) (n : Int) = ((2 ^ k : Nat) * (q : Int)) + (n : Int)
  rw [← Int.natCast_mul, bt_or _ _ (by rw [← e]; exact h4), ← e, Int.natCast_add]
theorem iO_comm (a b : Int) : iOr a b = iOr b a := by unfold iOr; rw [Int32.or_comm]
theorem iOhl {a b : Int} (h0 : 0 ≤ a) (h1 : a < 256) (h2 : 0 ≤ b) (h3 : b < 256) : iOr a (b * 256) = a + 256 * b := by
  have e := bt_orS (a := a) (b := b) 8 h0 h1 h2 (by show 256 * b + a < _; omega)
  rw [iO_comm, Int.mul_comm b 256]
  exact e.trans (Int.add_comm _ _)
theorem iOw {x u : Int} (h0 : 0 ≤ x) (h1 : x < 65536) (h2 : 0 ≤ u) (h3 : u < 256) : iOr (x - x % 256) u = x - x % 256 + u := by
  have e := bt_orS (a := u) (b := x / 256) 8 h2 h3 (by omega) (by show 256 * (x / 256) + u < _; omega)
  rw [show x - x % 256 = (2 ^ 8 : Nat) * (x / 256) by show _ = 256 * (x / 256); omega]
  exact e
theorem iO128 {x : Int} (h0 : 0 ≤ x) (h1 : x < 128) : iOr x 128 = x + 128 := by
  have e := bt_orS (a := x) (b := 1) 7 h0 h1 (by omega) (by show 128 * 1 + x < _; omega)
  rw [iO_comm, Int.add_comm]
  exact e
theorem iO1 {x : Int} (h0 : 0 ≤ x) (h1 : x < 2147483648) : iOr x 1 = x + 1 - x % 2 := by
  obtain ⟨n, rfl⟩ := Int.eq_ofNat_of_zero_le h0
  have e : n ||| 1 = n + 1 - n % 2 := by
    have e1 : (n ||| 1) / 2 ^ 1 = n / 2 := by rw [Nat.or_div_two_pow]; simp
    have e2 : (n ||| 1) % 2 ^ 1 = 1 := by
      rw [Nat.or_mod_two_pow]
      rcases Nat.mod_two_eq_zero_or_one n with h | h <;> rw [show 2 ^ 1 = 2 from rfl, h] <;> decide
    omega
  show iOr (n : Int) ((1 : Nat) : Int) = _
  rw [bt_or _ _ (by rw [e]; omega), e]
  omega
theorem iX1 {x : Int} (h0 : 0 ≤ x) (h1 : x < 2147483648) : iXor x 1 = x + 1 - 2 * (x % 2) := by
  obtain ⟨n, rfl⟩ := Int.eq_ofNat_of_zero_le h0
  have e : n ^^^ 1 = n + 1 - 2 * (n % 2) := by
    have e1 : (n ^^^ 1) / 2 ^ 1 = n / 2 := by rw [Nat.xor_div_two_pow]; simp
    have e2 : (n ^^^ 1) % 2 ^ 1 = 1 - n % 2 := by
      rw [Nat.xor_mod_two_pow]
      rcases Nat.mod_two_eq_zero_or_one n with h | h <;> rw [show 2 ^ 1 = 2 from rfl, h] <;> decide
    omega
  show iXor (n : Int) ((1 : Nat) : Int) = _
  rw [bt_xor _ _ (by rw [e]; omega), e]
  omega
theorem bt_x128 : ∀ n : Nat, n < 256 → n ^^^ 128 = n + 128 - 256 * (n / 128) := by decide +kernel
/-- a sheet turned about -/
def abt (c : Int) : Int := c + 128 - 256 * (c / 128 % 2) + 32768 - 65536 * (c / 32768 % 2)
theorem iXabt {x : Int} (h0 : 0 ≤ x) (h1 : x < 65536) : iXor x 32896 = abt x := by
  obtain ⟨n, rfl⟩ := Int.eq_ofNat_of_zero_le h0
  have hn : n < 65536 := by omega
  have e1 : (n ^^^ 32896) / 2 ^ 8 = n / 256 + 128 - 256 * (n / 256 / 128) := by
    rw [Nat.xor_div_two_pow]
    exact bt_x128 (n / 256) (by omega)
  have e2 : (n ^^^ 32896) % 2 ^ 8 = n % 256 + 128 - 256 * (n % 256 / 128) := by
    rw [Nat.xor_mod_two_pow]
    exact bt_x128 (n % 256) (by omega)
  have e : n ^^^ 32896 = n + 128 + 32768 - 256 * (n / 128 % 2) - 65536 * (n / 32768 % 2) := by omega
  show iXor (n : Int) ((32896 : Nat) : Int) = _
  rw [bt_xor _ _ (by rw [e]; omega), e]
  unfold abt
  omega
theorem iA1w : iAnd 0 1 = 0 ∧ iAnd 1 1 = 1 ∧ iAnd 2 1 = 0 ∧ iAnd 3 1 = 1 := by decide +kernel
theorem iA2w : iAnd 0 2 = 0 ∧ iAnd 1 2 = 0 ∧ iAnd 2 2 = 2 ∧ iAnd 3 2 = 2 := by decide +kernel
