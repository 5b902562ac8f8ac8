/-! numbers: longs and ints by their values -/
theorem n_rng (x : Int32) : -2147483648 ≤ x.toInt ∧ x.toInt < 2147483648 := ⟨Int32.le_toInt x, Int32.toInt_lt x⟩
theorem n_rngL (x : Int64) : -9223372036854775808 ≤ x.toInt ∧ x.toInt < 9223372036854775808 := ⟨Int64.le_toInt x, Int64.toInt_lt x⟩
theorem n_bmod {z : Int} (h1 : -2147483648 ≤ z) (h2 : z < 2147483648) : z.bmod (2 ^ 32) = z := by
  rw [Int.bmod_eq_of_le] <;> omega
theorem n_bmodL {z : Int} (h1 : -9223372036854775808 ≤ z) (h2 : z < 9223372036854775808) : z.bmod (2 ^ 64) = z := by
  rw [Int.bmod_eq_of_le] <;> omega
theorem n_add {x y : Int32} (h1 : -2147483648 ≤ x.toInt + y.toInt) (h2 : x.toInt + y.toInt < 2147483648) : (x + y).toInt = x.toInt + y.toInt := by
  rw [Int32.toInt_add]; exact n_bmod h1 h2
theorem n_sub {x y : Int32} (h1 : -2147483648 ≤ x.toInt - y.toInt) (h2 : x.toInt - y.toInt < 2147483648) : (x - y).toInt = x.toInt - y.toInt := by
  rw [Int32.toInt_sub]; exact n_bmod h1 h2
theorem n_mul {x y : Int32} (h1 : -2147483648 ≤ x.toInt * y.toInt) (h2 : x.toInt * y.toInt < 2147483648) : (x * y).toInt = x.toInt * y.toInt := by
  rw [Int32.toInt_mul]; exact n_bmod h1 h2
theorem n_addL {x y : Int64} (h1 : -9223372036854775808 ≤ x.toInt + y.toInt) (h2 : x.toInt + y.toInt < 9223372036854775808) : (x + y).toInt = x.toInt + y.toInt := by
  rw [Int64.toInt_add]; exact n_bmodL h1 h2
theorem n_subL {x y : Int64} (h1 : -9223372036854775808 ≤ x.toInt - y.toInt) (h2 : x.toInt - y.toInt < 9223372036854775808) : (x - y).toInt = x.toInt - y.toInt := by
  rw [Int64.toInt_sub]; exact n_bmodL h1 h2
theorem n_mulL {x y : Int64} (h1 : -9223372036854775808 ≤ x.toInt * y.toInt) (h2 : x.toInt * y.toInt < 9223372036854775808) : (x * y).toInt = x.toInt * y.toInt := by
  rw [Int64.toInt_mul]; exact n_bmodL h1 h2
theorem n_i2l (x : Int32) : (Int32.toInt64 x).toInt = x.toInt := Int32.toInt_toInt64 x
theorem n_l2i {x : Int64} (h1 : -2147483648 ≤ x.toInt) (h2 : x.toInt < 2147483648) : (Int64.toInt32 x).toInt = x.toInt := by
  rw [Int64.toInt_toInt32]; exact n_bmod h1 h2
theorem n_shr (x : Int64) (k : Int64) (n : Nat) (hk : k.toBitVec.smod 64 = BitVec.ofNat 64 n) (hn : n < 64) : (x >>> k).toInt = x.toInt / 2 ^ n := by
  show (Int64.shiftRight x k).toBitVec.toInt = _
  unfold Int64.shiftRight
  rw [hk]
  show (BitVec.sshiftRight x.toBitVec (BitVec.ofNat 64 n).toNat).toInt = _
  rw [BitVec.toInt_sshiftRight]
  have : (BitVec.ofNat 64 n).toNat = n := by rw [BitVec.toNat_ofNat]; omega
  rw [this, Int.shiftRight_eq_div_pow]
  rfl
theorem n_shr30 (x : Int64) : (x >>> (Int32.toInt64 30 &&& 63)).toInt = x.toInt / 1073741824 := n_shr x _ 30 (by decide) (by decide)
theorem n_shr28 (x : Int64) : (x >>> (Int32.toInt64 28 &&& 63)).toInt = x.toInt / 268435456 := n_shr x _ 28 (by decide) (by decide)
theorem n_mask (x : Int64) (m : Int64) (n : Nat) (hm : m.toBitVec = BitVec.ofNat 64 (2 ^ n - 1)) (hn : n < 63) : (x &&& m).toInt = x.toInt % 2 ^ n := by
  have e1 : (x &&& m).toBitVec = x.toBitVec &&& BitVec.ofNat 64 (2 ^ n - 1) := by rw [← hm]; rfl
  have hlt : (2 : Nat) ^ n ≤ 2 ^ 62 := Nat.pow_le_pow_right (by decide) (by omega)
  have e2 : (x.toBitVec &&& BitVec.ofNat 64 (2 ^ n - 1)).toNat = x.toBitVec.toNat % 2 ^ n := by
    rw [BitVec.toNat_and, BitVec.toNat_ofNat, Nat.mod_eq_of_lt (by omega), Nat.and_two_pow_sub_one_eq_mod]
  have hpos : 0 < (2 : Nat) ^ n := Nat.pow_pos (by decide)
  have hmod : x.toBitVec.toNat % 2 ^ n < 2 ^ n := Nat.mod_lt _ hpos
  have e3 : (x &&& m).toInt = ((x.toBitVec.toNat % 2 ^ n : Nat) : Int) := by
    show (x &&& m).toBitVec.toInt = _
    rw [e1, BitVec.toInt_eq_toNat_of_lt (by rw [e2]; omega), e2]
  rw [e3]
  have e4 : x.toInt = (x.toBitVec.toNat : Int) ∨ x.toInt = (x.toBitVec.toNat : Int) - 2 ^ 64 := by
    show x.toBitVec.toInt = _ ∨ x.toBitVec.toInt = _
    rw [BitVec.toInt_eq_toNat_cond]
    split
    · exact Or.inl rfl
    · exact Or.inr (by norm_cast)
  have e5 : ((2 : Int) ^ 64) = 2 ^ n * 2 ^ (64 - n) := by rw [← Int.pow_add]; congr 1; omega
  rcases e4 with e4 | e4
  · rw [e4]; norm_cast
  · rw [e4, e5, Int.sub_mul_emod_self_left]; norm_cast
theorem n_mask30 (x : Int64) : (x &&& 1073741823).toInt = x.toInt % 1073741824 := n_mask x _ 30 (by decide) (by decide)
theorem n_mask28 (x : Int64) : (x &&& 268435455).toInt = x.toInt % 268435456 := n_mask x _ 28 (by decide) (by decide)
