/-! THE PURE LEVEL: Int32 in the form zI z -/
def zI (z : Int) : Int32 := Int32.ofInt z
theorem zI_toInt {z : Int} (h0 : -2147483648 ≤ z) (h1 : z < 2147483648) : (zI z).toInt = z := Int32.toInt_ofInt_of_le h0 h1
theorem zI_bm (z : Int) : (zI z).toInt = z.bmod 4294967296 := Int32.toInt_ofInt
theorem zI_of (v : Int32) : v = zI v.toInt := (Int32.ofInt_toInt v).symm
theorem zI_lit (n : Nat) : (no_index (OfNat.ofNat n) : Int32) = zI (OfNat.ofNat n : Int) := rfl
theorem zI_ofNat (n : Nat) : Int32.ofNat n = zI (n : Int) := by
  rw [i_eq, zI_bm]
  exact Int32.toInt_ofNat
theorem zI_nI (n : Nat) : nI n = zI (n : Int) := zI_ofNat n
theorem zI_neg (a : Int) : -(zI a) = zI (-a) := (Int32.ofInt_neg a).symm
theorem zI_add (a b : Int) : zI a + zI b = zI (a + b) := (Int32.ofInt_add a b).symm
theorem zI_sub (a b : Int) : zI a - zI b = zI (a - b) := (Int32.ofInt_sub a b).symm
theorem zI_mul (a b : Int) : zI a * zI b = zI (a * b) := (Int32.ofInt_mul a b).symm
theorem zI_lt {a b : Int} (a0 : -2147483648 ≤ a) (a1 : a < 2147483648) (b0 : -2147483648 ≤ b) (b1 : b < 2147483648) : (zI a < zI b) = (a < b) := by
  rw [i_lt, zI_toInt a0 a1, zI_toInt b0 b1]
theorem zI_le {a b : Int} (a0 : -2147483648 ≤ a) (a1 : a < 2147483648) (b0 : -2147483648 ≤ b) (b1 : b < 2147483648) : (zI a ≤ zI b) = (a ≤ b) := by
  rw [i_le, zI_toInt a0 a1, zI_toInt b0 b1]
theorem zI_eq {a b : Int} (a0 : -2147483648 ≤ a) (a1 : a < 2147483648) (b0 : -2147483648 ≤ b) (b1 : b < 2147483648) : (zI a = zI b) = (a = b) := by
  rw [i_eq, zI_toInt a0 a1, zI_toInt b0 b1]
theorem zI_cl {a : Int} (a0 : 0 ≤ a) (a1 : a < 2147483648) : (zI a).toNatClampNeg = a.toNat := by
  show (zI a).toInt.toNat = _
  rw [zI_toInt (by omega) a1]
theorem zI_ix {a : Int} {n : Nat} (a0 : 0 ≤ a) (a1 : a < n) (a2 : a < 2147483648) : (zI a < zI 0 ∨ n ≤ (zI a).toNatClampNeg) = False := by
  rw [zI_cl a0 a2, zI_lt (by omega) a2 (by omega) (by omega)]
  simp; omega
theorem zI_div {a b : Int} (a0 : 0 ≤ a) (a1 : a < 2147483648) (b0 : 0 < b) (b1 : b < 2147483648) : zI a / zI b = zI (a / b) := by
  rw [i_eq, Int32.toInt_div, zI_toInt (by omega) a1, zI_toInt (by omega) b1, zI_bm, Int.tdiv_eq_ediv_of_nonneg a0]
theorem zI_and31 {n : Int} (n0 : 0 ≤ n) (n1 : n < 32) : zI n &&& zI 31 = zI n := by
  obtain ⟨k, rfl⟩ := Int.eq_ofNat_of_zero_le n0
  have h : ∀ k : Nat, k < 32 → zI (k : Int) &&& zI 31 = zI (k : Int) := by decide
  exact h k (by omega)
theorem zI_bv (z : Int) : (zI z).toBitVec = BitVec.ofInt 32 z := Int32.toBitVec_ofInt z
theorem zI_shr {a n : Int} (a0 : -2147483648 ≤ a) (a1 : a < 2147483648) (n0 : 0 ≤ n) (n1 : n < 32) : zI a >>> (zI n &&& zI 31) = zI (a / 2 ^ n.toNat) := by
  rw [zI_and31 n0 n1]
  rw [i_eq, zI_bm]
  obtain ⟨k, rfl⟩ := Int.eq_ofNat_of_zero_le n0
  have hk : ((zI (k : Int)).toBitVec.smod 32).toNat = k := by
    have h : ∀ k : Nat, k < 32 → ((zI (k : Int)).toBitVec.smod 32).toNat = k := by decide
    exact h k (by omega)
  show (zI a >>> zI (k : Int)).toBitVec.toInt = _
  rw [Int32.toBitVec_shiftRight, BitVec.sshiftRight_eq', BitVec.toInt_sshiftRight, hk]
  show ((zI a).toInt) >>> k = _
  rw [zI_toInt a0 a1, Int.shiftRight_eq_div_pow]
  show a / 2 ^ k = Int.bmod (a / 2 ^ k) _
  rw [Int.bmod_eq_of_le]
  · have : -2147483648 ≤ a / 2 ^ k := by
      have h2 : (1 : Int) ≤ 2 ^ k := by exact_mod_cast Nat.one_le_two_pow
      rw [Int.le_ediv_iff_mul_le (by omega)]
      have : (-2147483648 : Int) * 2 ^ k ≤ -2147483648 * 1 := Int.mul_le_mul_of_nonpos_left (by decide) h2
      omega
    omega
  · have h2 : (1 : Int) ≤ 2 ^ k := by exact_mod_cast Nat.one_le_two_pow
    have : a / 2 ^ k < 2147483648 := by
      rw [Int.ediv_lt_iff_lt_mul (by omega)]
      have : (2147483648 : Int) * 1 ≤ 2147483648 * 2 ^ k := Int.mul_le_mul_of_nonneg_left h2 (by decide)
      omega
    omega
theorem zI_shl {a n : Int} (n0 : 0 ≤ n) (n1 : n < 32) : zI a <<< (zI n &&& zI 31) = zI (a * 2 ^ n.toNat) := by
  rw [zI_and31 n0 n1]
  obtain ⟨k, rfl⟩ := Int.eq_ofNat_of_zero_le n0
  have hk : ((zI (k : Int)).toBitVec.smod 32).toNat = k := by
    have h : ∀ k : Nat, k < 32 → ((zI (k : Int)).toBitVec.smod 32).toNat = k := by decide
    exact h k (by omega)
  apply Int32.toBitVec_inj.mp
  rw [Int32.toBitVec_shiftLeft, BitVec.shiftLeft_eq', hk, zI_bv, zI_bv]
  apply BitVec.eq_of_toInt_eq
  rw [BitVec.toInt_shiftLeft, BitVec.toInt_ofInt]
  show Int.bmod (((BitVec.ofInt 32 a).toNat : Int) <<< k) _ = Int.bmod (a * 2 ^ k) _
  rw [Int.shiftLeft_eq, BitVec.toNat_ofInt]
  rw [Int.toNat_of_nonneg (Int.emod_nonneg _ (by decide))]
  exact Int.emod_mul_bmod a _
theorem zI_andm {a : Int} (k : Nat) (hk : k < 31) : zI a &&& zI (2 ^ k - 1) = zI (a % 2 ^ k) := by
  apply Int32.toBitVec_inj.mp
  rw [Int32.toBitVec_and, zI_bv, zI_bv, zI_bv]
  apply BitVec.eq_of_toNat_eq
  rw [BitVec.toNat_and, BitVec.toNat_ofInt, BitVec.toNat_ofInt, BitVec.toNat_ofInt]
  have h2 : (2 ^ k : Int) = ((2 ^ k : Nat) : Int) := by push_cast; rfl
  have h1 : (1 : Nat) ≤ 2 ^ k := Nat.one_le_two_pow
  have h3 : 2 ^ k ≤ 2 ^ 30 := Nat.pow_le_pow_right (by omega) (by omega)
  have h4 : ((2 ^ k - 1 : Int) % ((2 ^ 32 : Nat) : Int)).toNat = 2 ^ k - 1 := by
    rw [h2, Int.emod_eq_of_lt (by omega) (by omega)]
    omega
  rw [h4, Nat.and_two_pow_sub_one_eq_mod]
  have h5 : (0 : Int) ≤ a % 2 ^ k := Int.emod_nonneg _ (by rw [h2]; omega)
  have h6 : a % 2 ^ k < 2 ^ k := Int.emod_lt_of_pos _ (by rw [h2]; omega)
  have h7 : (a % 2 ^ k) % ((2 ^ 32 : Nat) : Int) = a % 2 ^ k := Int.emod_eq_of_lt h5 (by rw [h2] at h6 ⊢; omega)
  rw [h7]
  have h8 : ((2 ^ 32 : Nat) : Int) = 2 ^ k * 2 ^ (32 - k) := by
    rw [← Int.pow_add, show k + (32 - k) = 32 by omega]; rfl
  have h9 : (a % ((2 ^ 32 : Nat) : Int)) % 2 ^ k = a % 2 ^ k := by
    rw [h8, Int.emod_emod_of_dvd _ (Int.dvd_mul_right _ _)]
  rw [← h9, h2]
  have h10 : (0 : Int) ≤ a % ((2 ^ 32 : Nat) : Int) := Int.emod_nonneg _ (by decide)
  obtain ⟨m, hm⟩ := Int.eq_ofNat_of_zero_le h10
  rw [hm]
  rfl
theorem zI_and1 (a : Int) : zI a &&& zI 1 = zI (a % 2) := zI_andm 1 (by omega)
theorem zI_and7 (a : Int) : zI a &&& zI 7 = zI (a % 8) := zI_andm 3 (by omega)
theorem zI_and15 (a : Int) : zI a &&& zI 15 = zI (a % 16) := zI_andm 4 (by omega)
theorem zI_and255 (a : Int) : zI a &&& zI 255 = zI (a % 256) := zI_andm 8 (by omega)
