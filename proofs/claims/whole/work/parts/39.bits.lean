/-! shifts and masks as whole numbers -/
theorem ofInt_bv (x : Int) : (Int32.ofInt x).toBitVec = BitVec.ofInt 32 x := rfl
theorem bv_nat (x : Int) : ((BitVec.ofInt 32 x).toNat : Int) = x % 4294967296 := by
  rw [BitVec.toNat_ofInt]
  have : (0 : Int) ≤ x % ((2 ^ 32 : Nat) : Int) := Int.emod_nonneg _ (by decide)
  omega
theorem sh_k : ∀ k : Nat, k < 32 → (Int32.ofInt (k : Int) &&& 31).toBitVec.smod 32 = BitVec.ofNat 32 k := by decide +kernel
theorem ishr_eq {v : Int} (h1 : -2147483648 ≤ v) (h2 : v < 2147483648) {k : Nat} (hk : k < 32) : ishr v (k : Int) = v / 2 ^ k := by
  unfold ishr
  show ((Int32.ofInt v).toBitVec.sshiftRight ((Int32.ofInt (k : Int) &&& 31).toBitVec.smod 32).toNat).toInt = _
  rw [sh_k k hk, BitVec.toInt_sshiftRight, BitVec.toNat_ofNat, Nat.mod_eq_of_lt (by omega)]
  have e : (Int32.ofInt v).toBitVec.toInt = v := ti' h1 h2
  rw [e, Int.shiftRight_eq_div_pow]
  rfl
theorem pow_cast (k : Nat) : (2 : Int) ^ k = ((2 ^ k : Nat) : Int) := by rw [Int.natCast_pow]; rfl
theorem bv_lt {b : BitVec 32} (h : b.toNat < 2147483648) : b.toInt = (b.toNat : Int) := BitVec.toInt_eq_toNat_of_lt (by omega)
theorem pow_dvd32 {k : Nat} (hk : k ≤ 32) : ((2 ^ k : Nat) : Int) ∣ 4294967296 := by
  have h : (2 ^ k : Nat) ∣ 2 ^ 32 := Nat.pow_dvd_pow 2 hk
  have := Int.natCast_dvd_natCast.mpr h
  exact this
theorem iand_mask {x : Int} {k : Nat} (hk : k < 32) : iand x (2 ^ k - 1) = x % 2 ^ k := by
  unfold iand
  have hp : 2 ^ k ≤ 2 ^ 31 := Nat.pow_le_pow_right (by decide) (by omega)
  have hpos : 0 < 2 ^ k := Nat.two_pow_pos k
  have h31 : (2 : Nat) ^ 31 = 2147483648 := by decide
  have hm : (BitVec.ofInt 32 ((2 : Int) ^ k - 1)).toNat = 2 ^ k - 1 := by
    have h := bv_nat ((2 : Int) ^ k - 1)
    rw [pow_cast] at h ⊢
    omega
  have hb : ((BitVec.ofInt 32 x) &&& (BitVec.ofInt 32 ((2 : Int) ^ k - 1))).toNat = (BitVec.ofInt 32 x).toNat % 2 ^ k := by
    rw [BitVec.toNat_and, hm, Nat.and_two_pow_sub_one_eq_mod]
  have hlt : (BitVec.ofInt 32 x).toNat % 2 ^ k < 2 ^ k := Nat.mod_lt _ hpos
  show ((BitVec.ofInt 32 x) &&& (BitVec.ofInt 32 ((2 : Int) ^ k - 1))).toInt = _
  rw [bv_lt (by omega), hb, Int.natCast_emod, bv_nat, pow_cast, Int.emod_emod_of_dvd _ (pow_dvd32 (by omega))]
theorem shu_k : ∀ k : Nat, k < 32 → ((Int32.ofInt (k : Int)).toUInt32 &&& Int32.toUInt32 31).toBitVec % 32 = BitVec.ofNat 32 k := by decide +kernel
theorem iushr_eq {v : Int} {k : Nat} (h0 : 0 < k) (hk : k < 32) : iushr v (k : Int) = (v % 4294967296) / 2 ^ k := by
  unfold iushr
  show ((BitVec.ofInt 32 v) >>> (((Int32.ofInt (k : Int)).toUInt32 &&& Int32.toUInt32 31).toBitVec % 32)).toInt = _
  rw [shu_k k hk]
  have hn : ((BitVec.ofInt 32 v) >>> (BitVec.ofNat 32 k)).toNat = (BitVec.ofInt 32 v).toNat / 2 ^ k := by
    show ((BitVec.ofInt 32 v) >>> (BitVec.ofNat 32 k).toNat).toNat = _
    rw [BitVec.toNat_ofNat, Nat.mod_eq_of_lt (by omega), BitVec.toNat_ushiftRight, Nat.shiftRight_eq_div_pow]
  have hlt : (BitVec.ofInt 32 v).toNat < 2 ^ 32 := (BitVec.ofInt 32 v).isLt
  have h2 : 2 ≤ 2 ^ k := Nat.pow_le_pow_right (n := 2) (by decide) h0
  have hd : (BitVec.ofInt 32 v).toNat / 2 ^ k ≤ (BitVec.ofInt 32 v).toNat / 2 := Nat.div_le_div_left h2 (by decide)
  rw [bv_lt (by omega), hn, Int.natCast_ediv, bv_nat, pow_cast]
theorem iushr_zero {v : Int} (h1 : -2147483648 ≤ v) (h2 : v < 2147483648) : iushr v 0 = v := by
  unfold iushr
  show ((BitVec.ofInt 32 v) >>> (((Int32.ofInt 0).toUInt32 &&& Int32.toUInt32 31).toBitVec % 32)).toInt = _
  rw [show ((Int32.ofInt 0).toUInt32 &&& Int32.toUInt32 31).toBitVec % 32 = BitVec.ofNat 32 0 by decide]
  have e : (BitVec.ofInt 32 v) >>> (BitVec.ofNat 32 0) = BitVec.ofInt 32 v := by
    show (BitVec.ofInt 32 v) >>> (BitVec.ofNat 32 0).toNat = _
    rw [BitVec.toNat_ofNat]
    exact BitVec.ushiftRight_zero _
  rw [e]
  exact ti' h1 h2
/-- the byte that the class lays is the reference's, with its sign -/
theorem byte_eq {v : Int} (h1 : -2147483648 ≤ v) (h2 : v < 2147483648) {k : Nat} (hk : k ≤ 24) : i2b (iushr v (k : Int)) = i2b (iand (ishr v (k : Int)) 255) ∧ 0 ≤ iand (ishr v (k : Int)) 255 ∧ iand (ishr v (k : Int)) 255 < 256 := by
  have em : iand (ishr v (k : Int)) 255 = v / 2 ^ k % 256 := by
    rw [ishr_eq h1 h2 (by omega)]
    exact iand_mask (k := 8) (by decide)
  have key : iushr v (k : Int) % 256 = v / 2 ^ k % 256 := by
    rcases Nat.eq_zero_or_pos k with rfl | h0
    · rw [show ((0 : Nat) : Int) = 0 from rfl, iushr_zero h1 h2]
      simp
    · rw [iushr_eq h0 (by omega)]
      have hp : (4294967296 : Int) = 2 ^ k * 2 ^ (32 - k) := by
        rw [← Int.pow_add, show k + (32 - k) = 32 by omega]
        rfl
      have hpk : (0 : Int) < 2 ^ k := by rw [pow_cast]; have := Nat.two_pow_pos k; omega
      have e : v = 2 ^ k * (2 ^ (32 - k) * (v / 4294967296)) + v % 4294967296 := by
        rw [← Int.mul_assoc, ← hp]
        exact (Int.mul_ediv_add_emod v 4294967296).symm
      have e2 : v / 2 ^ k = 2 ^ (32 - k) * (v / 4294967296) + (v % 4294967296) / 2 ^ k := by
        conv => lhs; rw [e]
        rw [Int.mul_add_ediv_left _ _ (by omega)]
      have h8 : ((2 : Int) ^ (32 - k)) = 256 * 2 ^ (24 - k) := by
        rw [show (256 : Int) = 2 ^ 8 from rfl, ← Int.pow_add, show 8 + (24 - k) = 32 - k by omega]
      rw [e2, h8, Int.mul_assoc, Int.mul_add_emod_self_left]
  rw [em]
  have hb : ∀ a b : Int, a % 256 = b % 256 → i2b a = i2b b := fun a b h => by unfold i2b; omega
  refine ⟨hb _ _ ?_, Int.emod_nonneg _ (by decide), Int.emod_lt_of_pos _ (by decide)⟩
  rw [key, Int.emod_emod_of_dvd _ (Int.dvd_refl _)]
