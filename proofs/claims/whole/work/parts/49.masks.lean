/-! masks as natural numbers -/
theorem bv_lt64 {b : BitVec 64} (h : b.toNat < 9223372036854775808) : b.toInt = (b.toNat : Int) := BitVec.toInt_eq_toNat_of_lt (by omega)
theorem n2_31 : (2 : Nat) ^ 31 = 2147483648 := by decide
theorem n2_63 : (2 : Nat) ^ 63 = 9223372036854775808 := by decide
theorem n2_32 : (2 : Nat) ^ 32 = 4294967296 := by decide
theorem n2_64 : (2 : Nat) ^ 64 = 18446744073709551616 := by decide
theorem ior_nat {m n : Nat} (h1 : m < 2147483648) (h2 : n < 2147483648) : ior (m : Int) (n : Int) = ((m ||| n : Nat) : Int) := by
  unfold ior
  show ((BitVec.ofInt 32 (m : Int)) ||| (BitVec.ofInt 32 (n : Int))).toInt = _
  have hl : m ||| n < 2 ^ 31 := Nat.or_lt_two_pow (by rw [n2_31]; exact h1) (by rw [n2_31]; exact h2)
  rw [n2_31] at hl
  have e : ((BitVec.ofInt 32 (m : Int)) ||| (BitVec.ofInt 32 (n : Int))).toNat = m ||| n := by
    rw [BitVec.ofInt_natCast, BitVec.ofInt_natCast, BitVec.toNat_or, BitVec.toNat_ofNat, BitVec.toNat_ofNat, n2_32, Nat.mod_eq_of_lt (by omega), Nat.mod_eq_of_lt (by omega)]
  rw [bv_lt (by omega), e]
theorem iand_nat {m n : Nat} (h1 : m < 2147483648) (h2 : n < 2147483648) : iand (m : Int) (n : Int) = ((m &&& n : Nat) : Int) := by
  unfold iand
  show ((BitVec.ofInt 32 (m : Int)) &&& (BitVec.ofInt 32 (n : Int))).toInt = _
  have hl : m &&& n ≤ m := Nat.and_le_left
  have e : ((BitVec.ofInt 32 (m : Int)) &&& (BitVec.ofInt 32 (n : Int))).toNat = m &&& n := by
    rw [BitVec.ofInt_natCast, BitVec.ofInt_natCast, BitVec.toNat_and, BitVec.toNat_ofNat, BitVec.toNat_ofNat, n2_32, Nat.mod_eq_of_lt (by omega), Nat.mod_eq_of_lt (by omega)]
  rw [bv_lt (by omega), e]
theorem lor_nat {m n : Nat} (h1 : m < 9223372036854775808) (h2 : n < 9223372036854775808) : lor (m : Int) (n : Int) = ((m ||| n : Nat) : Int) := by
  unfold lor
  show ((BitVec.ofInt 64 (m : Int)) ||| (BitVec.ofInt 64 (n : Int))).toInt = _
  have hl : m ||| n < 2 ^ 63 := Nat.or_lt_two_pow (by rw [n2_63]; exact h1) (by rw [n2_63]; exact h2)
  rw [n2_63] at hl
  have e : ((BitVec.ofInt 64 (m : Int)) ||| (BitVec.ofInt 64 (n : Int))).toNat = m ||| n := by
    rw [BitVec.ofInt_natCast, BitVec.ofInt_natCast, BitVec.toNat_or, BitVec.toNat_ofNat, BitVec.toNat_ofNat, n2_64, Nat.mod_eq_of_lt (by omega), Nat.mod_eq_of_lt (by omega)]
  rw [bv_lt64 (by omega), e]
theorem land_nat {m n : Nat} (h1 : m < 9223372036854775808) (h2 : n < 9223372036854775808) : land (m : Int) (n : Int) = ((m &&& n : Nat) : Int) := by
  unfold land
  show ((BitVec.ofInt 64 (m : Int)) &&& (BitVec.ofInt 64 (n : Int))).toInt = _
  have hl : m &&& n ≤ m := Nat.and_le_left
  have e : ((BitVec.ofInt 64 (m : Int)) &&& (BitVec.ofInt 64 (n : Int))).toNat = m &&& n := by
    rw [BitVec.ofInt_natCast, BitVec.ofInt_natCast, BitVec.toNat_and, BitVec.toNat_ofNat, BitVec.toNat_ofNat, n2_64, Nat.mod_eq_of_lt (by omega), Nat.mod_eq_of_lt (by omega)]
  rw [bv_lt64 (by omega), e]
theorem ishl_nat {m k : Nat} (hk : k < 32) (h : m * 2 ^ k < 2147483648) : ishl (m : Int) (k : Int) = ((m * 2 ^ k : Nat) : Int) := by
  unfold ishl
  show ((BitVec.ofInt 32 (m : Int)) <<< ((Int32.ofInt (k : Int) &&& 31).toBitVec.smod 32).toNat).toInt = _
  have e : ((BitVec.ofInt 32 (m : Int)) <<< ((Int32.ofInt (k : Int) &&& 31).toBitVec.smod 32).toNat).toNat = m * 2 ^ k := by
    have h0 : m ≤ m * 2 ^ k := Nat.le_mul_of_pos_right _ (Nat.two_pow_pos k)
    rw [sh_k k hk, BitVec.toNat_shiftLeft, BitVec.toNat_ofNat, n2_32, Nat.mod_eq_of_lt (show k < 4294967296 by omega), BitVec.ofInt_natCast, BitVec.toNat_ofNat, n2_32, Nat.mod_eq_of_lt (show m < 4294967296 by omega), Nat.shiftLeft_eq, Nat.mod_eq_of_lt (by omega)]
  rw [bv_lt (by omega), e]
theorem sh_k64 : ∀ k : Nat, k < 64 → ((Int32.ofInt (k : Int)).toInt64 &&& 63).toBitVec.smod 64 = BitVec.ofNat 64 k := by decide +kernel
theorem lshl_nat {m k : Nat} (hk : k < 64) (h : m * 2 ^ k < 9223372036854775808) : lshl (m : Int) (k : Int) = ((m * 2 ^ k : Nat) : Int) := by
  unfold lshl
  show ((BitVec.ofInt 64 (m : Int)) <<< (((Int32.ofInt (k : Int)).toInt64 &&& 63).toBitVec.smod 64).toNat).toInt = _
  have e : ((BitVec.ofInt 64 (m : Int)) <<< (((Int32.ofInt (k : Int)).toInt64 &&& 63).toBitVec.smod 64).toNat).toNat = m * 2 ^ k := by
    have h0 : m ≤ m * 2 ^ k := Nat.le_mul_of_pos_right _ (Nat.two_pow_pos k)
    rw [sh_k64 k hk, BitVec.toNat_shiftLeft, BitVec.toNat_ofNat, n2_64, Nat.mod_eq_of_lt (show k < 18446744073709551616 by omega), BitVec.ofInt_natCast, BitVec.toNat_ofNat, n2_64, Nat.mod_eq_of_lt (show m < 18446744073709551616 by omega), Nat.shiftLeft_eq, Nat.mod_eq_of_lt (by omega)]
  rw [bv_lt64 (by omega), e]
theorem lshr_nat {m k : Nat} (hk : k < 64) (h : m < 9223372036854775808) : lshr (m : Int) (k : Int) = ((m / 2 ^ k : Nat) : Int) := by
  unfold lshr
  show ((BitVec.ofInt 64 (m : Int)).sshiftRight (((Int32.ofInt (k : Int)).toInt64 &&& 63).toBitVec.smod 64).toNat).toInt = _
  have e : (BitVec.ofInt 64 (m : Int)).toInt = (m : Int) := tl' (z := (m : Int)) (by omega) (by omega)
  rw [sh_k64 k hk, BitVec.toInt_sshiftRight, BitVec.toNat_ofNat, n2_64, Nat.mod_eq_of_lt (show k < 18446744073709551616 by omega), e, Int.shiftRight_eq_div_pow, Int.natCast_ediv]
theorem lushr_nat {m k : Nat} (hk : k < 64) (h : m < 9223372036854775808) : lushr (m : Int) (k : Int) = ((m / 2 ^ k : Nat) : Int) := by
  have hs : ∀ k : Nat, k < 64 → ((Int32.ofInt (k : Int)).toInt64.toUInt64 &&& Int64.toUInt64 63).toBitVec % 64 = BitVec.ofNat 64 k := by decide +kernel
  unfold lushr
  show ((BitVec.ofInt 64 (m : Int)) >>> (((Int32.ofInt (k : Int)).toInt64.toUInt64 &&& Int64.toUInt64 63).toBitVec % 64).toNat).toInt = _
  have e : ((BitVec.ofInt 64 (m : Int)) >>> (((Int32.ofInt (k : Int)).toInt64.toUInt64 &&& Int64.toUInt64 63).toBitVec % 64).toNat).toNat = m / 2 ^ k := by
    rw [hs k hk, BitVec.toNat_ushiftRight, BitVec.toNat_ofNat, n2_64, Nat.mod_eq_of_lt (show k < 18446744073709551616 by omega), BitVec.ofInt_natCast, BitVec.toNat_ofNat, n2_64, Nat.mod_eq_of_lt (show m < 18446744073709551616 by omega), Nat.shiftRight_eq_div_pow]
  have hl : m / 2 ^ k ≤ m := Nat.div_le_self _ _
  rw [bv_lt64 (by omega), e]
theorem ishr_nat {m k : Nat} (hk : k < 32) (h : m < 2147483648) : ishr (m : Int) (k : Int) = ((m / 2 ^ k : Nat) : Int) := by
  rw [ishr_eq (by omega) (by omega) hk, Int.natCast_ediv, pow_cast]
theorem p2_lt {k n : Nat} (h : k < n) : 2 ^ k < 2 ^ n := Nat.pow_lt_pow_right (by decide) h
theorem ishl1 {k : Nat} (hk : k < 31) : ishl 1 (k : Int) = ((2 ^ k : Nat) : Int) := by
  have h := p2_lt hk
  rw [n2_31] at h
  have e := ishl_nat (m := 1) (show k < 32 by omega) (by rw [Nat.one_mul]; exact h)
  rw [Nat.one_mul] at e
  exact e
theorem lshl1 {k : Nat} (hk : k < 63) : lshl 1 (k : Int) = ((2 ^ k : Nat) : Int) := by
  have h := p2_lt hk
  rw [n2_63] at h
  have e := lshl_nat (m := 1) (show k < 64 by omega) (by rw [Nat.one_mul]; exact h)
  rw [Nat.one_mul] at e
  exact e
theorem tb_div {m k : Nat} : m.testBit k = true ↔ m / 2 ^ k % 2 = 1 := by rw [Nat.testBit_eq_decide_div_mod_eq]; exact decide_eq_true_iff
theorem ibit {m k : Nat} (hk : k < 32) (h : m < 2147483648) : iand (ishr (m : Int) (k : Int)) 1 = if m.testBit k then 1 else 0 := by
  rw [ishr_nat hk h]
  have hl : m / 2 ^ k ≤ m := Nat.div_le_self _ _
  have e := iand_nat (m := m / 2 ^ k) (n := 1) (by omega) (by decide)
  refine e.trans ?_
  rw [Nat.and_one_is_mod]
  by_cases c : m.testBit k = true
  · rw [if_pos c, tb_div.mp c]; rfl
  · rw [if_neg c]
    have : ¬ m / 2 ^ k % 2 = 1 := fun q => c (tb_div.mpr q)
    omega
theorem lbit {m k : Nat} (hk : k < 64) (h : m < 9223372036854775808) : land (lshr (m : Int) (k : Int)) 1 = if m.testBit k then 1 else 0 := by
  rw [lshr_nat hk h]
  have hl : m / 2 ^ k ≤ m := Nat.div_le_self _ _
  have e := land_nat (m := m / 2 ^ k) (n := 1) (by omega) (by decide)
  refine e.trans ?_
  rw [Nat.and_one_is_mod]
  by_cases c : m.testBit k = true
  · rw [if_pos c, tb_div.mp c]; rfl
  · rw [if_neg c]
    have : ¬ m / 2 ^ k % 2 = 1 := fun q => c (tb_div.mpr q)
    omega
/-- the numbers below n of which p holds, as bits -/
def mk (p : Nat → Bool) : Nat → Nat
  | 0 => 0
  | n + 1 => if p n then mk p n ||| 2 ^ n else mk p n
theorem mk_0 (p : Nat → Bool) : mk p 0 = 0 := rfl
theorem mk_t {p : Nat → Bool} {n : Nat} (h : p n = true) : mk p (n + 1) = mk p n ||| 2 ^ n := if_pos h
theorem mk_f {p : Nat → Bool} {n : Nat} (h : ¬ p n = true) : mk p (n + 1) = mk p n := if_neg h
theorem mk_lt (p : Nat → Bool) : ∀ n, mk p n < 2 ^ n
  | 0 => Nat.zero_lt_one
  | n + 1 => by
    have h := mk_lt p n
    have h2 : 2 ^ n < 2 ^ (n + 1) := p2_lt (Nat.lt_succ_self n)
    by_cases c : p n = true
    · rw [mk_t c]; exact Nat.or_lt_two_pow (by omega) h2
    · rw [mk_f c]; omega
theorem mk_tb (p : Nat → Bool) (j : Nat) : ∀ n, (mk p n).testBit j = (decide (j < n) && p j)
  | 0 => by rw [mk_0, Nat.zero_testBit]; simp
  | n + 1 => by
    have ih := mk_tb p j n
    by_cases c : p n = true
    · rw [mk_t c, Nat.testBit_or, ih, Nat.testBit_two_pow]
      rcases Nat.lt_trichotomy j n with h | h | h
      · simp [h, show j < n + 1 by omega, show ¬ n = j by omega]
      · subst h; simp [c]
      · simp [show ¬ j < n by omega, show ¬ j < n + 1 by omega, show ¬ n = j by omega]
    · rw [mk_f c, ih]
      rcases Nat.lt_trichotomy j n with h | h | h
      · simp [h, show j < n + 1 by omega]
      · subst h; simp [Bool.eq_false_iff.mpr c]
      · simp [show ¬ j < n by omega, show ¬ j < n + 1 by omega]
theorem mk_in {p : Nat → Bool} {n j : Nat} (h : j < n) : (mk p n).testBit j = p j := by rw [mk_tb, decide_eq_true h, Bool.true_and]
theorem mk_out {p : Nat → Bool} {n j : Nat} (h : n ≤ j) : (mk p n).testBit j = false := by rw [mk_tb, decide_eq_false (by omega), Bool.false_and]
theorem mk_eq {p : Nat → Bool} {n m : Nat} (hm : m < 2 ^ n) (h : ∀ j, j < n → m.testBit j = p j) : m = mk p n := by
  refine Nat.eq_of_testBit_eq fun j => ?_
  by_cases c : j < n
  · rw [mk_in c, h j c]
  · rw [mk_out (by omega), Nat.testBit_lt_two_pow (Nat.lt_of_lt_of_le hm (Nat.pow_le_pow_right (by decide) (by omega)))]
theorem mk_congr {p q : Nat → Bool} {n : Nat} (h : ∀ j, j < n → p j = q j) : mk p n = mk q n := mk_eq (mk_lt p n) (fun j hj => by rw [mk_in hj]; exact h j hj)
theorem lt40 {m : Nat} (h : m < 2 ^ 40) : m < 1099511627776 := h
theorem mk_le {p : Nat → Bool} {n k : Nat} (h : n ≤ k) : mk p n < 2 ^ k := Nat.lt_of_lt_of_le (mk_lt p n) (Nat.pow_le_pow_right (by decide) h)
theorem mk40 {p : Nat → Bool} {n : Nat} (h : n ≤ 40) : mk p n < 1099511627776 := mk_le h
theorem mk24 {p : Nat → Bool} {n : Nat} (h : n ≤ 24) : mk p n < 16777216 := mk_le h
theorem mk11 {p : Nat → Bool} {n : Nat} (h : n ≤ 11) : mk p n < 2048 := mk_le h
/-- cells from a on, n of them -/
theorem run_tb (a n j : Nat) : (((2 ^ n - 1) * 2 ^ a : Nat)).testBit j = (decide (a ≤ j) && decide (j < a + n)) := by
  rw [Nat.testBit_mul_two_pow, Nat.testBit_two_pow_sub_one]
  by_cases c : a ≤ j
  · simp only [decide_eq_true c, Bool.true_and]
    congr 1
    exact propext (by omega)
  · simp [c]
/-- how many below n -/
def cntp (p : Nat → Bool) : Nat → Nat
  | 0 => 0
  | n + 1 => cntp p n + if p n then 1 else 0
theorem cntp_s (p : Nat → Bool) (n : Nat) : cntp p (n + 1) = cntp p n + if p n then 1 else 0 := rfl
theorem cntp_le (p : Nat → Bool) : ∀ n, cntp p n ≤ n
  | 0 => Nat.le_refl _
  | n + 1 => by
    have := cntp_le p n
    rw [cntp_s]
    split <;> omega
theorem cntp_congr {p q : Nat → Bool} : ∀ {n : Nat}, (∀ j, j < n → p j = q j) → cntp p n = cntp q n
  | 0, _ => rfl
  | n + 1, h => by rw [cntp_s, cntp_s, cntp_congr (fun j hj => h j (by omega)), h n (by omega)]
