/-! the lowest and the highest bit -/
def nt5 (y : Nat) : Nat := y / 2
def nt4 (y : Nat) : Nat := if 4 < y then 2 + nt5 (y / 4) else nt5 y
def nt3 (y : Nat) : Nat := if 16 < y then 4 + nt4 (y / 16) else nt4 y
def nt2 (y : Nat) : Nat := if 256 < y then 8 + nt3 (y / 256) else nt3 y
def nt1 (y : Nat) : Nat := if 65536 < y then 16 + nt2 (y / 65536) else nt2 y
theorem nt_all : ∀ k, k < 32 → 1 ≤ k → 1 + nt1 (2 ^ k - 1) = k := by decide +kernel
def stp (k : Nat) (f : Nat → Nat) (y : Nat) : Nat := if y < 2 ^ k then f y else k + f (y / 2 ^ k)
theorem stp_ok {k : Nat} {f : Nat → Nat} (hf : ∀ t y, t < k → 2 ^ t ≤ y → y < 2 ^ (t + 1) → f y = t) : ∀ t y, t < k + k → 2 ^ t ≤ y → y < 2 ^ (t + 1) → stp k f y = t := by
  intro t y ht h1 h2
  unfold stp
  by_cases c : y < 2 ^ k
  · rw [if_pos c]
    refine hf t y ?_ h1 h2
    apply Nat.lt_of_not_le
    intro q
    have := Nat.pow_le_pow_right (show 0 < 2 by decide) q
    omega
  · rw [if_neg c]
    have hk : k ≤ t := by
      apply Nat.le_of_not_lt
      intro q
      have := Nat.pow_le_pow_right (show 0 < 2 by decide) (show t + 1 ≤ k from q)
      omega
    have e1 : 2 ^ t = 2 ^ (t - k) * 2 ^ k := by rw [← Nat.pow_add, show t - k + k = t by omega]
    have e2 : 2 ^ (t + 1) = 2 ^ (t - k + 1) * 2 ^ k := by rw [← Nat.pow_add, show t - k + 1 + k = t + 1 by omega]
    have hp := Nat.two_pow_pos k
    rw [hf (t - k) (y / 2 ^ k) (by omega) ((Nat.le_div_iff_mul_le hp).mpr (by omega)) ((Nat.div_lt_iff_lt_mul hp).mpr (by omega))]
    omega
def nl5 (y : Nat) : Nat := y / 2
def nl4 (y : Nat) : Nat := stp 2 nl5 y
def nl3 (y : Nat) : Nat := stp 4 nl4 y
def nl2 (y : Nat) : Nat := stp 8 nl3 y
def nl1 (y : Nat) : Nat := stp 16 nl2 y
theorem nl5_ok : ∀ t y, t < 2 → 2 ^ t ≤ y → y < 2 ^ (t + 1) → nl5 y = t := by
  intro t y ht h1 h2
  unfold nl5
  rcases (show t = 0 ∨ t = 1 by omega) with rfl | rfl
  · have h1' : 1 ≤ y := h1
    have h2' : y < 2 := h2
    omega
  · have h1' : 2 ≤ y := h1
    have h2' : y < 4 := h2
    omega
theorem nl_all : ∀ t y, t < 32 → 2 ^ t ≤ y → y < 2 ^ (t + 1) → nl1 y = t := stp_ok (k := 16) (stp_ok (k := 8) (stp_ok (k := 4) (stp_ok (k := 2) nl5_ok)))
theorem bv_w32 (z : Int) : (Int32.ofInt (w32 z)).toBitVec = BitVec.ofInt 32 z := congrArg Int32.toBitVec (oi_w z)
/-- not x and (x - 1): what lies below the lowest bit -/
theorem ntz_bits {u k : Nat} (hu : u < 4294967296) (hk : u.testBit k = true) (hlow : ∀ j, j < k → u.testBit j = false) (hk32 : k < 32) : iand (ixor (w32 (u : Int)) (-1)) (w32 (w32 (u : Int) - 1)) = ((2 ^ k - 1 : Nat) : Int) := by
  have hu0 : 0 < u := by
    apply Nat.pos_of_ne_zero
    intro e
    rw [e, Nat.zero_testBit] at hk
    cases hk
  have ha : iand (ixor (w32 (u : Int)) (-1)) (w32 (w32 (u : Int) - 1)) = ((BitVec.ofInt 32 (u : Int) ^^^ BitVec.ofInt 32 (-1)) &&& BitVec.ofInt 32 ((u - 1 : Nat) : Int)).toInt := by
    have e1 : Int32.ofInt (ixor (w32 (u : Int)) (-1)) = Int32.ofInt (u : Int) ^^^ Int32.ofInt (-1) := by
      unfold ixor
      rw [Int32.ofInt_toInt, oi_w]
    have e2 : Int32.ofInt (w32 (w32 (u : Int) - 1)) = Int32.ofInt ((u - 1 : Nat) : Int) := by
      rw [oi_w, Int32.ofInt_sub, oi_w, ← Int32.ofInt_sub, show (u : Int) - 1 = ((u - 1 : Nat) : Int) by omega]
    unfold iand
    rw [e1, e2]
    rfl
  have e : ((BitVec.ofInt 32 (u : Int) ^^^ BitVec.ofInt 32 (-1)) &&& BitVec.ofInt 32 ((u - 1 : Nat) : Int)).toNat = 2 ^ k - 1 := by
    refine Nat.eq_of_testBit_eq fun j => ?_
    rw [BitVec.testBit_toNat, BitVec.getLsbD_and, BitVec.getLsbD_xor, BitVec.ofInt_natCast, BitVec.ofInt_natCast, BitVec.getLsbD_ofNat, BitVec.getLsbD_ofNat, show (BitVec.ofInt 32 (-1)) = BitVec.allOnes 32 from by decide, BitVec.getLsbD_allOnes, Nat.testBit_two_pow_sub_one]
    -- the number less one, from its lowest bit on
    obtain ⟨q, hq⟩ : ∃ q, u = 2 ^ (k + 1) * q + 2 ^ k := by
      have h1 : u % 2 ^ k = 0 := by
        refine Nat.eq_of_testBit_eq fun j => ?_
        rw [Nat.testBit_mod_two_pow, Nat.zero_testBit]
        by_cases c : j < k
        · rw [hlow j c, Bool.and_false]
        · rw [decide_eq_false c, Bool.false_and]
      have h2 : u / 2 ^ k % 2 = 1 := tb_div.mp hk
      refine ⟨u / 2 ^ k / 2, ?_⟩
      have h3 := Nat.div_add_mod u (2 ^ k)
      have h4 := Nat.div_add_mod (u / 2 ^ k) 2
      rw [h1, Nat.add_zero] at h3
      rw [h2] at h4
      have h5 : 2 ^ k * (2 * (u / 2 ^ k / 2) + 1) = u := by rw [h4]; exact h3
      rw [Nat.mul_add, Nat.mul_one, ← Nat.mul_assoc, ← Nat.pow_succ] at h5
      exact h5.symm
    have hp := Nat.two_pow_pos k
    have hlt : 2 ^ k - 1 < 2 ^ (k + 1) := by rw [Nat.pow_succ]; omega
    have hlt2 : 2 ^ k < 2 ^ (k + 1) := by rw [Nat.pow_succ]; omega
    have hm1 : u - 1 = 2 ^ (k + 1) * q + (2 ^ k - 1) := by omega
    have t1 : (u - 1).testBit j = if j < k + 1 then (2 ^ k - 1).testBit j else q.testBit (j - (k + 1)) := by rw [hm1]; exact Nat.testBit_two_pow_mul_add q hlt j
    have t2 : u.testBit j = if j < k + 1 then (2 ^ k).testBit j else q.testBit (j - (k + 1)) := by rw [hq]; exact Nat.testBit_two_pow_mul_add q hlt2 j
    rw [t1, t2, Nat.testBit_two_pow_sub_one, Nat.testBit_two_pow]
    by_cases c : j < 32
    · by_cases c1 : j < k
      · rw [if_pos (show j < k + 1 by omega), if_pos (show j < k + 1 by omega), decide_eq_true c, decide_eq_true c1, decide_eq_false (show ¬ k = j by omega)]; rfl
      · by_cases c2 : j = k
        · rw [if_pos (show j < k + 1 by omega), if_pos (show j < k + 1 by omega), decide_eq_true c, decide_eq_false c1, decide_eq_true c2.symm]; rfl
        · rw [if_neg (show ¬ j < k + 1 by omega), if_neg (show ¬ j < k + 1 by omega), decide_eq_true c, decide_eq_false c1]
          cases q.testBit (j - (k + 1)) <;> rfl
    · rw [decide_eq_false c, decide_eq_false (show ¬ j < k by omega)]; rfl
  have hkk := p2_lt hk32
  rw [n2_32] at hkk
  have hk31 : 2 ^ k ≤ 2147483648 := by
    have := Nat.pow_le_pow_right (show 0 < 2 by decide) (show k ≤ 31 by omega)
    rw [n2_31] at this
    exact this
  rw [ha, bv_lt (by rw [e]; omega), e]
theorem iushr_nat {m k : Nat} (h0 : 0 < k) (hk : k < 32) (h : m < 2147483648) : iushr (m : Int) (k : Int) = ((m / 2 ^ k : Nat) : Int) := by
  rw [iushr_eq h0 hk]
  have e : (m : Int) % 4294967296 = (m : Int) := by omega
  first | rw [e, Int.natCast_ediv, pow_cast] | rw [Int.natCast_ediv, pow_cast]
theorem dJ6_numberOfTrailingZeros_0f7a4_0 : decode cJ6_numberOfTrailingZeros_0f7a4 0 = .ok (.iload_n 0, 1) := by decide +kernel
theorem dJ6_numberOfTrailingZeros_0f7a4_1 : decode cJ6_numberOfTrailingZeros_0f7a4 1 = .ok (.iconst (-1), 1) := by decide +kernel
theorem dJ6_numberOfTrailingZeros_0f7a4_2 : decode cJ6_numberOfTrailingZeros_0f7a4 2 = .ok (.ixor, 1) := by decide +kernel
theorem dJ6_numberOfTrailingZeros_0f7a4_3 : decode cJ6_numberOfTrailingZeros_0f7a4 3 = .ok (.iload_n 0, 1) := by decide +kernel
theorem dJ6_numberOfTrailingZeros_0f7a4_4 : decode cJ6_numberOfTrailingZeros_0f7a4 4 = .ok (.iconst 1, 1) := by decide +kernel
theorem dJ6_numberOfTrailingZeros_0f7a4_5 : decode cJ6_numberOfTrailingZeros_0f7a4 5 = .ok (.isub, 1) := by decide +kernel
theorem dJ6_numberOfTrailingZeros_0f7a4_6 : decode cJ6_numberOfTrailingZeros_0f7a4 6 = .ok (.iand, 1) := by decide +kernel
theorem dJ6_numberOfTrailingZeros_0f7a4_7 : decode cJ6_numberOfTrailingZeros_0f7a4 7 = .ok (.istore_n 0, 1) := by decide +kernel
theorem dJ6_numberOfTrailingZeros_0f7a4_8 : decode cJ6_numberOfTrailingZeros_0f7a4 8 = .ok (.iload_n 0, 1) := by decide +kernel
theorem dJ6_numberOfTrailingZeros_0f7a4_9 : decode cJ6_numberOfTrailingZeros_0f7a4 9 = .ok (.ifCond .gt 8, 3) := by decide +kernel
theorem dJ6_numberOfTrailingZeros_0f7a4_12 : decode cJ6_numberOfTrailingZeros_0f7a4 12 = .ok (.iload_n 0, 1) := by decide +kernel
theorem dJ6_numberOfTrailingZeros_0f7a4_13 : decode cJ6_numberOfTrailingZeros_0f7a4 13 = .ok (.bipush 32, 2) := by decide +kernel
theorem dJ6_numberOfTrailingZeros_0f7a4_15 : decode cJ6_numberOfTrailingZeros_0f7a4 15 = .ok (.iand, 1) := by decide +kernel
theorem dJ6_numberOfTrailingZeros_0f7a4_16 : decode cJ6_numberOfTrailingZeros_0f7a4 16 = .ok (.ireturn, 1) := by decide +kernel
theorem dJ6_numberOfTrailingZeros_0f7a4_17 : decode cJ6_numberOfTrailingZeros_0f7a4 17 = .ok (.iconst 1, 1) := by decide +kernel
theorem dJ6_numberOfTrailingZeros_0f7a4_18 : decode cJ6_numberOfTrailingZeros_0f7a4 18 = .ok (.istore_n 1, 1) := by decide +kernel
theorem dJ6_numberOfTrailingZeros_0f7a4_19 : decode cJ6_numberOfTrailingZeros_0f7a4 19 = .ok (.iload_n 0, 1) := by decide +kernel
theorem dJ6_numberOfTrailingZeros_0f7a4_20 : decode cJ6_numberOfTrailingZeros_0f7a4 20 = .ok (.ldc_w 264, 3) := by decide +kernel
theorem dJ6_numberOfTrailingZeros_0f7a4_23 : decode cJ6_numberOfTrailingZeros_0f7a4 23 = .ok (.if_icmp .le 11, 3) := by decide +kernel
theorem dJ6_numberOfTrailingZeros_0f7a4_26 : decode cJ6_numberOfTrailingZeros_0f7a4 26 = .ok (.iinc 1 16, 3) := by decide +kernel
theorem dJ6_numberOfTrailingZeros_0f7a4_29 : decode cJ6_numberOfTrailingZeros_0f7a4 29 = .ok (.iload_n 0, 1) := by decide +kernel
theorem dJ6_numberOfTrailingZeros_0f7a4_30 : decode cJ6_numberOfTrailingZeros_0f7a4 30 = .ok (.bipush 16, 2) := by decide +kernel
theorem dJ6_numberOfTrailingZeros_0f7a4_32 : decode cJ6_numberOfTrailingZeros_0f7a4 32 = .ok (.iushr, 1) := by decide +kernel
theorem dJ6_numberOfTrailingZeros_0f7a4_33 : decode cJ6_numberOfTrailingZeros_0f7a4 33 = .ok (.istore_n 0, 1) := by decide +kernel
theorem dJ6_numberOfTrailingZeros_0f7a4_34 : decode cJ6_numberOfTrailingZeros_0f7a4 34 = .ok (.iload_n 0, 1) := by decide +kernel
theorem dJ6_numberOfTrailingZeros_0f7a4_35 : decode cJ6_numberOfTrailingZeros_0f7a4 35 = .ok (.sipush 256, 3) := by decide +kernel
theorem dJ6_numberOfTrailingZeros_0f7a4_38 : decode cJ6_numberOfTrailingZeros_0f7a4 38 = .ok (.if_icmp .le 11, 3) := by decide +kernel
theorem dJ6_numberOfTrailingZeros_0f7a4_41 : decode cJ6_numberOfTrailingZeros_0f7a4 41 = .ok (.iinc 1 8, 3) := by decide +kernel
theorem dJ6_numberOfTrailingZeros_0f7a4_44 : decode cJ6_numberOfTrailingZeros_0f7a4 44 = .ok (.iload_n 0, 1) := by decide +kernel
theorem dJ6_numberOfTrailingZeros_0f7a4_45 : decode cJ6_numberOfTrailingZeros_0f7a4 45 = .ok (.bipush 8, 2) := by decide +kernel
theorem dJ6_numberOfTrailingZeros_0f7a4_47 : decode cJ6_numberOfTrailingZeros_0f7a4 47 = .ok (.iushr, 1) := by decide +kernel
theorem dJ6_numberOfTrailingZeros_0f7a4_48 : decode cJ6_numberOfTrailingZeros_0f7a4 48 = .ok (.istore_n 0, 1) := by decide +kernel
theorem dJ6_numberOfTrailingZeros_0f7a4_49 : decode cJ6_numberOfTrailingZeros_0f7a4 49 = .ok (.iload_n 0, 1) := by decide +kernel
theorem dJ6_numberOfTrailingZeros_0f7a4_50 : decode cJ6_numberOfTrailingZeros_0f7a4 50 = .ok (.bipush 16, 2) := by decide +kernel
theorem dJ6_numberOfTrailingZeros_0f7a4_52 : decode cJ6_numberOfTrailingZeros_0f7a4 52 = .ok (.if_icmp .le 10, 3) := by decide +kernel
theorem dJ6_numberOfTrailingZeros_0f7a4_55 : decode cJ6_numberOfTrailingZeros_0f7a4 55 = .ok (.iinc 1 4, 3) := by decide +kernel
theorem dJ6_numberOfTrailingZeros_0f7a4_58 : decode cJ6_numberOfTrailingZeros_0f7a4 58 = .ok (.iload_n 0, 1) := by decide +kernel
theorem dJ6_numberOfTrailingZeros_0f7a4_59 : decode cJ6_numberOfTrailingZeros_0f7a4 59 = .ok (.iconst 4, 1) := by decide +kernel
theorem dJ6_numberOfTrailingZeros_0f7a4_60 : decode cJ6_numberOfTrailingZeros_0f7a4 60 = .ok (.iushr, 1) := by decide +kernel
theorem dJ6_numberOfTrailingZeros_0f7a4_61 : decode cJ6_numberOfTrailingZeros_0f7a4 61 = .ok (.istore_n 0, 1) := by decide +kernel
theorem dJ6_numberOfTrailingZeros_0f7a4_62 : decode cJ6_numberOfTrailingZeros_0f7a4 62 = .ok (.iload_n 0, 1) := by decide +kernel
theorem dJ6_numberOfTrailingZeros_0f7a4_63 : decode cJ6_numberOfTrailingZeros_0f7a4 63 = .ok (.iconst 4, 1) := by decide +kernel
theorem dJ6_numberOfTrailingZeros_0f7a4_64 : decode cJ6_numberOfTrailingZeros_0f7a4 64 = .ok (.if_icmp .le 10, 3) := by decide +kernel
theorem dJ6_numberOfTrailingZeros_0f7a4_67 : decode cJ6_numberOfTrailingZeros_0f7a4 67 = .ok (.iinc 1 2, 3) := by decide +kernel
theorem dJ6_numberOfTrailingZeros_0f7a4_70 : decode cJ6_numberOfTrailingZeros_0f7a4 70 = .ok (.iload_n 0, 1) := by decide +kernel
theorem dJ6_numberOfTrailingZeros_0f7a4_71 : decode cJ6_numberOfTrailingZeros_0f7a4 71 = .ok (.iconst 2, 1) := by decide +kernel
theorem dJ6_numberOfTrailingZeros_0f7a4_72 : decode cJ6_numberOfTrailingZeros_0f7a4 72 = .ok (.iushr, 1) := by decide +kernel
theorem dJ6_numberOfTrailingZeros_0f7a4_73 : decode cJ6_numberOfTrailingZeros_0f7a4 73 = .ok (.istore_n 0, 1) := by decide +kernel
theorem dJ6_numberOfTrailingZeros_0f7a4_74 : decode cJ6_numberOfTrailingZeros_0f7a4 74 = .ok (.iload_n 1, 1) := by decide +kernel
theorem dJ6_numberOfTrailingZeros_0f7a4_75 : decode cJ6_numberOfTrailingZeros_0f7a4 75 = .ok (.iload_n 0, 1) := by decide +kernel
theorem dJ6_numberOfTrailingZeros_0f7a4_76 : decode cJ6_numberOfTrailingZeros_0f7a4 76 = .ok (.iconst 1, 1) := by decide +kernel
theorem dJ6_numberOfTrailingZeros_0f7a4_77 : decode cJ6_numberOfTrailingZeros_0f7a4 77 = .ok (.iushr, 1) := by decide +kernel
theorem dJ6_numberOfTrailingZeros_0f7a4_78 : decode cJ6_numberOfTrailingZeros_0f7a4 78 = .ok (.iadd, 1) := by decide +kernel
theorem dJ6_numberOfTrailingZeros_0f7a4_79 : decode cJ6_numberOfTrailingZeros_0f7a4 79 = .ok (.ireturn, 1) := by decide +kernel
theorem ct_J6_numberOfTrailingZeros_0f7a4 {g : Gw} (hG : GF g) {z : Bool} (E : Mm) (u k : Nat) (hu : u < 4294967296) (hk : u.testBit k = true) (hlow : ∀ j, j < k → u.testBit j = false) (hk32 : k < 32) : CT g yJ6_numberOfTrailingZeros_0f7a4 cJ6_numberOfTrailingZeros_0f7a4 2 (some .int) 0 0 0 0 K2 z [mI (w32 (u : Int))] (ov E) K2 z (fun r D' => r = some (mI (k : Nat)) ∧ D' = ov E) := by
  refine CT.mk hG (by decide +kernel) (Nat.le_of_ble_eq_true rfl) (fun κ X Rt _ ok => ?_)
  refine at_iload_n 1 X rfl rfl dJ6_numberOfTrailingZeros_0f7a4_0 rfl ?_
  refine at_iconst 2 X (by decide) dJ6_numberOfTrailingZeros_0f7a4_1 rfl ?_
  refine at_ixorV 3 X (ixor (w32 (u : Int)) (-1)) rfl dJ6_numberOfTrailingZeros_0f7a4_2 rfl ?_
  refine at_iload_n 4 X rfl rfl dJ6_numberOfTrailingZeros_0f7a4_3 rfl ?_
  refine at_iconst 5 X (by decide) dJ6_numberOfTrailingZeros_0f7a4_4 rfl ?_
  refine at_isubV 6 X (w32 (w32 (u : Int) - 1)) rfl dJ6_numberOfTrailingZeros_0f7a4_5 rfl ?_
  refine at_iandV 7 X ((2 ^ k - 1 : Nat) : Int) (ntz_bits hu hk hlow hk32) dJ6_numberOfTrailingZeros_0f7a4_6 rfl ?_
  refine at_istore_n 8 X rfl dJ6_numberOfTrailingZeros_0f7a4_7 rfl (by decide) ?_
  have hpk := Nat.two_pow_pos k
  have hk31 : 2 ^ k ≤ 2147483648 := by
    have := Nat.pow_le_pow_right (show 0 < 2 by decide) (show k ≤ 31 by omega)
    rw [n2_31] at this
    exact this
  refine at_iload_n 9 X rfl rfl dJ6_numberOfTrailingZeros_0f7a4_8 rfl ?_
  refine at_if_gt 12 17 X dJ6_numberOfTrailingZeros_0f7a4_9 rfl (by decide) (fun h9 => ?_) (fun h9 => ?_)
  · have hk1 : 1 ≤ k := by
      apply Nat.pos_of_ne_zero
      intro e
      subst e
      have : (2 : Nat) ^ 0 = 1 := rfl
      omega
    have hall := nt_all k hk32 hk1
    obtain ⟨y0, hy0⟩ : ∃ y0, y0 = 2 ^ k - 1 := ⟨_, rfl⟩
    rw [← hy0] at hall ⊢
    have hyl : y0 < 2147483648 := by omega
    refine at_iconst 18 X (by decide) dJ6_numberOfTrailingZeros_0f7a4_17 rfl ?_
    refine at_istore_n 19 X rfl dJ6_numberOfTrailingZeros_0f7a4_18 rfl (by decide) ?_
    have J34 : ∀ (y1 : Nat) (n1 : Nat), (n1 + nt2 y1 = k) → (y1 < 2147483648) → (n1 ≤ 100) → AT g κ K2 z 0 0 34 [(0, mI ((y1 : Nat) : Int)), (1, mI ((n1 : Nat) : Int))] [] (ov E) := by
      intro y1 n1 hn1 hy1 hb1
      have J49 : ∀ (y2 : Nat) (n2 : Nat), (n2 + nt3 y2 = k) → (y2 < 2147483648) → (n2 ≤ 100) → AT g κ K2 z 0 0 49 [(0, mI ((y2 : Nat) : Int)), (1, mI ((n2 : Nat) : Int))] [] (ov E) := by
        intro y2 n2 hn2 hy2 hb2
        have J62 : ∀ (y3 : Nat) (n3 : Nat), (n3 + nt4 y3 = k) → (y3 < 2147483648) → (n3 ≤ 100) → AT g κ K2 z 0 0 62 [(0, mI ((y3 : Nat) : Int)), (1, mI ((n3 : Nat) : Int))] [] (ov E) := by
          intro y3 n3 hn3 hy3 hb3
          have J74 : ∀ (y4 : Nat) (n4 : Nat), (n4 + nt5 y4 = k) → (y4 < 2147483648) → (n4 ≤ 100) → AT g κ K2 z 0 0 74 [(0, mI ((y4 : Nat) : Int)), (1, mI ((n4 : Nat) : Int))] [] (ov E) := by
            intro y4 n4 hn4 hy4 hb4
            refine at_iload_n 75 X rfl rfl dJ6_numberOfTrailingZeros_0f7a4_74 rfl ?_
            refine at_iload_n 76 X rfl rfl dJ6_numberOfTrailingZeros_0f7a4_75 rfl ?_
            refine at_iconst 77 X (by decide) dJ6_numberOfTrailingZeros_0f7a4_76 rfl ?_
            refine at_iushrV 78 X ((y4 / 2 : Nat) : Int) (iushr_nat (k := 1) (by decide) (by decide) hy4) dJ6_numberOfTrailingZeros_0f7a4_77 rfl ?_
            refine at_iaddV 79 X ((n4 + y4 / 2 : Nat) : Int) (w32_v (by omega) (by omega) (by omega)) dJ6_numberOfTrailingZeros_0f7a4_78 rfl ?_
            refine at_iret X Rt ?_ (Nat.le_refl _) (Nat.le_refl _) dJ6_numberOfTrailingZeros_0f7a4_79
            exact ⟨by unfold nt5 at hn4; rw [hn4], rfl⟩
          refine at_iload_n 63 X rfl rfl dJ6_numberOfTrailingZeros_0f7a4_62 rfl ?_
          refine at_iconst 64 X (by decide) dJ6_numberOfTrailingZeros_0f7a4_63 rfl ?_
          refine at_icmp_le 67 74 X dJ6_numberOfTrailingZeros_0f7a4_64 rfl (by decide) (fun h64 => ?_) (fun h64 => ?_)
          · exact at_sub _ (by exact ⟨rfl, rfl, trivial⟩) (J74 y3 n3 (by have hh := hn3; unfold nt4 at hh; first | (rw [if_pos (by omega)] at hh; omega) | (rw [if_neg (by omega)] at hh; omega)) (by omega) (by omega))
          · refine at_iincV 70 X ((n3 + 2 : Nat) : Int) (w32_v (by omega) (by omega) (by omega)) rfl dJ6_numberOfTrailingZeros_0f7a4_67 rfl (by decide) ?_
            refine at_iload_n 71 X rfl rfl dJ6_numberOfTrailingZeros_0f7a4_70 rfl ?_
            refine at_iconst 72 X (by decide) dJ6_numberOfTrailingZeros_0f7a4_71 rfl ?_
            refine at_iushrV 73 X ((y3 / 4 : Nat) : Int) (iushr_nat (k := 2) (by decide) (by decide) hy3) dJ6_numberOfTrailingZeros_0f7a4_72 rfl ?_
            refine at_istore_n 74 X rfl dJ6_numberOfTrailingZeros_0f7a4_73 rfl (by decide) ?_
            exact at_sub _ (by exact ⟨rfl, rfl, trivial⟩) (J74 (y3 / 4) (n3 + 2) (by have hh := hn3; unfold nt4 at hh; first | (rw [if_pos (by omega)] at hh; omega) | (rw [if_neg (by omega)] at hh; omega)) (by omega) (by omega))
        refine at_iload_n 50 X rfl rfl dJ6_numberOfTrailingZeros_0f7a4_49 rfl ?_
        refine at_bipush 52 X (by decide) (by decide) dJ6_numberOfTrailingZeros_0f7a4_50 rfl ?_
        refine at_icmp_le 55 62 X dJ6_numberOfTrailingZeros_0f7a4_52 rfl (by decide) (fun h52 => ?_) (fun h52 => ?_)
        · exact at_sub _ (by exact ⟨rfl, rfl, trivial⟩) (J62 y2 n2 (by have hh := hn2; unfold nt3 at hh; first | (rw [if_pos (by omega)] at hh; omega) | (rw [if_neg (by omega)] at hh; omega)) (by omega) (by omega))
        · refine at_iincV 58 X ((n2 + 4 : Nat) : Int) (w32_v (by omega) (by omega) (by omega)) rfl dJ6_numberOfTrailingZeros_0f7a4_55 rfl (by decide) ?_
          refine at_iload_n 59 X rfl rfl dJ6_numberOfTrailingZeros_0f7a4_58 rfl ?_
          refine at_iconst 60 X (by decide) dJ6_numberOfTrailingZeros_0f7a4_59 rfl ?_
          refine at_iushrV 61 X ((y2 / 16 : Nat) : Int) (iushr_nat (k := 4) (by decide) (by decide) hy2) dJ6_numberOfTrailingZeros_0f7a4_60 rfl ?_
          refine at_istore_n 62 X rfl dJ6_numberOfTrailingZeros_0f7a4_61 rfl (by decide) ?_
          exact at_sub _ (by exact ⟨rfl, rfl, trivial⟩) (J62 (y2 / 16) (n2 + 4) (by have hh := hn2; unfold nt3 at hh; first | (rw [if_pos (by omega)] at hh; omega) | (rw [if_neg (by omega)] at hh; omega)) (by omega) (by omega))
      refine at_iload_n 35 X rfl rfl dJ6_numberOfTrailingZeros_0f7a4_34 rfl ?_
      refine at_sipush 38 X (by decide) (by decide) dJ6_numberOfTrailingZeros_0f7a4_35 rfl ?_
      refine at_icmp_le 41 49 X dJ6_numberOfTrailingZeros_0f7a4_38 rfl (by decide) (fun h38 => ?_) (fun h38 => ?_)
      · exact at_sub _ (by exact ⟨rfl, rfl, trivial⟩) (J49 y1 n1 (by have hh := hn1; unfold nt2 at hh; first | (rw [if_pos (by omega)] at hh; omega) | (rw [if_neg (by omega)] at hh; omega)) (by omega) (by omega))
      · refine at_iincV 44 X ((n1 + 8 : Nat) : Int) (w32_v (by omega) (by omega) (by omega)) rfl dJ6_numberOfTrailingZeros_0f7a4_41 rfl (by decide) ?_
        refine at_iload_n 45 X rfl rfl dJ6_numberOfTrailingZeros_0f7a4_44 rfl ?_
        refine at_bipush 47 X (by decide) (by decide) dJ6_numberOfTrailingZeros_0f7a4_45 rfl ?_
        refine at_iushrV 48 X ((y1 / 256 : Nat) : Int) (iushr_nat (k := 8) (by decide) (by decide) hy1) dJ6_numberOfTrailingZeros_0f7a4_47 rfl ?_
        refine at_istore_n 49 X rfl dJ6_numberOfTrailingZeros_0f7a4_48 rfl (by decide) ?_
        exact at_sub _ (by exact ⟨rfl, rfl, trivial⟩) (J49 (y1 / 256) (n1 + 8) (by have hh := hn1; unfold nt2 at hh; first | (rw [if_pos (by omega)] at hh; omega) | (rw [if_neg (by omega)] at hh; omega)) (by omega) (by omega))
    refine at_iload_n 20 X rfl rfl dJ6_numberOfTrailingZeros_0f7a4_19 rfl ?_
    refine at_ldcw 23 X (n := 65536) w_1625 (by decide) (by decide) dJ6_numberOfTrailingZeros_0f7a4_20 rfl ?_
    refine at_icmp_le 26 34 X dJ6_numberOfTrailingZeros_0f7a4_23 rfl (by decide) (fun h23 => ?_) (fun h23 => ?_)
    · exact at_sub _ (by exact ⟨rfl, rfl, trivial⟩) (J34 y0 1 (by have hh := hall; unfold nt1 at hh; first | (rw [if_pos (by omega)] at hh; omega) | (rw [if_neg (by omega)] at hh; omega)) (by omega) (by omega))
    · refine at_iincV 29 X ((1 + 16 : Nat) : Int) (w32_v (by omega) (by omega) (by omega)) rfl dJ6_numberOfTrailingZeros_0f7a4_26 rfl (by decide) ?_
      refine at_iload_n 30 X rfl rfl dJ6_numberOfTrailingZeros_0f7a4_29 rfl ?_
      refine at_bipush 32 X (by decide) (by decide) dJ6_numberOfTrailingZeros_0f7a4_30 rfl ?_
      refine at_iushrV 33 X ((y0 / 65536 : Nat) : Int) (iushr_nat (k := 16) (by decide) (by decide) hyl) dJ6_numberOfTrailingZeros_0f7a4_32 rfl ?_
      refine at_istore_n 34 X rfl dJ6_numberOfTrailingZeros_0f7a4_33 rfl (by decide) ?_
      exact at_sub _ (by exact ⟨rfl, rfl, trivial⟩) (J34 (y0 / 65536) (1 + 16) (by have hh := hall; unfold nt1 at hh; first | (rw [if_pos (by omega)] at hh; omega) | (rw [if_neg (by omega)] at hh; omega)) (by omega) (by omega))
  · have hk0 : k = 0 := by
      apply Decidable.byContradiction
      intro e
      have := Nat.pow_le_pow_right (show 0 < 2 by decide) (show 1 ≤ k by omega)
      have : (2 : Nat) ^ 1 = 2 := rfl
      omega
    refine at_iload_n 13 X rfl rfl dJ6_numberOfTrailingZeros_0f7a4_12 rfl ?_
    refine at_bipush 15 X (by decide) (by decide) dJ6_numberOfTrailingZeros_0f7a4_13 rfl ?_
    refine at_iandV 16 X 0 (show iand ((2 ^ k - 1 : Nat) : Int) 32 = 0 by rw [show 2 ^ k - 1 = 0 by omega]; decide) dJ6_numberOfTrailingZeros_0f7a4_15 rfl ?_
    refine at_iret X Rt ?_ (Nat.le_refl _) (Nat.le_refl _) dJ6_numberOfTrailingZeros_0f7a4_16
    exact ⟨by rw [hk0]; rfl, rfl⟩
theorem dJ6_numberOfLeadingZeros_0f7a4_0 : decode cJ6_numberOfLeadingZeros_0f7a4 0 = .ok (.iload_n 0, 1) := by decide +kernel
theorem dJ6_numberOfLeadingZeros_0f7a4_1 : decode cJ6_numberOfLeadingZeros_0f7a4 1 = .ok (.ifCond .gt 14, 3) := by decide +kernel
theorem dJ6_numberOfLeadingZeros_0f7a4_4 : decode cJ6_numberOfLeadingZeros_0f7a4 4 = .ok (.iload_n 0, 1) := by decide +kernel
theorem dJ6_numberOfLeadingZeros_0f7a4_5 : decode cJ6_numberOfLeadingZeros_0f7a4 5 = .ok (.ifCond .ne 8, 3) := by decide +kernel
theorem dJ6_numberOfLeadingZeros_0f7a4_8 : decode cJ6_numberOfLeadingZeros_0f7a4 8 = .ok (.bipush 32, 2) := by decide +kernel
theorem dJ6_numberOfLeadingZeros_0f7a4_10 : decode cJ6_numberOfLeadingZeros_0f7a4 10 = .ok (.goto 4, 3) := by decide +kernel
theorem dJ6_numberOfLeadingZeros_0f7a4_13 : decode cJ6_numberOfLeadingZeros_0f7a4 13 = .ok (.iconst 0, 1) := by decide +kernel
theorem dJ6_numberOfLeadingZeros_0f7a4_14 : decode cJ6_numberOfLeadingZeros_0f7a4 14 = .ok (.ireturn, 1) := by decide +kernel
theorem dJ6_numberOfLeadingZeros_0f7a4_15 : decode cJ6_numberOfLeadingZeros_0f7a4 15 = .ok (.bipush 31, 2) := by decide +kernel
theorem dJ6_numberOfLeadingZeros_0f7a4_17 : decode cJ6_numberOfLeadingZeros_0f7a4 17 = .ok (.istore_n 1, 1) := by decide +kernel
theorem dJ6_numberOfLeadingZeros_0f7a4_18 : decode cJ6_numberOfLeadingZeros_0f7a4 18 = .ok (.iload_n 0, 1) := by decide +kernel
theorem dJ6_numberOfLeadingZeros_0f7a4_19 : decode cJ6_numberOfLeadingZeros_0f7a4 19 = .ok (.ldc_w 264, 3) := by decide +kernel
theorem dJ6_numberOfLeadingZeros_0f7a4_22 : decode cJ6_numberOfLeadingZeros_0f7a4 22 = .ok (.if_icmp .lt 11, 3) := by decide +kernel
theorem dJ6_numberOfLeadingZeros_0f7a4_25 : decode cJ6_numberOfLeadingZeros_0f7a4 25 = .ok (.iinc 1 (-16), 3) := by decide +kernel
theorem dJ6_numberOfLeadingZeros_0f7a4_28 : decode cJ6_numberOfLeadingZeros_0f7a4 28 = .ok (.iload_n 0, 1) := by decide +kernel
theorem dJ6_numberOfLeadingZeros_0f7a4_29 : decode cJ6_numberOfLeadingZeros_0f7a4 29 = .ok (.bipush 16, 2) := by decide +kernel
theorem dJ6_numberOfLeadingZeros_0f7a4_31 : decode cJ6_numberOfLeadingZeros_0f7a4 31 = .ok (.iushr, 1) := by decide +kernel
theorem dJ6_numberOfLeadingZeros_0f7a4_32 : decode cJ6_numberOfLeadingZeros_0f7a4 32 = .ok (.istore_n 0, 1) := by decide +kernel
theorem dJ6_numberOfLeadingZeros_0f7a4_33 : decode cJ6_numberOfLeadingZeros_0f7a4 33 = .ok (.iload_n 0, 1) := by decide +kernel
theorem dJ6_numberOfLeadingZeros_0f7a4_34 : decode cJ6_numberOfLeadingZeros_0f7a4 34 = .ok (.sipush 256, 3) := by decide +kernel
theorem dJ6_numberOfLeadingZeros_0f7a4_37 : decode cJ6_numberOfLeadingZeros_0f7a4 37 = .ok (.if_icmp .lt 11, 3) := by decide +kernel
theorem dJ6_numberOfLeadingZeros_0f7a4_40 : decode cJ6_numberOfLeadingZeros_0f7a4 40 = .ok (.iinc 1 (-8), 3) := by decide +kernel
theorem dJ6_numberOfLeadingZeros_0f7a4_43 : decode cJ6_numberOfLeadingZeros_0f7a4 43 = .ok (.iload_n 0, 1) := by decide +kernel
theorem dJ6_numberOfLeadingZeros_0f7a4_44 : decode cJ6_numberOfLeadingZeros_0f7a4 44 = .ok (.bipush 8, 2) := by decide +kernel
theorem dJ6_numberOfLeadingZeros_0f7a4_46 : decode cJ6_numberOfLeadingZeros_0f7a4 46 = .ok (.iushr, 1) := by decide +kernel
theorem dJ6_numberOfLeadingZeros_0f7a4_47 : decode cJ6_numberOfLeadingZeros_0f7a4 47 = .ok (.istore_n 0, 1) := by decide +kernel
theorem dJ6_numberOfLeadingZeros_0f7a4_48 : decode cJ6_numberOfLeadingZeros_0f7a4 48 = .ok (.iload_n 0, 1) := by decide +kernel
theorem dJ6_numberOfLeadingZeros_0f7a4_49 : decode cJ6_numberOfLeadingZeros_0f7a4 49 = .ok (.bipush 16, 2) := by decide +kernel
theorem dJ6_numberOfLeadingZeros_0f7a4_51 : decode cJ6_numberOfLeadingZeros_0f7a4 51 = .ok (.if_icmp .lt 10, 3) := by decide +kernel
theorem dJ6_numberOfLeadingZeros_0f7a4_54 : decode cJ6_numberOfLeadingZeros_0f7a4 54 = .ok (.iinc 1 (-4), 3) := by decide +kernel
theorem dJ6_numberOfLeadingZeros_0f7a4_57 : decode cJ6_numberOfLeadingZeros_0f7a4 57 = .ok (.iload_n 0, 1) := by decide +kernel
theorem dJ6_numberOfLeadingZeros_0f7a4_58 : decode cJ6_numberOfLeadingZeros_0f7a4 58 = .ok (.iconst 4, 1) := by decide +kernel
theorem dJ6_numberOfLeadingZeros_0f7a4_59 : decode cJ6_numberOfLeadingZeros_0f7a4 59 = .ok (.iushr, 1) := by decide +kernel
theorem dJ6_numberOfLeadingZeros_0f7a4_60 : decode cJ6_numberOfLeadingZeros_0f7a4 60 = .ok (.istore_n 0, 1) := by decide +kernel
theorem dJ6_numberOfLeadingZeros_0f7a4_61 : decode cJ6_numberOfLeadingZeros_0f7a4 61 = .ok (.iload_n 0, 1) := by decide +kernel
theorem dJ6_numberOfLeadingZeros_0f7a4_62 : decode cJ6_numberOfLeadingZeros_0f7a4 62 = .ok (.iconst 4, 1) := by decide +kernel
theorem dJ6_numberOfLeadingZeros_0f7a4_63 : decode cJ6_numberOfLeadingZeros_0f7a4 63 = .ok (.if_icmp .lt 10, 3) := by decide +kernel
theorem dJ6_numberOfLeadingZeros_0f7a4_66 : decode cJ6_numberOfLeadingZeros_0f7a4 66 = .ok (.iinc 1 (-2), 3) := by decide +kernel
theorem dJ6_numberOfLeadingZeros_0f7a4_69 : decode cJ6_numberOfLeadingZeros_0f7a4 69 = .ok (.iload_n 0, 1) := by decide +kernel
theorem dJ6_numberOfLeadingZeros_0f7a4_70 : decode cJ6_numberOfLeadingZeros_0f7a4 70 = .ok (.iconst 2, 1) := by decide +kernel
theorem dJ6_numberOfLeadingZeros_0f7a4_71 : decode cJ6_numberOfLeadingZeros_0f7a4 71 = .ok (.iushr, 1) := by decide +kernel
theorem dJ6_numberOfLeadingZeros_0f7a4_72 : decode cJ6_numberOfLeadingZeros_0f7a4 72 = .ok (.istore_n 0, 1) := by decide +kernel
theorem dJ6_numberOfLeadingZeros_0f7a4_73 : decode cJ6_numberOfLeadingZeros_0f7a4 73 = .ok (.iload_n 1, 1) := by decide +kernel
theorem dJ6_numberOfLeadingZeros_0f7a4_74 : decode cJ6_numberOfLeadingZeros_0f7a4 74 = .ok (.iload_n 0, 1) := by decide +kernel
theorem dJ6_numberOfLeadingZeros_0f7a4_75 : decode cJ6_numberOfLeadingZeros_0f7a4 75 = .ok (.iconst 1, 1) := by decide +kernel
theorem dJ6_numberOfLeadingZeros_0f7a4_76 : decode cJ6_numberOfLeadingZeros_0f7a4 76 = .ok (.iushr, 1) := by decide +kernel
theorem dJ6_numberOfLeadingZeros_0f7a4_77 : decode cJ6_numberOfLeadingZeros_0f7a4 77 = .ok (.isub, 1) := by decide +kernel
theorem dJ6_numberOfLeadingZeros_0f7a4_78 : decode cJ6_numberOfLeadingZeros_0f7a4 78 = .ok (.ireturn, 1) := by decide +kernel
theorem ct_J6_numberOfLeadingZeros_0f7a4 {g : Gw} (hG : GF g) {z : Bool} (E : Mm) (u t : Nat) (hu : u < 4294967296) (h2t : 2 ^ t ≤ u) (h2u : u < 2 ^ (t + 1)) : CT g yJ6_numberOfLeadingZeros_0f7a4 cJ6_numberOfLeadingZeros_0f7a4 2 (some .int) 0 0 0 0 K2 z [mI (w32 (u : Int))] (ov E) K2 z (fun r D' => r = some (mI (31 - (t : Int))) ∧ D' = ov E) := by
  refine CT.mk hG (by decide +kernel) (Nat.le_of_ble_eq_true rfl) (fun κ X Rt _ ok => ?_)
  refine at_iload_n 1 X rfl rfl dJ6_numberOfLeadingZeros_0f7a4_0 rfl ?_
  refine at_if_gt 4 15 X dJ6_numberOfLeadingZeros_0f7a4_1 rfl (by decide) (fun h1 => ?_) (fun h1 => ?_)
  · have hu31 : u < 2147483648 := by unfold w32 at h1; omega
    rw [show w32 (u : Int) = (u : Int) from w32_id (by omega) (by omega)]
    have ht31 : t < 31 := by
      apply Nat.lt_of_not_le
      intro q
      have := Nat.pow_le_pow_right (show 0 < 2 by decide) q
      rw [n2_31] at this
      omega
    have hall := nl_all t u (by omega) h2t h2u
    obtain ⟨y0, hy0⟩ : ∃ y0, y0 = u := ⟨_, rfl⟩
    rw [← hy0] at hall ⊢
    have hyl : y0 < 2147483648 := by omega
    refine at_bipush 17 X (by decide) (by decide) dJ6_numberOfLeadingZeros_0f7a4_15 rfl ?_
    refine at_istore_n 18 X rfl dJ6_numberOfLeadingZeros_0f7a4_17 rfl (by decide) ?_
    have J33 : ∀ (y1 : Nat) (n1 : Int), (n1 - (nl2 y1 : Int) = 31 - (t : Int)) → (y1 < 2147483648) → (15 ≤ n1 ∧ n1 ≤ 31) → AT g κ K2 z 0 0 33 [(0, mI ((y1 : Nat) : Int)), (1, mI n1)] [] (ov E) := by
      intro y1 n1 hn1 hy1 hb1
      have J48 : ∀ (y2 : Nat) (n2 : Int), (n2 - (nl3 y2 : Int) = 31 - (t : Int)) → (y2 < 2147483648) → (7 ≤ n2 ∧ n2 ≤ 31) → AT g κ K2 z 0 0 48 [(0, mI ((y2 : Nat) : Int)), (1, mI n2)] [] (ov E) := by
        intro y2 n2 hn2 hy2 hb2
        have J61 : ∀ (y3 : Nat) (n3 : Int), (n3 - (nl4 y3 : Int) = 31 - (t : Int)) → (y3 < 2147483648) → (3 ≤ n3 ∧ n3 ≤ 31) → AT g κ K2 z 0 0 61 [(0, mI ((y3 : Nat) : Int)), (1, mI n3)] [] (ov E) := by
          intro y3 n3 hn3 hy3 hb3
          have J73 : ∀ (y4 : Nat) (n4 : Int), (n4 - (nl5 y4 : Int) = 31 - (t : Int)) → (y4 < 2147483648) → (1 ≤ n4 ∧ n4 ≤ 31) → AT g κ K2 z 0 0 73 [(0, mI ((y4 : Nat) : Int)), (1, mI n4)] [] (ov E) := by
            intro y4 n4 hn4 hy4 hb4
            refine at_iload_n 74 X rfl rfl dJ6_numberOfLeadingZeros_0f7a4_73 rfl ?_
            refine at_iload_n 75 X rfl rfl dJ6_numberOfLeadingZeros_0f7a4_74 rfl ?_
            refine at_iconst 76 X (by decide) dJ6_numberOfLeadingZeros_0f7a4_75 rfl ?_
            refine at_iushrV 77 X ((y4 / 2 : Nat) : Int) (iushr_nat (k := 1) (by decide) (by decide) hy4) dJ6_numberOfLeadingZeros_0f7a4_76 rfl ?_
            refine at_isubV 78 X (n4 - ((y4 / 2 : Nat) : Int)) (w32_v rfl (by omega) (by omega)) dJ6_numberOfLeadingZeros_0f7a4_77 rfl ?_
            refine at_iret X Rt ?_ (Nat.le_refl _) (Nat.le_refl _) dJ6_numberOfLeadingZeros_0f7a4_78
            exact ⟨by unfold nl5 at hn4; rw [hn4], rfl⟩
          refine at_iload_n 62 X rfl rfl dJ6_numberOfLeadingZeros_0f7a4_61 rfl ?_
          refine at_iconst 63 X (by decide) dJ6_numberOfLeadingZeros_0f7a4_62 rfl ?_
          refine at_icmp_lt 66 73 X dJ6_numberOfLeadingZeros_0f7a4_63 rfl (by decide) (fun h63 => ?_) (fun h63 => ?_)
          · exact at_sub _ (by exact ⟨rfl, rfl, trivial⟩) (J73 y3 n3 (by have hh := hn3; unfold nl4 stp at hh; rw [show (2 : Nat) ^ 2 = 4 by decide] at hh; first | (rw [if_pos (by omega)] at hh; omega) | (rw [if_neg (by omega)] at hh; omega)) (by omega) (by omega))
          · refine at_iincV 69 X (n3 - 2) (w32_v (by omega) (by omega) (by omega)) rfl dJ6_numberOfLeadingZeros_0f7a4_66 rfl (by decide) ?_
            refine at_iload_n 70 X rfl rfl dJ6_numberOfLeadingZeros_0f7a4_69 rfl ?_
            refine at_iconst 71 X (by decide) dJ6_numberOfLeadingZeros_0f7a4_70 rfl ?_
            refine at_iushrV 72 X ((y3 / 4 : Nat) : Int) (iushr_nat (k := 2) (by decide) (by decide) hy3) dJ6_numberOfLeadingZeros_0f7a4_71 rfl ?_
            refine at_istore_n 73 X rfl dJ6_numberOfLeadingZeros_0f7a4_72 rfl (by decide) ?_
            exact at_sub _ (by exact ⟨rfl, rfl, trivial⟩) (J73 (y3 / 4) (n3 - 2) (by have hh := hn3; unfold nl4 stp at hh; rw [show (2 : Nat) ^ 2 = 4 by decide] at hh; first | (rw [if_pos (by omega)] at hh; omega) | (rw [if_neg (by omega)] at hh; omega)) (by omega) (by omega))
        refine at_iload_n 49 X rfl rfl dJ6_numberOfLeadingZeros_0f7a4_48 rfl ?_
        refine at_bipush 51 X (by decide) (by decide) dJ6_numberOfLeadingZeros_0f7a4_49 rfl ?_
        refine at_icmp_lt 54 61 X dJ6_numberOfLeadingZeros_0f7a4_51 rfl (by decide) (fun h51 => ?_) (fun h51 => ?_)
        · exact at_sub _ (by exact ⟨rfl, rfl, trivial⟩) (J61 y2 n2 (by have hh := hn2; unfold nl3 stp at hh; rw [show (2 : Nat) ^ 4 = 16 by decide] at hh; first | (rw [if_pos (by omega)] at hh; omega) | (rw [if_neg (by omega)] at hh; omega)) (by omega) (by omega))
        · refine at_iincV 57 X (n2 - 4) (w32_v (by omega) (by omega) (by omega)) rfl dJ6_numberOfLeadingZeros_0f7a4_54 rfl (by decide) ?_
          refine at_iload_n 58 X rfl rfl dJ6_numberOfLeadingZeros_0f7a4_57 rfl ?_
          refine at_iconst 59 X (by decide) dJ6_numberOfLeadingZeros_0f7a4_58 rfl ?_
          refine at_iushrV 60 X ((y2 / 16 : Nat) : Int) (iushr_nat (k := 4) (by decide) (by decide) hy2) dJ6_numberOfLeadingZeros_0f7a4_59 rfl ?_
          refine at_istore_n 61 X rfl dJ6_numberOfLeadingZeros_0f7a4_60 rfl (by decide) ?_
          exact at_sub _ (by exact ⟨rfl, rfl, trivial⟩) (J61 (y2 / 16) (n2 - 4) (by have hh := hn2; unfold nl3 stp at hh; rw [show (2 : Nat) ^ 4 = 16 by decide] at hh; first | (rw [if_pos (by omega)] at hh; omega) | (rw [if_neg (by omega)] at hh; omega)) (by omega) (by omega))
      refine at_iload_n 34 X rfl rfl dJ6_numberOfLeadingZeros_0f7a4_33 rfl ?_
      refine at_sipush 37 X (by decide) (by decide) dJ6_numberOfLeadingZeros_0f7a4_34 rfl ?_
      refine at_icmp_lt 40 48 X dJ6_numberOfLeadingZeros_0f7a4_37 rfl (by decide) (fun h37 => ?_) (fun h37 => ?_)
      · exact at_sub _ (by exact ⟨rfl, rfl, trivial⟩) (J48 y1 n1 (by have hh := hn1; unfold nl2 stp at hh; rw [show (2 : Nat) ^ 8 = 256 by decide] at hh; first | (rw [if_pos (by omega)] at hh; omega) | (rw [if_neg (by omega)] at hh; omega)) (by omega) (by omega))
      · refine at_iincV 43 X (n1 - 8) (w32_v (by omega) (by omega) (by omega)) rfl dJ6_numberOfLeadingZeros_0f7a4_40 rfl (by decide) ?_
        refine at_iload_n 44 X rfl rfl dJ6_numberOfLeadingZeros_0f7a4_43 rfl ?_
        refine at_bipush 46 X (by decide) (by decide) dJ6_numberOfLeadingZeros_0f7a4_44 rfl ?_
        refine at_iushrV 47 X ((y1 / 256 : Nat) : Int) (iushr_nat (k := 8) (by decide) (by decide) hy1) dJ6_numberOfLeadingZeros_0f7a4_46 rfl ?_
        refine at_istore_n 48 X rfl dJ6_numberOfLeadingZeros_0f7a4_47 rfl (by decide) ?_
        exact at_sub _ (by exact ⟨rfl, rfl, trivial⟩) (J48 (y1 / 256) (n1 - 8) (by have hh := hn1; unfold nl2 stp at hh; rw [show (2 : Nat) ^ 8 = 256 by decide] at hh; first | (rw [if_pos (by omega)] at hh; omega) | (rw [if_neg (by omega)] at hh; omega)) (by omega) (by omega))
    refine at_iload_n 19 X rfl rfl dJ6_numberOfLeadingZeros_0f7a4_18 rfl ?_
    refine at_ldcw 22 X (n := 65536) w_1625 (by decide) (by decide) dJ6_numberOfLeadingZeros_0f7a4_19 rfl ?_
    refine at_icmp_lt 25 33 X dJ6_numberOfLeadingZeros_0f7a4_22 rfl (by decide) (fun h22 => ?_) (fun h22 => ?_)
    · exact at_sub _ (by exact ⟨rfl, rfl, trivial⟩) (J33 y0 31 (by have hh := hall; unfold nl1 stp at hh; rw [show (2 : Nat) ^ 16 = 65536 by decide] at hh; first | (rw [if_pos (by omega)] at hh; omega) | (rw [if_neg (by omega)] at hh; omega)) (by omega) (by omega))
    · refine at_iincV 28 X (31 - 16) (w32_v (by omega) (by omega) (by omega)) rfl dJ6_numberOfLeadingZeros_0f7a4_25 rfl (by decide) ?_
      refine at_iload_n 29 X rfl rfl dJ6_numberOfLeadingZeros_0f7a4_28 rfl ?_
      refine at_bipush 31 X (by decide) (by decide) dJ6_numberOfLeadingZeros_0f7a4_29 rfl ?_
      refine at_iushrV 32 X ((y0 / 65536 : Nat) : Int) (iushr_nat (k := 16) (by decide) (by decide) hyl) dJ6_numberOfLeadingZeros_0f7a4_31 rfl ?_
      refine at_istore_n 33 X rfl dJ6_numberOfLeadingZeros_0f7a4_32 rfl (by decide) ?_
      exact at_sub _ (by exact ⟨rfl, rfl, trivial⟩) (J33 (y0 / 65536) (31 - 16) (by have hh := hall; unfold nl1 stp at hh; rw [show (2 : Nat) ^ 16 = 65536 by decide] at hh; first | (rw [if_pos (by omega)] at hh; omega) | (rw [if_neg (by omega)] at hh; omega)) (by omega) (by omega))
  · refine at_iload_n 5 X rfl rfl dJ6_numberOfLeadingZeros_0f7a4_4 rfl ?_
    refine at_if_ne 8 13 X dJ6_numberOfLeadingZeros_0f7a4_5 rfl (by decide) (fun h5 => ?_) (fun h5 => ?_)
    · have ht31 : t = 31 := by
        have h3 : 2147483648 ≤ u := by unfold w32 at h1; have h5 := h5; unfold w32 at h5; omega
        have h4 : ¬ t < 31 := fun q => by
          have := Nat.pow_le_pow_right (show 0 < 2 by decide) (show t + 1 ≤ 31 from q)
          rw [n2_31] at this
          omega
        have h6 : ¬ 32 ≤ t := fun q => by
          have := Nat.pow_le_pow_right (show 0 < 2 by decide) q
          rw [n2_32] at this
          omega
        omega
      refine at_iconst 14 X (by decide) dJ6_numberOfLeadingZeros_0f7a4_13 rfl ?_
      refine at_iret X Rt ?_ (Nat.le_refl _) (Nat.le_refl _) dJ6_numberOfLeadingZeros_0f7a4_14
      exact ⟨by rw [ht31]; rfl, rfl⟩
    · exfalso
      have := Nat.two_pow_pos t
      unfold w32 at h5
      omega
