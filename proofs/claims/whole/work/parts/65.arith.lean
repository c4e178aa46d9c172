/-- bits spread to both sides -/
def sprP (m r : Nat) : Nat := itr (fun o v => v ||| (m * 2 ^ (o + 1) ||| m / 2 ^ (o + 1))) m r
theorem spr_lt {m : Nat} (hm : m < 1099511627776) : ∀ {r : Nat}, r ≤ 9 → sprP m r < 1125899906842624
  | 0, _ => by show m < 1125899906842624; omega
  | r + 1, h => by
    have h1 := spr_lt hm (r := r) (by omega)
    have h2 : m * 2 ^ (r + 1) < 2 ^ 50 := by
      have e : m * 2 ^ (r + 1) < 2 ^ 40 * 2 ^ (r + 1) := Nat.mul_lt_mul_of_pos_right hm (Nat.two_pow_pos _)
      rw [← Nat.pow_add] at e
      exact Nat.lt_of_lt_of_le e (Nat.pow_le_pow_right (by decide) (by omega))
    have h3 : m / 2 ^ (r + 1) < 2 ^ 50 := Nat.lt_of_le_of_lt (Nat.div_le_self _ _) (by have : (2 : Nat) ^ 50 = 1125899906842624 := (by decide); omega)
    exact Nat.or_lt_two_pow (n := 50) h1 (Nat.or_lt_two_pow h2 h3)
theorem spr_tb {m : Nat} (j : Nat) : ∀ {r : Nat}, (sprP m r).testBit j = true ↔ ∃ i, m.testBit i = true ∧ i ≤ j + r ∧ j ≤ i + r
  | 0 => by
    constructor
    · intro h; exact ⟨j, h, by omega, by omega⟩
    · rintro ⟨i, h, h1, h2⟩
      rw [show j = i by omega]; exact h
  | r + 1 => by
    show (sprP m r ||| (m * 2 ^ (r + 1) ||| m / 2 ^ (r + 1))).testBit j = true ↔ _
    rw [Nat.testBit_or, Nat.testBit_or, Bool.or_eq_true, Bool.or_eq_true, spr_tb j, Nat.testBit_div_two_pow, Nat.testBit_mul_two_pow, Bool.and_eq_true, decide_eq_true_iff]
    constructor
    · rintro (⟨i, h, h1, h2⟩ | ⟨h1, h2⟩ | h)
      · exact ⟨i, h, by omega, by omega⟩
      · exact ⟨j - (r + 1), h2, by omega, by omega⟩
      · exact ⟨j + (r + 1), h, by omega, by omega⟩
    · rintro ⟨i, h, h1, h2⟩
      by_cases c1 : i = j + (r + 1)
      · right; right; rw [← c1]; exact h
      · by_cases c2 : j = i + (r + 1)
        · right; left; exact ⟨by omega, by rw [show j - (r + 1) = i by omega]; exact h⟩
        · left; exact ⟨i, h, by omega, by omega⟩
theorem dX11_spread_0 : decode cX11_spread 0 = .ok (.lload_n 0, 1) := by decide +kernel
theorem dX11_spread_1 : decode cX11_spread 1 = .ok (.lstore_n 3, 1) := by decide +kernel
theorem dX11_spread_2 : decode cX11_spread 2 = .ok (.iconst 1, 1) := by decide +kernel
theorem dX11_spread_3 : decode cX11_spread 3 = .ok (.istore 5, 2) := by decide +kernel
theorem dX11_spread_5 : decode cX11_spread 5 = .ok (.iload 5, 2) := by decide +kernel
theorem dX11_spread_7 : decode cX11_spread 7 = .ok (.iload_n 2, 1) := by decide +kernel
theorem dX11_spread_8 : decode cX11_spread 8 = .ok (.if_icmp .gt 21, 3) := by decide +kernel
theorem dX11_spread_11 : decode cX11_spread 11 = .ok (.lload_n 3, 1) := by decide +kernel
theorem dX11_spread_12 : decode cX11_spread 12 = .ok (.lload_n 0, 1) := by decide +kernel
theorem dX11_spread_13 : decode cX11_spread 13 = .ok (.iload 5, 2) := by decide +kernel
theorem dX11_spread_15 : decode cX11_spread 15 = .ok (.lshl, 1) := by decide +kernel
theorem dX11_spread_16 : decode cX11_spread 16 = .ok (.lload_n 0, 1) := by decide +kernel
theorem dX11_spread_17 : decode cX11_spread 17 = .ok (.iload 5, 2) := by decide +kernel
theorem dX11_spread_19 : decode cX11_spread 19 = .ok (.lushr, 1) := by decide +kernel
theorem dX11_spread_20 : decode cX11_spread 20 = .ok (.lor, 1) := by decide +kernel
theorem dX11_spread_21 : decode cX11_spread 21 = .ok (.lor, 1) := by decide +kernel
theorem dX11_spread_22 : decode cX11_spread 22 = .ok (.lstore_n 3, 1) := by decide +kernel
theorem dX11_spread_23 : decode cX11_spread 23 = .ok (.iinc 5 1, 3) := by decide +kernel
theorem dX11_spread_26 : decode cX11_spread 26 = .ok (.goto (-21), 3) := by decide +kernel
theorem dX11_spread_29 : decode cX11_spread 29 = .ok (.lload_n 3, 1) := by decide +kernel
theorem dX11_spread_30 : decode cX11_spread 30 = .ok (.lreturn, 1) := by decide +kernel
theorem ct_X11_spread {g : Gw} (hG : GF g) {z : Bool} (E : Mm) (m r : Nat) (hm : m < 1099511627776) (hr : r ≤ 9) : CT g yX11_spread cX11_spread 6 (some .long) 0 0 0 0 K2 z [mL ((m : Nat) : Int), mI ((r : Nat) : Int)] (ov E) K2 z (fun r' D' => r' = some (mL (sprP m r : Nat)) ∧ D' = ov E) := by
  refine CT.mk hG (by decide +kernel) (Nat.le_of_ble_eq_true rfl) (fun κ X Rt _ ok => ?_)
  refine at_lload_n 1 X rfl rfl dX11_spread_0 rfl ?_
  refine at_lstore_n 2 X rfl dX11_spread_1 rfl (by decide) ?_
  refine at_iconst 3 X (by decide) dX11_spread_2 rfl ?_
  refine at_istore 5 X dX11_spread_3 rfl (by decide) ?_
  have J5 : ∀ (f5 : Nat) (o : Nat) (v : Nat), 10 - o < f5 → (o ≤ r + 1) → (1 ≤ o) → (v = sprP m (o - 1)) → AT g κ K2 z 0 0 5 [(0, mL ((m : Nat) : Int)), (2, mI ((r : Nat) : Int)), (3, mL ((v : Nat) : Int)), (5, mI ((o : Nat) : Int))] [] (ov E) := by
    intro f5
    induction f5 with
    | zero => intro o v hf5; omega
    | succ f5 ih5 =>
    intro o v hf5 ho ho1 hv
    refine at_iload 7 X rfl dX11_spread_5 rfl ?_
    refine at_iload_n 8 X rfl rfl dX11_spread_7 rfl ?_
    refine at_icmp_gt 11 29 X dX11_spread_8 rfl (by decide) (fun h8 => ?_) (fun h8 => ?_)
    · refine at_lload_n 30 X rfl rfl dX11_spread_29 rfl ?_
      refine at_lret X Rt ?_ (Nat.le_refl _) (Nat.le_refl _) dX11_spread_30
      exact ⟨by rw [hv, show o - 1 = r by omega], rfl⟩
    · refine at_lload_n 12 X rfl rfl dX11_spread_11 rfl ?_
      refine at_lload_n 13 X rfl rfl dX11_spread_12 rfl ?_
      have hA : m * 2 ^ o < 1125899906842624 := by
        have e : m * 2 ^ o < 2 ^ 40 * 2 ^ o := Nat.mul_lt_mul_of_pos_right hm (Nat.two_pow_pos _)
        rw [← Nat.pow_add] at e
        have e2 := Nat.pow_le_pow_right (show 2 > 0 by decide) (show 40 + o ≤ 50 by omega)
        have e3 : (2 : Nat) ^ 50 = 1125899906842624 := by decide
        omega
      have hB : m / 2 ^ o ≤ m := Nat.div_le_self _ _
      have hC := spr_lt hm (r := o - 1) (by omega)
      have hD : (m * 2 ^ o ||| m / 2 ^ o) < 1125899906842624 := Nat.or_lt_two_pow (n := 50) hA (by have : (2 : Nat) ^ 50 = 1125899906842624 := (by decide); omega)
      refine at_iload 15 X rfl dX11_spread_13 rfl ?_
      refine at_lshlV 16 X ((m * 2 ^ o : Nat) : Int) (lshl_nat (by omega) (by omega)) dX11_spread_15 rfl ?_
      refine at_lload_n 17 X rfl rfl dX11_spread_16 rfl ?_
      refine at_iload 19 X rfl dX11_spread_17 rfl ?_
      refine at_lushrV 20 X ((m / 2 ^ o : Nat) : Int) (lushr_nat (by omega) (by omega)) dX11_spread_19 rfl ?_
      refine at_lorV 21 X ((m * 2 ^ o ||| m / 2 ^ o : Nat) : Int) (lor_nat (by omega) (by omega)) dX11_spread_20 rfl ?_
      refine at_lorV 22 X ((v ||| (m * 2 ^ o ||| m / 2 ^ o) : Nat) : Int) (lor_nat (by omega) (by omega)) dX11_spread_21 rfl ?_
      refine at_lstore_n 23 X rfl dX11_spread_22 rfl (by decide) ?_
      refine at_iincV 26 X ((o + 1 : Nat) : Int) (w32_v (by omega) (by omega) (by omega)) rfl dX11_spread_23 rfl (by decide) ?_
      refine at_goto 5 X dX11_spread_26 (by decide) ?_
      exact at_sub _ (by exact ⟨rfl, rfl, rfl, rfl, trivial⟩) (ih5 (o + 1) (v ||| (m * 2 ^ o ||| m / 2 ^ o)) (by first | omega | (simp only [] at *; omega)) (by first | omega | assumption) (by first | omega | assumption) (by rw [hv]; show _ = sprP m (o + 1 - 1); rw [show o + 1 - 1 = (o - 1) + 1 by omega]; show _ = sprP m (o - 1) ||| (m * 2 ^ (o - 1 + 1) ||| m / 2 ^ (o - 1 + 1)); rw [show o - 1 + 1 = o by omega]))
  exact at_sub _ (by exact ⟨rfl, rfl, rfl, rfl, trivial⟩) (J5 _ 1 m (Nat.lt_succ_self _) (by first | omega | assumption | rfl) (by first | omega | assumption | rfl) rfl)
theorem gcd_half {a b : Nat} (h1 : 0 < b) (h2 : b ≤ a) : 2 * (b * (a % b)) < a * b := by
  have h3 := Nat.mod_lt a h1
  have h4 : a % b + b ≤ a := by
    have := Nat.div_add_mod a b
    have h5 : 1 ≤ a / b := Nat.div_pos h2 h1
    have h6 : b * 1 ≤ b * (a / b) := Nat.mul_le_mul_left b h5
    omega
  have h5 : b * (2 * (a % b)) < b * a := Nat.mul_lt_mul_of_pos_left (by omega) h1
  rw [Nat.mul_comm a b, Nat.mul_left_comm 2 b]
  exact h5
theorem p2_s (i : Nat) : 2 ^ (i + 1) = 2 ^ i * 2 := Nat.pow_succ 2 i
theorem dX11_commonDivisor_0 : decode cX11_commonDivisor 0 = .ok (.lload_n 0, 1) := by decide +kernel
theorem dX11_commonDivisor_1 : decode cX11_commonDivisor 1 = .ok (.lstore 4, 2) := by decide +kernel
theorem dX11_commonDivisor_3 : decode cX11_commonDivisor 3 = .ok (.lload_n 2, 1) := by decide +kernel
theorem dX11_commonDivisor_4 : decode cX11_commonDivisor 4 = .ok (.lstore 6, 2) := by decide +kernel
theorem dX11_commonDivisor_6 : decode cX11_commonDivisor 6 = .ok (.iconst 0, 1) := by decide +kernel
theorem dX11_commonDivisor_7 : decode cX11_commonDivisor 7 = .ok (.istore 8, 2) := by decide +kernel
theorem dX11_commonDivisor_9 : decode cX11_commonDivisor 9 = .ok (.iload 8, 2) := by decide +kernel
theorem dX11_commonDivisor_11 : decode cX11_commonDivisor 11 = .ok (.sipush 200, 3) := by decide +kernel
theorem dX11_commonDivisor_14 : decode cX11_commonDivisor 14 = .ok (.if_icmp .ge 31, 3) := by decide +kernel
theorem dX11_commonDivisor_17 : decode cX11_commonDivisor 17 = .ok (.lload 6, 2) := by decide +kernel
theorem dX11_commonDivisor_19 : decode cX11_commonDivisor 19 = .ok (.lconst 0, 1) := by decide +kernel
theorem dX11_commonDivisor_20 : decode cX11_commonDivisor 20 = .ok (.lcmp, 1) := by decide +kernel
theorem dX11_commonDivisor_21 : decode cX11_commonDivisor 21 = .ok (.ifCond .eq 24, 3) := by decide +kernel
theorem dX11_commonDivisor_24 : decode cX11_commonDivisor 24 = .ok (.lload 4, 2) := by decide +kernel
theorem dX11_commonDivisor_26 : decode cX11_commonDivisor 26 = .ok (.lload 6, 2) := by decide +kernel
theorem dX11_commonDivisor_28 : decode cX11_commonDivisor 28 = .ok (.lrem, 1) := by decide +kernel
theorem dX11_commonDivisor_29 : decode cX11_commonDivisor 29 = .ok (.lstore 9, 2) := by decide +kernel
theorem dX11_commonDivisor_31 : decode cX11_commonDivisor 31 = .ok (.lload 6, 2) := by decide +kernel
theorem dX11_commonDivisor_33 : decode cX11_commonDivisor 33 = .ok (.lstore 4, 2) := by decide +kernel
theorem dX11_commonDivisor_35 : decode cX11_commonDivisor 35 = .ok (.lload 9, 2) := by decide +kernel
theorem dX11_commonDivisor_37 : decode cX11_commonDivisor 37 = .ok (.lstore 6, 2) := by decide +kernel
theorem dX11_commonDivisor_39 : decode cX11_commonDivisor 39 = .ok (.iinc 8 1, 3) := by decide +kernel
theorem dX11_commonDivisor_42 : decode cX11_commonDivisor 42 = .ok (.goto (-33), 3) := by decide +kernel
theorem dX11_commonDivisor_45 : decode cX11_commonDivisor 45 = .ok (.lload 4, 2) := by decide +kernel
theorem dX11_commonDivisor_47 : decode cX11_commonDivisor 47 = .ok (.lreturn, 1) := by decide +kernel
theorem ct_X11_commonDivisor {g : Gw} (hG : GF g) {z : Bool} (E : Mm) (A B : Nat) (hA : A < 9223372036854775808) (hB : B < 9223372036854775808) : CT g yX11_commonDivisor cX11_commonDivisor 11 (some .long) 0 0 0 0 K2 z [mL ((A : Nat) : Int), mL ((B : Nat) : Int)] (ov E) K2 z (fun r D' => r = some (mL (Nat.gcd A B : Nat)) ∧ D' = ov E) := by
  refine CT.mk hG (by decide +kernel) (Nat.le_of_ble_eq_true rfl) (fun κ X Rt _ ok => ?_)
  refine at_lload_n 1 X rfl rfl dX11_commonDivisor_0 rfl ?_
  refine at_lstore 3 X dX11_commonDivisor_1 rfl (by decide) ?_
  refine at_lload_n 4 X rfl rfl dX11_commonDivisor_3 rfl ?_
  refine at_lstore 6 X dX11_commonDivisor_4 rfl (by decide) ?_
  refine at_iconst 7 X (by decide) dX11_commonDivisor_6 rfl ?_
  refine at_istore 9 X dX11_commonDivisor_7 rfl (by decide) ?_
  have J9 : ∀ (f9 : Nat) (i : Nat) (a : Nat) (b : Nat), 200 - i < f9 → (i ≤ 200) → (a < 9223372036854775808) → (b < 9223372036854775808) → (Nat.gcd a b = Nat.gcd A B) → (i = 0 ∨ (b ≤ a ∧ a * b * 2 ^ i < 2 ^ 130)) → AT g κ K2 z 0 0 9 [(4, mL ((a : Nat) : Int)), (6, mL ((b : Nat) : Int)), (8, mI ((i : Nat) : Int))] [] (ov E) := by
    intro f9
    induction f9 with
    | zero => intro i a b hf9; omega
    | succ f9 ih9 =>
    intro i a b hf9 hi ha hb hg hm
    refine at_iload 11 X rfl dX11_commonDivisor_9 rfl ?_
    refine at_sipush 14 X (by decide) (by decide) dX11_commonDivisor_11 rfl ?_
    refine at_icmp_ge 17 45 X dX11_commonDivisor_14 rfl (by decide) (fun h14 => ?_) (fun h14 => ?_)
    · refine at_lload 47 X rfl dX11_commonDivisor_45 rfl ?_
      refine at_lret X Rt ?_ (Nat.le_refl _) (Nat.le_refl _) dX11_commonDivisor_47
      have hb0 : b = 0 := by
        first
        | omega
        | (rcases hm with q | ⟨q1, q2⟩
           · omega
           · rcases Nat.eq_zero_or_pos b with q | q
             · exact q
             · exfalso
               have e1 : 1 ≤ a * b := Nat.mul_pos (by omega) q
               have e2 : 1 * 2 ^ i ≤ a * b * 2 ^ i := Nat.mul_le_mul_right _ e1
               rw [show i = 200 by omega] at e2 q2
               have e3 : (2 : Nat) ^ 130 ≤ 1 * 2 ^ 200 := by decide
               omega)
      subst hb0
      exact ⟨by rw [← hg, Nat.gcd_zero_right], rfl⟩
    · refine at_lload 19 X rfl dX11_commonDivisor_17 rfl ?_
      refine at_lconst 20 X (v := 0) (by decide) (by decide) dX11_commonDivisor_19 rfl ?_
      refine at_lif_eq 21 24 45 X dX11_commonDivisor_20 rfl dX11_commonDivisor_21 rfl (by decide) (fun h20 => ?_) (fun h20 => ?_)
      · refine at_lload 47 X rfl dX11_commonDivisor_45 rfl ?_
        refine at_lret X Rt ?_ (Nat.le_refl _) (Nat.le_refl _) dX11_commonDivisor_47
        have hb0 : b = 0 := by
          first
          | omega
          | (rcases hm with q | ⟨q1, q2⟩
             · omega
             · rcases Nat.eq_zero_or_pos b with q | q
               · exact q
               · exfalso
                 have e1 : 1 ≤ a * b := Nat.mul_pos (by omega) q
                 have e2 : 1 * 2 ^ i ≤ a * b * 2 ^ i := Nat.mul_le_mul_right _ e1
                 rw [show i = 200 by omega] at e2 q2
                 have e3 : (2 : Nat) ^ 130 ≤ 1 * 2 ^ 200 := by decide
                 omega)
        subst hb0
        exact ⟨by rw [← hg, Nat.gcd_zero_right], rfl⟩
      · have hbp : 0 < b := by omega
        refine at_lload 26 X rfl dX11_commonDivisor_24 rfl ?_
        refine at_lload 28 X rfl dX11_commonDivisor_26 rfl ?_
        refine at_lremV 29 X (by omega) ((a % b : Nat) : Int) (w64_v (Int.ofNat_tmod a b).symm (by have := Nat.mod_lt a hbp; omega) (by have := Nat.mod_lt a hbp; omega)) dX11_commonDivisor_28 rfl ?_
        refine at_lstore 31 X dX11_commonDivisor_29 rfl (by decide) ?_
        refine at_lload 33 X rfl dX11_commonDivisor_31 rfl ?_
        refine at_lstore 35 X dX11_commonDivisor_33 rfl (by decide) ?_
        refine at_lload 37 X rfl dX11_commonDivisor_35 rfl ?_
        refine at_lstore 39 X dX11_commonDivisor_37 rfl (by decide) ?_
        refine at_iincV 42 X ((i + 1 : Nat) : Int) (w32_v (by omega) (by omega) (by omega)) rfl dX11_commonDivisor_39 rfl (by decide) ?_
        refine at_goto 9 X dX11_commonDivisor_42 (by decide) ?_
        exact at_sub _ (by exact ⟨rfl, rfl, rfl, trivial⟩) (ih9 (i + 1) b (a % b) (by first | omega | (simp only [] at *; omega)) (by first | omega | assumption) (by omega) (by have := Nat.mod_lt a hbp; omega) (by rw [← hg, Nat.gcd_comm a b]; exact (Nat.gcd_rec b a).symm ▸ (Nat.gcd_comm _ _)) (Or.inr ⟨Nat.le_of_lt (Nat.mod_lt a hbp), by
              have e0 := Nat.mod_lt a hbp
              rcases hm with rfl | ⟨q1, q2⟩
              · have e1 : b * (a % b) < 2 ^ 63 * 2 ^ 63 := Nat.mul_lt_mul'' (by rw [n2_63]; exact hb) (by rw [n2_63]; omega)
                rw [← Nat.pow_add] at e1
                show b * (a % b) * 2 < 2 ^ 130
                have e2 : (2 : Nat) ^ (63 + 63) * 2 ≤ 2 ^ 130 := by decide
                omega
              · have e1 := gcd_half hbp q1
                have e2 : 2 * (b * (a % b)) * 2 ^ i ≤ a * b * 2 ^ i := Nat.mul_le_mul_right _ (Nat.le_of_lt e1)
                rw [p2_s, show b * (a % b) * (2 ^ i * 2) = 2 * (b * (a % b)) * 2 ^ i by rw [Nat.mul_comm (2 ^ i) 2, ← Nat.mul_assoc, Nat.mul_comm _ 2]]
                exact Nat.lt_of_le_of_lt e2 q2⟩))
  exact at_sub _ (by exact ⟨rfl, rfl, rfl, trivial⟩) (J9 _ 0 A B (Nat.lt_succ_self _) (by first | omega | assumption | rfl) (by first | omega | assumption | rfl) (by first | omega | assumption | rfl) rfl (Or.inl rfl))
/-- a fraction in least terms: what is above, or below -/
def ltmP (u : Int) (l : Nat) (wh : Int) : Int := if wh = 0 then u.tdiv (Nat.gcd u.natAbs l : Nat) else (l : Int).tdiv (Nat.gcd u.natAbs l : Nat)
theorem tdiv_in {u d : Int} (k : Int) (hk : -k ≤ u ∧ u ≤ k) (hd : 0 < d) : -k ≤ u.tdiv d ∧ u.tdiv d ≤ k := by
  have h1 : (u.tdiv d).natAbs ≤ u.natAbs := by
    rw [Int.natAbs_tdiv]
    exact Nat.div_le_self _ _
  omega
theorem dX11_inLeastTerms_0 : decode cX11_inLeastTerms 0 = .ok (.lload_n 0, 1) := by decide +kernel
theorem dX11_inLeastTerms_1 : decode cX11_inLeastTerms 1 = .ok (.invokestatic 494, 3) := by decide +kernel
theorem dX11_inLeastTerms_4 : decode cX11_inLeastTerms 4 = .ok (.lload_n 2, 1) := by decide +kernel
theorem dX11_inLeastTerms_5 : decode cX11_inLeastTerms 5 = .ok (.invokestatic 498, 3) := by decide +kernel
theorem dX11_inLeastTerms_8 : decode cX11_inLeastTerms 8 = .ok (.lstore 5, 2) := by decide +kernel
theorem dX11_inLeastTerms_10 : decode cX11_inLeastTerms 10 = .ok (.lload 5, 2) := by decide +kernel
theorem dX11_inLeastTerms_12 : decode cX11_inLeastTerms 12 = .ok (.lconst 0, 1) := by decide +kernel
theorem dX11_inLeastTerms_13 : decode cX11_inLeastTerms 13 = .ok (.lcmp, 1) := by decide +kernel
theorem dX11_inLeastTerms_14 : decode cX11_inLeastTerms 14 = .ok (.ifCond .gt 5, 3) := by decide +kernel
theorem dX11_inLeastTerms_17 : decode cX11_inLeastTerms 17 = .ok (.lconst 0, 1) := by decide +kernel
theorem dX11_inLeastTerms_18 : decode cX11_inLeastTerms 18 = .ok (.lreturn, 1) := by decide +kernel
theorem dX11_inLeastTerms_19 : decode cX11_inLeastTerms 19 = .ok (.iload 4, 2) := by decide +kernel
theorem dX11_inLeastTerms_21 : decode cX11_inLeastTerms 21 = .ok (.ifCond .ne 10, 3) := by decide +kernel
theorem dX11_inLeastTerms_24 : decode cX11_inLeastTerms 24 = .ok (.lload_n 0, 1) := by decide +kernel
theorem dX11_inLeastTerms_25 : decode cX11_inLeastTerms 25 = .ok (.lload 5, 2) := by decide +kernel
theorem dX11_inLeastTerms_27 : decode cX11_inLeastTerms 27 = .ok (.ldiv, 1) := by decide +kernel
theorem dX11_inLeastTerms_28 : decode cX11_inLeastTerms 28 = .ok (.goto 7, 3) := by decide +kernel
theorem dX11_inLeastTerms_31 : decode cX11_inLeastTerms 31 = .ok (.lload_n 2, 1) := by decide +kernel
theorem dX11_inLeastTerms_32 : decode cX11_inLeastTerms 32 = .ok (.lload 5, 2) := by decide +kernel
theorem dX11_inLeastTerms_34 : decode cX11_inLeastTerms 34 = .ok (.ldiv, 1) := by decide +kernel
theorem dX11_inLeastTerms_35 : decode cX11_inLeastTerms 35 = .ok (.lreturn, 1) := by decide +kernel
theorem ct_X11_inLeastTerms {g : Gw} (hG : GF g) {z : Bool} (E : Mm) (u : Int) (l : Nat) (wh : Int) (hu : -4611686018427387904 ≤ u ∧ u ≤ 4611686018427387904) (hl0 : 0 < l) (hl : l ≤ 4611686018427387904) : CT g yX11_inLeastTerms cX11_inLeastTerms 7 (some .long) 1 30 0 0 K2 z [mL u, mL ((l : Nat) : Int), mI wh] (ov E) K2 z (fun r D' => r = some (mL (ltmP u l wh)) ∧ D' = ov E) := by
  refine CT.mk hG (by decide +kernel) (Nat.le_of_ble_eq_true rfl) (fun κ X Rt _ ok => ?_)
  refine at_lload_n 1 X rfl rfl dX11_inLeastTerms_0 rfl ?_
  refine at_absJV 4 X ((u.natAbs : Nat) : Int) (by split <;> omega) (by omega) w_1331 (by rw [Rt.1]; exact ⟨by decide, by decide, by decide, by decide⟩) dX11_inLeastTerms_1 rfl ?_
  refine at_lload_n 5 X rfl rfl dX11_inLeastTerms_4 rfl ?_
  refine at_callS 8 X (ct_X11_commonDivisor hG E u.natAbs l (by omega) (by omega)) mo_X11_commonDivisor w_1334 so_X11_commonDivisor rfl rfl (crm Rt (by decide)) (Nat.le_of_ble_eq_true rfl) dX11_inLeastTerms_5 rfl ?_
  rintro _ _ ⟨rfl, rfl⟩
  refine at_lstore 10 X dX11_inLeastTerms_8 rfl (by decide) ?_
  have hgp : 0 < Nat.gcd u.natAbs l := Nat.gcd_pos_of_pos_right _ hl0
  refine at_lload 12 X rfl dX11_inLeastTerms_10 rfl ?_
  refine at_lconst 13 X (v := 0) (by decide) (by decide) dX11_inLeastTerms_12 rfl ?_
  refine at_lif_gt 14 17 19 X dX11_inLeastTerms_13 rfl dX11_inLeastTerms_14 rfl (by decide) (fun h13 => ?_) (fun h13 => ?_)
  · refine at_iload 21 X rfl dX11_inLeastTerms_19 rfl ?_
    refine at_if_ne 24 31 X dX11_inLeastTerms_21 rfl (by decide) (fun h21 => ?_) (fun h21 => ?_)
    · refine at_lload_n 32 X rfl rfl dX11_inLeastTerms_31 rfl ?_
      refine at_lload 34 X rfl dX11_inLeastTerms_32 rfl ?_
      refine at_ldivV 35 X (by omega) ((l : Int).tdiv ((Nat.gcd u.natAbs l : Nat) : Int)) (by have := tdiv_in (u := (l : Int)) (d := ((Nat.gcd u.natAbs l : Nat) : Int)) 4611686018427387904 (by omega) (by omega); exact w64_id (by omega) (by omega)) dX11_inLeastTerms_34 rfl ?_
      refine at_lret X Rt ?_ (Nat.le_refl _) (Nat.le_refl _) dX11_inLeastTerms_35
      exact ⟨by unfold ltmP; first | rw [if_pos (by omega)] | rw [if_neg (by omega)], rfl⟩
    · refine at_lload_n 25 X rfl rfl dX11_inLeastTerms_24 rfl ?_
      refine at_lload 27 X rfl dX11_inLeastTerms_25 rfl ?_
      refine at_ldivV 28 X (by omega) (u.tdiv ((Nat.gcd u.natAbs l : Nat) : Int)) (by have := tdiv_in (u := u) (d := ((Nat.gcd u.natAbs l : Nat) : Int)) 4611686018427387904 (by omega) (by omega); exact w64_id (by omega) (by omega)) dX11_inLeastTerms_27 rfl ?_
      refine at_goto 35 X dX11_inLeastTerms_28 (by decide) ?_
      refine at_lret X Rt ?_ (Nat.le_refl _) (Nat.le_refl _) dX11_inLeastTerms_35
      exact ⟨by unfold ltmP; first | rw [if_pos (by omega)] | rw [if_neg (by omega)], rfl⟩
  · exfalso; omega
