theorem lst_none {q : Nat → Bool} : ∀ {n : Nat}, (∀ i, i < n → ¬ q i = true) → lstP q n = -1
  | 0, _ => rfl
  | n + 1, h => by rw [lst_s, if_neg (h n (Nat.lt_succ_self n))]; exact lst_none (fun i hi => h i (Nat.lt_succ_of_lt hi))
theorem lst_at {q : Nat → Bool} {i : Nat} (hi : q i = true) : ∀ {n : Nat}, i < n → (∀ j, i < j → j < n → ¬ q j = true) → lstP q n = i
  | 0, h, _ => absurd h (Nat.not_lt_zero i)
  | n + 1, h, hn => by
    rw [lst_s]
    by_cases e : i = n
    · subst e; rw [if_pos hi]
    · rw [if_neg (hn n (by omega) (Nat.lt_succ_self n))]
      exact lst_at hi (by omega) (fun j a b => hn j a (Nat.lt_succ_of_lt b))
theorem least_ex {p : Nat → Prop} (h : ∃ k, p k) : ∃ k, p k ∧ ∀ j, j < k → ¬ p j := by
  obtain ⟨k, hk⟩ := h
  induction k using Nat.strongRecOn with
  | _ k ih =>
    by_cases c : ∃ j, j < k ∧ p j
    · obtain ⟨j, hj, hp⟩ := c
      exact ih j hj hp
    · exact ⟨k, hk, fun j hj hp => c ⟨j, hj, hp⟩⟩
/-- a number that is not zero has a lowest bit and a highest one -/
theorem low_ex {m : Nat} (h : m ≠ 0) : ∃ k, m.testBit k = true ∧ ∀ j, j < k → m.testBit j = false := by
  have hx : ∃ k, m.testBit k = true := by
    apply Classical.byContradiction
    intro q
    refine h (Nat.eq_of_testBit_eq fun j => ?_)
    rw [Nat.zero_testBit]
    exact Bool.eq_false_iff.mpr (fun e => q ⟨j, e⟩)
  obtain ⟨k, hk, hl⟩ := least_ex hx
  exact ⟨k, hk, fun j hj => Bool.eq_false_iff.mpr (hl j hj)⟩
theorem high_ex : ∀ (n m : Nat), m ≠ 0 → m < 2 ^ n → ∃ t, t < n ∧ 2 ^ t ≤ m ∧ m < 2 ^ (t + 1)
  | 0, m, h, hm => by
    have : (2 : Nat) ^ 0 = 1 := rfl
    omega
  | n + 1, m, h, hm => by
    by_cases c : m < 2 ^ n
    · obtain ⟨t, ht, a, b⟩ := high_ex n m h c
      exact ⟨t, by omega, a, b⟩
    · exact ⟨n, by omega, by omega, hm⟩
theorem high_tb {m t : Nat} (h1 : 2 ^ t ≤ m) (h2 : m < 2 ^ (t + 1)) : m.testBit t = true ∧ ∀ j, t < j → m.testBit j = false := by
  have hp := Nat.two_pow_pos t
  refine ⟨tb_div.mpr ?_, fun j hj => Nat.testBit_lt_two_pow (Nat.lt_of_lt_of_le h2 (Nat.pow_le_pow_right (by decide) (by omega)))⟩
  rw [Nat.pow_succ] at h2
  have : m / 2 ^ t = 1 := by
    have a : 1 ≤ m / 2 ^ t := (Nat.le_div_iff_mul_le hp).mpr (by omega)
    have b : m / 2 ^ t < 2 := (Nat.div_lt_iff_lt_mul hp).mpr (by omega)
    omega
  rw [this]
/-- what places answers -/
def plA (G : GP) (B : BM) (b h : Nat) (w : Int) : Int := if w = 0 then (pcN G B b h : Int) else if w = 1 then fstP (fun x => stP G B b x h) (gW G + 1 - bL B b) else lstP (fun x => stP G B b x h) (gW G + 1 - bL B b)
theorem plc_tb (G : GP) (B : BM) (b h j : Nat) : (plcP G B b h).testBit j = (decide (j < gW G + 1 - bL B b) && stP G B b j h) := mk_tb _ _ _
theorem plc_0 {G : GP} {B : BM} {b h : Nat} {w : Int} (hz : plcP G B b h = 0) (hw : ¬ w = 0) : (-1 : Int) = plA G B b h w := by
  have hno : ∀ j, j < gW G + 1 - bL B b → ¬ stP G B b j h = true := fun j hj q => by
    have e := plc_tb G B b h j
    rw [hz, Nat.zero_testBit, decide_eq_true hj, q] at e
    cases e
  unfold plA
  rw [if_neg hw, fst_none hno, lst_none hno, ite_self]
theorem plc_1 {G : GP} {B : BM} {b h k : Nat} {w : Int} (hk : (plcP G B b h).testBit k = true) (hlow : ∀ j, j < k → (plcP G B b h).testBit j = false) (hw : w = 1) : ((k : Nat) : Int) = plA G B b h w := by
  have hkk := plc_tb G B b h k
  rw [hk] at hkk
  have hkl := of_decide_eq_true (Bool.and_eq_true_iff.mp hkk.symm).1
  unfold plA
  rw [if_neg (by omega), if_pos hw, fst_at (i := k) (fun j hj q => by
    have e := plc_tb G B b h j
    rw [hlow j hj, decide_eq_true (show j < gW G + 1 - bL B b by omega), q] at e
    cases e) (Bool.and_eq_true_iff.mp hkk.symm).2 hkl]
theorem plc_2 {G : GP} {B : BM} {b h t : Nat} {w : Int} (h1 : 2 ^ t ≤ plcP G B b h) (h2 : plcP G B b h < 2 ^ (t + 1)) (hw0 : ¬ w = 0) (hw : ¬ w = 1) : ((t : Nat) : Int) = plA G B b h w := by
  have hkk := plc_tb G B b h t
  rw [(high_tb h1 h2).1] at hkk
  unfold plA
  rw [if_neg hw0, if_neg hw, lst_at (i := t) (Bool.and_eq_true_iff.mp hkk.symm).2 (of_decide_eq_true (Bool.and_eq_true_iff.mp hkk.symm).1) (fun j hj1 hj2 q => by
    have e := plc_tb G B b h j
    rw [(high_tb h1 h2).2 j hj1, decide_eq_true hj2, q] at e
    cases e)]
theorem dJ13_numberOfTrailingZeros_95d88_0 : decode cJ13_numberOfTrailingZeros_95d88 0 = .ok (.lload_n 0, 1) := by decide +kernel
theorem dJ13_numberOfTrailingZeros_95d88_1 : decode cJ13_numberOfTrailingZeros_95d88 1 = .ok (.l2i, 1) := by decide +kernel
theorem dJ13_numberOfTrailingZeros_95d88_2 : decode cJ13_numberOfTrailingZeros_95d88 2 = .ok (.istore_n 2, 1) := by decide +kernel
theorem dJ13_numberOfTrailingZeros_95d88_3 : decode cJ13_numberOfTrailingZeros_95d88 3 = .ok (.iload_n 2, 1) := by decide +kernel
theorem dJ13_numberOfTrailingZeros_95d88_4 : decode cJ13_numberOfTrailingZeros_95d88 4 = .ok (.ifCond .ne 17, 3) := by decide +kernel
theorem dJ13_numberOfTrailingZeros_95d88_7 : decode cJ13_numberOfTrailingZeros_95d88 7 = .ok (.bipush 32, 2) := by decide +kernel
theorem dJ13_numberOfTrailingZeros_95d88_9 : decode cJ13_numberOfTrailingZeros_95d88 9 = .ok (.lload_n 0, 1) := by decide +kernel
theorem dJ13_numberOfTrailingZeros_95d88_10 : decode cJ13_numberOfTrailingZeros_95d88 10 = .ok (.bipush 32, 2) := by decide +kernel
theorem dJ13_numberOfTrailingZeros_95d88_12 : decode cJ13_numberOfTrailingZeros_95d88 12 = .ok (.lushr, 1) := by decide +kernel
theorem dJ13_numberOfTrailingZeros_95d88_13 : decode cJ13_numberOfTrailingZeros_95d88 13 = .ok (.l2i, 1) := by decide +kernel
theorem dJ13_numberOfTrailingZeros_95d88_14 : decode cJ13_numberOfTrailingZeros_95d88 14 = .ok (.invokestatic 311, 3) := by decide +kernel
theorem dJ13_numberOfTrailingZeros_95d88_17 : decode cJ13_numberOfTrailingZeros_95d88 17 = .ok (.iadd, 1) := by decide +kernel
theorem dJ13_numberOfTrailingZeros_95d88_18 : decode cJ13_numberOfTrailingZeros_95d88 18 = .ok (.goto 7, 3) := by decide +kernel
theorem dJ13_numberOfTrailingZeros_95d88_21 : decode cJ13_numberOfTrailingZeros_95d88 21 = .ok (.iload_n 2, 1) := by decide +kernel
theorem dJ13_numberOfTrailingZeros_95d88_22 : decode cJ13_numberOfTrailingZeros_95d88 22 = .ok (.invokestatic 311, 3) := by decide +kernel
theorem dJ13_numberOfTrailingZeros_95d88_25 : decode cJ13_numberOfTrailingZeros_95d88 25 = .ok (.ireturn, 1) := by decide +kernel
theorem ct_J13_numberOfTrailingZeros_95d88 {g : Gw} (hG : GF g) {z : Bool} (E : Mm) (m k : Nat) (hm : m < 1099511627776) (hk : m.testBit k = true) (hlow : ∀ j, j < k → m.testBit j = false) : CT g yJ13_numberOfTrailingZeros_95d88 cJ13_numberOfTrailingZeros_95d88 3 (some .int) 1 21 0 0 K2 z [mL ((m : Nat) : Int)] (ov E) K2 z (fun r D' => r = some (mI (k : Nat)) ∧ D' = ov E) := by
  refine CT.mk hG (by decide +kernel) (Nat.le_of_ble_eq_true rfl) (fun κ X Rt _ ok => ?_)
  refine at_lload_n 1 X rfl rfl dJ13_numberOfTrailingZeros_95d88_0 rfl ?_
  refine at_l2iV 2 X (w32 ((m % 4294967296 : Nat) : Int)) (by rw [Int.natCast_emod]; unfold w32; omega) dJ13_numberOfTrailingZeros_95d88_1 rfl ?_
  refine at_istore_n 3 X rfl dJ13_numberOfTrailingZeros_95d88_2 rfl (by decide) ?_
  refine at_iload_n 4 X rfl rfl dJ13_numberOfTrailingZeros_95d88_3 rfl ?_
  refine at_if_ne 7 21 X dJ13_numberOfTrailingZeros_95d88_4 rfl (by decide) (fun h4 => ?_) (fun h4 => ?_)
  · have hk32 : k < 32 := by
      apply Nat.lt_of_not_le
      intro q
      refine h4 ?_
      have e : m % 4294967296 = 0 := by
        refine Nat.eq_of_testBit_eq fun j => ?_
        rw [(show m % 4294967296 = m % 2 ^ 32 from rfl), Nat.testBit_mod_two_pow, Nat.zero_testBit]
        by_cases c : j < 32
        · rw [hlow j (by omega), Bool.and_false]
        · rw [decide_eq_false c, Bool.false_and]
      rw [e]; rfl
    refine at_iload_n 22 X rfl rfl dJ13_numberOfTrailingZeros_95d88_21 rfl ?_
    refine at_callS 25 X (ct_J6_numberOfTrailingZeros_0f7a4 hG E (m % 4294967296) k (by omega) (by rw [(show m % 4294967296 = m % 2 ^ 32 from rfl), Nat.testBit_mod_two_pow, decide_eq_true hk32, hk]; rfl) (fun j hj => by rw [(show m % 4294967296 = m % 2 ^ 32 from rfl), Nat.testBit_mod_two_pow, hlow j hj, Bool.and_false]) hk32) mo_J6_numberOfTrailingZeros_0f7a4 w_1622 so_J6_numberOfTrailingZeros_0f7a4 rfl rfl (crm Rt (by decide)) (Nat.le_of_ble_eq_true rfl) dJ13_numberOfTrailingZeros_95d88_22 rfl ?_
    rintro _ _ ⟨rfl, rfl⟩
    refine at_iret X Rt ?_ (Nat.le_refl _) (Nat.le_refl _) dJ13_numberOfTrailingZeros_95d88_25
    exact ⟨rfl, rfl⟩
  · have e : m % 4294967296 = 0 := by unfold w32 at h4; omega
    have hk32 : 32 ≤ k := by
      apply Nat.le_of_not_lt
      intro q
      have hh : (m % 2 ^ 32).testBit k = true := by rw [Nat.testBit_mod_two_pow, decide_eq_true q, hk]; rfl
      rw [show m % 2 ^ 32 = 0 from e, Nat.zero_testBit] at hh
      cases hh
    have hk40 : k < 40 := by
      apply Nat.lt_of_not_le
      intro q
      rw [Nat.testBit_lt_two_pow (Nat.lt_of_lt_of_le hm (Nat.le_trans (show 1099511627776 ≤ 2 ^ 40 by decide) (Nat.pow_le_pow_right (by decide) q)))] at hk
      cases hk
    refine at_bipush 9 X (by decide) (by decide) dJ13_numberOfTrailingZeros_95d88_7 rfl ?_
    refine at_lload_n 10 X rfl rfl dJ13_numberOfTrailingZeros_95d88_9 rfl ?_
    refine at_bipush 12 X (by decide) (by decide) dJ13_numberOfTrailingZeros_95d88_10 rfl ?_
    refine at_lushrV 13 X ((m / 2 ^ 32 : Nat) : Int) (lushr_nat (k := 32) (by decide) (by omega)) dJ13_numberOfTrailingZeros_95d88_12 rfl ?_
    refine at_l2iV 14 X (w32 ((m / 2 ^ 32 : Nat) : Int)) rfl dJ13_numberOfTrailingZeros_95d88_13 rfl ?_
    refine at_callS 17 X (ct_J6_numberOfTrailingZeros_0f7a4 hG E (m / 2 ^ 32) (k - 32) (by omega) (by rw [Nat.testBit_div_two_pow, show k - 32 + 32 = k by omega]; exact hk) (fun j hj => by rw [Nat.testBit_div_two_pow]; exact hlow _ (by omega)) (by omega)) mo_J6_numberOfTrailingZeros_0f7a4 w_1622 so_J6_numberOfTrailingZeros_0f7a4 rfl rfl (crm Rt (by decide)) (Nat.le_of_ble_eq_true rfl) dJ13_numberOfTrailingZeros_95d88_14 rfl ?_
    rintro _ _ ⟨rfl, rfl⟩
    refine at_iaddV 18 X ((k : Nat) : Int) (w32_v (by omega) (by omega) (by omega)) dJ13_numberOfTrailingZeros_95d88_17 rfl ?_
    refine at_goto 25 X dJ13_numberOfTrailingZeros_95d88_18 (by decide) ?_
    refine at_iret X Rt ?_ (Nat.le_refl _) (Nat.le_refl _) dJ13_numberOfTrailingZeros_95d88_25
    exact ⟨rfl, rfl⟩
theorem dJ13_numberOfLeadingZeros_95d88_0 : decode cJ13_numberOfLeadingZeros_95d88 0 = .ok (.lload_n 0, 1) := by decide +kernel
theorem dJ13_numberOfLeadingZeros_95d88_1 : decode cJ13_numberOfLeadingZeros_95d88 1 = .ok (.bipush 32, 2) := by decide +kernel
theorem dJ13_numberOfLeadingZeros_95d88_3 : decode cJ13_numberOfLeadingZeros_95d88 3 = .ok (.lushr, 1) := by decide +kernel
theorem dJ13_numberOfLeadingZeros_95d88_4 : decode cJ13_numberOfLeadingZeros_95d88 4 = .ok (.l2i, 1) := by decide +kernel
theorem dJ13_numberOfLeadingZeros_95d88_5 : decode cJ13_numberOfLeadingZeros_95d88 5 = .ok (.istore_n 2, 1) := by decide +kernel
theorem dJ13_numberOfLeadingZeros_95d88_6 : decode cJ13_numberOfLeadingZeros_95d88 6 = .ok (.iload_n 2, 1) := by decide +kernel
theorem dJ13_numberOfLeadingZeros_95d88_7 : decode cJ13_numberOfLeadingZeros_95d88 7 = .ok (.ifCond .ne 14, 3) := by decide +kernel
theorem dJ13_numberOfLeadingZeros_95d88_10 : decode cJ13_numberOfLeadingZeros_95d88 10 = .ok (.bipush 32, 2) := by decide +kernel
theorem dJ13_numberOfLeadingZeros_95d88_12 : decode cJ13_numberOfLeadingZeros_95d88 12 = .ok (.lload_n 0, 1) := by decide +kernel
theorem dJ13_numberOfLeadingZeros_95d88_13 : decode cJ13_numberOfLeadingZeros_95d88 13 = .ok (.l2i, 1) := by decide +kernel
theorem dJ13_numberOfLeadingZeros_95d88_14 : decode cJ13_numberOfLeadingZeros_95d88 14 = .ok (.invokestatic 308, 3) := by decide +kernel
theorem dJ13_numberOfLeadingZeros_95d88_17 : decode cJ13_numberOfLeadingZeros_95d88 17 = .ok (.iadd, 1) := by decide +kernel
theorem dJ13_numberOfLeadingZeros_95d88_18 : decode cJ13_numberOfLeadingZeros_95d88 18 = .ok (.goto 7, 3) := by decide +kernel
theorem dJ13_numberOfLeadingZeros_95d88_21 : decode cJ13_numberOfLeadingZeros_95d88 21 = .ok (.iload_n 2, 1) := by decide +kernel
theorem dJ13_numberOfLeadingZeros_95d88_22 : decode cJ13_numberOfLeadingZeros_95d88 22 = .ok (.invokestatic 308, 3) := by decide +kernel
theorem dJ13_numberOfLeadingZeros_95d88_25 : decode cJ13_numberOfLeadingZeros_95d88 25 = .ok (.ireturn, 1) := by decide +kernel
theorem ct_J13_numberOfLeadingZeros_95d88 {g : Gw} (hG : GF g) {z : Bool} (E : Mm) (m t : Nat) (hm : m < 1099511627776) (h2t : 2 ^ t ≤ m) (h2u : m < 2 ^ (t + 1)) : CT g yJ13_numberOfLeadingZeros_95d88 cJ13_numberOfLeadingZeros_95d88 3 (some .int) 1 21 0 0 K2 z [mL ((m : Nat) : Int)] (ov E) K2 z (fun r D' => r = some (mI (63 - (t : Int))) ∧ D' = ov E) := by
  refine CT.mk hG (by decide +kernel) (Nat.le_of_ble_eq_true rfl) (fun κ X Rt _ ok => ?_)
  have hp32 : (2 : Nat) ^ 32 = 4294967296 := by decide
  have ht40 : t < 40 := by
    apply Nat.lt_of_not_le
    intro q
    have := Nat.pow_le_pow_right (show 0 < 2 by decide) q
    rw [show (2 : Nat) ^ 40 = 1099511627776 by decide] at this
    omega
  refine at_lload_n 1 X rfl rfl dJ13_numberOfLeadingZeros_95d88_0 rfl ?_
  refine at_bipush 3 X (by decide) (by decide) dJ13_numberOfLeadingZeros_95d88_1 rfl ?_
  refine at_lushrV 4 X ((m / 2 ^ 32 : Nat) : Int) (lushr_nat (k := 32) (by decide) (by omega)) dJ13_numberOfLeadingZeros_95d88_3 rfl ?_
  refine at_l2iV 5 X (w32 ((m / 2 ^ 32 : Nat) : Int)) rfl dJ13_numberOfLeadingZeros_95d88_4 rfl ?_
  refine at_istore_n 6 X rfl dJ13_numberOfLeadingZeros_95d88_5 rfl (by decide) ?_
  refine at_iload_n 7 X rfl rfl dJ13_numberOfLeadingZeros_95d88_6 rfl ?_
  refine at_if_ne 10 21 X dJ13_numberOfLeadingZeros_95d88_7 rfl (by decide) (fun h7 => ?_) (fun h7 => ?_)
  · have ht32 : 32 ≤ t := by
      apply Nat.le_of_not_lt
      intro q
      have h3 := Nat.pow_le_pow_right (show 0 < 2 by decide) (show t + 1 ≤ 32 from q)
      refine h7 ?_
      rw [show m / 2 ^ 32 = 0 by omega]
      rfl
    have e1 : 2 ^ t = 2 ^ (t - 32) * 2 ^ 32 := by rw [← Nat.pow_add, show t - 32 + 32 = t by omega]
    have e2 : 2 ^ (t + 1) = 2 ^ (t - 32 + 1) * 2 ^ 32 := by rw [← Nat.pow_add, show t - 32 + 1 + 32 = t + 1 by omega]
    refine at_iload_n 22 X rfl rfl dJ13_numberOfLeadingZeros_95d88_21 rfl ?_
    refine at_callS 25 X (ct_J6_numberOfLeadingZeros_0f7a4 hG E (m / 2 ^ 32) (t - 32) (by omega) ((Nat.le_div_iff_mul_le (by decide)).mpr (by rw [← e1]; exact h2t)) ((Nat.div_lt_iff_lt_mul (by decide)).mpr (by rw [← e2]; exact h2u))) mo_J6_numberOfLeadingZeros_0f7a4 w_1629 so_J6_numberOfLeadingZeros_0f7a4 rfl rfl (crm Rt (by decide)) (Nat.le_of_ble_eq_true rfl) dJ13_numberOfLeadingZeros_95d88_22 rfl ?_
    rintro _ _ ⟨rfl, rfl⟩
    refine at_iret X Rt ?_ (Nat.le_refl _) (Nat.le_refl _) dJ13_numberOfLeadingZeros_95d88_25
    exact ⟨by first | rfl | rw [show (31 - ((t - 32 : Nat) : Int)) = 63 - (t : Int) by omega], rfl⟩
  · have hu : m < 4294967296 := by unfold w32 at h7; omega
    refine at_bipush 12 X (by decide) (by decide) dJ13_numberOfLeadingZeros_95d88_10 rfl ?_
    refine at_lload_n 13 X rfl rfl dJ13_numberOfLeadingZeros_95d88_12 rfl ?_
    refine at_l2iV 14 X (w32 (m : Int)) rfl dJ13_numberOfLeadingZeros_95d88_13 rfl ?_
    refine at_callS 17 X (ct_J6_numberOfLeadingZeros_0f7a4 hG E m t hu h2t h2u) mo_J6_numberOfLeadingZeros_0f7a4 w_1629 so_J6_numberOfLeadingZeros_0f7a4 rfl rfl (crm Rt (by decide)) (Nat.le_of_ble_eq_true rfl) dJ13_numberOfLeadingZeros_95d88_14 rfl ?_
    rintro _ _ ⟨rfl, rfl⟩
    refine at_iaddV 18 X (63 - (t : Int)) (w32_v (by omega) (by omega) (by omega)) dJ13_numberOfLeadingZeros_95d88_17 rfl ?_
    refine at_goto 25 X dJ13_numberOfLeadingZeros_95d88_18 (by decide) ?_
    refine at_iret X Rt ?_ (Nat.le_refl _) (Nat.le_refl _) dJ13_numberOfLeadingZeros_95d88_25
    exact ⟨by first | rfl | rw [show (31 - ((t - 32 : Nat) : Int)) = 63 - (t : Int) by omega], rfl⟩
theorem dX11_places_0 : decode cX11_places 0 = .ok (.aload_n 0, 1) := by decide +kernel
theorem dX11_places_1 : decode cX11_places 1 = .ok (.iload_n 1, 1) := by decide +kernel
theorem dX11_places_2 : decode cX11_places 2 = .ok (.invokevirtual 208, 3) := by decide +kernel
theorem dX11_places_5 : decode cX11_places 5 = .ok (.aload_n 0, 1) := by decide +kernel
theorem dX11_places_6 : decode cX11_places 6 = .ok (.iload_n 2, 1) := by decide +kernel
theorem dX11_places_7 : decode cX11_places 7 = .ok (.invokevirtual 224, 3) := by decide +kernel
theorem dX11_places_10 : decode cX11_places 10 = .ok (.aload_n 0, 1) := by decide +kernel
theorem dX11_places_11 : decode cX11_places 11 = .ok (.iload_n 3, 1) := by decide +kernel
theorem dX11_places_12 : decode cX11_places 12 = .ok (.iconst 2, 1) := by decide +kernel
theorem dX11_places_13 : decode cX11_places 13 = .ok (.invokevirtual 199, 3) := by decide +kernel
theorem dX11_places_16 : decode cX11_places 16 = .ok (.aload_n 0, 1) := by decide +kernel
theorem dX11_places_17 : decode cX11_places 17 = .ok (.invokevirtual 227, 3) := by decide +kernel
theorem dX11_places_20 : decode cX11_places 20 = .ok (.aload_n 0, 1) := by decide +kernel
theorem dX11_places_21 : decode cX11_places 21 = .ok (.getfield 59, 3) := by decide +kernel
theorem dX11_places_24 : decode cX11_places 24 = .ok (.aload_n 0, 1) := by decide +kernel
theorem dX11_places_25 : decode cX11_places 25 = .ok (.getfield 93, 3) := by decide +kernel
theorem dX11_places_28 : decode cX11_places 28 = .ok (.getfield 135, 3) := by decide +kernel
theorem dX11_places_31 : decode cX11_places 31 = .ok (.iload_n 1, 1) := by decide +kernel
theorem dX11_places_32 : decode cX11_places 32 = .ok (.iload_n 2, 1) := by decide +kernel
theorem dX11_places_33 : decode cX11_places 33 = .ok (.invokevirtual 427, 3) := by decide +kernel
theorem dX11_places_36 : decode cX11_places 36 = .ok (.lstore 4, 2) := by decide +kernel
theorem dX11_places_38 : decode cX11_places 38 = .ok (.iload_n 3, 1) := by decide +kernel
theorem dX11_places_39 : decode cX11_places 39 = .ok (.ifCond .ne 9, 3) := by decide +kernel
theorem dX11_places_42 : decode cX11_places 42 = .ok (.lload 4, 2) := by decide +kernel
theorem dX11_places_44 : decode cX11_places 44 = .ok (.invokestatic 430, 3) := by decide +kernel
theorem dX11_places_47 : decode cX11_places 47 = .ok (.ireturn, 1) := by decide +kernel
theorem dX11_places_48 : decode cX11_places 48 = .ok (.lload 4, 2) := by decide +kernel
theorem dX11_places_50 : decode cX11_places 50 = .ok (.lconst 0, 1) := by decide +kernel
theorem dX11_places_51 : decode cX11_places 51 = .ok (.lcmp, 1) := by decide +kernel
theorem dX11_places_52 : decode cX11_places 52 = .ok (.ifCond .ne 5, 3) := by decide +kernel
theorem dX11_places_55 : decode cX11_places 55 = .ok (.iconst (-1), 1) := by decide +kernel
theorem dX11_places_56 : decode cX11_places 56 = .ok (.ireturn, 1) := by decide +kernel
theorem dX11_places_57 : decode cX11_places 57 = .ok (.iload_n 3, 1) := by decide +kernel
theorem dX11_places_58 : decode cX11_places 58 = .ok (.iconst 1, 1) := by decide +kernel
theorem dX11_places_59 : decode cX11_places 59 = .ok (.if_icmp .ne 11, 3) := by decide +kernel
theorem dX11_places_62 : decode cX11_places 62 = .ok (.lload 4, 2) := by decide +kernel
theorem dX11_places_64 : decode cX11_places 64 = .ok (.invokestatic 436, 3) := by decide +kernel
theorem dX11_places_67 : decode cX11_places 67 = .ok (.goto 11, 3) := by decide +kernel
theorem dX11_places_70 : decode cX11_places 70 = .ok (.bipush 63, 2) := by decide +kernel
theorem dX11_places_72 : decode cX11_places 72 = .ok (.lload 4, 2) := by decide +kernel
theorem dX11_places_74 : decode cX11_places 74 = .ok (.invokestatic 439, 3) := by decide +kernel
theorem dX11_places_77 : decode cX11_places 77 = .ok (.isub, 1) := by decide +kernel
theorem dX11_places_78 : decode cX11_places 78 = .ok (.ireturn, 1) := by decide +kernel
theorem ct_X11_places {g : Gw} (hG : GF g) {z : Bool} (E : Mm) (s : Nat) (P : SP) (L : LW) (T K : LN) (d : Nat) (hI_E : CXI E s P L T K d) (x0 x1 x2 : Int) : CTX g yX11_places cX11_places 6 (some .int) 8 146 3 18 K2 z [mR 0, mI x0, mI x1, mI x2] (ov E) K2 z (fun r' D' => (0 ≤ x0 ∧ x0 ≤ (bN (sB P) : Int) - 1) ∧ (0 ≤ x1 ∧ x1 ≤ 23) ∧ (0 ≤ x2 ∧ x2 ≤ 2) ∧ r' = some (mI (plA (gNow P L d) (sB P) x0.toNat x1.toNat x2)) ∧ ∃ E1, D' = ov E1 ∧ CXI E1 s P L T K d ∧ CXF E E1) (fun X D' => (¬ (0 ≤ x0 ∧ x0 ≤ (bN (sB P) : Int) - 1) ∧ X = "java/util/NoSuchElementException" ∧ D' = ov (bumpE E 1)) ∨ ((0 ≤ x0 ∧ x0 ≤ (bN (sB P) : Int) - 1) ∧ ¬ (0 ≤ x1 ∧ x1 ≤ 23) ∧ X = "java/lang/IllegalArgumentException" ∧ D' = ov (bumpE E 2)) ∨ ((0 ≤ x0 ∧ x0 ≤ (bN (sB P) : Int) - 1) ∧ (0 ≤ x1 ∧ x1 ≤ 23) ∧ ¬ (0 ≤ x2 ∧ x2 ≤ 2) ∧ X = "java/lang/IllegalArgumentException" ∧ D' = ov (bumpE E 2))) := by
  refine CTX.mk hG (by decide +kernel) (Nat.le_of_ble_eq_true rfl) (fun κ X Rt Rx ok => ?_)
  have hs := hI_E.sa
  have hP := hI_E.WS
  have hW40 := hP.W
  have hN10 := hP.N
  have hN8 := hP.B.N
  have hX_E : CXF E E := CXF.rf
  have hwG := gNow_WG hI_E
  have hgw : gW (gNow P L d) = sW P := rfl
  have hgn : gN (gNow P L d) = sN P := rfl
  refine at_aload_n 1 X rfl rfl dX11_places_0 rfl ?_
  refine at_iload_n 2 X rfl rfl dX11_places_1 rfl ?_
  refine at_callVX 5 X Rt Rx _ 11 (ct_X11_needBeamP hG E s P L T K d hI_E x0) clX11 rfl k_0 mo_X11_needBeam w_1239 vo_X11_needBeam.1 vo_X11_needBeam.2 rfl rfl (by decide) (Nat.le_of_ble_eq_true rfl) dX11_places_2 rfl (fun _ _ h => Or.inl ⟨h.1, h.2.1, h.2.2⟩) ?_
  rintro _ _ ⟨hc0, rfl, rfl⟩
  refine at_aload_n 6 X rfl rfl dX11_places_5 rfl ?_
  refine at_iload_n 7 X rfl rfl dX11_places_6 rfl ?_
  refine at_callVX 10 X Rt Rx _ 11 (ct_X11_needHour hG E x1) clX11 rfl k_0 mo_X11_needHour w_1259 vo_X11_needHour.1 vo_X11_needHour.2 rfl rfl (by decide) (Nat.le_of_ble_eq_true rfl) dX11_places_7 rfl (fun _ _ h => Or.inr (Or.inl ⟨hc0, h.1, h.2.1, h.2.2⟩)) ?_
  rintro _ _ ⟨hc1, rfl, rfl⟩
  refine at_aload_n 11 X rfl rfl dX11_places_10 rfl ?_
  refine at_iload_n 12 X rfl rfl dX11_places_11 rfl ?_
  refine at_iconst 13 X (by decide) dX11_places_12 rfl ?_
  refine at_callVX 16 X Rt Rx _ 11 (ct_X11_needWhat hG E x2 2) clX11 rfl k_0 mo_X11_needWhat w_1228 vo_X11_needWhat.1 vo_X11_needWhat.2 rfl rfl (by decide) (Nat.le_of_ble_eq_true rfl) dX11_places_13 rfl (fun _ _ h => Or.inr (Or.inr (⟨hc0, hc1, h.1, h.2.1, h.2.2⟩))) ?_
  rintro _ _ ⟨hc2, rfl, rfl⟩
  refine at_aload_n 17 X rfl rfl dX11_places_16 rfl ?_
  refine at_callV 20 X _ 11 (ct_X11_refresh hG E s P L T K d hI_E) clX11 rfl k_0 mo_X11_refresh w_665 vo_X11_refresh.1 vo_X11_refresh.2 rfl rfl (crm Rt (by decide)) (Nat.le_of_ble_eq_true rfl) dX11_places_17 rfl ?_
  rintro _ _ ⟨rfl, F1, rfl, hI_F1, hF_F1, hXn_F1⟩
  have hX_F1 := hX_E.tr hXn_F1
  obtain ⟨b, rfl⟩ : ∃ b : Nat, x0 = (b : Int) := ⟨x0.toNat, by omega⟩
  obtain ⟨h, rfl⟩ : ∃ h : Nat, x1 = (h : Int) := ⟨x1.toNat, by omega⟩
  refine at_aload_n 21 X rfl rfl dX11_places_20 rfl ?_
  refine m_getR 24 X f_X11_59 k_0 r_0_9 dX11_places_21 rfl ?_
  refine at_aload_n 25 X rfl rfl dX11_places_24 rfl ?_
  refine m_getM 28 X (s) f_X11_93 k_0 rn_0_15 hI_F1.now dX11_places_25 rfl ?_
  refine m_getR 31 X f_X11_135 (kX9 hs) (rX9_7 hs) dX11_places_28 rfl ?_
  refine at_iload_n 32 X rfl rfl dX11_places_31 rfl ?_
  refine at_iload_n 33 X rfl rfl dX11_places_32 rfl ?_
  refine at_callV 36 X _ 4 (ct_X4_placesFor hG F1 30 (Or.inl rfl) (gNow P L d) hwG hF_F1.1 hI_F1.Lw (sB P) (s + 8) (iB_8 hs) hI_F1.B hP.B b h (by omega) (by omega)) clX4 rfl k_30 mo_X4_placesFor w_1608 vo_X4_placesFor.1 vo_X4_placesFor.2 rfl rfl (crm Rt (by decide)) (Nat.le_of_ble_eq_true rfl) dX11_places_33 rfl ?_
  rintro _ _ ⟨rfl, F2, rfl, hg_F2, hq_F2⟩
  have hK3 := hI_F1.known hF_F1 hg_F2 hq_F2
  have hI_F2 := hK3.1
  have hF_F2 := hK3.2.1
  have hX_F2 : CXF E F2 := hX_F1.tr hK3.2.2
  have hlb := hP.B.L (b := b) (by omega)
  have : plcP (gNow P L d) (sB P) b h < 1099511627776 := mk40 (by omega)
  refine at_lstore 38 X dX11_places_36 rfl (by decide) ?_
  have hW41 : sW P + 1 - bL (sB P) b ≤ 40 := by have := hP.B.L (b := b) (by omega); omega
  have hM40 : plcP (gNow P L d) (sB P) b h < 1099511627776 := mk40 hW41
  have hpc : cntp (fun j => (plcP (gNow P L d) (sB P) b h).testBit j) 40 = pcN (gNow P L d) (sB P) b h := cntp_mk hW41
  refine at_iload_n 39 X rfl rfl dX11_places_38 rfl ?_
  refine at_if_ne 42 48 X dX11_places_39 rfl (by decide) (fun h39 => ?_) (fun h39 => ?_)
  · refine at_lload 50 X rfl dX11_places_48 rfl ?_
    refine at_lconst 51 X (v := 0) (by decide) (by decide) dX11_places_50 rfl ?_
    refine at_lif_ne 52 55 57 X dX11_places_51 rfl dX11_places_52 rfl (by decide) (fun h51 => ?_) (fun h51 => ?_)
    · have hm0 : plcP (gNow P L d) (sB P) b h ≠ 0 := by omega
      refine at_iload_n 58 X rfl rfl dX11_places_57 rfl ?_
      refine at_iconst 59 X (by decide) dX11_places_58 rfl ?_
      refine at_icmp_ne 62 70 X dX11_places_59 rfl (by decide) (fun h59 => ?_) (fun h59 => ?_)
      · obtain ⟨t, ht40, h2t, h2u⟩ := high_ex 40 _ hm0 (show plcP (gNow P L d) (sB P) b h < 2 ^ 40 from hM40)
        refine at_bipush 72 X (by decide) (by decide) dX11_places_70 rfl ?_
        refine at_lload 74 X rfl dX11_places_72 rfl ?_
        refine at_callS 77 X (ct_J13_numberOfLeadingZeros_95d88 hG F2 (plcP (gNow P L d) (sB P) b h) t hM40 h2t h2u) mo_J13_numberOfLeadingZeros_95d88 w_1626 so_J13_numberOfLeadingZeros_95d88 rfl rfl (crm Rt (by decide)) (Nat.le_of_ble_eq_true rfl) dX11_places_74 rfl ?_
        rintro _ _ ⟨rfl, rfl⟩
        refine at_isubV 78 X ((t : Nat) : Int) (w32_v (by omega) (by omega) (by omega)) dX11_places_77 rfl ?_
        refine at_iret X Rt ?_ (by decide) (by decide) dX11_places_78
        exact ⟨hc0, hc1, hc2, (by (try simp only [Int.toNat_natCast]); exact congrArg (fun q => some (mI q)) (plc_2 h2t h2u h39 (by omega))), _, rfl, hI_F2, hX_F2⟩
      · obtain ⟨k, hk, hlow⟩ := low_ex hm0
        refine at_lload 64 X rfl dX11_places_62 rfl ?_
        refine at_callS 67 X (ct_J13_numberOfTrailingZeros_95d88 hG F2 (plcP (gNow P L d) (sB P) b h) k hM40 hk hlow) mo_J13_numberOfTrailingZeros_95d88 w_1619 so_J13_numberOfTrailingZeros_95d88 rfl rfl (crm Rt (by decide)) (Nat.le_of_ble_eq_true rfl) dX11_places_64 rfl ?_
        rintro _ _ ⟨rfl, rfl⟩
        refine at_goto 78 X dX11_places_67 (by decide) ?_
        refine at_iret X Rt ?_ (by decide) (by decide) dX11_places_78
        exact ⟨hc0, hc1, hc2, (by (try simp only [Int.toNat_natCast]); exact congrArg (fun q => some (mI q)) (plc_1 hk hlow (by omega))), _, rfl, hI_F2, hX_F2⟩
    · refine at_iconst 56 X (by decide) dX11_places_55 rfl ?_
      refine at_iret X Rt ?_ (by decide) (by decide) dX11_places_56
      exact ⟨hc0, hc1, hc2, (by (try simp only [Int.toNat_natCast]); exact congrArg (fun q => some (mI q)) (plc_0 (show plcP (gNow P L d) (sB P) b h = 0 by omega) h39)), _, rfl, hI_F2, hX_F2⟩
  · refine at_lload 44 X rfl dX11_places_42 rfl ?_
    refine at_callS 47 X (ct_J13_bitCount_95d88 hG F2 (plcP (gNow P L d) (sB P) b h) (by omega)) mo_J13_bitCount_95d88 w_1613 so_J13_bitCount_95d88 rfl rfl (crm Rt (by decide)) (Nat.le_of_ble_eq_true rfl) dX11_places_44 rfl ?_
    rintro _ _ ⟨rfl, rfl⟩
    have := cntp_le (fun j => (plcP (gNow P L d) (sB P) b h).testBit j) 40
    refine at_iret X Rt ?_ (by decide) (by decide) dX11_places_47
    exact ⟨hc0, hc1, hc2, (by (try simp only [Int.toNat_natCast]); rw [hpc]; unfold plA; rw [if_pos (show x2 = 0 by omega)]), _, rfl, hI_F2, hX_F2⟩
