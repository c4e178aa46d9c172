/-- where a reading is: at, start, kind and place of a fault -/
abbrev TS : Type := Nat × Nat × Int × Int
def tpE (E : Mm) (t : TS) : Mm := fun q j => if q = 1 then (if j = 3 then (t.1 : Int) else if j = 4 then (t.2.1 : Int) else if j = 5 then t.2.2.1 else if j = 6 then t.2.2.2 else E 1 j) else E q j
theorem tp_at (E : Mm) (t : TS) : tpE E t 1 3 = (t.1 : Int) := rfl
theorem tp_st (E : Mm) (t : TS) : tpE E t 1 4 = (t.2.1 : Int) := rfl
theorem tp_fk (E : Mm) (t : TS) : tpE E t 1 5 = t.2.2.1 := rfl
theorem tp_fp (E : Mm) (t : TS) : tpE E t 1 6 = t.2.2.2 := rfl
theorem tp_end (E : Mm) (t : TS) : tpE E t 1 2 = E 1 2 := rfl
theorem tp_size (E : Mm) (t : TS) : tpE E t 1 1 = E 1 1 := rfl
theorem tp_by (E : Mm) (t : TS) (j : Nat) : tpE E t 2 j = E 2 j := rfl
theorem tp_o {E : Mm} {t : TS} {q j : Nat} (h : q ≠ 1) : tpE E t q j = E q j := if_neg h
theorem tp_self {E : Mm} {t : TS} (h3 : E 1 3 = (t.1 : Int)) (h4 : E 1 4 = (t.2.1 : Int)) (h5 : E 1 5 = t.2.2.1) (h6 : E 1 6 = t.2.2.2) : tpE E t = E := by
  funext q j
  unfold tpE
  by_cases c : q = 1
  · subst c
    by_cases c3 : j = 3
    · simp [c3, h3]
    by_cases c4 : j = 4
    · simp [c4, h4]
    by_cases c5 : j = 5
    · simp [c5, h5]
    by_cases c6 : j = 6
    · simp [c6, h6]
    simp [c3, c4, c5, c6]
  · simp [c]
theorem tp_w3 {E : Mm} {t : TS} {k : Nat} : wr (tpE E t) 1 3 (k : Int) = tpE E (k, t.2) := by
  funext q j
  unfold wr tpE
  by_cases c : q = 1
  · subst c
    by_cases c3 : j = 3
    · simp [c3]
    · simp [c3]
  · simp [c]
theorem tp_w4 {E : Mm} {t : TS} {k : Nat} : wr (tpE E t) 1 4 (k : Int) = tpE E (t.1, k, t.2.2) := by
  funext q j
  unfold wr tpE
  by_cases c : q = 1
  · subst c
    by_cases c3 : j = 4
    · simp [c3]
    · simp [c3]
  · simp [c]
theorem tp_w5 {E : Mm} {t : TS} {k : Int} : wr (tpE E t) 1 5 k = tpE E (t.1, t.2.1, k, t.2.2.2) := by
  funext q j
  unfold wr tpE
  by_cases c : q = 1
  · subst c
    by_cases c3 : j = 5
    · simp [c3]
    · simp [c3]
  · simp [c]
theorem tp_w6 {E : Mm} {t : TS} {k : Int} : wr (tpE E t) 1 6 k = tpE E (t.1, t.2.1, t.2.2.1, k) := by
  funext q j
  unfold wr tpE
  by_cases c : q = 1
  · subst c
    by_cases c3 : j = 6
    · simp [c3]
    · simp [c3]
  · simp [c]
/-- the first place from a on that is no blank -/
def sk (B : Nat → Int) (n a : Nat) : Nat := if a < n ∧ B a = 32 then sk B n (a + 1) else a
termination_by n - a
decreasing_by omega
def skT (B : Nat → Int) (n : Nat) (t : TS) : TS := (sk B n t.1, sk B n t.1, t.2.2)
theorem skT_1 (B : Nat → Int) (n : Nat) (t : TS) : (skT B n t).1 = sk B n t.1 := rfl
theorem skT_2 (B : Nat → Int) (n : Nat) (t : TS) : (skT B n t).2.1 = sk B n t.1 := rfl
theorem skT_3 (B : Nat → Int) (n : Nat) (t : TS) : (skT B n t).2.2 = t.2.2 := rfl
def goT (B : Nat → Int) (n : Nat) (t : TS) : TS := if t.2.2.1 = 0 then skT B n t else t
theorem sk_le (B : Nat → Int) (n : Nat) : ∀ (f a : Nat), n - a < f → a ≤ n → a ≤ sk B n a ∧ sk B n a ≤ n
  | 0, a, h, _ => by omega
  | f + 1, a, h, ha => by
    rw [sk]
    by_cases c : a < n ∧ B a = 32
    · rw [if_pos c]
      have := sk_le B n f (a + 1) (by omega) (by omega)
      omega
    · rw [if_neg c]
      omega
/-- a byte between these is read next -/
abbrev isA (B : Nat → Int) (n a : Nat) (x y : Int) : Prop := a < n ∧ x ≤ B a ∧ B a ≤ y
def flT (t : TS) (k : Int) : TS := if t.2.2.1 = 0 then (t.1, t.2.1, k, (t.2.1 : Int)) else t
theorem dX10_skipBlanks_0 : decode cX10_skipBlanks 0 = .ok (.aload_n 0, 1) := by decide +kernel
theorem dX10_skipBlanks_1 : decode cX10_skipBlanks 1 = .ok (.getfield 31, 3) := by decide +kernel
theorem dX10_skipBlanks_4 : decode cX10_skipBlanks 4 = .ok (.aload_n 0, 1) := by decide +kernel
theorem dX10_skipBlanks_5 : decode cX10_skipBlanks 5 = .ok (.getfield 28, 3) := by decide +kernel
theorem dX10_skipBlanks_8 : decode cX10_skipBlanks 8 = .ok (.if_icmp .ge 30, 3) := by decide +kernel
theorem dX10_skipBlanks_11 : decode cX10_skipBlanks 11 = .ok (.aload_n 0, 1) := by decide +kernel
theorem dX10_skipBlanks_12 : decode cX10_skipBlanks 12 = .ok (.getfield 9, 3) := by decide +kernel
theorem dX10_skipBlanks_15 : decode cX10_skipBlanks 15 = .ok (.aload_n 0, 1) := by decide +kernel
theorem dX10_skipBlanks_16 : decode cX10_skipBlanks 16 = .ok (.getfield 31, 3) := by decide +kernel
theorem dX10_skipBlanks_19 : decode cX10_skipBlanks 19 = .ok (.baload, 1) := by decide +kernel
theorem dX10_skipBlanks_20 : decode cX10_skipBlanks 20 = .ok (.bipush 32, 2) := by decide +kernel
theorem dX10_skipBlanks_22 : decode cX10_skipBlanks 22 = .ok (.if_icmp .ne 16, 3) := by decide +kernel
theorem dX10_skipBlanks_25 : decode cX10_skipBlanks 25 = .ok (.aload_n 0, 1) := by decide +kernel
theorem dX10_skipBlanks_26 : decode cX10_skipBlanks 26 = .ok (.dup, 1) := by decide +kernel
theorem dX10_skipBlanks_27 : decode cX10_skipBlanks 27 = .ok (.getfield 31, 3) := by decide +kernel
theorem dX10_skipBlanks_30 : decode cX10_skipBlanks 30 = .ok (.iconst 1, 1) := by decide +kernel
theorem dX10_skipBlanks_31 : decode cX10_skipBlanks 31 = .ok (.iadd, 1) := by decide +kernel
theorem dX10_skipBlanks_32 : decode cX10_skipBlanks 32 = .ok (.putfield 31, 3) := by decide +kernel
theorem dX10_skipBlanks_35 : decode cX10_skipBlanks 35 = .ok (.goto (-35), 3) := by decide +kernel
theorem dX10_skipBlanks_38 : decode cX10_skipBlanks 38 = .ok (.aload_n 0, 1) := by decide +kernel
theorem dX10_skipBlanks_39 : decode cX10_skipBlanks 39 = .ok (.aload_n 0, 1) := by decide +kernel
theorem dX10_skipBlanks_40 : decode cX10_skipBlanks 40 = .ok (.getfield 31, 3) := by decide +kernel
theorem dX10_skipBlanks_43 : decode cX10_skipBlanks 43 = .ok (.putfield 34, 3) := by decide +kernel
theorem dX10_skipBlanks_46 : decode cX10_skipBlanks 46 = .ok (.return_, 1) := by decide +kernel
theorem ct_X10_skipBlanks {g : Gw} (hG : GF g) {z : Bool} (E : Mm) (t : TS) (n : Nat) (hn : E 1 2 = (n : Int)) (hn2 : n ≤ 600) : CT g yX10_skipBlanks cX10_skipBlanks 1 none 0 0 0 0 K2 z [mR 1] (ov (tpE E t)) K2 z (fun r D' => r = none ∧ D' = ov (tpE E (skT (E 2) n t))) := by
  refine CT.mk hG (by decide +kernel) (Nat.le_of_ble_eq_true rfl) (fun κ X Rt _ ok => ?_)
  have L0 : ∀ (f a : Nat), n - a < f → sk (E 2) n a = sk (E 2) n t.1 → AT g κ K2 z 0 0 0 [(0, mR 1)] [] (ov (tpE E (a, t.2))) := by
    intro f
    induction f with
    | zero => intro a h; omega
    | succ f ih =>
    intro a hf hs
    refine at_aload_n 1 X rfl rfl dX10_skipBlanks_0 rfl ?_
    refine m_getI 4 X f_X10_31 k_1 rn_1_3 dX10_skipBlanks_1 rfl ?_
    refine at_aload_n 5 X rfl rfl dX10_skipBlanks_4 rfl ?_
    refine m_getI 8 X f_X10_28 k_1 rn_1_2 dX10_skipBlanks_5 rfl ?_
    simp only [tp_at, tp_st, tp_end, tp_by, hn, Int.toNat_natCast]
    refine at_icmp_ge 11 38 X dX10_skipBlanks_8 rfl (by decide) (fun h8 => ?_) (fun h8 => ?_)
    · refine at_aload_n 39 X rfl rfl dX10_skipBlanks_38 rfl ?_
      refine at_aload_n 40 X rfl rfl dX10_skipBlanks_39 rfl ?_
      refine m_getI 43 X f_X10_31 k_1 rn_1_3 dX10_skipBlanks_40 rfl ?_
      refine m_putI 46 X f_X10_34 fw_10_4 k_1 rn_1_4 dX10_skipBlanks_43 rfl ?_
      refine at_vret X Rt ?_ (Nat.le_refl _) (Nat.le_refl _) dX10_skipBlanks_46
      refine ⟨rfl, ?_⟩
      rw [tp_at, tp_w4]
      unfold skT
      rw [← hs, sk, if_neg (by omega)]
    · refine at_aload_n 12 X rfl rfl dX10_skipBlanks_11 rfl ?_
      refine m_getR 15 X f_X10_9 k_1 r_1_0 dX10_skipBlanks_12 rfl ?_
      refine at_aload_n 16 X rfl rfl dX10_skipBlanks_15 rfl ?_
      refine m_getI 19 X f_X10_31 k_1 rn_1_3 dX10_skipBlanks_16 rfl ?_
      simp only [tp_at, tp_st, tp_end, tp_by, hn, Int.toNat_natCast]
      refine m_baload 20 X k_2 e_2 (by omega) (by omega) dX10_skipBlanks_19 rfl ?_
      refine at_bipush 22 X (by decide) (by decide) dX10_skipBlanks_20 rfl ?_
      simp only [tp_at, tp_st, tp_end, tp_by, hn, Int.toNat_natCast]
      refine at_icmp_ne 25 38 X dX10_skipBlanks_22 rfl (by decide) (fun h22 => ?_) (fun h22 => ?_)
      · refine at_aload_n 39 X rfl rfl dX10_skipBlanks_38 rfl ?_
        refine at_aload_n 40 X rfl rfl dX10_skipBlanks_39 rfl ?_
        refine m_getI 43 X f_X10_31 k_1 rn_1_3 dX10_skipBlanks_40 rfl ?_
        refine m_putI 46 X f_X10_34 fw_10_4 k_1 rn_1_4 dX10_skipBlanks_43 rfl ?_
        refine at_vret X Rt ?_ (Nat.le_refl _) (Nat.le_refl _) dX10_skipBlanks_46
        refine ⟨rfl, ?_⟩
        rw [tp_at, tp_w4]
        unfold skT
        rw [← hs, sk, if_neg (by omega)]
      · refine at_aload_n 26 X rfl rfl dX10_skipBlanks_25 rfl ?_
        refine at_dup 27 X (show ¬ (2 : Nat) = 1 by decide) dX10_skipBlanks_26 rfl ?_
        refine m_getI 30 X f_X10_31 k_1 rn_1_3 dX10_skipBlanks_27 rfl ?_
        refine at_iconst 31 X (by decide) dX10_skipBlanks_30 rfl ?_
        refine at_iadd 32 X dX10_skipBlanks_31 rfl ?_
        refine m_putI 35 X f_X10_31 fw_10_3 k_1 rn_1_3 dX10_skipBlanks_32 rfl ?_
        refine at_goto 0 X dX10_skipBlanks_35 (by decide) ?_
        simp only [tp_at]
        rw [w32_id (by omega) (by omega), show (a : Int) + 1 = ((a + 1 : Nat) : Int) from rfl, tp_w3]
        exact ih (a + 1) (by omega) (by rw [← hs]; conv => rhs; rw [sk, if_pos ⟨by omega, h22⟩])
  exact L0 (n - t.1 + 1) t.1 (by omega) rfl
theorem dX10_isAt_0 : decode cX10_isAt 0 = .ok (.aload_n 0, 1) := by decide +kernel
theorem dX10_isAt_1 : decode cX10_isAt 1 = .ok (.getfield 31, 3) := by decide +kernel
theorem dX10_isAt_4 : decode cX10_isAt 4 = .ok (.aload_n 0, 1) := by decide +kernel
theorem dX10_isAt_5 : decode cX10_isAt 5 = .ok (.getfield 28, 3) := by decide +kernel
theorem dX10_isAt_8 : decode cX10_isAt 8 = .ok (.if_icmp .ge 33, 3) := by decide +kernel
theorem dX10_isAt_11 : decode cX10_isAt 11 = .ok (.aload_n 0, 1) := by decide +kernel
theorem dX10_isAt_12 : decode cX10_isAt 12 = .ok (.getfield 9, 3) := by decide +kernel
theorem dX10_isAt_15 : decode cX10_isAt 15 = .ok (.aload_n 0, 1) := by decide +kernel
theorem dX10_isAt_16 : decode cX10_isAt 16 = .ok (.getfield 31, 3) := by decide +kernel
theorem dX10_isAt_19 : decode cX10_isAt 19 = .ok (.baload, 1) := by decide +kernel
theorem dX10_isAt_20 : decode cX10_isAt 20 = .ok (.iload_n 1, 1) := by decide +kernel
theorem dX10_isAt_21 : decode cX10_isAt 21 = .ok (.if_icmp .lt 20, 3) := by decide +kernel
theorem dX10_isAt_24 : decode cX10_isAt 24 = .ok (.aload_n 0, 1) := by decide +kernel
theorem dX10_isAt_25 : decode cX10_isAt 25 = .ok (.getfield 9, 3) := by decide +kernel
theorem dX10_isAt_28 : decode cX10_isAt 28 = .ok (.aload_n 0, 1) := by decide +kernel
theorem dX10_isAt_29 : decode cX10_isAt 29 = .ok (.getfield 31, 3) := by decide +kernel
theorem dX10_isAt_32 : decode cX10_isAt 32 = .ok (.baload, 1) := by decide +kernel
theorem dX10_isAt_33 : decode cX10_isAt 33 = .ok (.iload_n 2, 1) := by decide +kernel
theorem dX10_isAt_34 : decode cX10_isAt 34 = .ok (.if_icmp .gt 7, 3) := by decide +kernel
theorem dX10_isAt_37 : decode cX10_isAt 37 = .ok (.iconst 1, 1) := by decide +kernel
theorem dX10_isAt_38 : decode cX10_isAt 38 = .ok (.goto 4, 3) := by decide +kernel
theorem dX10_isAt_41 : decode cX10_isAt 41 = .ok (.iconst 0, 1) := by decide +kernel
theorem dX10_isAt_42 : decode cX10_isAt 42 = .ok (.ireturn, 1) := by decide +kernel
theorem ct_X10_isAt {g : Gw} (hG : GF g) {z : Bool} (E : Mm) (t : TS) (n : Nat) (hn : E 1 2 = (n : Int)) (hn2 : n ≤ 600) (x y : Int) : CT g yX10_isAt cX10_isAt 3 (some .boolean) 0 0 0 0 K2 z [mR 1, mI x, mI y] (ov (tpE E t)) K2 z (fun r D' => r = some (mI (if isA (E 2) n t.1 x y then 1 else 0)) ∧ D' = ov (tpE E t)) := by
  refine CT.mk hG (by decide +kernel) (Nat.le_of_ble_eq_true rfl) (fun κ X Rt _ ok => ?_)
  refine at_aload_n 1 X rfl rfl dX10_isAt_0 rfl ?_
  refine m_getI 4 X f_X10_31 k_1 rn_1_3 dX10_isAt_1 rfl ?_
  refine at_aload_n 5 X rfl rfl dX10_isAt_4 rfl ?_
  refine m_getI 8 X f_X10_28 k_1 rn_1_2 dX10_isAt_5 rfl ?_
  simp only [skT_1, skT_2, skT_3, tp_at, tp_st, tp_fk, tp_fp, tp_end, tp_size, tp_by, hn, Int.toNat_natCast]
  refine at_icmp_ge 11 41 X dX10_isAt_8 rfl (by decide) (fun h8 => ?_) (fun h8 => ?_)
  · refine at_iconst 42 X (by decide) dX10_isAt_41 rfl ?_
    refine at_zret X Rt ⟨by first | rw [if_pos (show isA (E 2) n t.1 x y from ⟨by omega, by omega, by omega⟩)] | rw [if_neg (show ¬ isA (E 2) n t.1 x y from fun q => by omega)], rfl⟩ (by decide) (Nat.le_refl _) (Nat.le_refl _) dX10_isAt_42
  · refine at_aload_n 12 X rfl rfl dX10_isAt_11 rfl ?_
    refine m_getR 15 X f_X10_9 k_1 r_1_0 dX10_isAt_12 rfl ?_
    refine at_aload_n 16 X rfl rfl dX10_isAt_15 rfl ?_
    refine m_getI 19 X f_X10_31 k_1 rn_1_3 dX10_isAt_16 rfl ?_
    simp only [skT_1, skT_2, skT_3, tp_at, tp_st, tp_fk, tp_fp, tp_end, tp_size, tp_by, hn, Int.toNat_natCast]
    refine m_baload 20 X k_2 e_2 (by omega) (by omega) dX10_isAt_19 rfl ?_
    refine at_iload_n 21 X rfl rfl dX10_isAt_20 rfl ?_
    simp only [skT_1, skT_2, skT_3, tp_at, tp_st, tp_fk, tp_fp, tp_end, tp_size, tp_by, hn, Int.toNat_natCast]
    refine at_icmp_lt 24 41 X dX10_isAt_21 rfl (by decide) (fun h21 => ?_) (fun h21 => ?_)
    · refine at_iconst 42 X (by decide) dX10_isAt_41 rfl ?_
      refine at_zret X Rt ⟨by first | rw [if_pos (show isA (E 2) n t.1 x y from ⟨by omega, by omega, by omega⟩)] | rw [if_neg (show ¬ isA (E 2) n t.1 x y from fun q => by omega)], rfl⟩ (by decide) (Nat.le_refl _) (Nat.le_refl _) dX10_isAt_42
    · refine at_aload_n 25 X rfl rfl dX10_isAt_24 rfl ?_
      refine m_getR 28 X f_X10_9 k_1 r_1_0 dX10_isAt_25 rfl ?_
      refine at_aload_n 29 X rfl rfl dX10_isAt_28 rfl ?_
      refine m_getI 32 X f_X10_31 k_1 rn_1_3 dX10_isAt_29 rfl ?_
      simp only [skT_1, skT_2, skT_3, tp_at, tp_st, tp_fk, tp_fp, tp_end, tp_size, tp_by, hn, Int.toNat_natCast]
      refine m_baload 33 X k_2 e_2 (by omega) (by omega) dX10_isAt_32 rfl ?_
      refine at_iload_n 34 X rfl rfl dX10_isAt_33 rfl ?_
      simp only [skT_1, skT_2, skT_3, tp_at, tp_st, tp_fk, tp_fp, tp_end, tp_size, tp_by, hn, Int.toNat_natCast]
      refine at_icmp_gt 37 41 X dX10_isAt_34 rfl (by decide) (fun h34 => ?_) (fun h34 => ?_)
      · refine at_iconst 42 X (by decide) dX10_isAt_41 rfl ?_
        refine at_zret X Rt ⟨by first | rw [if_pos (show isA (E 2) n t.1 x y from ⟨by omega, by omega, by omega⟩)] | rw [if_neg (show ¬ isA (E 2) n t.1 x y from fun q => by omega)], rfl⟩ (by decide) (Nat.le_refl _) (Nat.le_refl _) dX10_isAt_42
      · refine at_iconst 38 X (by decide) dX10_isAt_37 rfl ?_
        refine at_goto 42 X dX10_isAt_38 (by decide) ?_
        refine at_zret X Rt ⟨by first | rw [if_pos (show isA (E 2) n t.1 x y from ⟨by omega, by omega, by omega⟩)] | rw [if_neg (show ¬ isA (E 2) n t.1 x y from fun q => by omega)], rfl⟩ (by decide) (Nat.le_refl _) (Nat.le_refl _) dX10_isAt_42
theorem dX10_fail_0 : decode cX10_fail 0 = .ok (.aload_n 0, 1) := by decide +kernel
theorem dX10_fail_1 : decode cX10_fail 1 = .ok (.getfield 37, 3) := by decide +kernel
theorem dX10_fail_4 : decode cX10_fail 4 = .ok (.ifCond .ne 16, 3) := by decide +kernel
theorem dX10_fail_7 : decode cX10_fail 7 = .ok (.aload_n 0, 1) := by decide +kernel
theorem dX10_fail_8 : decode cX10_fail 8 = .ok (.iload_n 1, 1) := by decide +kernel
theorem dX10_fail_9 : decode cX10_fail 9 = .ok (.putfield 37, 3) := by decide +kernel
theorem dX10_fail_12 : decode cX10_fail 12 = .ok (.aload_n 0, 1) := by decide +kernel
theorem dX10_fail_13 : decode cX10_fail 13 = .ok (.aload_n 0, 1) := by decide +kernel
theorem dX10_fail_14 : decode cX10_fail 14 = .ok (.getfield 34, 3) := by decide +kernel
theorem dX10_fail_17 : decode cX10_fail 17 = .ok (.putfield 15, 3) := by decide +kernel
theorem dX10_fail_20 : decode cX10_fail 20 = .ok (.return_, 1) := by decide +kernel
theorem ct_X10_fail {g : Gw} (hG : GF g) {z : Bool} (E : Mm) (t : TS) (k : Int) : CT g yX10_fail cX10_fail 2 none 0 0 0 0 K2 z [mR 1, mI k] (ov (tpE E t)) K2 z (fun r D' => r = none ∧ D' = ov (tpE E (flT t k))) := by
  refine CT.mk hG (by decide +kernel) (Nat.le_of_ble_eq_true rfl) (fun κ X Rt _ ok => ?_)
  refine at_aload_n 1 X rfl rfl dX10_fail_0 rfl ?_
  refine m_getI 4 X f_X10_37 k_1 rn_1_5 dX10_fail_1 rfl ?_
  simp only [tp_at, tp_st, tp_fk, tp_fp]
  refine at_if_ne 7 20 X dX10_fail_4 rfl (by decide) (fun h4 => ?_) (fun h4 => ?_)
  · refine at_vret X Rt ⟨rfl, by first | (rw [tp_w6]; unfold flT; rw [if_pos (by omega)]) | (unfold flT; rw [if_neg (by omega)])⟩ (Nat.le_refl _) (Nat.le_refl _) dX10_fail_20
  · refine at_aload_n 8 X rfl rfl dX10_fail_7 rfl ?_
    refine at_iload_n 9 X rfl rfl dX10_fail_8 rfl ?_
    refine m_putI 12 X f_X10_37 fw_10_5 k_1 rn_1_5 dX10_fail_9 rfl ?_
    refine at_aload_n 13 X rfl rfl dX10_fail_12 rfl ?_
    refine at_aload_n 14 X rfl rfl dX10_fail_13 rfl ?_
    refine m_getI 17 X f_X10_34 k_1 rn_1_4 dX10_fail_14 rfl ?_
    rw [tp_w5, tp_st]
    refine m_putI 20 X f_X10_15 fw_10_6 k_1 rn_1_6 dX10_fail_17 rfl ?_
    refine at_vret X Rt ⟨rfl, by first | (rw [tp_w6]; unfold flT; rw [if_pos (by omega)]) | (unfold flT; rw [if_neg (by omega)])⟩ (Nat.le_refl _) (Nat.le_refl _) dX10_fail_20
theorem dX10_goesOn_0 : decode cX10_goesOn 0 = .ok (.aload_n 0, 1) := by decide +kernel
theorem dX10_goesOn_1 : decode cX10_goesOn 1 = .ok (.getfield 37, 3) := by decide +kernel
theorem dX10_goesOn_4 : decode cX10_goesOn 4 = .ok (.ifCond .eq 5, 3) := by decide +kernel
theorem dX10_goesOn_7 : decode cX10_goesOn 7 = .ok (.iconst 0, 1) := by decide +kernel
theorem dX10_goesOn_8 : decode cX10_goesOn 8 = .ok (.ireturn, 1) := by decide +kernel
theorem dX10_goesOn_9 : decode cX10_goesOn 9 = .ok (.aload_n 0, 1) := by decide +kernel
theorem dX10_goesOn_10 : decode cX10_goesOn 10 = .ok (.invokevirtual 40, 3) := by decide +kernel
theorem dX10_goesOn_13 : decode cX10_goesOn 13 = .ok (.aload_n 0, 1) := by decide +kernel
theorem dX10_goesOn_14 : decode cX10_goesOn 14 = .ok (.getfield 31, 3) := by decide +kernel
theorem dX10_goesOn_17 : decode cX10_goesOn 17 = .ok (.aload_n 0, 1) := by decide +kernel
theorem dX10_goesOn_18 : decode cX10_goesOn 18 = .ok (.getfield 28, 3) := by decide +kernel
theorem dX10_goesOn_21 : decode cX10_goesOn 21 = .ok (.if_icmp .ge 7, 3) := by decide +kernel
theorem dX10_goesOn_24 : decode cX10_goesOn 24 = .ok (.iconst 1, 1) := by decide +kernel
theorem dX10_goesOn_25 : decode cX10_goesOn 25 = .ok (.goto 4, 3) := by decide +kernel
theorem dX10_goesOn_28 : decode cX10_goesOn 28 = .ok (.iconst 0, 1) := by decide +kernel
theorem dX10_goesOn_29 : decode cX10_goesOn 29 = .ok (.ireturn, 1) := by decide +kernel
theorem ct_X10_goesOn {g : Gw} (hG : GF g) {z : Bool} (E : Mm) (t : TS) (n : Nat) (hn : E 1 2 = (n : Int)) (hn2 : n ≤ 600) : CT g yX10_goesOn cX10_goesOn 1 (some .boolean) 1 20 0 0 K2 z [mR 1] (ov (tpE E t)) K2 z (fun r D' => r = some (mI (if t.2.2.1 = 0 ∧ sk (E 2) n t.1 < n then 1 else 0)) ∧ D' = ov (tpE E (goT (E 2) n t))) := by
  refine CT.mk hG (by decide +kernel) (Nat.le_of_ble_eq_true rfl) (fun κ X Rt _ ok => ?_)
  refine at_aload_n 1 X rfl rfl dX10_goesOn_0 rfl ?_
  refine m_getI 4 X f_X10_37 k_1 rn_1_5 dX10_goesOn_1 rfl ?_
  simp only [skT_1, skT_2, skT_3, tp_at, tp_st, tp_fk, tp_fp, tp_end, tp_size, tp_by, hn, Int.toNat_natCast]
  refine at_if_eq 7 9 X dX10_goesOn_4 rfl (by decide) (fun h4 => ?_) (fun h4 => ?_)
  · refine at_aload_n 10 X rfl rfl dX10_goesOn_9 rfl ?_
    refine at_callV 13 X _ 10 (ct_X10_skipBlanks hG E t n hn hn2) clX10 rfl k_1 mo_X10_skipBlanks w_947 vo_X10_skipBlanks.1 vo_X10_skipBlanks.2 rfl rfl (crm Rt (by decide)) (Nat.le_of_ble_eq_true rfl) dX10_goesOn_10 rfl ?_
    rintro _ _ ⟨rfl, rfl⟩
    refine at_aload_n 14 X rfl rfl dX10_goesOn_13 rfl ?_
    refine m_getI 17 X f_X10_31 k_1 rn_1_3 dX10_goesOn_14 rfl ?_
    refine at_aload_n 18 X rfl rfl dX10_goesOn_17 rfl ?_
    refine m_getI 21 X f_X10_28 k_1 rn_1_2 dX10_goesOn_18 rfl ?_
    simp only [skT_1, skT_2, skT_3, tp_at, tp_st, tp_fk, tp_fp, tp_end, tp_size, tp_by, hn, Int.toNat_natCast]
    refine at_icmp_ge 24 28 X dX10_goesOn_21 rfl (by decide) (fun h21 => ?_) (fun h21 => ?_)
    · refine at_iconst 29 X (by decide) dX10_goesOn_28 rfl ?_
      refine at_zret X Rt ⟨by first | rw [if_pos ⟨h4, by omega⟩] | rw [if_neg (fun q => by omega)], by unfold goT; rw [if_pos h4]⟩ (by decide) (Nat.le_refl _) (Nat.le_refl _) dX10_goesOn_29
    · refine at_iconst 25 X (by decide) dX10_goesOn_24 rfl ?_
      refine at_goto 29 X dX10_goesOn_25 (by decide) ?_
      refine at_zret X Rt ⟨by first | rw [if_pos ⟨h4, by omega⟩] | rw [if_neg (fun q => by omega)], by unfold goT; rw [if_pos h4]⟩ (by decide) (Nat.le_refl _) (Nat.le_refl _) dX10_goesOn_29
  · refine at_iconst 8 X (by decide) dX10_goesOn_7 rfl ?_
    refine at_zret X Rt ⟨by rw [if_neg (fun q => h4 q.1)], by unfold goT; rw [if_neg h4]⟩ (by decide) (Nat.le_refl _) (Nat.le_refl _) dX10_goesOn_8
theorem dX10_sees_0 : decode cX10_sees 0 = .ok (.aload_n 0, 1) := by decide +kernel
theorem dX10_sees_1 : decode cX10_sees 1 = .ok (.getfield 37, 3) := by decide +kernel
theorem dX10_sees_4 : decode cX10_sees 4 = .ok (.ifCond .eq 5, 3) := by decide +kernel
theorem dX10_sees_7 : decode cX10_sees 7 = .ok (.iconst 0, 1) := by decide +kernel
theorem dX10_sees_8 : decode cX10_sees 8 = .ok (.ireturn, 1) := by decide +kernel
theorem dX10_sees_9 : decode cX10_sees 9 = .ok (.aload_n 0, 1) := by decide +kernel
theorem dX10_sees_10 : decode cX10_sees 10 = .ok (.invokevirtual 40, 3) := by decide +kernel
theorem dX10_sees_13 : decode cX10_sees 13 = .ok (.aload_n 0, 1) := by decide +kernel
theorem dX10_sees_14 : decode cX10_sees 14 = .ok (.iload_n 1, 1) := by decide +kernel
theorem dX10_sees_15 : decode cX10_sees 15 = .ok (.iload_n 1, 1) := by decide +kernel
theorem dX10_sees_16 : decode cX10_sees 16 = .ok (.invokevirtual 43, 3) := by decide +kernel
theorem dX10_sees_19 : decode cX10_sees 19 = .ok (.ireturn, 1) := by decide +kernel
theorem ct_X10_sees {g : Gw} (hG : GF g) {z : Bool} (E : Mm) (t : TS) (n : Nat) (hn : E 1 2 = (n : Int)) (hn2 : n ≤ 600) (x : Int) : CT g yX10_sees cX10_sees 2 (some .boolean) 1 22 0 0 K2 z [mR 1, mI x] (ov (tpE E t)) K2 z (fun r D' => r = some (mI (if t.2.2.1 = 0 ∧ isA (E 2) n (sk (E 2) n t.1) x x then 1 else 0)) ∧ D' = ov (tpE E (goT (E 2) n t))) := by
  refine CT.mk hG (by decide +kernel) (Nat.le_of_ble_eq_true rfl) (fun κ X Rt _ ok => ?_)
  refine at_aload_n 1 X rfl rfl dX10_sees_0 rfl ?_
  refine m_getI 4 X f_X10_37 k_1 rn_1_5 dX10_sees_1 rfl ?_
  simp only [skT_1, skT_2, skT_3, tp_at, tp_st, tp_fk, tp_fp, tp_end, tp_size, tp_by, hn, Int.toNat_natCast]
  refine at_if_eq 7 9 X dX10_sees_4 rfl (by decide) (fun h4 => ?_) (fun h4 => ?_)
  · refine at_aload_n 10 X rfl rfl dX10_sees_9 rfl ?_
    refine at_callV 13 X _ 10 (ct_X10_skipBlanks hG E t n hn hn2) clX10 rfl k_1 mo_X10_skipBlanks w_947 vo_X10_skipBlanks.1 vo_X10_skipBlanks.2 rfl rfl (crm Rt (by decide)) (Nat.le_of_ble_eq_true rfl) dX10_sees_10 rfl ?_
    rintro _ _ ⟨rfl, rfl⟩
    refine at_aload_n 14 X rfl rfl dX10_sees_13 rfl ?_
    refine at_iload_n 15 X rfl rfl dX10_sees_14 rfl ?_
    refine at_iload_n 16 X rfl rfl dX10_sees_15 rfl ?_
    refine at_callV 19 X _ 10 (ct_X10_isAt hG E (skT (E 2) n t) n hn hn2 _ _) clX10 rfl k_1 mo_X10_isAt w_959 vo_X10_isAt.1 vo_X10_isAt.2 rfl rfl (crm Rt (by decide)) (Nat.le_of_ble_eq_true rfl) dX10_sees_16 rfl ?_
    rintro _ _ ⟨rfl, rfl⟩
    refine at_zret X Rt ⟨congrArg (fun q => some (mI q)) (ite_congr (propext ⟨fun q => ⟨h4, q⟩, fun q => q.2⟩) (fun _ => rfl) (fun _ => rfl)), by unfold goT; rw [if_pos h4]⟩ (by split <;> simp) (Nat.le_refl _) (Nat.le_refl _) dX10_sees_19
  · refine at_iconst 8 X (by decide) dX10_sees_7 rfl ?_
    refine at_zret X Rt ⟨by rw [if_neg (fun q => h4 q.1)], by unfold goT; rw [if_neg h4]⟩ (by decide) (Nat.le_refl _) (Nat.le_refl _) dX10_sees_8
theorem dX10_seesDigit_0 : decode cX10_seesDigit 0 = .ok (.aload_n 0, 1) := by decide +kernel
theorem dX10_seesDigit_1 : decode cX10_seesDigit 1 = .ok (.getfield 37, 3) := by decide +kernel
theorem dX10_seesDigit_4 : decode cX10_seesDigit 4 = .ok (.ifCond .eq 5, 3) := by decide +kernel
theorem dX10_seesDigit_7 : decode cX10_seesDigit 7 = .ok (.iconst 0, 1) := by decide +kernel
theorem dX10_seesDigit_8 : decode cX10_seesDigit 8 = .ok (.ireturn, 1) := by decide +kernel
theorem dX10_seesDigit_9 : decode cX10_seesDigit 9 = .ok (.aload_n 0, 1) := by decide +kernel
theorem dX10_seesDigit_10 : decode cX10_seesDigit 10 = .ok (.invokevirtual 40, 3) := by decide +kernel
theorem dX10_seesDigit_13 : decode cX10_seesDigit 13 = .ok (.aload_n 0, 1) := by decide +kernel
theorem dX10_seesDigit_14 : decode cX10_seesDigit 14 = .ok (.bipush 48, 2) := by decide +kernel
theorem dX10_seesDigit_16 : decode cX10_seesDigit 16 = .ok (.bipush 57, 2) := by decide +kernel
theorem dX10_seesDigit_18 : decode cX10_seesDigit 18 = .ok (.invokevirtual 43, 3) := by decide +kernel
theorem dX10_seesDigit_21 : decode cX10_seesDigit 21 = .ok (.ireturn, 1) := by decide +kernel
theorem ct_X10_seesDigit {g : Gw} (hG : GF g) {z : Bool} (E : Mm) (t : TS) (n : Nat) (hn : E 1 2 = (n : Int)) (hn2 : n ≤ 600) : CT g yX10_seesDigit cX10_seesDigit 1 (some .boolean) 1 22 0 0 K2 z [mR 1] (ov (tpE E t)) K2 z (fun r D' => r = some (mI (if t.2.2.1 = 0 ∧ isA (E 2) n (sk (E 2) n t.1) 48 57 then 1 else 0)) ∧ D' = ov (tpE E (goT (E 2) n t))) := by
  refine CT.mk hG (by decide +kernel) (Nat.le_of_ble_eq_true rfl) (fun κ X Rt _ ok => ?_)
  refine at_aload_n 1 X rfl rfl dX10_seesDigit_0 rfl ?_
  refine m_getI 4 X f_X10_37 k_1 rn_1_5 dX10_seesDigit_1 rfl ?_
  simp only [skT_1, skT_2, skT_3, tp_at, tp_st, tp_fk, tp_fp, tp_end, tp_size, tp_by, hn, Int.toNat_natCast]
  refine at_if_eq 7 9 X dX10_seesDigit_4 rfl (by decide) (fun h4 => ?_) (fun h4 => ?_)
  · refine at_aload_n 10 X rfl rfl dX10_seesDigit_9 rfl ?_
    refine at_callV 13 X _ 10 (ct_X10_skipBlanks hG E t n hn hn2) clX10 rfl k_1 mo_X10_skipBlanks w_947 vo_X10_skipBlanks.1 vo_X10_skipBlanks.2 rfl rfl (crm Rt (by decide)) (Nat.le_of_ble_eq_true rfl) dX10_seesDigit_10 rfl ?_
    rintro _ _ ⟨rfl, rfl⟩
    refine at_aload_n 14 X rfl rfl dX10_seesDigit_13 rfl ?_
    refine at_bipush 16 X (by decide) (by decide) dX10_seesDigit_14 rfl ?_
    refine at_bipush 18 X (by decide) (by decide) dX10_seesDigit_16 rfl ?_
    refine at_callV 21 X _ 10 (ct_X10_isAt hG E (skT (E 2) n t) n hn hn2 _ _) clX10 rfl k_1 mo_X10_isAt w_959 vo_X10_isAt.1 vo_X10_isAt.2 rfl rfl (crm Rt (by decide)) (Nat.le_of_ble_eq_true rfl) dX10_seesDigit_18 rfl ?_
    rintro _ _ ⟨rfl, rfl⟩
    refine at_zret X Rt ⟨congrArg (fun q => some (mI q)) (ite_congr (propext ⟨fun q => ⟨h4, q⟩, fun q => q.2⟩) (fun _ => rfl) (fun _ => rfl)), by unfold goT; rw [if_pos h4]⟩ (by split <;> simp) (Nat.le_refl _) (Nat.le_refl _) dX10_seesDigit_21
  · refine at_iconst 8 X (by decide) dX10_seesDigit_7 rfl ?_
    refine at_zret X Rt ⟨by rw [if_neg (fun q => h4 q.1)], by unfold goT; rw [if_neg h4]⟩ (by decide) (Nat.le_refl _) (Nat.le_refl _) dX10_seesDigit_8
theorem dX10_takeSign_0 : decode cX10_takeSign 0 = .ok (.aload_n 0, 1) := by decide +kernel
theorem dX10_takeSign_1 : decode cX10_takeSign 1 = .ok (.getfield 37, 3) := by decide +kernel
theorem dX10_takeSign_4 : decode cX10_takeSign 4 = .ok (.ifCond .eq 4, 3) := by decide +kernel
theorem dX10_takeSign_7 : decode cX10_takeSign 7 = .ok (.return_, 1) := by decide +kernel
theorem dX10_takeSign_8 : decode cX10_takeSign 8 = .ok (.aload_n 0, 1) := by decide +kernel
theorem dX10_takeSign_9 : decode cX10_takeSign 9 = .ok (.invokevirtual 40, 3) := by decide +kernel
theorem dX10_takeSign_12 : decode cX10_takeSign 12 = .ok (.aload_n 0, 1) := by decide +kernel
theorem dX10_takeSign_13 : decode cX10_takeSign 13 = .ok (.iload_n 1, 1) := by decide +kernel
theorem dX10_takeSign_14 : decode cX10_takeSign 14 = .ok (.iload_n 1, 1) := by decide +kernel
theorem dX10_takeSign_15 : decode cX10_takeSign 15 = .ok (.invokevirtual 43, 3) := by decide +kernel
theorem dX10_takeSign_18 : decode cX10_takeSign 18 = .ok (.ifCond .eq 16, 3) := by decide +kernel
theorem dX10_takeSign_21 : decode cX10_takeSign 21 = .ok (.aload_n 0, 1) := by decide +kernel
theorem dX10_takeSign_22 : decode cX10_takeSign 22 = .ok (.dup, 1) := by decide +kernel
theorem dX10_takeSign_23 : decode cX10_takeSign 23 = .ok (.getfield 31, 3) := by decide +kernel
theorem dX10_takeSign_26 : decode cX10_takeSign 26 = .ok (.iconst 1, 1) := by decide +kernel
theorem dX10_takeSign_27 : decode cX10_takeSign 27 = .ok (.iadd, 1) := by decide +kernel
theorem dX10_takeSign_28 : decode cX10_takeSign 28 = .ok (.putfield 31, 3) := by decide +kernel
theorem dX10_takeSign_31 : decode cX10_takeSign 31 = .ok (.goto 8, 3) := by decide +kernel
theorem dX10_takeSign_34 : decode cX10_takeSign 34 = .ok (.aload_n 0, 1) := by decide +kernel
theorem dX10_takeSign_35 : decode cX10_takeSign 35 = .ok (.iconst 1, 1) := by decide +kernel
theorem dX10_takeSign_36 : decode cX10_takeSign 36 = .ok (.invokevirtual 47, 3) := by decide +kernel
theorem dX10_takeSign_39 : decode cX10_takeSign 39 = .ok (.return_, 1) := by decide +kernel
def tsT (B : Nat → Int) (n : Nat) (t : TS) (x : Int) : TS := if t.2.2.1 = 0 then (if isA B n (sk B n t.1) x x then (sk B n t.1 + 1, sk B n t.1, t.2.2) else flT (skT B n t) 1) else t
theorem ct_X10_takeSign {g : Gw} (hG : GF g) {z : Bool} (E : Mm) (t : TS) (n : Nat) (hn : E 1 2 = (n : Int)) (hn2 : n ≤ 600) (ht : t.1 ≤ n) (x : Int) : CT g yX10_takeSign cX10_takeSign 2 none 1 22 0 0 K2 z [mR 1, mI x] (ov (tpE E t)) K2 z (fun r D' => r = none ∧ D' = ov (tpE E (tsT (E 2) n t x))) := by
  refine CT.mk hG (by decide +kernel) (Nat.le_of_ble_eq_true rfl) (fun κ X Rt _ ok => ?_)
  refine at_aload_n 1 X rfl rfl dX10_takeSign_0 rfl ?_
  refine m_getI 4 X f_X10_37 k_1 rn_1_5 dX10_takeSign_1 rfl ?_
  simp only [skT_1, skT_2, skT_3, tp_at, tp_st, tp_fk, tp_fp, tp_end, tp_size, tp_by, hn, Int.toNat_natCast]
  refine at_if_eq 7 8 X dX10_takeSign_4 rfl (by decide) (fun h4 => ?_) (fun h4 => ?_)
  · refine at_aload_n 9 X rfl rfl dX10_takeSign_8 rfl ?_
    refine at_callV 12 X _ 10 (ct_X10_skipBlanks hG E t n hn hn2) clX10 rfl k_1 mo_X10_skipBlanks w_947 vo_X10_skipBlanks.1 vo_X10_skipBlanks.2 rfl rfl (crm Rt (by decide)) (Nat.le_of_ble_eq_true rfl) dX10_takeSign_9 rfl ?_
    rintro _ _ ⟨rfl, rfl⟩
    refine at_aload_n 13 X rfl rfl dX10_takeSign_12 rfl ?_
    refine at_iload_n 14 X rfl rfl dX10_takeSign_13 rfl ?_
    refine at_iload_n 15 X rfl rfl dX10_takeSign_14 rfl ?_
    refine at_callV 18 X _ 10 (ct_X10_isAt hG E (skT (E 2) n t) n hn hn2 _ _) clX10 rfl k_1 mo_X10_isAt w_959 vo_X10_isAt.1 vo_X10_isAt.2 rfl rfl (crm Rt (by decide)) (Nat.le_of_ble_eq_true rfl) dX10_takeSign_15 rfl ?_
    rintro _ _ ⟨rfl, rfl⟩
    have hle := sk_le (E 2) n (n - t.1 + 1) t.1 (by omega) ht
    refine at_if_eq 21 34 X dX10_takeSign_18 rfl (by decide) (fun h18 => ?_) (fun h18 => ?_)
    · refine at_aload_n 35 X rfl rfl dX10_takeSign_34 rfl ?_
      refine at_iconst 36 X (by decide) dX10_takeSign_35 rfl ?_
      refine at_callV 39 X _ 10 (ct_X10_fail hG E (skT (E 2) n t) 1) clX10 rfl k_1 mo_X10_fail w_1048 vo_X10_fail.1 vo_X10_fail.2 rfl rfl (crm Rt (by decide)) (Nat.le_of_ble_eq_true rfl) dX10_takeSign_36 rfl ?_
      rintro _ _ ⟨rfl, rfl⟩
      refine at_vret X Rt ⟨rfl, by unfold tsT; rw [if_pos h4]; first | (rw [if_pos (show isA (E 2) n (sk (E 2) n t.1) x x from ite_yes.mp h18), tp_w3]; rfl) | rw [if_neg (show ¬ isA (E 2) n (sk (E 2) n t.1) x x from ite_no.mp h18)]⟩ (Nat.le_refl _) (Nat.le_refl _) dX10_takeSign_39
    · refine at_aload_n 22 X rfl rfl dX10_takeSign_21 rfl ?_
      refine at_dup 23 X (show ¬ (2 : Nat) = 1 by decide) dX10_takeSign_22 rfl ?_
      refine m_getI 26 X f_X10_31 k_1 rn_1_3 dX10_takeSign_23 rfl ?_
      refine at_iconst 27 X (by decide) dX10_takeSign_26 rfl ?_
      refine at_iadd 28 X dX10_takeSign_27 rfl ?_
      simp only [tp_at, skT_1]
      rw [w32_id (by omega) (by omega), show (sk (E 2) n t.1 : Int) + 1 = ((sk (E 2) n t.1 + 1 : Nat) : Int) from rfl]
      refine m_putI 31 X f_X10_31 fw_10_3 k_1 rn_1_3 dX10_takeSign_28 rfl ?_
      refine at_goto 39 X dX10_takeSign_31 (by decide) ?_
      refine at_vret X Rt ⟨rfl, by unfold tsT; rw [if_pos h4]; first | (rw [if_pos (show isA (E 2) n (sk (E 2) n t.1) x x from ite_yes.mp h18), tp_w3]; rfl) | rw [if_neg (show ¬ isA (E 2) n (sk (E 2) n t.1) x x from ite_no.mp h18)]⟩ (Nat.le_refl _) (Nat.le_refl _) dX10_takeSign_39
  · refine at_vret X Rt ⟨rfl, by unfold tsT; rw [if_neg h4]⟩ (Nat.le_refl _) (Nat.le_refl _) dX10_takeSign_7
theorem dX10_failed_0 : decode cX10_failed 0 = .ok (.aload_n 0, 1) := by decide +kernel
theorem dX10_failed_1 : decode cX10_failed 1 = .ok (.getfield 37, 3) := by decide +kernel
theorem dX10_failed_4 : decode cX10_failed 4 = .ok (.ifCond .eq 7, 3) := by decide +kernel
theorem dX10_failed_7 : decode cX10_failed 7 = .ok (.iconst 1, 1) := by decide +kernel
theorem dX10_failed_8 : decode cX10_failed 8 = .ok (.goto 4, 3) := by decide +kernel
theorem dX10_failed_11 : decode cX10_failed 11 = .ok (.iconst 0, 1) := by decide +kernel
theorem dX10_failed_12 : decode cX10_failed 12 = .ok (.ireturn, 1) := by decide +kernel
theorem ct_X10_failed {g : Gw} (hG : GF g) {z : Bool} (E : Mm) (t : TS) : CT g yX10_failed cX10_failed 1 (some .boolean) 0 0 0 0 K2 z [mR 1] (ov (tpE E t)) K2 z (fun r D' => r = some (mI (if t.2.2.1 = 0 then 0 else 1)) ∧ D' = ov (tpE E t)) := by
  refine CT.mk hG (by decide +kernel) (Nat.le_of_ble_eq_true rfl) (fun κ X Rt _ ok => ?_)
  refine at_aload_n 1 X rfl rfl dX10_failed_0 rfl ?_
  refine m_getI 4 X f_X10_37 k_1 rn_1_5 dX10_failed_1 rfl ?_
  simp only [tp_at, tp_st, tp_fk, tp_fp]
  refine at_if_eq 7 11 X dX10_failed_4 rfl (by decide) (fun h4 => ?_) (fun h4 => ?_)
  · refine at_iconst 12 X (by decide) dX10_failed_11 rfl ?_
    refine at_zret X Rt ⟨by first | rw [if_pos (by assumption)] | rw [if_neg (by assumption)], rfl⟩ (by decide) (Nat.le_refl _) (Nat.le_refl _) dX10_failed_12
  · refine at_iconst 8 X (by decide) dX10_failed_7 rfl ?_
    refine at_goto 12 X dX10_failed_8 (by decide) ?_
    refine at_zret X Rt ⟨by first | rw [if_pos (by assumption)] | rw [if_neg (by assumption)], rfl⟩ (by decide) (Nat.le_refl _) (Nat.le_refl _) dX10_failed_12
