theorem dX10_answer_0 : decode cX10_answer 0 = .ok (.aload_n 0, 1) := by decide +kernel
theorem dX10_answer_1 : decode cX10_answer 1 = .ok (.getfield 37, 3) := by decide +kernel
theorem dX10_answer_4 : decode cX10_answer 4 = .ok (.bipush 10, 2) := by decide +kernel
theorem dX10_answer_6 : decode cX10_answer 6 = .ok (.isub, 1) := by decide +kernel
theorem dX10_answer_7 : decode cX10_answer 7 = .ok (.ireturn, 1) := by decide +kernel
theorem ct_X10_answer {g : Gw} (hG : GF g) {z : Bool} (E : Mm) (t : TS) (hk : 0 ≤ t.2.2.1 ∧ t.2.2.1 ≤ 1000) : CT g yX10_answer cX10_answer 1 (some .int) 0 0 0 0 K2 z [mR 1] (ov (tpE E t)) K2 z (fun r D' => r = some (mI (t.2.2.1 - 10)) ∧ D' = ov (tpE E t)) := by
  refine CT.mk hG (by decide +kernel) (Nat.le_of_ble_eq_true rfl) (fun κ X Rt _ ok => ?_)
  refine at_aload_n 1 X rfl rfl dX10_answer_0 rfl ?_
  refine m_getI 4 X f_X10_37 k_1 rn_1_5 dX10_answer_1 rfl ?_
  simp only [tp_at, tp_st, tp_fk, tp_fp]
  refine at_bipush 6 X (by decide) (by decide) dX10_answer_4 rfl ?_
  refine at_isub 7 X dX10_answer_6 rfl ?_
  rw [w32_id (by omega) (by omega)]
  refine at_iret X Rt ⟨rfl, rfl⟩ (Nat.le_refl _) (Nat.le_refl _) dX10_answer_7
theorem dX10_takeWord_0 : decode cX10_takeWord 0 = .ok (.aload_n 0, 1) := by decide +kernel
theorem dX10_takeWord_1 : decode cX10_takeWord 1 = .ok (.getfield 37, 3) := by decide +kernel
theorem dX10_takeWord_4 : decode cX10_takeWord 4 = .ok (.ifCond .eq 4, 3) := by decide +kernel
theorem dX10_takeWord_7 : decode cX10_takeWord 7 = .ok (.return_, 1) := by decide +kernel
theorem dX10_takeWord_8 : decode cX10_takeWord 8 = .ok (.aload_n 0, 1) := by decide +kernel
theorem dX10_takeWord_9 : decode cX10_takeWord 9 = .ok (.invokevirtual 40, 3) := by decide +kernel
theorem dX10_takeWord_12 : decode cX10_takeWord 12 = .ok (.aload_n 0, 1) := by decide +kernel
theorem dX10_takeWord_13 : decode cX10_takeWord 13 = .ok (.getfield 31, 3) := by decide +kernel
theorem dX10_takeWord_16 : decode cX10_takeWord 16 = .ok (.aload_n 0, 1) := by decide +kernel
theorem dX10_takeWord_17 : decode cX10_takeWord 17 = .ok (.getfield 28, 3) := by decide +kernel
theorem dX10_takeWord_20 : decode cX10_takeWord 20 = .ok (.if_icmp .ge 27, 3) := by decide +kernel
theorem dX10_takeWord_23 : decode cX10_takeWord 23 = .ok (.aload_n 0, 1) := by decide +kernel
theorem dX10_takeWord_24 : decode cX10_takeWord 24 = .ok (.bipush 97, 2) := by decide +kernel
theorem dX10_takeWord_26 : decode cX10_takeWord 26 = .ok (.bipush 122, 2) := by decide +kernel
theorem dX10_takeWord_28 : decode cX10_takeWord 28 = .ok (.invokevirtual 43, 3) := by decide +kernel
theorem dX10_takeWord_31 : decode cX10_takeWord 31 = .ok (.ifCond .eq 16, 3) := by decide +kernel
theorem dX10_takeWord_34 : decode cX10_takeWord 34 = .ok (.aload_n 0, 1) := by decide +kernel
theorem dX10_takeWord_35 : decode cX10_takeWord 35 = .ok (.dup, 1) := by decide +kernel
theorem dX10_takeWord_36 : decode cX10_takeWord 36 = .ok (.getfield 31, 3) := by decide +kernel
theorem dX10_takeWord_39 : decode cX10_takeWord 39 = .ok (.iconst 1, 1) := by decide +kernel
theorem dX10_takeWord_40 : decode cX10_takeWord 40 = .ok (.iadd, 1) := by decide +kernel
theorem dX10_takeWord_41 : decode cX10_takeWord 41 = .ok (.putfield 31, 3) := by decide +kernel
theorem dX10_takeWord_44 : decode cX10_takeWord 44 = .ok (.goto (-32), 3) := by decide +kernel
theorem dX10_takeWord_47 : decode cX10_takeWord 47 = .ok (.return_, 1) := by decide +kernel
/-- the first place from a on that is no small letter -/
def wdE (B : Nat → Int) (n a : Nat) : Nat := if isA B n a 97 122 then wdE B n (a + 1) else a
termination_by n - a
decreasing_by rename_i h; have := h.1; omega
def twT (B : Nat → Int) (n : Nat) (t : TS) : TS := if t.2.2.1 = 0 then (wdE B n (sk B n t.1), sk B n t.1, t.2.2) else t
theorem ct_X10_takeWord {g : Gw} (hG : GF g) {z : Bool} (E : Mm) (t : TS) (n : Nat) (hn : E 1 2 = (n : Int)) (hn2 : n ≤ 600) : CT g yX10_takeWord cX10_takeWord 1 none 1 22 0 0 K2 z [mR 1] (ov (tpE E t)) K2 z (fun r D' => r = none ∧ D' = ov (tpE E (twT (E 2) n t))) := by
  refine CT.mk hG (by decide +kernel) (Nat.le_of_ble_eq_true rfl) (fun κ X Rt _ ok => ?_)
  have L0 : t.2.2.1 = 0 → ∀ (f a : Nat), n - a < f → wdE (E 2) n a = wdE (E 2) n (sk (E 2) n t.1) → AT g κ K2 z 0 0 12 [(0, mR 1)] [] (ov (tpE E (a, sk (E 2) n t.1, t.2.2))) := by
    intro h4 f
    induction f with
    | zero => intro a h; omega
    | succ f ih =>
    intro a hf hR
    refine at_aload_n 13 X rfl rfl dX10_takeWord_12 rfl ?_
    refine m_getI 16 X f_X10_31 k_1 rn_1_3 dX10_takeWord_13 rfl ?_
    refine at_aload_n 17 X rfl rfl dX10_takeWord_16 rfl ?_
    refine m_getI 20 X f_X10_28 k_1 rn_1_2 dX10_takeWord_17 rfl ?_
    simp only [tp_at, tp_end, hn]
    refine at_icmp_ge 23 47 X dX10_takeWord_20 rfl (by decide) (fun h20 => ?_) (fun h20 => ?_)
    · have h31 : ¬ isA (E 2) n a 97 122 := fun q => by have := q.1; omega
      refine at_vret X Rt ⟨rfl, by unfold twT; rw [if_pos h4, ← hR, wdE, if_neg h31]⟩ (Nat.le_refl _) (Nat.le_refl _) dX10_takeWord_47
    · refine at_aload_n 24 X rfl rfl dX10_takeWord_23 rfl ?_
      refine at_bipush 26 X (by decide) (by decide) dX10_takeWord_24 rfl ?_
      refine at_bipush 28 X (by decide) (by decide) dX10_takeWord_26 rfl ?_
      refine at_callV 31 X _ 10 (ct_X10_isAt hG E (a, sk (E 2) n t.1, t.2.2) n hn hn2 _ _) clX10 rfl k_1 mo_X10_isAt w_959 vo_X10_isAt.1 vo_X10_isAt.2 rfl rfl (crm Rt (by decide)) (Nat.le_of_ble_eq_true rfl) dX10_takeWord_28 rfl ?_
      rintro _ _ ⟨rfl, rfl⟩
      refine at_if_eq 34 47 X dX10_takeWord_31 rfl (by decide) (fun h31 => ?_) (fun h31 => ?_)
      · have h31 : ¬ isA (E 2) n a 97 122 := ite_no.mp h31
        refine at_vret X Rt ⟨rfl, by unfold twT; rw [if_pos h4, ← hR, wdE, if_neg h31]⟩ (Nat.le_refl _) (Nat.le_refl _) dX10_takeWord_47
      · have h31 : a < n ∧ 97 ≤ E 2 a ∧ E 2 a ≤ 122 := ite_yes.mp h31
        refine at_aload_n 35 X rfl rfl dX10_takeWord_34 rfl ?_
        refine at_dup 36 X (show ¬ (2 : Nat) = 1 by decide) dX10_takeWord_35 rfl ?_
        refine m_getI 39 X f_X10_31 k_1 rn_1_3 dX10_takeWord_36 rfl ?_
        refine at_iconst 40 X (by decide) dX10_takeWord_39 rfl ?_
        refine at_iadd 41 X dX10_takeWord_40 rfl ?_
        simp only [tp_at]
        rw [w32_id (by omega) (by omega), show (a : Int) + 1 = ((a + 1 : Nat) : Int) from rfl]
        refine m_putI 44 X f_X10_31 fw_10_3 k_1 rn_1_3 dX10_takeWord_41 rfl ?_
        refine at_goto 12 X dX10_takeWord_44 (by decide) ?_
        rw [tp_w3]
        exact ih (a + 1) (by omega) (by rw [← hR]; conv => rhs; rw [wdE, if_pos h31])
  refine at_aload_n 1 X rfl rfl dX10_takeWord_0 rfl ?_
  refine m_getI 4 X f_X10_37 k_1 rn_1_5 dX10_takeWord_1 rfl ?_
  simp only [skT_1, skT_2, skT_3, tp_at, tp_st, tp_fk, tp_fp, tp_end, tp_size, tp_by, hn, Int.toNat_natCast]
  refine at_if_eq 7 8 X dX10_takeWord_4 rfl (by decide) (fun h4 => ?_) (fun h4 => ?_)
  · refine at_aload_n 9 X rfl rfl dX10_takeWord_8 rfl ?_
    refine at_callV 12 X _ 10 (ct_X10_skipBlanks hG E t n hn hn2) clX10 rfl k_1 mo_X10_skipBlanks w_947 vo_X10_skipBlanks.1 vo_X10_skipBlanks.2 rfl rfl (crm Rt (by decide)) (Nat.le_of_ble_eq_true rfl) dX10_takeWord_9 rfl ?_
    rintro _ _ ⟨rfl, rfl⟩
    exact L0 h4 (n - sk (E 2) n t.1 + 1) (sk (E 2) n t.1) (by omega) rfl
  · refine at_vret X Rt ⟨rfl, by unfold twT; rw [if_neg h4]⟩ (Nat.le_refl _) (Nat.le_refl _) dX10_takeWord_7
theorem dX10_takeNumber_0 : decode cX10_takeNumber 0 = .ok (.aload_n 0, 1) := by decide +kernel
theorem dX10_takeNumber_1 : decode cX10_takeNumber 1 = .ok (.getfield 37, 3) := by decide +kernel
theorem dX10_takeNumber_4 : decode cX10_takeNumber 4 = .ok (.ifCond .eq 5, 3) := by decide +kernel
theorem dX10_takeNumber_7 : decode cX10_takeNumber 7 = .ok (.iload_n 1, 1) := by decide +kernel
theorem dX10_takeNumber_8 : decode cX10_takeNumber 8 = .ok (.ireturn, 1) := by decide +kernel
theorem dX10_takeNumber_9 : decode cX10_takeNumber 9 = .ok (.aload_n 0, 1) := by decide +kernel
theorem dX10_takeNumber_10 : decode cX10_takeNumber 10 = .ok (.invokevirtual 40, 3) := by decide +kernel
theorem dX10_takeNumber_13 : decode cX10_takeNumber 13 = .ok (.iconst 0, 1) := by decide +kernel
theorem dX10_takeNumber_14 : decode cX10_takeNumber 14 = .ok (.istore_n 3, 1) := by decide +kernel
theorem dX10_takeNumber_15 : decode cX10_takeNumber 15 = .ok (.aload_n 0, 1) := by decide +kernel
theorem dX10_takeNumber_16 : decode cX10_takeNumber 16 = .ok (.getfield 31, 3) := by decide +kernel
theorem dX10_takeNumber_19 : decode cX10_takeNumber 19 = .ok (.aload_n 0, 1) := by decide +kernel
theorem dX10_takeNumber_20 : decode cX10_takeNumber 20 = .ok (.getfield 28, 3) := by decide +kernel
theorem dX10_takeNumber_23 : decode cX10_takeNumber 23 = .ok (.if_icmp .ge 50, 3) := by decide +kernel
theorem dX10_takeNumber_26 : decode cX10_takeNumber 26 = .ok (.aload_n 0, 1) := by decide +kernel
theorem dX10_takeNumber_27 : decode cX10_takeNumber 27 = .ok (.bipush 48, 2) := by decide +kernel
theorem dX10_takeNumber_29 : decode cX10_takeNumber 29 = .ok (.bipush 57, 2) := by decide +kernel
theorem dX10_takeNumber_31 : decode cX10_takeNumber 31 = .ok (.invokevirtual 43, 3) := by decide +kernel
theorem dX10_takeNumber_34 : decode cX10_takeNumber 34 = .ok (.ifCond .eq 39, 3) := by decide +kernel
theorem dX10_takeNumber_37 : decode cX10_takeNumber 37 = .ok (.iload_n 3, 1) := by decide +kernel
theorem dX10_takeNumber_38 : decode cX10_takeNumber 38 = .ok (.bipush 10, 2) := by decide +kernel
theorem dX10_takeNumber_40 : decode cX10_takeNumber 40 = .ok (.imul, 1) := by decide +kernel
theorem dX10_takeNumber_41 : decode cX10_takeNumber 41 = .ok (.aload_n 0, 1) := by decide +kernel
theorem dX10_takeNumber_42 : decode cX10_takeNumber 42 = .ok (.getfield 9, 3) := by decide +kernel
theorem dX10_takeNumber_45 : decode cX10_takeNumber 45 = .ok (.aload_n 0, 1) := by decide +kernel
theorem dX10_takeNumber_46 : decode cX10_takeNumber 46 = .ok (.getfield 31, 3) := by decide +kernel
theorem dX10_takeNumber_49 : decode cX10_takeNumber 49 = .ok (.baload, 1) := by decide +kernel
theorem dX10_takeNumber_50 : decode cX10_takeNumber 50 = .ok (.iadd, 1) := by decide +kernel
theorem dX10_takeNumber_51 : decode cX10_takeNumber 51 = .ok (.bipush 48, 2) := by decide +kernel
theorem dX10_takeNumber_53 : decode cX10_takeNumber 53 = .ok (.isub, 1) := by decide +kernel
theorem dX10_takeNumber_54 : decode cX10_takeNumber 54 = .ok (.ldc 51, 2) := by decide +kernel
theorem dX10_takeNumber_56 : decode cX10_takeNumber 56 = .ok (.invokestatic 22, 3) := by decide +kernel
theorem dX10_takeNumber_59 : decode cX10_takeNumber 59 = .ok (.istore_n 3, 1) := by decide +kernel
theorem dX10_takeNumber_60 : decode cX10_takeNumber 60 = .ok (.aload_n 0, 1) := by decide +kernel
theorem dX10_takeNumber_61 : decode cX10_takeNumber 61 = .ok (.dup, 1) := by decide +kernel
theorem dX10_takeNumber_62 : decode cX10_takeNumber 62 = .ok (.getfield 31, 3) := by decide +kernel
theorem dX10_takeNumber_65 : decode cX10_takeNumber 65 = .ok (.iconst 1, 1) := by decide +kernel
theorem dX10_takeNumber_66 : decode cX10_takeNumber 66 = .ok (.iadd, 1) := by decide +kernel
theorem dX10_takeNumber_67 : decode cX10_takeNumber 67 = .ok (.putfield 31, 3) := by decide +kernel
theorem dX10_takeNumber_70 : decode cX10_takeNumber 70 = .ok (.goto (-55), 3) := by decide +kernel
theorem dX10_takeNumber_73 : decode cX10_takeNumber 73 = .ok (.aload_n 0, 1) := by decide +kernel
theorem dX10_takeNumber_74 : decode cX10_takeNumber 74 = .ok (.getfield 31, 3) := by decide +kernel
theorem dX10_takeNumber_77 : decode cX10_takeNumber 77 = .ok (.aload_n 0, 1) := by decide +kernel
theorem dX10_takeNumber_78 : decode cX10_takeNumber 78 = .ok (.getfield 34, 3) := by decide +kernel
theorem dX10_takeNumber_81 : decode cX10_takeNumber 81 = .ok (.if_icmp .ne 10, 3) := by decide +kernel
theorem dX10_takeNumber_84 : decode cX10_takeNumber 84 = .ok (.aload_n 0, 1) := by decide +kernel
theorem dX10_takeNumber_85 : decode cX10_takeNumber 85 = .ok (.iconst 1, 1) := by decide +kernel
theorem dX10_takeNumber_86 : decode cX10_takeNumber 86 = .ok (.invokevirtual 47, 3) := by decide +kernel
theorem dX10_takeNumber_89 : decode cX10_takeNumber 89 = .ok (.iload_n 1, 1) := by decide +kernel
theorem dX10_takeNumber_90 : decode cX10_takeNumber 90 = .ok (.ireturn, 1) := by decide +kernel
theorem dX10_takeNumber_91 : decode cX10_takeNumber 91 = .ok (.iload_n 3, 1) := by decide +kernel
theorem dX10_takeNumber_92 : decode cX10_takeNumber 92 = .ok (.iload_n 1, 1) := by decide +kernel
theorem dX10_takeNumber_93 : decode cX10_takeNumber 93 = .ok (.iload_n 2, 1) := by decide +kernel
theorem dX10_takeNumber_94 : decode cX10_takeNumber 94 = .ok (.invokestatic 52, 3) := by decide +kernel
theorem dX10_takeNumber_97 : decode cX10_takeNumber 97 = .ok (.ifCond .ne 10, 3) := by decide +kernel
theorem dX10_takeNumber_100 : decode cX10_takeNumber 100 = .ok (.aload_n 0, 1) := by decide +kernel
theorem dX10_takeNumber_101 : decode cX10_takeNumber 101 = .ok (.iconst 2, 1) := by decide +kernel
theorem dX10_takeNumber_102 : decode cX10_takeNumber 102 = .ok (.invokevirtual 47, 3) := by decide +kernel
theorem dX10_takeNumber_105 : decode cX10_takeNumber 105 = .ok (.iload_n 1, 1) := by decide +kernel
theorem dX10_takeNumber_106 : decode cX10_takeNumber 106 = .ok (.ireturn, 1) := by decide +kernel
theorem dX10_takeNumber_107 : decode cX10_takeNumber 107 = .ok (.iload_n 3, 1) := by decide +kernel
theorem dX10_takeNumber_108 : decode cX10_takeNumber 108 = .ok (.ireturn, 1) := by decide +kernel
/-- the number that is read from a on, v having been read -/
def nmE (B : Nat → Int) (n a : Nat) (v : Int) : Nat × Int := if isA B n a 48 57 then nmE B n (a + 1) (if v * 10 + B a - 48 ≤ 1000000 then v * 10 + B a - 48 else 1000000) else (a, v)
termination_by n - a
decreasing_by rename_i h; have := h.1; omega
def takeT (B : Nat → Int) (n : Nat) (t : TS) (lo hi : Int) : Int × TS := if t.2.2.1 = 0 then (if (nmE B n (sk B n t.1) 0).1 = sk B n t.1 then (lo, flT ((nmE B n (sk B n t.1) 0).1, sk B n t.1, t.2.2) 1) else if lo ≤ (nmE B n (sk B n t.1) 0).2 ∧ (nmE B n (sk B n t.1) 0).2 ≤ hi then ((nmE B n (sk B n t.1) 0).2, ((nmE B n (sk B n t.1) 0).1, sk B n t.1, t.2.2)) else (lo, flT ((nmE B n (sk B n t.1) 0).1, sk B n t.1, t.2.2) 2)) else (lo, t)
theorem ct_X10_takeNumber {g : Gw} (hG : GF g) {z : Bool} (E : Mm) (t : TS) (n : Nat) (hn : E 1 2 = (n : Int)) (hn2 : n ≤ 600) (lo hi : Int) : CT g yX10_takeNumber cX10_takeNumber 4 (some .int) 1 22 0 0 K2 z [mR 1, mI lo, mI hi] (ov (tpE E t)) K2 z (fun r D' => r = some (mI (takeT (E 2) n t lo hi).1) ∧ D' = ov (tpE E (takeT (E 2) n t lo hi).2)) := by
  refine CT.mk hG (by decide +kernel) (Nat.le_of_ble_eq_true rfl) (fun κ X Rt _ ok => ?_)
  have L0 : t.2.2.1 = 0 → ∀ (f a : Nat) (v : Int), n - a < f → 0 ≤ v → v ≤ 1000000 → nmE (E 2) n a v = nmE (E 2) n (sk (E 2) n t.1) 0 → AT g κ K2 z 0 0 15 [(0, mR 1), (1, mI lo), (2, mI hi), (3, mI v)] [] (ov (tpE E (a, sk (E 2) n t.1, t.2.2))) := by
    intro h4 f
    induction f with
    | zero => intro a v h; omega
    | succ f ih =>
    intro a v hf hv0 hv1 hR
    refine at_aload_n 16 X rfl rfl dX10_takeNumber_15 rfl ?_
    refine m_getI 19 X f_X10_31 k_1 rn_1_3 dX10_takeNumber_16 rfl ?_
    refine at_aload_n 20 X rfl rfl dX10_takeNumber_19 rfl ?_
    refine m_getI 23 X f_X10_28 k_1 rn_1_2 dX10_takeNumber_20 rfl ?_
    simp only [tp_at, tp_end, hn]
    refine at_icmp_ge 26 73 X dX10_takeNumber_23 rfl (by decide) (fun h23 => ?_) (fun h23 => ?_)
    · have h34 : ¬ isA (E 2) n a 48 57 := fun q => by have := q.1; omega
      have hr : nmE (E 2) n (sk (E 2) n t.1) 0 = (a, v) := by rw [← hR, nmE, if_neg h34]
      refine at_aload_n 74 X rfl rfl dX10_takeNumber_73 rfl ?_
      refine m_getI 77 X f_X10_31 k_1 rn_1_3 dX10_takeNumber_74 rfl ?_
      refine at_aload_n 78 X rfl rfl dX10_takeNumber_77 rfl ?_
      refine m_getI 81 X f_X10_34 k_1 rn_1_4 dX10_takeNumber_78 rfl ?_
      simp only [tp_at, tp_st]
      refine at_icmp_ne 84 91 X dX10_takeNumber_81 rfl (by decide) (fun h81 => ?_) (fun h81 => ?_)
      · refine at_iload_n 92 X rfl rfl dX10_takeNumber_91 rfl ?_
        refine at_iload_n 93 X rfl rfl dX10_takeNumber_92 rfl ?_
        refine at_iload_n 94 X rfl rfl dX10_takeNumber_93 rfl ?_
        refine at_callSN 97 X (ct_X11_isWithin hG _ _ _) mo_X11_isWithin w_1049 so_X11_isWithin rfl rfl (crm Rt (by decide)) (Nat.le_of_ble_eq_true rfl) dX10_takeNumber_94 rfl ?_
        rintro _ _ ⟨rfl, rfl⟩
        refine at_if_ne 100 107 X dX10_takeNumber_97 rfl (by decide) (fun h97 => ?_) (fun h97 => ?_)
        · have h97 := ite_yes.mp h97
          refine at_iload_n 108 X rfl rfl dX10_takeNumber_107 rfl ?_
          refine at_iret X Rt ⟨by unfold takeT; rw [if_pos h4, hr, if_neg (by omega), if_pos h97], by unfold takeT; rw [if_pos h4, hr, if_neg (by omega), if_pos h97]⟩ (Nat.le_refl _) (Nat.le_refl _) dX10_takeNumber_108
        · have h97 := ite_no.mp h97
          refine at_aload_n 101 X rfl rfl dX10_takeNumber_100 rfl ?_
          refine at_iconst 102 X (by decide) dX10_takeNumber_101 rfl ?_
          refine at_callV 105 X _ 10 (ct_X10_fail hG E (a, sk (E 2) n t.1, t.2.2) 2) clX10 rfl k_1 mo_X10_fail w_1048 vo_X10_fail.1 vo_X10_fail.2 rfl rfl (crm Rt (by decide)) (Nat.le_of_ble_eq_true rfl) dX10_takeNumber_102 rfl ?_
          rintro _ _ ⟨rfl, rfl⟩
          refine at_iload_n 106 X rfl rfl dX10_takeNumber_105 rfl ?_
          refine at_iret X Rt ⟨by unfold takeT; rw [if_pos h4, hr, if_neg (by omega), if_neg h97], by unfold takeT; rw [if_pos h4, hr, if_neg (by omega), if_neg h97]⟩ (Nat.le_refl _) (Nat.le_refl _) dX10_takeNumber_106
      · refine at_aload_n 85 X rfl rfl dX10_takeNumber_84 rfl ?_
        refine at_iconst 86 X (by decide) dX10_takeNumber_85 rfl ?_
        refine at_callV 89 X _ 10 (ct_X10_fail hG E (a, sk (E 2) n t.1, t.2.2) 1) clX10 rfl k_1 mo_X10_fail w_1048 vo_X10_fail.1 vo_X10_fail.2 rfl rfl (crm Rt (by decide)) (Nat.le_of_ble_eq_true rfl) dX10_takeNumber_86 rfl ?_
        rintro _ _ ⟨rfl, rfl⟩
        refine at_iload_n 90 X rfl rfl dX10_takeNumber_89 rfl ?_
        refine at_iret X Rt ⟨by unfold takeT; rw [if_pos h4, hr, if_pos (by omega)], by unfold takeT; rw [if_pos h4, hr, if_pos (by omega)]⟩ (Nat.le_refl _) (Nat.le_refl _) dX10_takeNumber_90
    · refine at_aload_n 27 X rfl rfl dX10_takeNumber_26 rfl ?_
      refine at_bipush 29 X (by decide) (by decide) dX10_takeNumber_27 rfl ?_
      refine at_bipush 31 X (by decide) (by decide) dX10_takeNumber_29 rfl ?_
      refine at_callV 34 X _ 10 (ct_X10_isAt hG E (a, sk (E 2) n t.1, t.2.2) n hn hn2 _ _) clX10 rfl k_1 mo_X10_isAt w_959 vo_X10_isAt.1 vo_X10_isAt.2 rfl rfl (crm Rt (by decide)) (Nat.le_of_ble_eq_true rfl) dX10_takeNumber_31 rfl ?_
      rintro _ _ ⟨rfl, rfl⟩
      refine at_if_eq 37 73 X dX10_takeNumber_34 rfl (by decide) (fun h34 => ?_) (fun h34 => ?_)
      · have h34 : ¬ isA (E 2) n a 48 57 := ite_no.mp h34
        have hr : nmE (E 2) n (sk (E 2) n t.1) 0 = (a, v) := by rw [← hR, nmE, if_neg h34]
        refine at_aload_n 74 X rfl rfl dX10_takeNumber_73 rfl ?_
        refine m_getI 77 X f_X10_31 k_1 rn_1_3 dX10_takeNumber_74 rfl ?_
        refine at_aload_n 78 X rfl rfl dX10_takeNumber_77 rfl ?_
        refine m_getI 81 X f_X10_34 k_1 rn_1_4 dX10_takeNumber_78 rfl ?_
        simp only [tp_at, tp_st]
        refine at_icmp_ne 84 91 X dX10_takeNumber_81 rfl (by decide) (fun h81 => ?_) (fun h81 => ?_)
        · refine at_iload_n 92 X rfl rfl dX10_takeNumber_91 rfl ?_
          refine at_iload_n 93 X rfl rfl dX10_takeNumber_92 rfl ?_
          refine at_iload_n 94 X rfl rfl dX10_takeNumber_93 rfl ?_
          refine at_callSN 97 X (ct_X11_isWithin hG _ _ _) mo_X11_isWithin w_1049 so_X11_isWithin rfl rfl (crm Rt (by decide)) (Nat.le_of_ble_eq_true rfl) dX10_takeNumber_94 rfl ?_
          rintro _ _ ⟨rfl, rfl⟩
          refine at_if_ne 100 107 X dX10_takeNumber_97 rfl (by decide) (fun h97 => ?_) (fun h97 => ?_)
          · have h97 := ite_yes.mp h97
            refine at_iload_n 108 X rfl rfl dX10_takeNumber_107 rfl ?_
            refine at_iret X Rt ⟨by unfold takeT; rw [if_pos h4, hr, if_neg (by omega), if_pos h97], by unfold takeT; rw [if_pos h4, hr, if_neg (by omega), if_pos h97]⟩ (Nat.le_refl _) (Nat.le_refl _) dX10_takeNumber_108
          · have h97 := ite_no.mp h97
            refine at_aload_n 101 X rfl rfl dX10_takeNumber_100 rfl ?_
            refine at_iconst 102 X (by decide) dX10_takeNumber_101 rfl ?_
            refine at_callV 105 X _ 10 (ct_X10_fail hG E (a, sk (E 2) n t.1, t.2.2) 2) clX10 rfl k_1 mo_X10_fail w_1048 vo_X10_fail.1 vo_X10_fail.2 rfl rfl (crm Rt (by decide)) (Nat.le_of_ble_eq_true rfl) dX10_takeNumber_102 rfl ?_
            rintro _ _ ⟨rfl, rfl⟩
            refine at_iload_n 106 X rfl rfl dX10_takeNumber_105 rfl ?_
            refine at_iret X Rt ⟨by unfold takeT; rw [if_pos h4, hr, if_neg (by omega), if_neg h97], by unfold takeT; rw [if_pos h4, hr, if_neg (by omega), if_neg h97]⟩ (Nat.le_refl _) (Nat.le_refl _) dX10_takeNumber_106
        · refine at_aload_n 85 X rfl rfl dX10_takeNumber_84 rfl ?_
          refine at_iconst 86 X (by decide) dX10_takeNumber_85 rfl ?_
          refine at_callV 89 X _ 10 (ct_X10_fail hG E (a, sk (E 2) n t.1, t.2.2) 1) clX10 rfl k_1 mo_X10_fail w_1048 vo_X10_fail.1 vo_X10_fail.2 rfl rfl (crm Rt (by decide)) (Nat.le_of_ble_eq_true rfl) dX10_takeNumber_86 rfl ?_
          rintro _ _ ⟨rfl, rfl⟩
          refine at_iload_n 90 X rfl rfl dX10_takeNumber_89 rfl ?_
          refine at_iret X Rt ⟨by unfold takeT; rw [if_pos h4, hr, if_pos (by omega)], by unfold takeT; rw [if_pos h4, hr, if_pos (by omega)]⟩ (Nat.le_refl _) (Nat.le_refl _) dX10_takeNumber_90
      · have h34 : a < n ∧ 48 ≤ E 2 a ∧ E 2 a ≤ 57 := ite_yes.mp h34
        refine at_iload_n 38 X rfl rfl dX10_takeNumber_37 rfl ?_
        refine at_bipush 40 X (by decide) (by decide) dX10_takeNumber_38 rfl ?_
        refine at_imul 41 X dX10_takeNumber_40 rfl ?_
        rw [w32_id (by omega) (by omega)]
        refine at_aload_n 42 X rfl rfl dX10_takeNumber_41 rfl ?_
        refine m_getR 45 X f_X10_9 k_1 r_1_0 dX10_takeNumber_42 rfl ?_
        refine at_aload_n 46 X rfl rfl dX10_takeNumber_45 rfl ?_
        refine m_getI 49 X f_X10_31 k_1 rn_1_3 dX10_takeNumber_46 rfl ?_
        simp only [tp_at]
        refine m_baload 50 X k_2 e_2 (by omega) (by omega) dX10_takeNumber_49 rfl ?_
        simp only [tp_by, Int.toNat_natCast]
        refine at_iadd 51 X dX10_takeNumber_50 rfl ?_
        rw [w32_id (by omega) (by omega)]
        refine at_bipush 53 X (by decide) (by decide) dX10_takeNumber_51 rfl ?_
        refine at_isub 54 X dX10_takeNumber_53 rfl ?_
        rw [w32_id (by omega) (by omega)]
        refine at_ldc 56 X (n := 1000000) w_1047 (by decide) (by decide) dX10_takeNumber_54 rfl ?_
        refine at_min 59 X w_938 (by rw [Rt.1]; exact ⟨by decide, by decide, by decide, by decide⟩) dX10_takeNumber_56 rfl ?_
        refine at_istore_n 60 X rfl dX10_takeNumber_59 rfl (by decide) ?_
        refine at_aload_n 61 X rfl rfl dX10_takeNumber_60 rfl ?_
        refine at_dup 62 X (show ¬ (2 : Nat) = 1 by decide) dX10_takeNumber_61 rfl ?_
        refine m_getI 65 X f_X10_31 k_1 rn_1_3 dX10_takeNumber_62 rfl ?_
        refine at_iconst 66 X (by decide) dX10_takeNumber_65 rfl ?_
        refine at_iadd 67 X dX10_takeNumber_66 rfl ?_
        simp only [tp_at]
        rw [w32_id (by omega) (by omega), show (a : Int) + 1 = ((a + 1 : Nat) : Int) from rfl]
        refine m_putI 70 X f_X10_31 fw_10_3 k_1 rn_1_3 dX10_takeNumber_67 rfl ?_
        refine at_goto 15 X dX10_takeNumber_70 (by decide) ?_
        rw [tp_w3]
        exact at_sub _ (by exact ⟨rfl, rfl, rfl, rfl, trivial⟩) (ih (a + 1) _ (by omega) (by split <;> omega) (by split <;> omega) (by rw [← hR]; conv => rhs; rw [nmE, if_pos h34]))
  refine at_aload_n 1 X rfl rfl dX10_takeNumber_0 rfl ?_
  refine m_getI 4 X f_X10_37 k_1 rn_1_5 dX10_takeNumber_1 rfl ?_
  simp only [skT_1, skT_2, skT_3, tp_at, tp_st, tp_fk, tp_fp, tp_end, tp_size, tp_by, hn, Int.toNat_natCast]
  refine at_if_eq 7 9 X dX10_takeNumber_4 rfl (by decide) (fun h4 => ?_) (fun h4 => ?_)
  · refine at_aload_n 10 X rfl rfl dX10_takeNumber_9 rfl ?_
    refine at_callV 13 X _ 10 (ct_X10_skipBlanks hG E t n hn hn2) clX10 rfl k_1 mo_X10_skipBlanks w_947 vo_X10_skipBlanks.1 vo_X10_skipBlanks.2 rfl rfl (crm Rt (by decide)) (Nat.le_of_ble_eq_true rfl) dX10_takeNumber_10 rfl ?_
    rintro _ _ ⟨rfl, rfl⟩
    refine at_iconst 14 X (by decide) dX10_takeNumber_13 rfl ?_
    refine at_istore_n 15 X rfl dX10_takeNumber_14 rfl (by decide) ?_
    exact at_sub _ (by exact ⟨rfl, rfl, rfl, rfl, trivial⟩) (L0 h4 (n - sk (E 2) n t.1 + 1) (sk (E 2) n t.1) 0 (by omega) (by decide) (by decide) rfl)
  · refine at_iload_n 8 X rfl rfl dX10_takeNumber_7 rfl ?_
    refine at_iret X Rt ⟨by unfold takeT; rw [if_neg h4], by unfold takeT; rw [if_neg h4]⟩ (Nat.le_refl _) (Nat.le_refl _) dX10_takeNumber_8
