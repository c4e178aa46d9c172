theorem dX12_told_0 : decode cX12_told 0 = .ok (.aload_n 0, 1) := by decide +kernel
theorem dX12_told_1 : decode cX12_told 1 = .ok (.iconst 0, 1) := by decide +kernel
theorem dX12_told_2 : decode cX12_told 2 = .ok (.putfield 152, 3) := by decide +kernel
theorem dX12_told_5 : decode cX12_told 5 = .ok (.aload_n 0, 1) := by decide +kernel
theorem dX12_told_6 : decode cX12_told 6 = .ok (.iload_n 1, 1) := by decide +kernel
theorem dX12_told_7 : decode cX12_told 7 = .ok (.iconst 0, 1) := by decide +kernel
theorem dX12_told_8 : decode cX12_told 8 = .ok (.bipush 8, 2) := by decide +kernel
theorem dX12_told_10 : decode cX12_told 10 = .ok (.invokestatic 186, 3) := by decide +kernel
theorem dX12_told_13 : decode cX12_told 13 = .ok (.ifCond .ne 7, 3) := by decide +kernel
theorem dX12_told_16 : decode cX12_told 16 = .ok (.iconst 1, 1) := by decide +kernel
theorem dX12_told_17 : decode cX12_told 17 = .ok (.goto 4, 3) := by decide +kernel
theorem dX12_told_20 : decode cX12_told 20 = .ok (.iconst 0, 1) := by decide +kernel
theorem dX12_told_21 : decode cX12_told 21 = .ok (.iconst 1, 1) := by decide +kernel
theorem dX12_told_22 : decode cX12_told 22 = .ok (.iconst 2, 1) := by decide +kernel
theorem dX12_told_23 : decode cX12_told 23 = .ok (.invokevirtual 244, 3) := by decide +kernel
theorem dX12_told_26 : decode cX12_told 26 = .ok (.ifCond .eq 5, 3) := by decide +kernel
theorem dX12_told_29 : decode cX12_told 29 = .ok (.iconst 0, 1) := by decide +kernel
theorem dX12_told_30 : decode cX12_told 30 = .ok (.ireturn, 1) := by decide +kernel
theorem dX12_told_31 : decode cX12_told 31 = .ok (.iload_n 1, 1) := by decide +kernel
theorem dX12_told_32 : decode cX12_told 32 = .ok (.tableswitch 94 0 7 #[48, 48, 55, 63, 70, 77, 84, 89], 48) := by decide +kernel
theorem dX12_told_80 : decode cX12_told 80 = .ok (.aload_n 0, 1) := by decide +kernel
theorem dX12_told_81 : decode cX12_told 81 = .ok (.getfield 23, 3) := by decide +kernel
theorem dX12_told_84 : decode cX12_told 84 = .ok (.iload_n 1, 1) := by decide +kernel
theorem dX12_told_85 : decode cX12_told 85 = .ok (.iaload, 1) := by decide +kernel
theorem dX12_told_86 : decode cX12_told 86 = .ok (.ireturn, 1) := by decide +kernel
theorem dX12_told_87 : decode cX12_told 87 = .ok (.aload_n 0, 1) := by decide +kernel
theorem dX12_told_88 : decode cX12_told 88 = .ok (.getfield 23, 3) := by decide +kernel
theorem dX12_told_91 : decode cX12_told 91 = .ok (.bipush 6, 2) := by decide +kernel
theorem dX12_told_93 : decode cX12_told 93 = .ok (.iaload, 1) := by decide +kernel
theorem dX12_told_94 : decode cX12_told 94 = .ok (.ireturn, 1) := by decide +kernel
theorem dX12_told_95 : decode cX12_told 95 = .ok (.aload_n 0, 1) := by decide +kernel
theorem dX12_told_96 : decode cX12_told 96 = .ok (.getfield 23, 3) := by decide +kernel
theorem dX12_told_99 : decode cX12_told 99 = .ok (.iconst 5, 1) := by decide +kernel
theorem dX12_told_100 : decode cX12_told 100 = .ok (.iaload, 1) := by decide +kernel
theorem dX12_told_101 : decode cX12_told 101 = .ok (.ireturn, 1) := by decide +kernel
theorem dX12_told_102 : decode cX12_told 102 = .ok (.aload_n 0, 1) := by decide +kernel
theorem dX12_told_103 : decode cX12_told 103 = .ok (.getfield 23, 3) := by decide +kernel
theorem dX12_told_106 : decode cX12_told 106 = .ok (.iconst 4, 1) := by decide +kernel
theorem dX12_told_107 : decode cX12_told 107 = .ok (.iaload, 1) := by decide +kernel
theorem dX12_told_108 : decode cX12_told 108 = .ok (.ireturn, 1) := by decide +kernel
theorem dX12_told_109 : decode cX12_told 109 = .ok (.aload_n 0, 1) := by decide +kernel
theorem dX12_told_110 : decode cX12_told 110 = .ok (.getfield 23, 3) := by decide +kernel
theorem dX12_told_113 : decode cX12_told 113 = .ok (.iconst 3, 1) := by decide +kernel
theorem dX12_told_114 : decode cX12_told 114 = .ok (.iaload, 1) := by decide +kernel
theorem dX12_told_115 : decode cX12_told 115 = .ok (.ireturn, 1) := by decide +kernel
theorem dX12_told_116 : decode cX12_told 116 = .ok (.aload_n 0, 1) := by decide +kernel
theorem dX12_told_117 : decode cX12_told 117 = .ok (.getfield 261, 3) := by decide +kernel
theorem dX12_told_120 : decode cX12_told 120 = .ok (.ireturn, 1) := by decide +kernel
theorem dX12_told_121 : decode cX12_told 121 = .ok (.aload_n 0, 1) := by decide +kernel
theorem dX12_told_122 : decode cX12_told 122 = .ok (.getfield 264, 3) := by decide +kernel
theorem dX12_told_125 : decode cX12_told 125 = .ok (.ireturn, 1) := by decide +kernel
theorem dX12_told_126 : decode cX12_told 126 = .ok (.aload_n 0, 1) := by decide +kernel
theorem dX12_told_127 : decode cX12_told 127 = .ok (.getfield 267, 3) := by decide +kernel
theorem dX12_told_130 : decode cX12_told 130 = .ok (.ireturn, 1) := by decide +kernel
theorem badE_no {E : Mm} {w : Int} {k : Nat} : badE E 0 w k = E := if_neg (fun h => h.1 rfl)
theorem badE_yes {E : Mm} {w : Int} {k : Nat} (h : E 125 0 = 0) : badE E 1 w k = wr (wr E 125 0 w) 127 k (w32 (E 127 k + 1)) := if_pos ⟨by decide, h⟩
theorem badE_th {E : Mm} {w : Int} {k : Nat} (h : E 125 0 = 0) (hw : ¬ w = 0) : ¬ badE E 1 w k 125 0 = 0 := by
  rw [badE_yes h, wr_o (Or.inl (by decide)), wr_s]
  exact hw
def toldM (E : Mm) (x : Int) : Int := if x ≤ 1 then E 129 x.toNat else if x = 2 then E 129 6 else if x = 3 then E 129 5 else if x = 4 then E 129 4 else if x = 5 then E 129 3 else if x = 6 then E 125 43 else if x = 7 then E 125 44 else E 125 45
theorem ct_X12_told {g : Gw} (hG : GF g) {z : Bool} (E : Mm) (x : Int) : CT g yX12_told cX12_told 2 (some .int) 1 23 0 0 K2 z [mR 125, mI x] (ov (E)) K2 z (fun r D' => r = some (mI (if 0 ≤ x ∧ x ≤ 8 then toldM E x else 0)) ∧ D' = ov (if 0 ≤ x ∧ x ≤ 8 then wr E 125 0 0 else badE (wr E 125 0 0) 1 1 2)) := by
  refine CT.mk hG (by decide +kernel) (Nat.le_of_ble_eq_true rfl) (fun κ X Rt _ ok => ?_)
  refine at_aload_n 1 X rfl rfl dX12_told_0 rfl ?_
  refine at_iconst 2 X (by decide) dX12_told_1 rfl ?_
  refine m_putI 5 X f_X12_152 fw_12_0 k_125 rn_125_0 dX12_told_2 rfl ?_
  refine at_aload_n 6 X rfl rfl dX12_told_5 rfl ?_
  refine at_iload_n 7 X rfl rfl dX12_told_6 rfl ?_
  refine at_iconst 8 X (by decide) dX12_told_7 rfl ?_
  refine at_bipush 10 X (by decide) (by decide) dX12_told_8 rfl ?_
  refine at_callS 13 X (ct_X12_in hG _ _ _) mo_X12_in w_1957 so_X12_in rfl rfl (crm Rt (by decide)) (Nat.le_of_ble_eq_true rfl) dX12_told_10 rfl ?_
  rintro _ _ ⟨rfl, rfl⟩
  refine at_if_ne 16 20 X dX12_told_13 rfl (by decide) (fun h13 => ?_) (fun h13 => ?_)
  · have h13 := ite_yes.mp h13
    refine at_iconst 21 X (by decide) dX12_told_20 rfl ?_
    refine at_iconst 22 X (by decide) dX12_told_21 rfl ?_
    refine at_iconst 23 X (by decide) dX12_told_22 rfl ?_
    refine at_callV 26 X _ 12 (ct_X12_bad hG _ _ _ 2 (by decide)) clX12 rfl k_125 mo_X12_bad w_1960 vo_X12_bad.1 vo_X12_bad.2 rfl rfl (crm Rt (by decide)) (Nat.le_of_ble_eq_true rfl) dX12_told_23 rfl ?_
    rintro _ _ ⟨rfl, rfl⟩
    first
    | rw [badE_no, if_pos (wr_s _ _ _ _)]
    | rw [if_neg (badE_th (wr_s _ _ _ _) (by decide))]
    refine at_if_eq 29 31 X dX12_told_26 rfl (by decide) (fun h26 => ?_) (fun h26 => ?_)
    · refine at_iload_n 32 X rfl rfl dX12_told_31 rfl ?_
      rcases (show x = 0 ∨ x = 1 ∨ x = 2 ∨ x = 3 ∨ x = 4 ∨ x = 5 ∨ x = 6 ∨ x = 7 ∨ (x < 0 ∨ 7 < x) by omega) with h32 | h32 | h32 | h32 | h32 | h32 | h32 | h32 | h32
      · refine at_tswIn 80 X dX12_told_32 (by omega) (by rw [h32]; rfl) (by decide) ?_
        refine at_aload_n 81 X rfl rfl dX12_told_80 rfl ?_
        refine m_getR 84 X f_X12_23 k_125 r_125_12 dX12_told_81 rfl ?_
        refine at_iload_n 85 X rfl rfl dX12_told_84 rfl ?_
        refine m_iaload 86 X k_129 e_129 (by omega) (by omega) dX12_told_85 rfl ?_
        first | rw [wr_o (Or.inl (by decide))] | skip
        refine at_iret X Rt ⟨by first | (exfalso; omega) | (rw [if_pos (by omega)]; unfold toldM; subst_vars; repeat (first | rfl | rw [if_pos (by omega)] | rw [if_neg (by omega)])), by first | (exfalso; omega) | rw [if_pos (by omega)]⟩ (Nat.le_refl _) (Nat.le_refl _) dX12_told_86
      · refine at_tswIn 80 X dX12_told_32 (by omega) (by rw [h32]; rfl) (by decide) ?_
        refine at_aload_n 81 X rfl rfl dX12_told_80 rfl ?_
        refine m_getR 84 X f_X12_23 k_125 r_125_12 dX12_told_81 rfl ?_
        refine at_iload_n 85 X rfl rfl dX12_told_84 rfl ?_
        refine m_iaload 86 X k_129 e_129 (by omega) (by omega) dX12_told_85 rfl ?_
        first | rw [wr_o (Or.inl (by decide))] | skip
        refine at_iret X Rt ⟨by first | (exfalso; omega) | (rw [if_pos (by omega)]; unfold toldM; subst_vars; repeat (first | rfl | rw [if_pos (by omega)] | rw [if_neg (by omega)])), by first | (exfalso; omega) | rw [if_pos (by omega)]⟩ (Nat.le_refl _) (Nat.le_refl _) dX12_told_86
      · refine at_tswIn 87 X dX12_told_32 (by omega) (by rw [h32]; rfl) (by decide) ?_
        refine at_aload_n 88 X rfl rfl dX12_told_87 rfl ?_
        refine m_getR 91 X f_X12_23 k_125 r_125_12 dX12_told_88 rfl ?_
        refine at_bipush 93 X (by decide) (by decide) dX12_told_91 rfl ?_
        refine m_iaload 94 X k_129 e_129 (by omega) (by omega) dX12_told_93 rfl ?_
        first | rw [wr_o (Or.inl (by decide))] | skip
        refine at_iret X Rt ⟨by first | (exfalso; omega) | (rw [if_pos (by omega)]; unfold toldM; subst_vars; repeat (first | rfl | rw [if_pos (by omega)] | rw [if_neg (by omega)])), by first | (exfalso; omega) | rw [if_pos (by omega)]⟩ (Nat.le_refl _) (Nat.le_refl _) dX12_told_94
      · refine at_tswIn 95 X dX12_told_32 (by omega) (by rw [h32]; rfl) (by decide) ?_
        refine at_aload_n 96 X rfl rfl dX12_told_95 rfl ?_
        refine m_getR 99 X f_X12_23 k_125 r_125_12 dX12_told_96 rfl ?_
        refine at_iconst 100 X (by decide) dX12_told_99 rfl ?_
        refine m_iaload 101 X k_129 e_129 (by omega) (by omega) dX12_told_100 rfl ?_
        first | rw [wr_o (Or.inl (by decide))] | skip
        refine at_iret X Rt ⟨by first | (exfalso; omega) | (rw [if_pos (by omega)]; unfold toldM; subst_vars; repeat (first | rfl | rw [if_pos (by omega)] | rw [if_neg (by omega)])), by first | (exfalso; omega) | rw [if_pos (by omega)]⟩ (Nat.le_refl _) (Nat.le_refl _) dX12_told_101
      · refine at_tswIn 102 X dX12_told_32 (by omega) (by rw [h32]; rfl) (by decide) ?_
        refine at_aload_n 103 X rfl rfl dX12_told_102 rfl ?_
        refine m_getR 106 X f_X12_23 k_125 r_125_12 dX12_told_103 rfl ?_
        refine at_iconst 107 X (by decide) dX12_told_106 rfl ?_
        refine m_iaload 108 X k_129 e_129 (by omega) (by omega) dX12_told_107 rfl ?_
        first | rw [wr_o (Or.inl (by decide))] | skip
        refine at_iret X Rt ⟨by first | (exfalso; omega) | (rw [if_pos (by omega)]; unfold toldM; subst_vars; repeat (first | rfl | rw [if_pos (by omega)] | rw [if_neg (by omega)])), by first | (exfalso; omega) | rw [if_pos (by omega)]⟩ (Nat.le_refl _) (Nat.le_refl _) dX12_told_108
      · refine at_tswIn 109 X dX12_told_32 (by omega) (by rw [h32]; rfl) (by decide) ?_
        refine at_aload_n 110 X rfl rfl dX12_told_109 rfl ?_
        refine m_getR 113 X f_X12_23 k_125 r_125_12 dX12_told_110 rfl ?_
        refine at_iconst 114 X (by decide) dX12_told_113 rfl ?_
        refine m_iaload 115 X k_129 e_129 (by omega) (by omega) dX12_told_114 rfl ?_
        first | rw [wr_o (Or.inl (by decide))] | skip
        refine at_iret X Rt ⟨by first | (exfalso; omega) | (rw [if_pos (by omega)]; unfold toldM; subst_vars; repeat (first | rfl | rw [if_pos (by omega)] | rw [if_neg (by omega)])), by first | (exfalso; omega) | rw [if_pos (by omega)]⟩ (Nat.le_refl _) (Nat.le_refl _) dX12_told_115
      · refine at_tswIn 116 X dX12_told_32 (by omega) (by rw [h32]; rfl) (by decide) ?_
        refine at_aload_n 117 X rfl rfl dX12_told_116 rfl ?_
        refine m_getI 120 X f_X12_261 k_125 rn_125_43 dX12_told_117 rfl ?_
        first | rw [wr_o (Or.inr (by decide))] | skip
        refine at_iret X Rt ⟨by first | (exfalso; omega) | (rw [if_pos (by omega)]; unfold toldM; subst_vars; repeat (first | rfl | rw [if_pos (by omega)] | rw [if_neg (by omega)])), by first | (exfalso; omega) | rw [if_pos (by omega)]⟩ (Nat.le_refl _) (Nat.le_refl _) dX12_told_120
      · refine at_tswIn 121 X dX12_told_32 (by omega) (by rw [h32]; rfl) (by decide) ?_
        refine at_aload_n 122 X rfl rfl dX12_told_121 rfl ?_
        refine m_getI 125 X f_X12_264 k_125 rn_125_44 dX12_told_122 rfl ?_
        first | rw [wr_o (Or.inr (by decide))] | skip
        refine at_iret X Rt ⟨by first | (exfalso; omega) | (rw [if_pos (by omega)]; unfold toldM; subst_vars; repeat (first | rfl | rw [if_pos (by omega)] | rw [if_neg (by omega)])), by first | (exfalso; omega) | rw [if_pos (by omega)]⟩ (Nat.le_refl _) (Nat.le_refl _) dX12_told_125
      · refine at_tswOut 126 X dX12_told_32 h32 (by decide) ?_
        refine at_aload_n 127 X rfl rfl dX12_told_126 rfl ?_
        refine m_getI 130 X f_X12_267 k_125 rn_125_45 dX12_told_127 rfl ?_
        first | rw [wr_o (Or.inr (by decide))] | skip
        refine at_iret X Rt ⟨by first | (exfalso; omega) | (rw [if_pos (by omega)]; unfold toldM; subst_vars; repeat (first | rfl | rw [if_pos (by omega)] | rw [if_neg (by omega)])), by first | (exfalso; omega) | rw [if_pos (by omega)]⟩ (Nat.le_refl _) (Nat.le_refl _) dX12_told_130
    · refine at_iconst 30 X (by decide) dX12_told_29 rfl ?_
      refine at_iret X Rt ⟨by first | (exfalso; omega) | rw [if_neg (by omega)], by first | (exfalso; omega) | rw [if_neg (by omega)]⟩ (Nat.le_refl _) (Nat.le_refl _) dX12_told_30
  · have h13 := ite_no.mp h13
    refine at_iconst 17 X (by decide) dX12_told_16 rfl ?_
    refine at_goto 21 X dX12_told_17 (by decide) ?_
    refine at_iconst 22 X (by decide) dX12_told_21 rfl ?_
    refine at_iconst 23 X (by decide) dX12_told_22 rfl ?_
    refine at_callV 26 X _ 12 (ct_X12_bad hG _ _ _ 2 (by decide)) clX12 rfl k_125 mo_X12_bad w_1960 vo_X12_bad.1 vo_X12_bad.2 rfl rfl (crm Rt (by decide)) (Nat.le_of_ble_eq_true rfl) dX12_told_23 rfl ?_
    rintro _ _ ⟨rfl, rfl⟩
    first
    | rw [badE_no, if_pos (wr_s _ _ _ _)]
    | rw [if_neg (badE_th (wr_s _ _ _ _) (by decide))]
    refine at_if_eq 29 31 X dX12_told_26 rfl (by decide) (fun h26 => ?_) (fun h26 => ?_)
    · refine at_iload_n 32 X rfl rfl dX12_told_31 rfl ?_
      rcases (show x = 0 ∨ x = 1 ∨ x = 2 ∨ x = 3 ∨ x = 4 ∨ x = 5 ∨ x = 6 ∨ x = 7 ∨ (x < 0 ∨ 7 < x) by omega) with h32 | h32 | h32 | h32 | h32 | h32 | h32 | h32 | h32
      · refine at_tswIn 80 X dX12_told_32 (by omega) (by rw [h32]; rfl) (by decide) ?_
        refine at_aload_n 81 X rfl rfl dX12_told_80 rfl ?_
        refine m_getR 84 X f_X12_23 k_125 r_125_12 dX12_told_81 rfl ?_
        refine at_iload_n 85 X rfl rfl dX12_told_84 rfl ?_
        refine m_iaload 86 X k_129 e_129 (by omega) (by omega) dX12_told_85 rfl ?_
        first | rw [wr_o (Or.inl (by decide))] | skip
        refine at_iret X Rt ⟨by first | (exfalso; omega) | (rw [if_pos (by omega)]; unfold toldM; subst_vars; repeat (first | rfl | rw [if_pos (by omega)] | rw [if_neg (by omega)])), by first | (exfalso; omega) | rw [if_pos (by omega)]⟩ (Nat.le_refl _) (Nat.le_refl _) dX12_told_86
      · refine at_tswIn 80 X dX12_told_32 (by omega) (by rw [h32]; rfl) (by decide) ?_
        refine at_aload_n 81 X rfl rfl dX12_told_80 rfl ?_
        refine m_getR 84 X f_X12_23 k_125 r_125_12 dX12_told_81 rfl ?_
        refine at_iload_n 85 X rfl rfl dX12_told_84 rfl ?_
        refine m_iaload 86 X k_129 e_129 (by omega) (by omega) dX12_told_85 rfl ?_
        first | rw [wr_o (Or.inl (by decide))] | skip
        refine at_iret X Rt ⟨by first | (exfalso; omega) | (rw [if_pos (by omega)]; unfold toldM; subst_vars; repeat (first | rfl | rw [if_pos (by omega)] | rw [if_neg (by omega)])), by first | (exfalso; omega) | rw [if_pos (by omega)]⟩ (Nat.le_refl _) (Nat.le_refl _) dX12_told_86
      · refine at_tswIn 87 X dX12_told_32 (by omega) (by rw [h32]; rfl) (by decide) ?_
        refine at_aload_n 88 X rfl rfl dX12_told_87 rfl ?_
        refine m_getR 91 X f_X12_23 k_125 r_125_12 dX12_told_88 rfl ?_
        refine at_bipush 93 X (by decide) (by decide) dX12_told_91 rfl ?_
        refine m_iaload 94 X k_129 e_129 (by omega) (by omega) dX12_told_93 rfl ?_
        first | rw [wr_o (Or.inl (by decide))] | skip
        refine at_iret X Rt ⟨by first | (exfalso; omega) | (rw [if_pos (by omega)]; unfold toldM; subst_vars; repeat (first | rfl | rw [if_pos (by omega)] | rw [if_neg (by omega)])), by first | (exfalso; omega) | rw [if_pos (by omega)]⟩ (Nat.le_refl _) (Nat.le_refl _) dX12_told_94
      · refine at_tswIn 95 X dX12_told_32 (by omega) (by rw [h32]; rfl) (by decide) ?_
        refine at_aload_n 96 X rfl rfl dX12_told_95 rfl ?_
        refine m_getR 99 X f_X12_23 k_125 r_125_12 dX12_told_96 rfl ?_
        refine at_iconst 100 X (by decide) dX12_told_99 rfl ?_
        refine m_iaload 101 X k_129 e_129 (by omega) (by omega) dX12_told_100 rfl ?_
        first | rw [wr_o (Or.inl (by decide))] | skip
        refine at_iret X Rt ⟨by first | (exfalso; omega) | (rw [if_pos (by omega)]; unfold toldM; subst_vars; repeat (first | rfl | rw [if_pos (by omega)] | rw [if_neg (by omega)])), by first | (exfalso; omega) | rw [if_pos (by omega)]⟩ (Nat.le_refl _) (Nat.le_refl _) dX12_told_101
      · refine at_tswIn 102 X dX12_told_32 (by omega) (by rw [h32]; rfl) (by decide) ?_
        refine at_aload_n 103 X rfl rfl dX12_told_102 rfl ?_
        refine m_getR 106 X f_X12_23 k_125 r_125_12 dX12_told_103 rfl ?_
        refine at_iconst 107 X (by decide) dX12_told_106 rfl ?_
        refine m_iaload 108 X k_129 e_129 (by omega) (by omega) dX12_told_107 rfl ?_
        first | rw [wr_o (Or.inl (by decide))] | skip
        refine at_iret X Rt ⟨by first | (exfalso; omega) | (rw [if_pos (by omega)]; unfold toldM; subst_vars; repeat (first | rfl | rw [if_pos (by omega)] | rw [if_neg (by omega)])), by first | (exfalso; omega) | rw [if_pos (by omega)]⟩ (Nat.le_refl _) (Nat.le_refl _) dX12_told_108
      · refine at_tswIn 109 X dX12_told_32 (by omega) (by rw [h32]; rfl) (by decide) ?_
        refine at_aload_n 110 X rfl rfl dX12_told_109 rfl ?_
        refine m_getR 113 X f_X12_23 k_125 r_125_12 dX12_told_110 rfl ?_
        refine at_iconst 114 X (by decide) dX12_told_113 rfl ?_
        refine m_iaload 115 X k_129 e_129 (by omega) (by omega) dX12_told_114 rfl ?_
        first | rw [wr_o (Or.inl (by decide))] | skip
        refine at_iret X Rt ⟨by first | (exfalso; omega) | (rw [if_pos (by omega)]; unfold toldM; subst_vars; repeat (first | rfl | rw [if_pos (by omega)] | rw [if_neg (by omega)])), by first | (exfalso; omega) | rw [if_pos (by omega)]⟩ (Nat.le_refl _) (Nat.le_refl _) dX12_told_115
      · refine at_tswIn 116 X dX12_told_32 (by omega) (by rw [h32]; rfl) (by decide) ?_
        refine at_aload_n 117 X rfl rfl dX12_told_116 rfl ?_
        refine m_getI 120 X f_X12_261 k_125 rn_125_43 dX12_told_117 rfl ?_
        first | rw [wr_o (Or.inr (by decide))] | skip
        refine at_iret X Rt ⟨by first | (exfalso; omega) | (rw [if_pos (by omega)]; unfold toldM; subst_vars; repeat (first | rfl | rw [if_pos (by omega)] | rw [if_neg (by omega)])), by first | (exfalso; omega) | rw [if_pos (by omega)]⟩ (Nat.le_refl _) (Nat.le_refl _) dX12_told_120
      · refine at_tswIn 121 X dX12_told_32 (by omega) (by rw [h32]; rfl) (by decide) ?_
        refine at_aload_n 122 X rfl rfl dX12_told_121 rfl ?_
        refine m_getI 125 X f_X12_264 k_125 rn_125_44 dX12_told_122 rfl ?_
        first | rw [wr_o (Or.inr (by decide))] | skip
        refine at_iret X Rt ⟨by first | (exfalso; omega) | (rw [if_pos (by omega)]; unfold toldM; subst_vars; repeat (first | rfl | rw [if_pos (by omega)] | rw [if_neg (by omega)])), by first | (exfalso; omega) | rw [if_pos (by omega)]⟩ (Nat.le_refl _) (Nat.le_refl _) dX12_told_125
      · refine at_tswOut 126 X dX12_told_32 h32 (by decide) ?_
        refine at_aload_n 127 X rfl rfl dX12_told_126 rfl ?_
        refine m_getI 130 X f_X12_267 k_125 rn_125_45 dX12_told_127 rfl ?_
        first | rw [wr_o (Or.inr (by decide))] | skip
        refine at_iret X Rt ⟨by first | (exfalso; omega) | (rw [if_pos (by omega)]; unfold toldM; subst_vars; repeat (first | rfl | rw [if_pos (by omega)] | rw [if_neg (by omega)])), by first | (exfalso; omega) | rw [if_pos (by omega)]⟩ (Nat.le_refl _) (Nat.le_refl _) dX12_told_130
    · refine at_iconst 30 X (by decide) dX12_told_29 rfl ?_
      refine at_iret X Rt ⟨by first | (exfalso; omega) | rw [if_neg (by omega)], by first | (exfalso; omega) | rw [if_neg (by omega)]⟩ (Nat.le_refl _) (Nat.le_refl _) dX12_told_30
