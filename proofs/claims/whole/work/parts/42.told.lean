theorem dX12_bad_0 : decode cX12_bad 0 = .ok (.iload_n 1, 1) := by decide +kernel
theorem dX12_bad_1 : decode cX12_bad 1 = .ok (.ifCond .eq 25, 3) := by decide +kernel
theorem dX12_bad_4 : decode cX12_bad 4 = .ok (.aload_n 0, 1) := by decide +kernel
theorem dX12_bad_5 : decode cX12_bad 5 = .ok (.getfield 152, 3) := by decide +kernel
theorem dX12_bad_8 : decode cX12_bad 8 = .ok (.ifCond .ne 18, 3) := by decide +kernel
theorem dX12_bad_11 : decode cX12_bad 11 = .ok (.aload_n 0, 1) := by decide +kernel
theorem dX12_bad_12 : decode cX12_bad 12 = .ok (.iload_n 2, 1) := by decide +kernel
theorem dX12_bad_13 : decode cX12_bad 13 = .ok (.putfield 152, 3) := by decide +kernel
theorem dX12_bad_16 : decode cX12_bad 16 = .ok (.aload_n 0, 1) := by decide +kernel
theorem dX12_bad_17 : decode cX12_bad 17 = .ok (.getfield 17, 3) := by decide +kernel
theorem dX12_bad_20 : decode cX12_bad 20 = .ok (.iload_n 3, 1) := by decide +kernel
theorem dX12_bad_21 : decode cX12_bad 21 = .ok (.dup2, 1) := by decide +kernel
theorem dX12_bad_22 : decode cX12_bad 22 = .ok (.iaload, 1) := by decide +kernel
theorem dX12_bad_23 : decode cX12_bad 23 = .ok (.iconst 1, 1) := by decide +kernel
theorem dX12_bad_24 : decode cX12_bad 24 = .ok (.iadd, 1) := by decide +kernel
theorem dX12_bad_25 : decode cX12_bad 25 = .ok (.iastore, 1) := by decide +kernel
theorem dX12_bad_26 : decode cX12_bad 26 = .ok (.aload_n 0, 1) := by decide +kernel
theorem dX12_bad_27 : decode cX12_bad 27 = .ok (.getfield 152, 3) := by decide +kernel
theorem dX12_bad_30 : decode cX12_bad 30 = .ok (.ifCond .eq 7, 3) := by decide +kernel
theorem dX12_bad_33 : decode cX12_bad 33 = .ok (.iconst 1, 1) := by decide +kernel
theorem dX12_bad_34 : decode cX12_bad 34 = .ok (.goto 4, 3) := by decide +kernel
theorem dX12_bad_37 : decode cX12_bad 37 = .ok (.iconst 0, 1) := by decide +kernel
theorem dX12_bad_38 : decode cX12_bad 38 = .ok (.ireturn, 1) := by decide +kernel
theorem ct_X12_bad {g : Gw} (hG : GF g) {z : Bool} (E : Mm) (is wh : Int) (k : Nat) (hk : k < 3) : CT g yX12_bad cX12_bad 4 (some .boolean) 0 0 0 0 K2 z [mR 125, mI is, mI wh, mI (k : Int)] (ov (E)) K2 z (fun r D' => r = some (mI (if badE E is wh k 125 0 = 0 then 0 else 1)) ∧ D' = ov (badE E is wh k)) := by
  refine CT.mk hG (by decide +kernel) (Nat.le_of_ble_eq_true rfl) (fun κ X Rt _ ok => ?_)
  have h26 : ∀ F : Mm, F = badE E is wh k → AT g κ K2 z 0 0 26 [(0, mR 125), (1, mI is), (2, mI wh), (3, mI (k : Int))] [] (ov F) := by
    intro F hF
    subst hF
    refine at_aload_n 27 X rfl rfl dX12_bad_26 rfl ?_
    refine m_getI 30 X f_X12_152 k_125 rn_125_0 dX12_bad_27 rfl ?_
    refine at_if_eq 33 37 X dX12_bad_30 rfl (by decide) (fun h30 => ?_) (fun h30 => ?_)
    · refine at_iconst 38 X (by decide) dX12_bad_37 rfl ?_
      refine at_zret X Rt ⟨by first | rw [if_pos (by assumption)] | rw [if_neg (by assumption)], rfl⟩ (by decide) (Nat.le_refl _) (Nat.le_refl _) dX12_bad_38
    · refine at_iconst 34 X (by decide) dX12_bad_33 rfl ?_
      refine at_goto 38 X dX12_bad_34 (by decide) ?_
      refine at_zret X Rt ⟨by first | rw [if_pos (by assumption)] | rw [if_neg (by assumption)], rfl⟩ (by decide) (Nat.le_refl _) (Nat.le_refl _) dX12_bad_38
  refine at_iload_n 1 X rfl rfl dX12_bad_0 rfl ?_
  refine at_if_eq 4 26 X dX12_bad_1 rfl (by decide) (fun h1 => ?_) (fun h1 => ?_)
  · exact h26 _ (by unfold badE; rw [if_neg (by omega)])
  · refine at_aload_n 5 X rfl rfl dX12_bad_4 rfl ?_
    refine m_getI 8 X f_X12_152 k_125 rn_125_0 dX12_bad_5 rfl ?_
    refine at_if_ne 11 26 X dX12_bad_8 rfl (by decide) (fun h8 => ?_) (fun h8 => ?_)
    · exact h26 _ (by unfold badE; rw [if_neg (by omega)])
    · refine at_aload_n 12 X rfl rfl dX12_bad_11 rfl ?_
      refine at_iload_n 13 X rfl rfl dX12_bad_12 rfl ?_
      refine m_putI 16 X f_X12_152 fw_12_0 k_125 rn_125_0 dX12_bad_13 rfl ?_
      refine at_aload_n 17 X rfl rfl dX12_bad_16 rfl ?_
      refine m_getR 20 X f_X12_17 k_125 r_125_10 dX12_bad_17 rfl ?_
      refine at_iload_n 21 X rfl rfl dX12_bad_20 rfl ?_
      refine at_dup2 22 X (show ¬ (0 : Nat) = 1 by decide) (show ¬ (2 : Nat) = 1 by decide) dX12_bad_21 rfl ?_
      refine m_iaload 23 X k_127 e_127 (by omega) (by omega) dX12_bad_22 rfl ?_
      refine at_iconst 24 X (by decide) dX12_bad_23 rfl ?_
      refine at_iadd 25 X dX12_bad_24 rfl ?_
      refine m_iastore 26 X k_127 e_127 (by omega) (by omega) dX12_bad_25 rfl ?_
      rw [Int.toNat_natCast, wr_o (Or.inl (by decide))]
      exact h26 _ (by unfold badE; rw [if_pos ⟨by omega, by omega⟩])
theorem dX11_told_0 : decode cX11_told 0 = .ok (.iload_n 1, 1) := by decide +kernel
theorem dX11_told_1 : decode cX11_told 1 = .ok (.tableswitch 123 0 8 #[51, 59, 67, 78, 86, 94, 102, 110, 118], 51) := by decide +kernel
theorem dX11_told_52 : decode cX11_told 52 = .ok (.aload_n 0, 1) := by decide +kernel
theorem dX11_told_53 : decode cX11_told 53 = .ok (.getfield 93, 3) := by decide +kernel
theorem dX11_told_56 : decode cX11_told 56 = .ok (.getfield 181, 3) := by decide +kernel
theorem dX11_told_59 : decode cX11_told 59 = .ok (.ireturn, 1) := by decide +kernel
theorem dX11_told_60 : decode cX11_told 60 = .ok (.aload_n 0, 1) := by decide +kernel
theorem dX11_told_61 : decode cX11_told 61 = .ok (.getfield 93, 3) := by decide +kernel
theorem dX11_told_64 : decode cX11_told 64 = .ok (.getfield 184, 3) := by decide +kernel
theorem dX11_told_67 : decode cX11_told 67 = .ok (.ireturn, 1) := by decide +kernel
theorem dX11_told_68 : decode cX11_told 68 = .ok (.aload_n 0, 1) := by decide +kernel
theorem dX11_told_69 : decode cX11_told 69 = .ok (.getfield 93, 3) := by decide +kernel
theorem dX11_told_72 : decode cX11_told 72 = .ok (.getfield 135, 3) := by decide +kernel
theorem dX11_told_75 : decode cX11_told 75 = .ok (.getfield 139, 3) := by decide +kernel
theorem dX11_told_78 : decode cX11_told 78 = .ok (.ireturn, 1) := by decide +kernel
theorem dX11_told_79 : decode cX11_told 79 = .ok (.aload_n 0, 1) := by decide +kernel
theorem dX11_told_80 : decode cX11_told 80 = .ok (.getfield 93, 3) := by decide +kernel
theorem dX11_told_83 : decode cX11_told 83 = .ok (.getfield 187, 3) := by decide +kernel
theorem dX11_told_86 : decode cX11_told 86 = .ok (.ireturn, 1) := by decide +kernel
theorem dX11_told_87 : decode cX11_told 87 = .ok (.aload_n 0, 1) := by decide +kernel
theorem dX11_told_88 : decode cX11_told 88 = .ok (.getfield 93, 3) := by decide +kernel
theorem dX11_told_91 : decode cX11_told 91 = .ok (.getfield 190, 3) := by decide +kernel
theorem dX11_told_94 : decode cX11_told 94 = .ok (.ireturn, 1) := by decide +kernel
theorem dX11_told_95 : decode cX11_told 95 = .ok (.aload_n 0, 1) := by decide +kernel
theorem dX11_told_96 : decode cX11_told 96 = .ok (.getfield 93, 3) := by decide +kernel
theorem dX11_told_99 : decode cX11_told 99 = .ok (.getfield 193, 3) := by decide +kernel
theorem dX11_told_102 : decode cX11_told 102 = .ok (.ireturn, 1) := by decide +kernel
theorem dX11_told_103 : decode cX11_told 103 = .ok (.aload_n 0, 1) := by decide +kernel
theorem dX11_told_104 : decode cX11_told 104 = .ok (.getfield 33, 3) := by decide +kernel
theorem dX11_told_107 : decode cX11_told 107 = .ok (.getfield 156, 3) := by decide +kernel
theorem dX11_told_110 : decode cX11_told 110 = .ok (.ireturn, 1) := by decide +kernel
theorem dX11_told_111 : decode cX11_told 111 = .ok (.aload_n 0, 1) := by decide +kernel
theorem dX11_told_112 : decode cX11_told 112 = .ok (.getfield 37, 3) := by decide +kernel
theorem dX11_told_115 : decode cX11_told 115 = .ok (.getfield 156, 3) := by decide +kernel
theorem dX11_told_118 : decode cX11_told 118 = .ok (.ireturn, 1) := by decide +kernel
theorem dX11_told_119 : decode cX11_told 119 = .ok (.aload_n 0, 1) := by decide +kernel
theorem dX11_told_120 : decode cX11_told 120 = .ok (.getfield 171, 3) := by decide +kernel
theorem dX11_told_123 : decode cX11_told 123 = .ok (.ireturn, 1) := by decide +kernel
theorem dX11_told_124 : decode cX11_told 124 = .ok (.aload_n 0, 1) := by decide +kernel
theorem dX11_told_125 : decode cX11_told 125 = .ok (.iconst 0, 1) := by decide +kernel
theorem dX11_told_126 : decode cX11_told 126 = .ok (.invokevirtual 164, 3) := by decide +kernel
theorem dX11_told_129 : decode cX11_told 129 = .ok (.iconst (-1), 1) := by decide +kernel
theorem dX11_told_130 : decode cX11_told 130 = .ok (.ireturn, 1) := by decide +kernel
def toldX (E : Mm) (a : Nat) (x : Int) : Int := if x = 0 then E a 8 else if x = 1 then E a 10 else if x = 2 then E (a + 8) 6 else if x = 3 then E a 14 else if x = 4 then E a 13 else if x = 5 then E a 12 else if x = 6 then E 12 3 else if x = 7 then E 16 3 else E 0 17
theorem ct_X11_told {g : Gw} (hG : GF g) {z : Bool} (E : Mm) (x : Int) (a : Nat) (ha : a = 68 ∨ a = 83) (hnow : E 0 15 = (a : Int)) : CTX g yX11_told cX11_told 2 (some .int) 7 111 1 6 K2 z [mR 0, mI x] (ov (E)) K2 z (fun r D' => (0 ≤ x ∧ x ≤ 8) ∧ r = some (mI (toldX E a x)) ∧ D' = ov E) (fun X D' => ¬ (0 ≤ x ∧ x ≤ 8) ∧ X = "java/lang/IllegalArgumentException" ∧ D' = ov (bumpE E 2)) := by
  refine CTX.mk hG (by decide +kernel) (Nat.le_of_ble_eq_true rfl) (fun κ X Rt Rx ok => ?_)
  refine at_iload_n 1 X rfl rfl dX11_told_0 rfl ?_
  rcases (show x = 0 ∨ x = 1 ∨ x = 2 ∨ x = 3 ∨ x = 4 ∨ x = 5 ∨ x = 6 ∨ x = 7 ∨ x = 8 ∨ (x < 0 ∨ 8 < x) by omega) with h1 | h1 | h1 | h1 | h1 | h1 | h1 | h1 | h1 | h1
  · refine at_tswIn 52 X dX11_told_1 (by omega) (by rw [h1]; rfl) (by decide) ?_
    refine at_aload_n 53 X rfl rfl dX11_told_52 rfl ?_
    refine m_getM 56 X (a) f_X11_93 k_0 rn_0_15 hnow dX11_told_53 rfl ?_
    refine m_getI 59 X f_X11_181 (kX9 ha) (nX9_8 ha) dX11_told_56 rfl ?_
    refine at_iret X Rt ⟨by omega, by subst_vars; unfold toldX; repeat (first | rfl | rw [if_pos (by omega)] | rw [if_neg (by omega)]), rfl⟩ (by decide) (by decide) dX11_told_59
  · refine at_tswIn 60 X dX11_told_1 (by omega) (by rw [h1]; rfl) (by decide) ?_
    refine at_aload_n 61 X rfl rfl dX11_told_60 rfl ?_
    refine m_getM 64 X (a) f_X11_93 k_0 rn_0_15 hnow dX11_told_61 rfl ?_
    refine m_getI 67 X f_X11_184 (kX9 ha) (nX9_10 ha) dX11_told_64 rfl ?_
    refine at_iret X Rt ⟨by omega, by subst_vars; unfold toldX; repeat (first | rfl | rw [if_pos (by omega)] | rw [if_neg (by omega)]), rfl⟩ (by decide) (by decide) dX11_told_67
  · refine at_tswIn 68 X dX11_told_1 (by omega) (by rw [h1]; rfl) (by decide) ?_
    refine at_aload_n 69 X rfl rfl dX11_told_68 rfl ?_
    refine m_getM 72 X (a) f_X11_93 k_0 rn_0_15 hnow dX11_told_69 rfl ?_
    refine m_getR 75 X f_X11_135 (kX9 ha) (rX9_7 ha) dX11_told_72 rfl ?_
    refine m_getI 78 X f_X11_139 (kX0 (iB_8 ha)) (nX0_6 (iB_8 ha)) dX11_told_75 rfl ?_
    refine at_iret X Rt ⟨by omega, by subst_vars; unfold toldX; repeat (first | rfl | rw [if_pos (by omega)] | rw [if_neg (by omega)]), rfl⟩ (by decide) (by decide) dX11_told_78
  · refine at_tswIn 79 X dX11_told_1 (by omega) (by rw [h1]; rfl) (by decide) ?_
    refine at_aload_n 80 X rfl rfl dX11_told_79 rfl ?_
    refine m_getM 83 X (a) f_X11_93 k_0 rn_0_15 hnow dX11_told_80 rfl ?_
    refine m_getI 86 X f_X11_187 (kX9 ha) (nX9_14 ha) dX11_told_83 rfl ?_
    refine at_iret X Rt ⟨by omega, by subst_vars; unfold toldX; repeat (first | rfl | rw [if_pos (by omega)] | rw [if_neg (by omega)]), rfl⟩ (by decide) (by decide) dX11_told_86
  · refine at_tswIn 87 X dX11_told_1 (by omega) (by rw [h1]; rfl) (by decide) ?_
    refine at_aload_n 88 X rfl rfl dX11_told_87 rfl ?_
    refine m_getM 91 X (a) f_X11_93 k_0 rn_0_15 hnow dX11_told_88 rfl ?_
    refine m_getI 94 X f_X11_190 (kX9 ha) (nX9_13 ha) dX11_told_91 rfl ?_
    refine at_iret X Rt ⟨by omega, by subst_vars; unfold toldX; repeat (first | rfl | rw [if_pos (by omega)] | rw [if_neg (by omega)]), rfl⟩ (by decide) (by decide) dX11_told_94
  · refine at_tswIn 95 X dX11_told_1 (by omega) (by rw [h1]; rfl) (by decide) ?_
    refine at_aload_n 96 X rfl rfl dX11_told_95 rfl ?_
    refine m_getM 99 X (a) f_X11_93 k_0 rn_0_15 hnow dX11_told_96 rfl ?_
    refine m_getI 102 X f_X11_193 (kX9 ha) (nX9_12 ha) dX11_told_99 rfl ?_
    refine at_iret X Rt ⟨by omega, by subst_vars; unfold toldX; repeat (first | rfl | rw [if_pos (by omega)] | rw [if_neg (by omega)]), rfl⟩ (by decide) (by decide) dX11_told_102
  · refine at_tswIn 103 X dX11_told_1 (by omega) (by rw [h1]; rfl) (by decide) ?_
    refine at_aload_n 104 X rfl rfl dX11_told_103 rfl ?_
    refine m_getR 107 X f_X11_33 k_0 r_0_4 dX11_told_104 rfl ?_
    refine m_getI 110 X f_X11_156 k_12 rn_12_3 dX11_told_107 rfl ?_
    refine at_iret X Rt ⟨by omega, by subst_vars; unfold toldX; repeat (first | rfl | rw [if_pos (by omega)] | rw [if_neg (by omega)]), rfl⟩ (by decide) (by decide) dX11_told_110
  · refine at_tswIn 111 X dX11_told_1 (by omega) (by rw [h1]; rfl) (by decide) ?_
    refine at_aload_n 112 X rfl rfl dX11_told_111 rfl ?_
    refine m_getR 115 X f_X11_37 k_0 r_0_5 dX11_told_112 rfl ?_
    refine m_getI 118 X f_X11_156 k_16 rn_16_3 dX11_told_115 rfl ?_
    refine at_iret X Rt ⟨by omega, by subst_vars; unfold toldX; repeat (first | rfl | rw [if_pos (by omega)] | rw [if_neg (by omega)]), rfl⟩ (by decide) (by decide) dX11_told_118
  · refine at_tswIn 119 X dX11_told_1 (by omega) (by rw [h1]; rfl) (by decide) ?_
    refine at_aload_n 120 X rfl rfl dX11_told_119 rfl ?_
    refine m_getI 123 X f_X11_171 k_0 rn_0_17 dX11_told_120 rfl ?_
    refine at_iret X Rt ⟨by omega, by subst_vars; unfold toldX; repeat (first | rfl | rw [if_pos (by omega)] | rw [if_neg (by omega)]), rfl⟩ (by decide) (by decide) dX11_told_123
  · refine at_tswOut 124 X dX11_told_1 h1 (by decide) ?_
    refine at_aload_n 125 X rfl rfl dX11_told_124 rfl ?_
    refine at_iconst 126 X (by decide) dX11_told_125 rfl ?_
    refine at_callVX 129 X Rt Rx _ 11 (ct_X11_need hG E 0) clX11 rfl k_0 mo_X11_need w_863 vo_X11_need.1 vo_X11_need.2 rfl rfl (by decide) (Nat.le_of_ble_eq_true rfl) dX11_told_126 rfl (fun _ _ h => ⟨by omega, h.2⟩) ?_
    rintro _ _ ⟨hq, rfl, rfl⟩
    exact absurd rfl hq
