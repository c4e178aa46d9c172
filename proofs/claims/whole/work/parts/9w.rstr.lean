theorem dX12_cellHere_0 : decode cX12_cellHere 0 = .ok (.aload_n 0, 1) := by decide +kernel
theorem dX12_cellHere_1 : decode cX12_cellHere 1 = .ok (.iconst 0, 1) := by decide +kernel
theorem dX12_cellHere_2 : decode cX12_cellHere 2 = .ok (.aload_n 0, 1) := by decide +kernel
theorem dX12_cellHere_3 : decode cX12_cellHere 3 = .ok (.getfield 20, 3) := by decide +kernel
theorem dX12_cellHere_6 : decode cX12_cellHere 6 = .ok (.iconst 0, 1) := by decide +kernel
theorem dX12_cellHere_7 : decode cX12_cellHere 7 = .ok (.iaload, 1) := by decide +kernel
theorem dX12_cellHere_8 : decode cX12_cellHere 8 = .ok (.iconst 1, 1) := by decide +kernel
theorem dX12_cellHere_9 : decode cX12_cellHere 9 = .ok (.isub, 1) := by decide +kernel
theorem dX12_cellHere_10 : decode cX12_cellHere 10 = .ok (.invokevirtual 217, 3) := by decide +kernel
theorem dX12_cellHere_13 : decode cX12_cellHere 13 = .ok (.ireturn, 1) := by decide +kernel
theorem c12_cell {g : Gw} (hG : GF g) {z : Bool} (E : Mm) (B : Nat → Int) (n : Nat) (t : TS) (hP_E : RTp E B n t) (P : SP) (hW : sW P ≤ 40) (hD0 : E 128 0 = (sW P : Int)) : CT g yX12_cellHere cX12_cellHere 1 (some .int) 3 65 0 0 K2 z [mR 125] (ov E) K2 z (fun r D' => r = some (mI ((nuR B n t 0 (((sW P : Nat) : Int) - 1) : Nat) : Int)) ∧ ∃ E1, D' = ov E1 ∧ RTp E1 B n (nuT B n t 0 (((sW P : Nat) : Int) - 1)) ∧ RTf E E1) := by
  refine CT.mk hG (by decide +kernel) (Nat.le_of_ble_eq_true rfl) (fun κ X Rt _ ok => ?_)
  refine at_aload_n 1 X rfl rfl dX12_cellHere_0 rfl ?_
  refine at_iconst 2 X (by decide) dX12_cellHere_1 rfl ?_
  refine at_aload_n 3 X rfl rfl dX12_cellHere_2 rfl ?_
  refine m_getR 6 X f_X12_20 k_125 r_125_11 dX12_cellHere_3 rfl ?_
  refine at_iconst 7 X (by decide) dX12_cellHere_6 rfl ?_
  refine m_ialoadV 8 X 0 (by omega) ((sW P : Nat) : Int) hD0 k_128 e_128 (by omega) dX12_cellHere_7 rfl ?_
  refine at_iconst 9 X (by decide) dX12_cellHere_8 rfl ?_
  refine at_isubV 10 X (((sW P : Nat) : Int) - 1) (w32_v rfl (by omega) (by omega)) dX12_cellHere_9 rfl ?_
  refine at_callV 13 X _ 12 (c12_nu hG E B n t hP_E 0 (((sW P : Nat) : Int) - 1) (by omega) (by omega)) clX12 rfl k_125 mo_X12_number w_2010 vo_X12_number.1 vo_X12_number.2 rfl rfl (crm Rt (by decide)) (Nat.le_of_ble_eq_true rfl) dX12_cellHere_10 rfl ?_
  rintro _ _ ⟨rfl, F1, rfl, hP_F1, hf_F1⟩
  have hq_F1 : ∀ q, q ≠ 125 → F1 q = E q := fun q h0 => hf_F1.1 q h0
  have := nuR_in (B := B) (n := n) (t := t) (lo := 0) (hi := (((sW P : Nat) : Int) - 1)) (by omega)
  refine at_iret X Rt ?_ (Nat.le_refl _) (Nat.le_refl _) dX12_cellHere_13
  exact ⟨rfl, F1, rfl, hP_F1, hf_F1⟩
/-- the reference's question whether there may be one more of a kind -/
def fuR (P : SP) (ns : Nat) (k : Int) : Bool := if k = 1 then decide (10 ≤ sN P) else if k = 2 then decide (12 ≤ ns) else if k = 3 then decide (3 ≤ sM P) else if k = 4 then decide (6 ≤ sCn P) else if k = 5 then decide (6 ≤ sLn P) else if k = 6 then decide (8 ≤ bN (sB P)) else false
theorem fuR_fu (P : SP) (ns : Nat) {k : Int} (h : 1 ≤ k ∧ k ≤ 9) : fuR P ns (rkW k) = fuW P ns k := by
  rcases (show k = 1 ∨ k = 2 ∨ k = 3 ∨ k = 4 ∨ k = 5 ∨ k = 6 ∨ k = 7 ∨ k = 8 ∨ k = 9 by omega) with rfl | rfl | rfl | rfl | rfl | rfl | rfl | rfl | rfl <;> rfl
theorem rkW_in {k : Int} (h : 1 ≤ k ∧ k ≤ 9) : 0 ≤ rkW k ∧ rkW k ≤ 8 ∧ (rkW k = 0 → k = 1) ∧ (rkW k = 1 → k = 2) ∧ (rkW k = 2 → k = 3) ∧ (rkW k = 3 → k = 5) ∧ (rkW k = 4 → k = 6) ∧ (rkW k = 5 → k = 7) ∧ (rkW k = 6 → k = 8) ∧ (rkW k = 7 → k = 4) ∧ (rkW k = 8 → k = 9) := by
  rcases (show k = 1 ∨ k = 2 ∨ k = 3 ∨ k = 4 ∨ k = 5 ∨ k = 6 ∨ k = 7 ∨ k = 8 ∨ k = 9 by omega) with rfl | rfl | rfl | rfl | rfl | rfl | rfl | rfl | rfl <;> decide
theorem dX12_isFull_0 : decode cX12_isFull 0 = .ok (.iload_n 1, 1) := by decide +kernel
theorem dX12_isFull_1 : decode cX12_isFull 1 = .ok (.tableswitch 139 1 6 #[39, 56, 71, 87, 104, 121], 39) := by decide +kernel
theorem dX12_isFull_40 : decode cX12_isFull 40 = .ok (.aload_n 0, 1) := by decide +kernel
theorem dX12_isFull_41 : decode cX12_isFull 41 = .ok (.getfield 20, 3) := by decide +kernel
theorem dX12_isFull_44 : decode cX12_isFull 44 = .ok (.iconst 1, 1) := by decide +kernel
theorem dX12_isFull_45 : decode cX12_isFull 45 = .ok (.iaload, 1) := by decide +kernel
theorem dX12_isFull_46 : decode cX12_isFull 46 = .ok (.bipush 10, 2) := by decide +kernel
theorem dX12_isFull_48 : decode cX12_isFull 48 = .ok (.if_icmp .ne 7, 3) := by decide +kernel
theorem dX12_isFull_51 : decode cX12_isFull 51 = .ok (.iconst 1, 1) := by decide +kernel
theorem dX12_isFull_52 : decode cX12_isFull 52 = .ok (.goto 4, 3) := by decide +kernel
theorem dX12_isFull_55 : decode cX12_isFull 55 = .ok (.iconst 0, 1) := by decide +kernel
theorem dX12_isFull_56 : decode cX12_isFull 56 = .ok (.ireturn, 1) := by decide +kernel
theorem dX12_isFull_57 : decode cX12_isFull 57 = .ok (.aload_n 0, 1) := by decide +kernel
theorem dX12_isFull_58 : decode cX12_isFull 58 = .ok (.getfield 214, 3) := by decide +kernel
theorem dX12_isFull_61 : decode cX12_isFull 61 = .ok (.bipush 12, 2) := by decide +kernel
theorem dX12_isFull_63 : decode cX12_isFull 63 = .ok (.if_icmp .ne 7, 3) := by decide +kernel
theorem dX12_isFull_66 : decode cX12_isFull 66 = .ok (.iconst 1, 1) := by decide +kernel
theorem dX12_isFull_67 : decode cX12_isFull 67 = .ok (.goto 4, 3) := by decide +kernel
theorem dX12_isFull_70 : decode cX12_isFull 70 = .ok (.iconst 0, 1) := by decide +kernel
theorem dX12_isFull_71 : decode cX12_isFull 71 = .ok (.ireturn, 1) := by decide +kernel
theorem dX12_isFull_72 : decode cX12_isFull 72 = .ok (.aload_n 0, 1) := by decide +kernel
theorem dX12_isFull_73 : decode cX12_isFull 73 = .ok (.getfield 20, 3) := by decide +kernel
theorem dX12_isFull_76 : decode cX12_isFull 76 = .ok (.iconst 3, 1) := by decide +kernel
theorem dX12_isFull_77 : decode cX12_isFull 77 = .ok (.iaload, 1) := by decide +kernel
theorem dX12_isFull_78 : decode cX12_isFull 78 = .ok (.iconst 3, 1) := by decide +kernel
theorem dX12_isFull_79 : decode cX12_isFull 79 = .ok (.if_icmp .ne 7, 3) := by decide +kernel
theorem dX12_isFull_82 : decode cX12_isFull 82 = .ok (.iconst 1, 1) := by decide +kernel
theorem dX12_isFull_83 : decode cX12_isFull 83 = .ok (.goto 4, 3) := by decide +kernel
theorem dX12_isFull_86 : decode cX12_isFull 86 = .ok (.iconst 0, 1) := by decide +kernel
theorem dX12_isFull_87 : decode cX12_isFull 87 = .ok (.ireturn, 1) := by decide +kernel
theorem dX12_isFull_88 : decode cX12_isFull 88 = .ok (.aload_n 0, 1) := by decide +kernel
theorem dX12_isFull_89 : decode cX12_isFull 89 = .ok (.getfield 20, 3) := by decide +kernel
theorem dX12_isFull_92 : decode cX12_isFull 92 = .ok (.iconst 4, 1) := by decide +kernel
theorem dX12_isFull_93 : decode cX12_isFull 93 = .ok (.iaload, 1) := by decide +kernel
theorem dX12_isFull_94 : decode cX12_isFull 94 = .ok (.bipush 6, 2) := by decide +kernel
theorem dX12_isFull_96 : decode cX12_isFull 96 = .ok (.if_icmp .ne 7, 3) := by decide +kernel
theorem dX12_isFull_99 : decode cX12_isFull 99 = .ok (.iconst 1, 1) := by decide +kernel
theorem dX12_isFull_100 : decode cX12_isFull 100 = .ok (.goto 4, 3) := by decide +kernel
theorem dX12_isFull_103 : decode cX12_isFull 103 = .ok (.iconst 0, 1) := by decide +kernel
theorem dX12_isFull_104 : decode cX12_isFull 104 = .ok (.ireturn, 1) := by decide +kernel
theorem dX12_isFull_105 : decode cX12_isFull 105 = .ok (.aload_n 0, 1) := by decide +kernel
theorem dX12_isFull_106 : decode cX12_isFull 106 = .ok (.getfield 20, 3) := by decide +kernel
theorem dX12_isFull_109 : decode cX12_isFull 109 = .ok (.iconst 5, 1) := by decide +kernel
theorem dX12_isFull_110 : decode cX12_isFull 110 = .ok (.iaload, 1) := by decide +kernel
theorem dX12_isFull_111 : decode cX12_isFull 111 = .ok (.bipush 6, 2) := by decide +kernel
theorem dX12_isFull_113 : decode cX12_isFull 113 = .ok (.if_icmp .ne 7, 3) := by decide +kernel
theorem dX12_isFull_116 : decode cX12_isFull 116 = .ok (.iconst 1, 1) := by decide +kernel
theorem dX12_isFull_117 : decode cX12_isFull 117 = .ok (.goto 4, 3) := by decide +kernel
theorem dX12_isFull_120 : decode cX12_isFull 120 = .ok (.iconst 0, 1) := by decide +kernel
theorem dX12_isFull_121 : decode cX12_isFull 121 = .ok (.ireturn, 1) := by decide +kernel
theorem dX12_isFull_122 : decode cX12_isFull 122 = .ok (.aload_n 0, 1) := by decide +kernel
theorem dX12_isFull_123 : decode cX12_isFull 123 = .ok (.getfield 20, 3) := by decide +kernel
theorem dX12_isFull_126 : decode cX12_isFull 126 = .ok (.bipush 6, 2) := by decide +kernel
theorem dX12_isFull_128 : decode cX12_isFull 128 = .ok (.iaload, 1) := by decide +kernel
theorem dX12_isFull_129 : decode cX12_isFull 129 = .ok (.bipush 8, 2) := by decide +kernel
theorem dX12_isFull_131 : decode cX12_isFull 131 = .ok (.if_icmp .ne 7, 3) := by decide +kernel
theorem dX12_isFull_134 : decode cX12_isFull 134 = .ok (.iconst 1, 1) := by decide +kernel
theorem dX12_isFull_135 : decode cX12_isFull 135 = .ok (.goto 4, 3) := by decide +kernel
theorem dX12_isFull_138 : decode cX12_isFull 138 = .ok (.iconst 0, 1) := by decide +kernel
theorem dX12_isFull_139 : decode cX12_isFull 139 = .ok (.ireturn, 1) := by decide +kernel
theorem dX12_isFull_140 : decode cX12_isFull 140 = .ok (.iconst 0, 1) := by decide +kernel
theorem dX12_isFull_141 : decode cX12_isFull 141 = .ok (.ireturn, 1) := by decide +kernel
theorem ct_X12_isFull {g : Gw} (hG : GF g) {z : Bool} (E : Mm) (P : SP) (Q : RX) (hP : WS P) (hD : RTD E P Q) (hB : RBd P Q) (ns : Nat) (hns : E 125 27 = ((ns : Nat) : Int)) (hns2 : ns ≤ 12) (k : Int) : CT g yX12_isFull cX12_isFull 2 (some .boolean) 0 0 0 0 K2 z [mR 125, mI k] (ov E) K2 z (fun r D' => r = some (mI (if fuR P ns k = true then 1 else 0)) ∧ D' = ov E) := by
  refine CT.mk hG (by decide +kernel) (Nat.le_of_ble_eq_true rfl) (fun κ X Rt _ ok => ?_)
  obtain ⟨b1, b2, b3, b4, b5, b6⟩ := hB
  refine at_iload_n 1 X rfl rfl dX12_isFull_0 rfl ?_
  rcases (show k = 1 ∨ k = 2 ∨ k = 3 ∨ k = 4 ∨ k = 5 ∨ k = 6 ∨ (k < 1 ∨ 6 < k) by omega) with h1 | h1 | h1 | h1 | h1 | h1 | h1
  · refine at_tswIn 40 X dX12_isFull_1 (by omega) (by rw [h1]; rfl) (by decide) ?_
    have hkx : k = 1 := h1
    refine at_aload_n 41 X rfl rfl dX12_isFull_40 rfl ?_
    refine m_getR 44 X f_X12_20 k_125 r_125_11 dX12_isFull_41 rfl ?_
    refine at_iconst 45 X (by decide) dX12_isFull_44 rfl ?_
    refine m_ialoadV 46 X 1 (by omega) ((sN P : Nat) : Int) hD.1.2.1 k_128 e_128 (by omega) dX12_isFull_45 rfl ?_
    refine at_bipush 48 X (by decide) (by decide) dX12_isFull_46 rfl ?_
    refine at_icmp_ne 51 55 X dX12_isFull_48 rfl (by decide) (fun h48 => ?_) (fun h48 => ?_)
    · refine at_iconst 56 X (by decide) dX12_isFull_55 rfl ?_
      refine at_zret X Rt ?_ (by first | decide | (split <;> decide)) (Nat.le_refl _) (Nat.le_refl _) dX12_isFull_56
      exact ⟨by unfold fuR; subst hkx; first | rfl | (simp only [if_true, if_false, Int.reduceEq, reduceCtorEq, decide_eq_true_eq]; first | rw [if_pos (by omega)] | rw [if_neg (by omega)]), rfl⟩
    · refine at_iconst 52 X (by decide) dX12_isFull_51 rfl ?_
      refine at_goto 56 X dX12_isFull_52 (by decide) ?_
      refine at_zret X Rt ?_ (by first | decide | (split <;> decide)) (Nat.le_refl _) (Nat.le_refl _) dX12_isFull_56
      exact ⟨by unfold fuR; subst hkx; first | rfl | (simp only [if_true, if_false, Int.reduceEq, reduceCtorEq, decide_eq_true_eq]; first | rw [if_pos (by omega)] | rw [if_neg (by omega)]), rfl⟩
  · refine at_tswIn 57 X dX12_isFull_1 (by omega) (by rw [h1]; rfl) (by decide) ?_
    have hkx : k = 2 := h1
    refine at_aload_n 58 X rfl rfl dX12_isFull_57 rfl ?_
    refine m_getIV 61 X ((ns : Nat) : Int) hns f_X12_214 k_125 rn_125_27 dX12_isFull_58 rfl ?_
    refine at_bipush 63 X (by decide) (by decide) dX12_isFull_61 rfl ?_
    refine at_icmp_ne 66 70 X dX12_isFull_63 rfl (by decide) (fun h63 => ?_) (fun h63 => ?_)
    · refine at_iconst 71 X (by decide) dX12_isFull_70 rfl ?_
      refine at_zret X Rt ?_ (by first | decide | (split <;> decide)) (Nat.le_refl _) (Nat.le_refl _) dX12_isFull_71
      exact ⟨by unfold fuR; subst hkx; first | rfl | (simp only [if_true, if_false, Int.reduceEq, reduceCtorEq, decide_eq_true_eq]; first | rw [if_pos (by omega)] | rw [if_neg (by omega)]), rfl⟩
    · refine at_iconst 67 X (by decide) dX12_isFull_66 rfl ?_
      refine at_goto 71 X dX12_isFull_67 (by decide) ?_
      refine at_zret X Rt ?_ (by first | decide | (split <;> decide)) (Nat.le_refl _) (Nat.le_refl _) dX12_isFull_71
      exact ⟨by unfold fuR; subst hkx; first | rfl | (simp only [if_true, if_false, Int.reduceEq, reduceCtorEq, decide_eq_true_eq]; first | rw [if_pos (by omega)] | rw [if_neg (by omega)]), rfl⟩
  · refine at_tswIn 72 X dX12_isFull_1 (by omega) (by rw [h1]; rfl) (by decide) ?_
    have hkx : k = 3 := h1
    refine at_aload_n 73 X rfl rfl dX12_isFull_72 rfl ?_
    refine m_getR 76 X f_X12_20 k_125 r_125_11 dX12_isFull_73 rfl ?_
    refine at_iconst 77 X (by decide) dX12_isFull_76 rfl ?_
    refine m_ialoadV 78 X 3 (by omega) ((sM P : Nat) : Int) hD.1.2.2.2.1 k_128 e_128 (by omega) dX12_isFull_77 rfl ?_
    refine at_iconst 79 X (by decide) dX12_isFull_78 rfl ?_
    refine at_icmp_ne 82 86 X dX12_isFull_79 rfl (by decide) (fun h79 => ?_) (fun h79 => ?_)
    · refine at_iconst 87 X (by decide) dX12_isFull_86 rfl ?_
      refine at_zret X Rt ?_ (by first | decide | (split <;> decide)) (Nat.le_refl _) (Nat.le_refl _) dX12_isFull_87
      exact ⟨by unfold fuR; subst hkx; first | rfl | (simp only [if_true, if_false, Int.reduceEq, reduceCtorEq, decide_eq_true_eq]; first | rw [if_pos (by omega)] | rw [if_neg (by omega)]), rfl⟩
    · refine at_iconst 83 X (by decide) dX12_isFull_82 rfl ?_
      refine at_goto 87 X dX12_isFull_83 (by decide) ?_
      refine at_zret X Rt ?_ (by first | decide | (split <;> decide)) (Nat.le_refl _) (Nat.le_refl _) dX12_isFull_87
      exact ⟨by unfold fuR; subst hkx; first | rfl | (simp only [if_true, if_false, Int.reduceEq, reduceCtorEq, decide_eq_true_eq]; first | rw [if_pos (by omega)] | rw [if_neg (by omega)]), rfl⟩
  · refine at_tswIn 88 X dX12_isFull_1 (by omega) (by rw [h1]; rfl) (by decide) ?_
    have hkx : k = 4 := h1
    refine at_aload_n 89 X rfl rfl dX12_isFull_88 rfl ?_
    refine m_getR 92 X f_X12_20 k_125 r_125_11 dX12_isFull_89 rfl ?_
    refine at_iconst 93 X (by decide) dX12_isFull_92 rfl ?_
    refine m_ialoadV 94 X 4 (by omega) ((sCn P : Nat) : Int) hD.1.2.2.2.2.1 k_128 e_128 (by omega) dX12_isFull_93 rfl ?_
    refine at_bipush 96 X (by decide) (by decide) dX12_isFull_94 rfl ?_
    refine at_icmp_ne 99 103 X dX12_isFull_96 rfl (by decide) (fun h96 => ?_) (fun h96 => ?_)
    · refine at_iconst 104 X (by decide) dX12_isFull_103 rfl ?_
      refine at_zret X Rt ?_ (by first | decide | (split <;> decide)) (Nat.le_refl _) (Nat.le_refl _) dX12_isFull_104
      exact ⟨by unfold fuR; subst hkx; first | rfl | (simp only [if_true, if_false, Int.reduceEq, reduceCtorEq, decide_eq_true_eq]; first | rw [if_pos (by omega)] | rw [if_neg (by omega)]), rfl⟩
    · refine at_iconst 100 X (by decide) dX12_isFull_99 rfl ?_
      refine at_goto 104 X dX12_isFull_100 (by decide) ?_
      refine at_zret X Rt ?_ (by first | decide | (split <;> decide)) (Nat.le_refl _) (Nat.le_refl _) dX12_isFull_104
      exact ⟨by unfold fuR; subst hkx; first | rfl | (simp only [if_true, if_false, Int.reduceEq, reduceCtorEq, decide_eq_true_eq]; first | rw [if_pos (by omega)] | rw [if_neg (by omega)]), rfl⟩
  · refine at_tswIn 105 X dX12_isFull_1 (by omega) (by rw [h1]; rfl) (by decide) ?_
    have hkx : k = 5 := h1
    refine at_aload_n 106 X rfl rfl dX12_isFull_105 rfl ?_
    refine m_getR 109 X f_X12_20 k_125 r_125_11 dX12_isFull_106 rfl ?_
    refine at_iconst 110 X (by decide) dX12_isFull_109 rfl ?_
    refine m_ialoadV 111 X 5 (by omega) ((sLn P : Nat) : Int) hD.1.2.2.2.2.2.1 k_128 e_128 (by omega) dX12_isFull_110 rfl ?_
    refine at_bipush 113 X (by decide) (by decide) dX12_isFull_111 rfl ?_
    refine at_icmp_ne 116 120 X dX12_isFull_113 rfl (by decide) (fun h113 => ?_) (fun h113 => ?_)
    · refine at_iconst 121 X (by decide) dX12_isFull_120 rfl ?_
      refine at_zret X Rt ?_ (by first | decide | (split <;> decide)) (Nat.le_refl _) (Nat.le_refl _) dX12_isFull_121
      exact ⟨by unfold fuR; subst hkx; first | rfl | (simp only [if_true, if_false, Int.reduceEq, reduceCtorEq, decide_eq_true_eq]; first | rw [if_pos (by omega)] | rw [if_neg (by omega)]), rfl⟩
    · refine at_iconst 117 X (by decide) dX12_isFull_116 rfl ?_
      refine at_goto 121 X dX12_isFull_117 (by decide) ?_
      refine at_zret X Rt ?_ (by first | decide | (split <;> decide)) (Nat.le_refl _) (Nat.le_refl _) dX12_isFull_121
      exact ⟨by unfold fuR; subst hkx; first | rfl | (simp only [if_true, if_false, Int.reduceEq, reduceCtorEq, decide_eq_true_eq]; first | rw [if_pos (by omega)] | rw [if_neg (by omega)]), rfl⟩
  · refine at_tswIn 122 X dX12_isFull_1 (by omega) (by rw [h1]; rfl) (by decide) ?_
    have hkx : k = 6 := h1
    refine at_aload_n 123 X rfl rfl dX12_isFull_122 rfl ?_
    refine m_getR 126 X f_X12_20 k_125 r_125_11 dX12_isFull_123 rfl ?_
    refine at_bipush 128 X (by decide) (by decide) dX12_isFull_126 rfl ?_
    refine m_ialoadV 129 X 6 (by omega) ((bN (sB P) : Nat) : Int) hD.1.2.2.2.2.2.2.1 k_128 e_128 (by omega) dX12_isFull_128 rfl ?_
    refine at_bipush 131 X (by decide) (by decide) dX12_isFull_129 rfl ?_
    refine at_icmp_ne 134 138 X dX12_isFull_131 rfl (by decide) (fun h131 => ?_) (fun h131 => ?_)
    · refine at_iconst 139 X (by decide) dX12_isFull_138 rfl ?_
      refine at_zret X Rt ?_ (by first | decide | (split <;> decide)) (Nat.le_refl _) (Nat.le_refl _) dX12_isFull_139
      exact ⟨by unfold fuR; subst hkx; first | rfl | (simp only [if_true, if_false, Int.reduceEq, reduceCtorEq, decide_eq_true_eq]; first | rw [if_pos (by omega)] | rw [if_neg (by omega)]), rfl⟩
    · refine at_iconst 135 X (by decide) dX12_isFull_134 rfl ?_
      refine at_goto 139 X dX12_isFull_135 (by decide) ?_
      refine at_zret X Rt ?_ (by first | decide | (split <;> decide)) (Nat.le_refl _) (Nat.le_refl _) dX12_isFull_139
      exact ⟨by unfold fuR; subst hkx; first | rfl | (simp only [if_true, if_false, Int.reduceEq, reduceCtorEq, decide_eq_true_eq]; first | rw [if_pos (by omega)] | rw [if_neg (by omega)]), rfl⟩
  · refine at_tswOut 140 X dX12_isFull_1 h1 (by decide) ?_
    refine at_iconst 141 X (by decide) dX12_isFull_140 rfl ?_
    refine at_zret X Rt ?_ (by first | decide | (split <;> decide)) (Nat.le_refl _) (Nat.le_refl _) dX12_isFull_141
    have e : fuR P ns k = false := by unfold fuR; rw [if_neg (by omega), if_neg (by omega), if_neg (by omega), if_neg (by omega), if_neg (by omega), if_neg (by omega)]
    exact ⟨by rw [e]; rfl, rfl⟩
def hpk (P : SP) (c k : Nat) : Bool := itr (fun p v => v || decide (sX P p = c)) false k
theorem hpk_s (P : SP) (c k : Nat) : hpk P c (k + 1) = (hpk P c k || decide (sX P k = c)) := rfl
abbrev poT (P : SP) (c : Nat) (u : TS) (k : Nat) : TS := if hpk P c k = true then flT u 2 else u
theorem poT_skip {P : SP} {c k : Nat} {u : TS} (h : ¬ (poT P c u k).2.2.1 = 0) : poT P c u (k + 1) = poT P c u k := by
  unfold poT at *
  by_cases d : hpk P c k = true
  · rw [if_pos d, if_pos (by rw [hpk_s, d]; rfl)]
  · rw [if_neg d] at h ⊢
    split
    · exact flT_id h
    · rfl
theorem poT_no {P : SP} {c k : Nat} {u : TS} (h : ¬ sX P k = c) : poT P c u (k + 1) = poT P c u k := by
  unfold poT
  rw [hpk_s, decide_eq_false h, Bool.or_false]
theorem poT_yes {P : SP} {c k : Nat} {u : TS} (h : sX P k = c) : poT P c u (k + 1) = flT u 2 := by
  unfold poT
  rw [hpk_s, decide_eq_true h, Bool.or_true, if_pos rfl]
theorem poT_0 {P : SP} {c k : Nat} {u : TS} (h : (poT P c u k).2.2.1 = 0) : poT P c u k = u ∧ u.2.2.1 = 0 := by
  unfold poT at *
  by_cases d : hpk P c k = true
  · rw [if_pos d] at h; exact absurd h (flT_fk (by decide))
  · rw [if_neg d] at h ⊢; exact ⟨rfl, h⟩
theorem poT_end {B : Nat → Int} {n : Nat} {t : TS} {P : SP} : poT P (nuR B n t 0 (((sW P : Nat) : Int) - 1)) (nuT B n t 0 (((sW P : Nat) : Int) - 1)) (sN P) = poU B n t P := by
  unfold poT poU
  by_cases h : (nuT B n t 0 (((sW P : Nat) : Int) - 1)).2.2.1 = 0
  · rw [nuR_eq h]; rfl
  · rw [flT_id h]
    split <;> split <;> rfl
theorem nuT_st {B : Nat → Int} {n : Nat} {t : TS} {lo hi : Int} (h : t.2.2.1 = 0) : (nuT B n t lo hi).2.1 = sk B n t.1 := by
  unfold nuT takeT
  rw [if_pos h]
  have e : ∀ (u : TS) (k : Int), (flT u k).2.1 = u.2.1 := fun u k => by unfold flT; split <;> rfl
  split
  · exact e _ _
  · split
    · rfl
    · exact e _ _
theorem nuT_bad {B : Nat → Int} {n : Nat} {t : TS} {lo hi : Int} (h : ¬ (nuT B n t lo hi).2.2.1 = 0) : True := trivial
theorem dX12_postHere_0 : decode cX12_postHere 0 = .ok (.aload_n 0, 1) := by decide +kernel
theorem dX12_postHere_1 : decode cX12_postHere 1 = .ok (.invokevirtual 174, 3) := by decide +kernel
theorem dX12_postHere_4 : decode cX12_postHere 4 = .ok (.aload_n 0, 1) := by decide +kernel
theorem dX12_postHere_5 : decode cX12_postHere 5 = .ok (.getfield 161, 3) := by decide +kernel
theorem dX12_postHere_8 : decode cX12_postHere 8 = .ok (.istore_n 2, 1) := by decide +kernel
theorem dX12_postHere_9 : decode cX12_postHere 9 = .ok (.aload_n 1, 1) := by decide +kernel
theorem dX12_postHere_10 : decode cX12_postHere 10 = .ok (.iconst 0, 1) := by decide +kernel
theorem dX12_postHere_11 : decode cX12_postHere 11 = .ok (.aload_n 0, 1) := by decide +kernel
theorem dX12_postHere_12 : decode cX12_postHere 12 = .ok (.invokevirtual 234, 3) := by decide +kernel
theorem dX12_postHere_15 : decode cX12_postHere 15 = .ok (.iastore, 1) := by decide +kernel
theorem dX12_postHere_16 : decode cX12_postHere 16 = .ok (.iconst 0, 1) := by decide +kernel
theorem dX12_postHere_17 : decode cX12_postHere 17 = .ok (.istore_n 3, 1) := by decide +kernel
theorem dX12_postHere_18 : decode cX12_postHere 18 = .ok (.iload_n 3, 1) := by decide +kernel
theorem dX12_postHere_19 : decode cX12_postHere 19 = .ok (.aload_n 0, 1) := by decide +kernel
theorem dX12_postHere_20 : decode cX12_postHere 20 = .ok (.getfield 20, 3) := by decide +kernel
theorem dX12_postHere_23 : decode cX12_postHere 23 = .ok (.iconst 1, 1) := by decide +kernel
theorem dX12_postHere_24 : decode cX12_postHere 24 = .ok (.iaload, 1) := by decide +kernel
theorem dX12_postHere_25 : decode cX12_postHere 25 = .ok (.if_icmp .ge 36, 3) := by decide +kernel
theorem dX12_postHere_28 : decode cX12_postHere 28 = .ok (.aload_n 0, 1) := by decide +kernel
theorem dX12_postHere_29 : decode cX12_postHere 29 = .ok (.getfield 168, 3) := by decide +kernel
theorem dX12_postHere_32 : decode cX12_postHere 32 = .ok (.ifCond .ne 23, 3) := by decide +kernel
theorem dX12_postHere_35 : decode cX12_postHere 35 = .ok (.aload_n 0, 1) := by decide +kernel
theorem dX12_postHere_36 : decode cX12_postHere 36 = .ok (.getfield 28, 3) := by decide +kernel
theorem dX12_postHere_39 : decode cX12_postHere 39 = .ok (.iload_n 3, 1) := by decide +kernel
theorem dX12_postHere_40 : decode cX12_postHere 40 = .ok (.aaload, 1) := by decide +kernel
theorem dX12_postHere_41 : decode cX12_postHere 41 = .ok (.iconst 0, 1) := by decide +kernel
theorem dX12_postHere_42 : decode cX12_postHere 42 = .ok (.iaload, 1) := by decide +kernel
theorem dX12_postHere_43 : decode cX12_postHere 43 = .ok (.aload_n 1, 1) := by decide +kernel
theorem dX12_postHere_44 : decode cX12_postHere 44 = .ok (.iconst 0, 1) := by decide +kernel
theorem dX12_postHere_45 : decode cX12_postHere 45 = .ok (.iaload, 1) := by decide +kernel
theorem dX12_postHere_46 : decode cX12_postHere 46 = .ok (.if_icmp .ne 9, 3) := by decide +kernel
theorem dX12_postHere_49 : decode cX12_postHere 49 = .ok (.aload_n 0, 1) := by decide +kernel
theorem dX12_postHere_50 : decode cX12_postHere 50 = .ok (.iconst 2, 1) := by decide +kernel
theorem dX12_postHere_51 : decode cX12_postHere 51 = .ok (.iload_n 2, 1) := by decide +kernel
theorem dX12_postHere_52 : decode cX12_postHere 52 = .ok (.invokevirtual 181, 3) := by decide +kernel
theorem dX12_postHere_55 : decode cX12_postHere 55 = .ok (.iinc 3 1, 3) := by decide +kernel
theorem dX12_postHere_58 : decode cX12_postHere 58 = .ok (.goto (-40), 3) := by decide +kernel
theorem dX12_postHere_61 : decode cX12_postHere 61 = .ok (.aload_n 1, 1) := by decide +kernel
theorem dX12_postHere_62 : decode cX12_postHere 62 = .ok (.iconst 1, 1) := by decide +kernel
theorem dX12_postHere_63 : decode cX12_postHere 63 = .ok (.aload_n 0, 1) := by decide +kernel
theorem dX12_postHere_64 : decode cX12_postHere 64 = .ok (.iconst 1, 1) := by decide +kernel
theorem dX12_postHere_65 : decode cX12_postHere 65 = .ok (.bipush 99, 2) := by decide +kernel
theorem dX12_postHere_67 : decode cX12_postHere 67 = .ok (.invokevirtual 217, 3) := by decide +kernel
theorem dX12_postHere_70 : decode cX12_postHere 70 = .ok (.iastore, 1) := by decide +kernel
theorem dX12_postHere_71 : decode cX12_postHere 71 = .ok (.return_, 1) := by decide +kernel
theorem ct_X12_postHere {g : Gw} (hG : GF g) {z : Bool} (E : Mm) (B : Nat → Int) (n : Nat) (t : TS) (ht : t.1 ≤ n) (hP_E : RTp E B n t) (h0 : t.2.2.1 = 0) (P : SP) (Q : RX) (hP : WS P) (hD : RTD E P Q) (hB : RBd P Q) (hN : sN P < 10) : CT g yX12_postHere cX12_postHere 4 none 4 85 0 0 K2 z [mR 125, mR (131 + sN P)] (ov E) K2 z (fun r D' => r = none ∧ ∃ E1, D' = ov E1 ∧ RTp E1 B n (poC B n t P).1 ∧ (∀ q, q ≠ 125 → E1 q = (wr (wr E (131 + sN P) 0 ((nuR B n t 0 (((sW P : Nat) : Int) - 1) : Nat) : Int)) (131 + sN P) 1 ((nuR B n (poU B n t P) 1 99 : Nat) : Int)) q) ∧ ∀ k, ¬ (4 ≤ k ∧ k ≤ 6) → E1 125 k = E 125 k) := by
  refine CT.mk hG (by decide +kernel) (Nat.le_of_ble_eq_true rfl) (fun κ X Rt _ ok => ?_)
  refine at_aload_n 1 X rfl rfl dX12_postHere_0 rfl ?_
  refine at_callV 4 X _ 12 (c12_bl hG E B n t hP_E) clX12 rfl k_125 mo_X12_blanks w_1968 vo_X12_blanks.1 vo_X12_blanks.2 rfl rfl (crm Rt (by decide)) (Nat.le_of_ble_eq_true rfl) dX12_postHere_1 rfl ?_
  rintro _ _ ⟨rfl, F1, rfl, hP_F1, hf_F1, hat_F1⟩
  have hq_F1 : ∀ q, q ≠ 125 → F1 q = E q := fun q h0 => hf_F1.1 q h0
  refine at_aload_n 5 X rfl rfl dX12_postHere_4 rfl ?_
  refine m_getIV 8 X ((sk B n t.1 : Nat) : Int) (hat_F1 h0) f_X12_161 k_125 rn_125_4 dX12_postHere_5 rfl ?_
  refine at_istore_n 9 X rfl dX12_postHere_8 rfl (by decide) ?_
  refine at_aload_n 10 X rfl rfl dX12_postHere_9 rfl ?_
  refine at_iconst 11 X (by decide) dX12_postHere_10 rfl ?_
  refine at_aload_n 12 X rfl rfl dX12_postHere_11 rfl ?_
  refine at_callV 15 X _ 12 (c12_cell hG F1 B n t hP_F1 P hP.W.2 ((congrFun (hq_F1 128 (by omega)) 0).trans hD.1.1)) clX12 rfl k_125 mo_X12_cellHere w_2022 vo_X12_cellHere.1 vo_X12_cellHere.2 rfl rfl (crm Rt (by decide)) (Nat.le_of_ble_eq_true rfl) dX12_postHere_12 rfl ?_
  rintro _ _ ⟨rfl, F2, rfl, hP_F2, hf_F2⟩
  have hq_F2 : ∀ q, q ≠ 125 → F2 q = E q := fun q h0 => (hf_F2.1 q h0).trans (hq_F1 q h0)
  have := nuR_in (B := B) (n := n) (t := t) (lo := 0) (hi := ((sW P : Nat) : Int) - 1) (by omega)
  refine m_iastoreV 16 X 0 (by omega) (kr_130 _ hN) (er_130 _ hN) (by omega) dX12_postHere_15 rfl ?_
  refine at_iconst 17 X (by decide) dX12_postHere_16 rfl ?_
  refine at_istore_n 18 X rfl dX12_postHere_17 rfl (by decide) ?_
  have J18 : ∀ (f18 : Nat) (G : Mm) (k : Nat), 11 - k < f18 → (k ≤ sN P) → (RTp G B n (poT P (nuR B n t 0 (((sW P : Nat) : Int) - 1)) (nuT B n t 0 (((sW P : Nat) : Int) - 1)) k)) → (∀ q, q ≠ 125 → G q = (wr E (131 + sN P) 0 ((nuR B n t 0 (((sW P : Nat) : Int) - 1) : Nat) : Int)) q) → (∀ k, ¬ (4 ≤ k ∧ k ≤ 6) → G 125 k = E 125 k) → AT g κ K2 z 0 0 18 [(0, mR 125), (1, mR (131 + sN P)), (2, mI ((sk B n t.1 : Nat) : Int)), (3, mI ((k : Nat) : Int))] [] (ov G) := by
    intro f18
    induction f18 with
    | zero => intro G k hf18; omega
    | succ f18 ih18 =>
    intro G k hf18 hk hP_G hg_G hs_G
    have hk10 := hN
    refine at_iload_n 19 X rfl rfl dX12_postHere_18 rfl ?_
    refine at_aload_n 20 X rfl rfl dX12_postHere_19 rfl ?_
    refine m_getR 23 X f_X12_20 k_125 r_125_11 dX12_postHere_20 rfl ?_
    refine at_iconst 24 X (by decide) dX12_postHere_23 rfl ?_
    refine m_ialoadV 25 X 1 (by omega) ((sN P : Nat) : Int) ((congrFun (hg_G 128 (by omega)) 1).trans ((wr_o (by omega)).trans hD.1.2.1)) k_128 e_128 (by omega) dX12_postHere_24 rfl ?_
    refine at_icmp_ge 28 61 X dX12_postHere_25 rfl (by decide) (fun h25 => ?_) (fun h25 => ?_)
    · have hkN : k = sN P := by omega
      subst hkN
      rw [poT_end] at hP_G
      refine at_aload_n 62 X rfl rfl dX12_postHere_61 rfl ?_
      refine at_iconst 63 X (by decide) dX12_postHere_62 rfl ?_
      refine at_aload_n 64 X rfl rfl dX12_postHere_63 rfl ?_
      refine at_iconst 65 X (by decide) dX12_postHere_64 rfl ?_
      refine at_bipush 67 X (by decide) (by decide) dX12_postHere_65 rfl ?_
      refine at_callV 70 X _ 12 (c12_nu hG G B n (poU B n t P) hP_G 1 99 (by omega) (by omega)) clX12 rfl k_125 mo_X12_number w_2010 vo_X12_number.1 vo_X12_number.2 rfl rfl (crm Rt (by decide)) (Nat.le_of_ble_eq_true rfl) dX12_postHere_67 rfl ?_
      rintro _ _ ⟨rfl, F3, rfl, hP_F3, hf_F3⟩
      refine m_iastoreV 71 X 1 (by omega) (kr_130 _ hN) (er_130 _ hN) (by omega) dX12_postHere_70 rfl ?_
      refine at_vret X Rt ?_ (Nat.le_refl _) (Nat.le_refl _) dX12_postHere_71
      exact ⟨rfl, _, rfl, (hP_F3.w (fun k hk => by simp (disch := omega) only [wr_o]) (by simp (disch := omega) only [wr_row])), fun q hq => wr_cong ((hf_F3.1 q hq).trans (hg_G q hq)), fun k hk => (wr_o (by omega)).trans ((hf_F3.2 k hk).trans (hs_G k hk))⟩
    · refine at_aload_n 29 X rfl rfl dX12_postHere_28 rfl ?_
      refine m_getIV 32 X ((poT P (nuR B n t 0 (((sW P : Nat) : Int) - 1)) (nuT B n t 0 (((sW P : Nat) : Int) - 1)) k).2.2.1) (rfk hP_G) f_X12_168 k_125 rn_125_5 dX12_postHere_29 rfl ?_
      refine at_if_ne 35 55 X dX12_postHere_32 rfl (by decide) (fun h32 => ?_) (fun h32 => ?_)
      · refine at_iincV 58 X ((k + 1 : Nat) : Int) (w32_v (by omega) (by omega) (by omega)) rfl dX12_postHere_55 rfl (by decide) ?_
        refine at_goto 18 X dX12_postHere_58 (by decide) ?_
        exact at_sub _ (by exact ⟨rfl, rfl, rfl, rfl, trivial⟩) (ih18 G (k + 1) (by first | omega | (simp only [] at *; omega)) (by first | omega | assumption) (by first | (rw [poT_skip h32]; exact hP_G) | (rw [poT_no (by omega)]; exact hP_G)) hg_G hs_G)
      · refine at_aload_n 36 X rfl rfl dX12_postHere_35 rfl ?_
        refine m_getR 39 X f_X12_28 k_125 r_125_13 dX12_postHere_36 rfl ?_
        refine at_iload_n 40 X rfl rfl dX12_postHere_39 rfl ?_
        refine m_aaloadV 41 X k (by omega) k_130 (by decide) (by omega) (rr_130 _ (by omega)) dX12_postHere_40 rfl ?_
        refine at_iconst 42 X (by decide) dX12_postHere_41 rfl ?_
        refine m_ialoadV 43 X 0 (by omega) ((sX P k : Nat) : Int) ((congrFun (hg_G (131 + k) (by omega)) 0).trans ((wr_o (by omega)).trans (hD.2.1 k (by omega)).1)) (kr_130 _ (by omega)) (er_130 _ (by omega)) (by omega) dX12_postHere_42 rfl ?_
        refine at_aload_n 44 X rfl rfl dX12_postHere_43 rfl ?_
        refine at_iconst 45 X (by decide) dX12_postHere_44 rfl ?_
        refine m_ialoadV 46 X 0 (by omega) ((nuR B n t 0 (((sW P : Nat) : Int) - 1) : Nat) : Int) ((congrFun (hg_G (131 + sN P) (by omega)) 0).trans (wr_s _ _ _ _)) (kr_130 _ hN) (er_130 _ hN) (by omega) dX12_postHere_45 rfl ?_
        refine at_icmp_ne 49 55 X dX12_postHere_46 rfl (by decide) (fun h46 => ?_) (fun h46 => ?_)
        · refine at_iincV 58 X ((k + 1 : Nat) : Int) (w32_v (by omega) (by omega) (by omega)) rfl dX12_postHere_55 rfl (by decide) ?_
          refine at_goto 18 X dX12_postHere_58 (by decide) ?_
          exact at_sub _ (by exact ⟨rfl, rfl, rfl, rfl, trivial⟩) (ih18 G (k + 1) (by first | omega | (simp only [] at *; omega)) (by first | omega | assumption) (by first | (rw [poT_skip h32]; exact hP_G) | (rw [poT_no (by omega)]; exact hP_G)) hg_G hs_G)
        · have hz : (poT P (nuR B n t 0 (((sW P : Nat) : Int) - 1)) (nuT B n t 0 (((sW P : Nat) : Int) - 1)) k).2.2.1 = 0 := by first | exact h32 | exact Decidable.byContradiction h32
          have hz2 := poT_0 hz
          refine at_aload_n 50 X rfl rfl dX12_postHere_49 rfl ?_
          refine at_iconst 51 X (by decide) dX12_postHere_50 rfl ?_
          refine at_iload_n 52 X rfl rfl dX12_postHere_51 rfl ?_
          refine at_callV 55 X _ 12 (c12_fl hG G B n (poT P (nuR B n t 0 (((sW P : Nat) : Int) - 1)) (nuT B n t 0 (((sW P : Nat) : Int) - 1)) k) hP_G hz 2 ((sk B n t.1 : Nat) : Int) (by decide) (flT (nuT B n t 0 (((sW P : Nat) : Int) - 1)) 2) (by rw [show flT (nuT B n t 0 (((sW P : Nat) : Int) - 1)) 2 = _ from if_pos hz2.2, nuT_st h0])) clX12 rfl k_125 mo_X12_wrong w_1998 vo_X12_wrong.1 vo_X12_wrong.2 rfl rfl (crm Rt (by decide)) (Nat.le_of_ble_eq_true rfl) dX12_postHere_52 rfl ?_
          rintro _ _ ⟨rfl, H1, rfl, hP_H1, hf_H1⟩
          refine at_iincV 58 X ((k + 1 : Nat) : Int) (w32_v (by omega) (by omega) (by omega)) rfl dX12_postHere_55 rfl (by decide) ?_
          refine at_goto 18 X dX12_postHere_58 (by decide) ?_
          exact at_sub _ (by exact ⟨rfl, rfl, rfl, rfl, trivial⟩) (ih18 H1 (k + 1) (by first | omega | (simp only [] at *; omega)) (by first | omega | assumption) (by rw [poT_yes (by omega)]; exact hP_H1) (fun q hq => (hf_H1.1 q hq).trans (hg_G q hq)) (fun k hk => (hf_H1.2 k hk).trans (hs_G k hk)))
  exact at_sub _ (by exact ⟨rfl, rfl, rfl, rfl, trivial⟩) (J18 _ (wr F2 (131 + sN P) 0 ((nuR B n t 0 (((sW P : Nat) : Int) - 1) : Nat) : Int)) 0 (Nat.lt_succ_self _) (by first | omega | assumption | rfl) (hP_F2.w (fun k hk => by simp (disch := omega) only [wr_o]) (by simp (disch := omega) only [wr_row])) (fun q hq => (wr_cong ((hf_F2.1 q hq).trans ((hf_F1.1 q hq).trans rfl)))) (fun k hk => ((wr_o (by omega)).trans ((hf_F2.2 k (by omega)).trans ((hf_F1.2 k (by omega)).trans rfl)))))
theorem be_eq {B : Nat → Int} {n : Nat} {t : TS} {P : SP} (h : (nuT B n t 0 (((sW P : Nat) : Int) - 1)).2.2.1 = 0) : (if (nuT B n (nuT B n t 0 (((sW P : Nat) : Int) - 1)) 2 20).2.2.1 = 0 ∧ sW P < nuV B n t 0 (((sW P : Nat) : Int) - 1) + nuV B n (nuT B n t 0 (((sW P : Nat) : Int) - 1)) 2 20 then flT (nuT B n (nuT B n t 0 (((sW P : Nat) : Int) - 1)) 2 20) 2 else nuT B n (nuT B n t 0 (((sW P : Nat) : Int) - 1)) 2 20) = beU B n t P ∧ ((beU B n t P).2.2.1 = 0 → nuV B n (nuT B n t 0 (((sW P : Nat) : Int) - 1)) 2 20 = beV B n t P ∧ (nuT B n (nuT B n t 0 (((sW P : Nat) : Int) - 1)) 2 20).2.2.1 = 0) := by
  have hx := (nu_ok h).2.1 (by decide)
  unfold beU beV beH
  generalize hXX : nuV B n t 0 (((sW P : Nat) : Int) - 1) = x at *
  generalize nuT B n t 0 (((sW P : Nat) : Int) - 1) = u at *
  have hhi : (if 20 ≤ ((sW P : Nat) : Int) - ((x : Nat) : Int) then (20 : Int) else ((sW P : Nat) : Int) - ((x : Nat) : Int)) ≤ 20 ∧ (if 20 ≤ ((sW P : Nat) : Int) - ((x : Nat) : Int) then (20 : Int) else ((sW P : Nat) : Int) - ((x : Nat) : Int)) ≤ ((sW P : Nat) : Int) - ((x : Nat) : Int) ∧ ((if 20 ≤ ((sW P : Nat) : Int) - ((x : Nat) : Int) then (20 : Int) else ((sW P : Nat) : Int) - ((x : Nat) : Int)) = 20 ∨ (if 20 ≤ ((sW P : Nat) : Int) - ((x : Nat) : Int) then (20 : Int) else ((sW P : Nat) : Int) - ((x : Nat) : Int)) = ((sW P : Nat) : Int) - ((x : Nat) : Int)) := by split <;> omega
  generalize (if 20 ≤ ((sW P : Nat) : Int) - ((x : Nat) : Int) then (20 : Int) else ((sW P : Nat) : Int) - ((x : Nat) : Int)) = hi at *
  unfold nuT nuV takeT
  rw [if_pos h, if_pos h]
  by_cases c1 : (nmE B n (sk B n u.1) 0).1 = sk B n u.1
  · rw [if_pos c1, if_pos c1]
    have hf : ¬ (flT ((nmE B n (sk B n u.1) 0).1, sk B n u.1, u.2.2) 1).2.2.1 = 0 := flT_fk (by decide)
    exact ⟨by rw [if_neg (fun q => hf q.1)], fun q => absurd q hf⟩
  · rw [if_neg c1, if_neg c1]
    generalize hv : (nmE B n (sk B n u.1) 0).2 = v
    by_cases c2 : 2 ≤ v ∧ v ≤ 20
    · rw [if_pos c2]
      by_cases c3 : 2 ≤ v ∧ v ≤ hi
      · rw [if_pos c3]
        exact ⟨by rw [if_neg (fun q => by have := q.2; have e : (v, ((nmE B n (sk B n u.1) 0).1, sk B n u.1, u.2.2)).1.toNat = v.toNat := rfl; omega)], fun _ => ⟨rfl, h⟩⟩
      · rw [if_neg c3]
        exact ⟨by rw [if_pos ⟨h, by show sW P < x + v.toNat; omega⟩], fun q => absurd q (flT_fk (by decide))⟩
    · have c4 : ¬ (2 ≤ v ∧ v ≤ hi) := by omega
      rw [if_neg c2, if_neg c4]
      have hf : ¬ (flT ((nmE B n (sk B n u.1) 0).1, sk B n u.1, u.2.2) 2).2.2.1 = 0 := flT_fk (by decide)
      exact ⟨by rw [if_neg (fun q => hf q.1)], fun q => absurd q hf⟩
theorem dX12_beamHere_0 : decode cX12_beamHere 0 = .ok (.aload_n 1, 1) := by decide +kernel
theorem dX12_beamHere_1 : decode cX12_beamHere 1 = .ok (.iconst 0, 1) := by decide +kernel
theorem dX12_beamHere_2 : decode cX12_beamHere 2 = .ok (.aload_n 0, 1) := by decide +kernel
theorem dX12_beamHere_3 : decode cX12_beamHere 3 = .ok (.invokevirtual 234, 3) := by decide +kernel
theorem dX12_beamHere_6 : decode cX12_beamHere 6 = .ok (.iastore, 1) := by decide +kernel
theorem dX12_beamHere_7 : decode cX12_beamHere 7 = .ok (.aload_n 0, 1) := by decide +kernel
theorem dX12_beamHere_8 : decode cX12_beamHere 8 = .ok (.getfield 168, 3) := by decide +kernel
theorem dX12_beamHere_11 : decode cX12_beamHere 11 = .ok (.ifCond .eq 4, 3) := by decide +kernel
theorem dX12_beamHere_14 : decode cX12_beamHere 14 = .ok (.return_, 1) := by decide +kernel
theorem dX12_beamHere_15 : decode cX12_beamHere 15 = .ok (.aload_n 0, 1) := by decide +kernel
theorem dX12_beamHere_16 : decode cX12_beamHere 16 = .ok (.invokevirtual 174, 3) := by decide +kernel
theorem dX12_beamHere_19 : decode cX12_beamHere 19 = .ok (.aload_n 0, 1) := by decide +kernel
theorem dX12_beamHere_20 : decode cX12_beamHere 20 = .ok (.getfield 161, 3) := by decide +kernel
theorem dX12_beamHere_23 : decode cX12_beamHere 23 = .ok (.istore_n 2, 1) := by decide +kernel
theorem dX12_beamHere_24 : decode cX12_beamHere 24 = .ok (.aload_n 1, 1) := by decide +kernel
theorem dX12_beamHere_25 : decode cX12_beamHere 25 = .ok (.iconst 1, 1) := by decide +kernel
theorem dX12_beamHere_26 : decode cX12_beamHere 26 = .ok (.aload_n 0, 1) := by decide +kernel
theorem dX12_beamHere_27 : decode cX12_beamHere 27 = .ok (.iconst 2, 1) := by decide +kernel
theorem dX12_beamHere_28 : decode cX12_beamHere 28 = .ok (.bipush 20, 2) := by decide +kernel
theorem dX12_beamHere_30 : decode cX12_beamHere 30 = .ok (.invokevirtual 217, 3) := by decide +kernel
theorem dX12_beamHere_33 : decode cX12_beamHere 33 = .ok (.iastore, 1) := by decide +kernel
theorem dX12_beamHere_34 : decode cX12_beamHere 34 = .ok (.aload_n 0, 1) := by decide +kernel
theorem dX12_beamHere_35 : decode cX12_beamHere 35 = .ok (.getfield 168, 3) := by decide +kernel
theorem dX12_beamHere_38 : decode cX12_beamHere 38 = .ok (.ifCond .ne 25, 3) := by decide +kernel
theorem dX12_beamHere_41 : decode cX12_beamHere 41 = .ok (.aload_n 1, 1) := by decide +kernel
theorem dX12_beamHere_42 : decode cX12_beamHere 42 = .ok (.iconst 0, 1) := by decide +kernel
theorem dX12_beamHere_43 : decode cX12_beamHere 43 = .ok (.iaload, 1) := by decide +kernel
theorem dX12_beamHere_44 : decode cX12_beamHere 44 = .ok (.aload_n 1, 1) := by decide +kernel
theorem dX12_beamHere_45 : decode cX12_beamHere 45 = .ok (.iconst 1, 1) := by decide +kernel
theorem dX12_beamHere_46 : decode cX12_beamHere 46 = .ok (.iaload, 1) := by decide +kernel
theorem dX12_beamHere_47 : decode cX12_beamHere 47 = .ok (.iadd, 1) := by decide +kernel
theorem dX12_beamHere_48 : decode cX12_beamHere 48 = .ok (.aload_n 0, 1) := by decide +kernel
theorem dX12_beamHere_49 : decode cX12_beamHere 49 = .ok (.getfield 20, 3) := by decide +kernel
theorem dX12_beamHere_52 : decode cX12_beamHere 52 = .ok (.iconst 0, 1) := by decide +kernel
theorem dX12_beamHere_53 : decode cX12_beamHere 53 = .ok (.iaload, 1) := by decide +kernel
theorem dX12_beamHere_54 : decode cX12_beamHere 54 = .ok (.if_icmp .le 9, 3) := by decide +kernel
theorem dX12_beamHere_57 : decode cX12_beamHere 57 = .ok (.aload_n 0, 1) := by decide +kernel
theorem dX12_beamHere_58 : decode cX12_beamHere 58 = .ok (.iconst 2, 1) := by decide +kernel
theorem dX12_beamHere_59 : decode cX12_beamHere 59 = .ok (.iload_n 2, 1) := by decide +kernel
theorem dX12_beamHere_60 : decode cX12_beamHere 60 = .ok (.invokevirtual 181, 3) := by decide +kernel
theorem dX12_beamHere_63 : decode cX12_beamHere 63 = .ok (.aload_n 1, 1) := by decide +kernel
theorem dX12_beamHere_64 : decode cX12_beamHere 64 = .ok (.iconst 2, 1) := by decide +kernel
theorem dX12_beamHere_65 : decode cX12_beamHere 65 = .ok (.aload_n 0, 1) := by decide +kernel
theorem dX12_beamHere_66 : decode cX12_beamHere 66 = .ok (.iconst 1, 1) := by decide +kernel
theorem dX12_beamHere_67 : decode cX12_beamHere 67 = .ok (.bipush 9, 2) := by decide +kernel
theorem dX12_beamHere_69 : decode cX12_beamHere 69 = .ok (.invokevirtual 217, 3) := by decide +kernel
theorem dX12_beamHere_72 : decode cX12_beamHere 72 = .ok (.iastore, 1) := by decide +kernel
theorem dX12_beamHere_73 : decode cX12_beamHere 73 = .ok (.iconst 0, 1) := by decide +kernel
theorem dX12_beamHere_74 : decode cX12_beamHere 74 = .ok (.istore_n 3, 1) := by decide +kernel
theorem dX12_beamHere_75 : decode cX12_beamHere 75 = .ok (.iload_n 3, 1) := by decide +kernel
theorem dX12_beamHere_76 : decode cX12_beamHere 76 = .ok (.bipush 20, 2) := by decide +kernel
theorem dX12_beamHere_78 : decode cX12_beamHere 78 = .ok (.if_icmp .ge 24, 3) := by decide +kernel
theorem dX12_beamHere_81 : decode cX12_beamHere 81 = .ok (.aload_n 0, 1) := by decide +kernel
theorem dX12_beamHere_82 : decode cX12_beamHere 82 = .ok (.getfield 64, 3) := by decide +kernel
theorem dX12_beamHere_85 : decode cX12_beamHere 85 = .ok (.aload_n 0, 1) := by decide +kernel
theorem dX12_beamHere_86 : decode cX12_beamHere 86 = .ok (.getfield 20, 3) := by decide +kernel
theorem dX12_beamHere_89 : decode cX12_beamHere 89 = .ok (.bipush 6, 2) := by decide +kernel
theorem dX12_beamHere_91 : decode cX12_beamHere 91 = .ok (.iaload, 1) := by decide +kernel
theorem dX12_beamHere_92 : decode cX12_beamHere 92 = .ok (.aaload, 1) := by decide +kernel
theorem dX12_beamHere_93 : decode cX12_beamHere 93 = .ok (.iload_n 3, 1) := by decide +kernel
theorem dX12_beamHere_94 : decode cX12_beamHere 94 = .ok (.iconst 0, 1) := by decide +kernel
theorem dX12_beamHere_95 : decode cX12_beamHere 95 = .ok (.iastore, 1) := by decide +kernel
theorem dX12_beamHere_96 : decode cX12_beamHere 96 = .ok (.iinc 3 1, 3) := by decide +kernel
theorem dX12_beamHere_99 : decode cX12_beamHere 99 = .ok (.goto (-24), 3) := by decide +kernel
theorem dX12_beamHere_102 : decode cX12_beamHere 102 = .ok (.return_, 1) := by decide +kernel
theorem ct_X12_beamHere {g : Gw} (hG : GF g) {z : Bool} (E : Mm) (B : Nat → Int) (n : Nat) (t : TS) (ht : t.1 ≤ n) (hP_E : RTp E B n t) (h0 : t.2.2.1 = 0) (P : SP) (Q : RX) (hP : WS P) (hD : RTD E P Q) (hB : RBd P Q) (hN8 : bN (sB P) < 8) : CT g yX12_beamHere cX12_beamHere 4 none 4 85 0 0 K2 z [mR 125, mR (219 + bN (sB P))] (ov E) K2 z (fun r D' => r = none ∧ ∃ E1, D' = ov E1 ∧ RTp E1 B n (beC B n t P).1 ∧ ((beC B n t P).1.2.2.1 = 0 → (E1 (219 + bN (sB P)) 0 = ((nuV B n t 0 (((sW P : Nat) : Int) - 1) : Nat) : Int) ∧ E1 (219 + bN (sB P)) 1 = ((beV B n t P : Nat) : Int) ∧ E1 (219 + bN (sB P)) 2 = ((nuV B n (beU B n t P) 1 9 : Nat) : Int)) ∧ ∀ p, p < 20 → E1 (237 + bN (sB P)) p = 0) ∧ (∀ q, q ≠ 125 → q ≠ 219 + bN (sB P) → q ≠ 237 + bN (sB P) → E1 q = E q) ∧ ∀ k, ¬ (4 ≤ k ∧ k ≤ 6) → E1 125 k = E 125 k) := by
  refine CT.mk hG (by decide +kernel) (Nat.le_of_ble_eq_true rfl) (fun κ X Rt _ ok => ?_)
  have hW40 := hP.W
  refine at_aload_n 1 X rfl rfl dX12_beamHere_0 rfl ?_
  refine at_iconst 2 X (by decide) dX12_beamHere_1 rfl ?_
  refine at_aload_n 3 X rfl rfl dX12_beamHere_2 rfl ?_
  refine at_callV 6 X _ 12 (c12_cell hG E B n t hP_E P hP.W.2 hD.1.1) clX12 rfl k_125 mo_X12_cellHere w_2022 vo_X12_cellHere.1 vo_X12_cellHere.2 rfl rfl (crm Rt (by decide)) (Nat.le_of_ble_eq_true rfl) dX12_beamHere_3 rfl ?_
  rintro _ _ ⟨rfl, F1, rfl, hP_F1, hf_F1⟩
  have hq_F1 : ∀ q, q ≠ 125 → F1 q = E q := fun q h0 => hf_F1.1 q h0
  have := nuR_in (B := B) (n := n) (t := t) (lo := 0) (hi := ((sW P : Nat) : Int) - 1) (by omega)
  refine m_iastoreV 7 X 0 (by omega) (kr_218 _ hN8) (er_218 _ hN8) (by omega) dX12_beamHere_6 rfl ?_
  refine at_aload_n 8 X rfl rfl dX12_beamHere_7 rfl ?_
  refine m_getIV 11 X ((nuT B n t 0 (((sW P : Nat) : Int) - 1)).2.2.1) ((wr_o (by omega)).trans (rfk hP_F1)) f_X12_168 k_125 rn_125_5 dX12_beamHere_8 rfl ?_
  refine at_if_eq 14 15 X dX12_beamHere_11 rfl (by decide) (fun h11 => ?_) (fun h11 => ?_)
  · have h1 : (nuT B n t 0 (((sW P : Nat) : Int) - 1)).2.2.1 = 0 := h11
    have hxe := nuR_eq h1
    refine at_aload_n 16 X rfl rfl dX12_beamHere_15 rfl ?_
    refine at_callV 19 X _ 12 (c12_bl hG (wr F1 (219 + bN (sB P)) 0 ((nuR B n t 0 (((sW P : Nat) : Int) - 1) : Nat) : Int)) B n (nuT B n t 0 (((sW P : Nat) : Int) - 1)) (hP_F1.w (fun k hk => by simp (disch := omega) only [wr_o]) (by simp (disch := omega) only [wr_row]))) clX12 rfl k_125 mo_X12_blanks w_1968 vo_X12_blanks.1 vo_X12_blanks.2 rfl rfl (crm Rt (by decide)) (Nat.le_of_ble_eq_true rfl) dX12_beamHere_16 rfl ?_
    rintro _ _ ⟨rfl, F2, rfl, hP_F2, hf_F2, hat_F2⟩
    have hq_F2 : ∀ q, q ≠ 125 → q ≠ (219 + bN (sB P)) → F2 q = E q := fun q h0 h1 => ((hf_F2.1 q h0).trans (wr_row h1)).trans (hq_F1 q h0)
    have hx0_F2 : F2 (219 + bN (sB P)) 0 = ((nuR B n t 0 (((sW P : Nat) : Int) - 1) : Nat) : Int) := (congrFun (hf_F2.1 (219 + bN (sB P)) (by omega)) 0).trans (wr_s _ _ _ _)
    refine at_aload_n 20 X rfl rfl dX12_beamHere_19 rfl ?_
    refine m_getIV 23 X ((sk B n (nuT B n t 0 (((sW P : Nat) : Int) - 1)).1 : Nat) : Int) (hat_F2 h1) f_X12_161 k_125 rn_125_4 dX12_beamHere_20 rfl ?_
    refine at_istore_n 24 X rfl dX12_beamHere_23 rfl (by decide) ?_
    refine at_aload_n 25 X rfl rfl dX12_beamHere_24 rfl ?_
    refine at_iconst 26 X (by decide) dX12_beamHere_25 rfl ?_
    refine at_aload_n 27 X rfl rfl dX12_beamHere_26 rfl ?_
    refine at_iconst 28 X (by decide) dX12_beamHere_27 rfl ?_
    refine at_bipush 30 X (by decide) (by decide) dX12_beamHere_28 rfl ?_
    refine at_callV 33 X _ 12 (c12_nu hG F2 B n (nuT B n t 0 (((sW P : Nat) : Int) - 1)) hP_F2 2 20 (by omega) (by omega)) clX12 rfl k_125 mo_X12_number w_2010 vo_X12_number.1 vo_X12_number.2 rfl rfl (crm Rt (by decide)) (Nat.le_of_ble_eq_true rfl) dX12_beamHere_30 rfl ?_
    rintro _ _ ⟨rfl, F3, rfl, hP_F3, hf_F3⟩
    have hq_F3 : ∀ q, q ≠ 125 → q ≠ (219 + bN (sB P)) → F3 q = E q := fun q h0 h1 => (hf_F3.1 q h0).trans (hq_F2 q h0 h1)
    have := nuR_in (B := B) (n := n) (t := (nuT B n t 0 (((sW P : Nat) : Int) - 1))) (lo := 2) (hi := 20) (by omega)
    have hx0_F3 : F3 (219 + bN (sB P)) 0 = ((nuR B n t 0 (((sW P : Nat) : Int) - 1) : Nat) : Int) := (congrFun (hf_F3.1 (219 + bN (sB P)) (by omega)) 0).trans hx0_F2
    refine m_iastoreV 34 X 1 (by omega) (kr_218 _ hN8) (er_218 _ hN8) (by omega) dX12_beamHere_33 rfl ?_
    have J63 : ∀ (G3 : Mm), (RTp G3 B n (beU B n t P)) → (∀ q, q ≠ 125 → q ≠ 219 + bN (sB P) → G3 q = E q) → (G3 (219 + bN (sB P)) 0 = ((nuR B n t 0 (((sW P : Nat) : Int) - 1) : Nat) : Int) ∧ G3 (219 + bN (sB P)) 1 = ((nuR B n (nuT B n t 0 (((sW P : Nat) : Int) - 1)) 2 20 : Nat) : Int)) → (∀ k, ¬ (4 ≤ k ∧ k ≤ 6) → G3 125 k = E 125 k) → AT g κ K2 z 0 0 63 [(0, mR 125), (1, mR (219 + bN (sB P)))] [] (ov G3) := by
      intro G3 hP_G3 hq_G3 hb_G3 hs_G3
      refine at_aload_n 64 X rfl rfl dX12_beamHere_63 rfl ?_
      refine at_iconst 65 X (by decide) dX12_beamHere_64 rfl ?_
      refine at_aload_n 66 X rfl rfl dX12_beamHere_65 rfl ?_
      refine at_iconst 67 X (by decide) dX12_beamHere_66 rfl ?_
      refine at_bipush 69 X (by decide) (by decide) dX12_beamHere_67 rfl ?_
      refine at_callV 72 X _ 12 (c12_nu hG G3 B n (beU B n t P) hP_G3 1 9 (by omega) (by omega)) clX12 rfl k_125 mo_X12_number w_2010 vo_X12_number.1 vo_X12_number.2 rfl rfl (crm Rt (by decide)) (Nat.le_of_ble_eq_true rfl) dX12_beamHere_69 rfl ?_
      rintro _ _ ⟨rfl, F4, rfl, hP_F4, hf_F4⟩
      have hq_F4 : ∀ q, q ≠ 125 → q ≠ (219 + bN (sB P)) → F4 q = E q := fun q h0 h1 => (hf_F4.1 q h0).trans (hq_G3 q h0 h1)
      have := nuR_in (B := B) (n := n) (t := (beU B n t P)) (lo := 1) (hi := 9) (by omega)
      refine m_iastoreV 73 X 2 (by omega) (kr_218 _ hN8) (er_218 _ hN8) (by omega) dX12_beamHere_72 rfl ?_
      refine at_iconst 74 X (by decide) dX12_beamHere_73 rfl ?_
      refine at_istore_n 75 X rfl dX12_beamHere_74 rfl (by decide) ?_
      have J75 : ∀ (f75 : Nat) (G5 : Mm) (j : Nat), 21 - j < f75 → (j ≤ 20) → (RTp G5 B n (nuT B n (beU B n t P) 1 9)) → (∀ q, q ≠ 125 → q ≠ 219 + bN (sB P) → q ≠ 237 + bN (sB P) → G5 q = E q) → (G5 (219 + bN (sB P)) 0 = ((nuR B n t 0 (((sW P : Nat) : Int) - 1) : Nat) : Int) ∧ G5 (219 + bN (sB P)) 1 = ((nuR B n (nuT B n t 0 (((sW P : Nat) : Int) - 1)) 2 20 : Nat) : Int) ∧ G5 (219 + bN (sB P)) 2 = ((nuR B n (beU B n t P) 1 9 : Nat) : Int)) → (∀ k, ¬ (4 ≤ k ∧ k ≤ 6) → G5 125 k = E 125 k) → (∀ p, p < j → G5 (237 + bN (sB P)) p = 0) → AT g κ K2 z 0 0 75 [(0, mR 125), (3, mI ((j : Nat) : Int))] [] (ov G5) := by
        intro f75
        induction f75 with
        | zero => intro G5 j hf75; omega
        | succ f75 ih75 =>
        intro G5 j hf75 hj hP_G5 hq_G5 hb_G5 hs_G5 hz_G5
        refine at_iload_n 76 X rfl rfl dX12_beamHere_75 rfl ?_
        refine at_bipush 78 X (by decide) (by decide) dX12_beamHere_76 rfl ?_
        refine at_icmp_ge 81 102 X dX12_beamHere_78 rfl (by decide) (fun h78 => ?_) (fun h78 => ?_)
        · refine at_vret X Rt ?_ (Nat.le_refl _) (Nat.le_refl _) dX12_beamHere_102
          exact ⟨rfl, G5, rfl, hP_G5, fun q => by
            have q1 := nu_ok (show (nuT B n (beU B n t P) 1 9).2.2.1 = 0 from q)
            have q2 := (be_eq h1).2 q1.1
            refine ⟨⟨?_, ?_, ?_⟩, fun p hp => hz_G5 p (by omega)⟩
            · rw [hb_G5.1, hxe]
            · rw [hb_G5.2.1, nuR_eq q2.2, q2.1]
            · rw [hb_G5.2.2, nuR_eq q], hq_G5, hs_G5⟩
        · refine at_aload_n 82 X rfl rfl dX12_beamHere_81 rfl ?_
          refine m_getR 85 X f_X12_64 k_125 r_125_25 dX12_beamHere_82 rfl ?_
          refine at_aload_n 86 X rfl rfl dX12_beamHere_85 rfl ?_
          refine m_getR 89 X f_X12_20 k_125 r_125_11 dX12_beamHere_86 rfl ?_
          refine at_bipush 91 X (by decide) (by decide) dX12_beamHere_89 rfl ?_
          refine m_ialoadV 92 X 6 (by omega) ((bN (sB P) : Nat) : Int) ((congrFun (hq_G5 128 (by omega) (by omega) (by omega)) 6).trans hD.1.2.2.2.2.2.2.1) k_128 e_128 (by omega) dX12_beamHere_91 rfl ?_
          refine m_aaloadV 93 X (bN (sB P)) (by omega) k_236 (by decide) (by omega) (rr_236 _ (by omega)) dX12_beamHere_92 rfl ?_
          refine at_iload_n 94 X rfl rfl dX12_beamHere_93 rfl ?_
          refine at_iconst 95 X (by decide) dX12_beamHere_94 rfl ?_
          refine m_iastoreV 96 X j (by omega) (kr_236 _ (by omega)) (er_236 _ (by omega)) (by omega) dX12_beamHere_95 rfl ?_
          refine at_iincV 99 X ((j + 1 : Nat) : Int) (w32_v (by omega) (by omega) (by omega)) rfl dX12_beamHere_96 rfl (by decide) ?_
          refine at_goto 75 X dX12_beamHere_99 (by decide) ?_
          exact at_sub _ (by exact ⟨rfl, rfl, trivial⟩) (ih75 (wr G5 (237 + (bN (sB P))) j 0) (j + 1) (by first | omega | (simp only [] at *; omega)) (by first | omega | assumption) (hP_G5.w (fun k hk => by simp (disch := omega) only [wr_o]) (by simp (disch := omega) only [wr_row])) (fun q a b c => (wr_row c).trans (hq_G5 q a b c)) ⟨(wr_o (by omega)).trans hb_G5.1, (wr_o (by omega)).trans hb_G5.2.1, (wr_o (by omega)).trans hb_G5.2.2⟩ (fun k hk => (wr_o (by omega)).trans (hs_G5 k hk)) (fun p hp => if c : p = j then by rw [c]; exact wr_s _ _ _ _ else (wr_o (by omega)).trans (hz_G5 p (by omega))))
      exact at_sub _ (by exact ⟨rfl, rfl, trivial⟩) (J75 _ (wr F4 (219 + bN (sB P)) 2 ((nuR B n (beU B n t P) 1 9 : Nat) : Int)) 0 (Nat.lt_succ_self _) (by first | omega | assumption | rfl) (hP_F4.w (fun k hk => by simp (disch := omega) only [wr_o]) (by simp (disch := omega) only [wr_row])) (fun q a b c => (wr_row b).trans ((hf_F4.1 q a).trans (hq_G3 q a b))) ⟨(wr_o (by omega)).trans ((congrFun (hf_F4.1 (219 + bN (sB P)) (by omega)) 0).trans hb_G3.1), (wr_o (by omega)).trans ((congrFun (hf_F4.1 (219 + bN (sB P)) (by omega)) 1).trans hb_G3.2), wr_s _ _ _ _⟩ (fun k hk => (wr_o (by omega)).trans ((hf_F4.2 k hk).trans (hs_G3 k hk))) (fun p hp => absurd hp (Nat.not_lt_zero p)))
    refine at_aload_n 35 X rfl rfl dX12_beamHere_34 rfl ?_
    refine m_getIV 38 X ((nuT B n (nuT B n t 0 (((sW P : Nat) : Int) - 1)) 2 20).2.2.1) ((wr_o (by omega)).trans (rfk hP_F3)) f_X12_168 k_125 rn_125_5 dX12_beamHere_35 rfl ?_
    refine at_if_ne 41 63 X dX12_beamHere_38 rfl (by decide) (fun h38 => ?_) (fun h38 => ?_)
    · have hz : ¬ (nuT B n (nuT B n t 0 (((sW P : Nat) : Int) - 1)) 2 20).2.2.1 = 0 := h38
      exact at_sub _ (by exact ⟨rfl, rfl, trivial⟩) (J63 (wr F3 (219 + bN (sB P)) 1 ((nuR B n (nuT B n t 0 (((sW P : Nat) : Int) - 1)) 2 20 : Nat) : Int)) (by rw [← (be_eq h1).1]; first | (rw [if_pos ⟨hz, by omega⟩]; exact hP_H4) | (rw [if_neg (fun q => hz q.1)]; exact (hP_F3.w (fun k hk => by simp (disch := omega) only [wr_o]) (by simp (disch := omega) only [wr_row]))) | (rw [if_neg (fun q => by have := q.2; omega)]; exact (hP_F3.w (fun k hk => by simp (disch := omega) only [wr_o]) (by simp (disch := omega) only [wr_row])))) (fun q a b => ((wr_row b).trans (hq_F3 q a b))) ⟨(wr_o (by omega)).trans hx0_F3, wr_s _ _ _ _⟩ (fun k hk => ((wr_o (by omega)).trans ((hf_F3.2 k (by omega)).trans ((hf_F2.2 k (by omega)).trans ((wr_o (by omega)).trans ((hf_F1.2 k (by omega)).trans rfl)))))))
    · have hz : (nuT B n (nuT B n t 0 (((sW P : Nat) : Int) - 1)) 2 20).2.2.1 = 0 := by first | exact h38 | exact Decidable.byContradiction h38
      have hle := nuR_eq hz
      refine at_aload_n 42 X rfl rfl dX12_beamHere_41 rfl ?_
      refine at_iconst 43 X (by decide) dX12_beamHere_42 rfl ?_
      refine m_ialoadV 44 X 0 (by omega) ((nuR B n t 0 (((sW P : Nat) : Int) - 1) : Nat) : Int) ((wr_o (by omega)).trans (hx0_F3)) (kr_218 _ hN8) (er_218 _ hN8) (by omega) dX12_beamHere_43 rfl ?_
      refine at_aload_n 45 X rfl rfl dX12_beamHere_44 rfl ?_
      refine at_iconst 46 X (by decide) dX12_beamHere_45 rfl ?_
      refine m_ialoadV 47 X 1 (by omega) ((nuR B n (nuT B n t 0 (((sW P : Nat) : Int) - 1)) 2 20 : Nat) : Int) (wr_s _ _ _ _) (kr_218 _ hN8) (er_218 _ hN8) (by omega) dX12_beamHere_46 rfl ?_
      refine at_iaddV 48 X ((nuR B n t 0 (((sW P : Nat) : Int) - 1) + nuR B n (nuT B n t 0 (((sW P : Nat) : Int) - 1)) 2 20 : Nat) : Int) (w32_v (by omega) (by omega) (by omega)) dX12_beamHere_47 rfl ?_
      refine at_aload_n 49 X rfl rfl dX12_beamHere_48 rfl ?_
      refine m_getR 52 X f_X12_20 k_125 r_125_11 dX12_beamHere_49 rfl ?_
      refine at_iconst 53 X (by decide) dX12_beamHere_52 rfl ?_
      refine m_ialoadV 54 X 0 (by omega) ((sW P : Nat) : Int) ((wr_o (by omega)).trans ((congrFun (hq_F3 128 (by omega) (by omega)) 0).trans hD.1.1)) k_128 e_128 (by omega) dX12_beamHere_53 rfl ?_
      refine at_icmp_le 57 63 X dX12_beamHere_54 rfl (by decide) (fun h54 => ?_) (fun h54 => ?_)
      · exact at_sub _ (by exact ⟨rfl, rfl, trivial⟩) (J63 (wr F3 (219 + bN (sB P)) 1 ((nuR B n (nuT B n t 0 (((sW P : Nat) : Int) - 1)) 2 20 : Nat) : Int)) (by rw [← (be_eq h1).1]; first | (rw [if_pos ⟨hz, by omega⟩]; exact hP_H4) | (rw [if_neg (fun q => hz q.1)]; exact (hP_F3.w (fun k hk => by simp (disch := omega) only [wr_o]) (by simp (disch := omega) only [wr_row]))) | (rw [if_neg (fun q => by have := q.2; omega)]; exact (hP_F3.w (fun k hk => by simp (disch := omega) only [wr_o]) (by simp (disch := omega) only [wr_row])))) (fun q a b => ((wr_row b).trans (hq_F3 q a b))) ⟨(wr_o (by omega)).trans hx0_F3, wr_s _ _ _ _⟩ (fun k hk => ((wr_o (by omega)).trans ((hf_F3.2 k (by omega)).trans ((hf_F2.2 k (by omega)).trans ((wr_o (by omega)).trans ((hf_F1.2 k (by omega)).trans rfl)))))))
      · refine at_aload_n 58 X rfl rfl dX12_beamHere_57 rfl ?_
        refine at_iconst 59 X (by decide) dX12_beamHere_58 rfl ?_
        refine at_iload_n 60 X rfl rfl dX12_beamHere_59 rfl ?_
        refine at_callV 63 X _ 12 (c12_fl hG (wr F3 (219 + bN (sB P)) 1 ((nuR B n (nuT B n t 0 (((sW P : Nat) : Int) - 1)) 2 20 : Nat) : Int)) B n (nuT B n (nuT B n t 0 (((sW P : Nat) : Int) - 1)) 2 20) (hP_F3.w (fun k hk => by simp (disch := omega) only [wr_o]) (by simp (disch := omega) only [wr_row])) hz 2 ((sk B n (nuT B n t 0 (((sW P : Nat) : Int) - 1)).1 : Nat) : Int) (by decide) (flT (nuT B n (nuT B n t 0 (((sW P : Nat) : Int) - 1)) 2 20) 2) (by rw [show flT (nuT B n (nuT B n t 0 (((sW P : Nat) : Int) - 1)) 2 20) 2 = _ from if_pos hz, nuT_st h1])) clX12 rfl k_125 mo_X12_wrong w_1998 vo_X12_wrong.1 vo_X12_wrong.2 rfl rfl (crm Rt (by decide)) (Nat.le_of_ble_eq_true rfl) dX12_beamHere_60 rfl ?_
        rintro _ _ ⟨rfl, H4, rfl, hP_H4, hf_H4⟩
        exact at_sub _ (by exact ⟨rfl, rfl, trivial⟩) (J63 H4 (by rw [← (be_eq h1).1]; first | (rw [if_pos ⟨hz, by omega⟩]; exact hP_H4) | (rw [if_neg (fun q => hz q.1)]; exact hP_H4) | (rw [if_neg (fun q => by have := q.2; omega)]; exact hP_H4)) (fun q a b => (hf_H4.1 q a).trans ((wr_row b).trans (hq_F3 q a b))) ⟨(congrFun (hf_H4.1 (219 + bN (sB P)) (by omega)) 0).trans ((wr_o (by omega)).trans hx0_F3), (congrFun (hf_H4.1 (219 + bN (sB P)) (by omega)) 1).trans (wr_s _ _ _ _)⟩ (fun k hk => ((hf_H4.2 k (by omega)).trans ((wr_o (by omega)).trans ((hf_F3.2 k (by omega)).trans ((hf_F2.2 k (by omega)).trans ((wr_o (by omega)).trans ((hf_F1.2 k (by omega)).trans rfl))))))))
  · have h1 : ¬ (nuT B n t 0 (((sW P : Nat) : Int) - 1)).2.2.1 = 0 := h11
    refine at_vret X Rt ?_ (Nat.le_refl _) (Nat.le_refl _) dX12_beamHere_14
    have e : (beC B n t P).1 = nuT B n t 0 (((sW P : Nat) : Int) - 1) := by show nuT B n (beU B n t P) 1 9 = _; unfold beU; rw [nu_bad h1, nu_bad h1]
    exact ⟨rfl, _, rfl, by rw [e]; exact (hP_F1.w (fun k hk => by simp (disch := omega) only [wr_o]) (by simp (disch := omega) only [wr_row])), fun q => absurd (by rw [← e]; exact q) h1, fun q a b c => (wr_row b).trans (hq_F1 q a), fun k hk => ((wr_o (by omega)).trans ((hf_F1.2 k (by omega)).trans rfl))⟩
theorem dX12_sunHere_0 : decode cX12_sunHere 0 = .ok (.aload_n 0, 1) := by decide +kernel
theorem dX12_sunHere_1 : decode cX12_sunHere 1 = .ok (.iconst 0, 1) := by decide +kernel
theorem dX12_sunHere_2 : decode cX12_sunHere 2 = .ok (.bipush 23, 2) := by decide +kernel
theorem dX12_sunHere_4 : decode cX12_sunHere 4 = .ok (.invokevirtual 217, 3) := by decide +kernel
theorem dX12_sunHere_7 : decode cX12_sunHere 7 = .ok (.istore_n 1, 1) := by decide +kernel
theorem dX12_sunHere_8 : decode cX12_sunHere 8 = .ok (.aload_n 0, 1) := by decide +kernel
theorem dX12_sunHere_9 : decode cX12_sunHere 9 = .ok (.iconst 0, 1) := by decide +kernel
theorem dX12_sunHere_10 : decode cX12_sunHere 10 = .ok (.iconst 1, 1) := by decide +kernel
theorem dX12_sunHere_11 : decode cX12_sunHere 11 = .ok (.invokevirtual 217, 3) := by decide +kernel
theorem dX12_sunHere_14 : decode cX12_sunHere 14 = .ok (.istore_n 2, 1) := by decide +kernel
theorem dX12_sunHere_15 : decode cX12_sunHere 15 = .ok (.aload_n 0, 1) := by decide +kernel
theorem dX12_sunHere_16 : decode cX12_sunHere 16 = .ok (.iconst 0, 1) := by decide +kernel
theorem dX12_sunHere_17 : decode cX12_sunHere 17 = .ok (.bipush 99, 2) := by decide +kernel
theorem dX12_sunHere_19 : decode cX12_sunHere 19 = .ok (.invokevirtual 217, 3) := by decide +kernel
theorem dX12_sunHere_22 : decode cX12_sunHere 22 = .ok (.istore_n 3, 1) := by decide +kernel
theorem dX12_sunHere_23 : decode cX12_sunHere 23 = .ok (.iconst 0, 1) := by decide +kernel
theorem dX12_sunHere_24 : decode cX12_sunHere 24 = .ok (.istore 4, 2) := by decide +kernel
theorem dX12_sunHere_26 : decode cX12_sunHere 26 = .ok (.aload_n 0, 1) := by decide +kernel
theorem dX12_sunHere_27 : decode cX12_sunHere 27 = .ok (.getfield 168, 3) := by decide +kernel
theorem dX12_sunHere_30 : decode cX12_sunHere 30 = .ok (.ifCond .eq 4, 3) := by decide +kernel
theorem dX12_sunHere_33 : decode cX12_sunHere 33 = .ok (.return_, 1) := by decide +kernel
theorem dX12_sunHere_34 : decode cX12_sunHere 34 = .ok (.aload_n 0, 1) := by decide +kernel
theorem dX12_sunHere_35 : decode cX12_sunHere 35 = .ok (.dup, 1) := by decide +kernel
theorem dX12_sunHere_36 : decode cX12_sunHere 36 = .ok (.getfield 214, 3) := by decide +kernel
theorem dX12_sunHere_39 : decode cX12_sunHere 39 = .ok (.iconst 1, 1) := by decide +kernel
theorem dX12_sunHere_40 : decode cX12_sunHere 40 = .ok (.iadd, 1) := by decide +kernel
theorem dX12_sunHere_41 : decode cX12_sunHere 41 = .ok (.putfield 214, 3) := by decide +kernel
theorem dX12_sunHere_44 : decode cX12_sunHere 44 = .ok (.iload 4, 2) := by decide +kernel
theorem dX12_sunHere_46 : decode cX12_sunHere 46 = .ok (.aload_n 0, 1) := by decide +kernel
theorem dX12_sunHere_47 : decode cX12_sunHere 47 = .ok (.getfield 20, 3) := by decide +kernel
theorem dX12_sunHere_50 : decode cX12_sunHere 50 = .ok (.iconst 2, 1) := by decide +kernel
theorem dX12_sunHere_51 : decode cX12_sunHere 51 = .ok (.iaload, 1) := by decide +kernel
theorem dX12_sunHere_52 : decode cX12_sunHere 52 = .ok (.if_icmp .ge 22, 3) := by decide +kernel
theorem dX12_sunHere_55 : decode cX12_sunHere 55 = .ok (.aload_n 0, 1) := by decide +kernel
theorem dX12_sunHere_56 : decode cX12_sunHere 56 = .ok (.getfield 34, 3) := by decide +kernel
theorem dX12_sunHere_59 : decode cX12_sunHere 59 = .ok (.iload 4, 2) := by decide +kernel
theorem dX12_sunHere_61 : decode cX12_sunHere 61 = .ok (.aaload, 1) := by decide +kernel
theorem dX12_sunHere_62 : decode cX12_sunHere 62 = .ok (.iconst 0, 1) := by decide +kernel
theorem dX12_sunHere_63 : decode cX12_sunHere 63 = .ok (.iaload, 1) := by decide +kernel
theorem dX12_sunHere_64 : decode cX12_sunHere 64 = .ok (.iload_n 1, 1) := by decide +kernel
theorem dX12_sunHere_65 : decode cX12_sunHere 65 = .ok (.if_icmp .eq 9, 3) := by decide +kernel
theorem dX12_sunHere_68 : decode cX12_sunHere 68 = .ok (.iinc 4 1, 3) := by decide +kernel
theorem dX12_sunHere_71 : decode cX12_sunHere 71 = .ok (.goto (-27), 3) := by decide +kernel
theorem dX12_sunHere_74 : decode cX12_sunHere 74 = .ok (.aload_n 0, 1) := by decide +kernel
theorem dX12_sunHere_75 : decode cX12_sunHere 75 = .ok (.getfield 34, 3) := by decide +kernel
theorem dX12_sunHere_78 : decode cX12_sunHere 78 = .ok (.iload 4, 2) := by decide +kernel
theorem dX12_sunHere_80 : decode cX12_sunHere 80 = .ok (.aaload, 1) := by decide +kernel
theorem dX12_sunHere_81 : decode cX12_sunHere 81 = .ok (.iconst 0, 1) := by decide +kernel
theorem dX12_sunHere_82 : decode cX12_sunHere 82 = .ok (.iload_n 1, 1) := by decide +kernel
theorem dX12_sunHere_83 : decode cX12_sunHere 83 = .ok (.iastore, 1) := by decide +kernel
theorem dX12_sunHere_84 : decode cX12_sunHere 84 = .ok (.aload_n 0, 1) := by decide +kernel
theorem dX12_sunHere_85 : decode cX12_sunHere 85 = .ok (.getfield 34, 3) := by decide +kernel
theorem dX12_sunHere_88 : decode cX12_sunHere 88 = .ok (.iload 4, 2) := by decide +kernel
theorem dX12_sunHere_90 : decode cX12_sunHere 90 = .ok (.aaload, 1) := by decide +kernel
theorem dX12_sunHere_91 : decode cX12_sunHere 91 = .ok (.iconst 1, 1) := by decide +kernel
theorem dX12_sunHere_92 : decode cX12_sunHere 92 = .ok (.iload_n 2, 1) := by decide +kernel
theorem dX12_sunHere_93 : decode cX12_sunHere 93 = .ok (.iastore, 1) := by decide +kernel
theorem dX12_sunHere_94 : decode cX12_sunHere 94 = .ok (.aload_n 0, 1) := by decide +kernel
theorem dX12_sunHere_95 : decode cX12_sunHere 95 = .ok (.getfield 34, 3) := by decide +kernel
theorem dX12_sunHere_98 : decode cX12_sunHere 98 = .ok (.iload 4, 2) := by decide +kernel
theorem dX12_sunHere_100 : decode cX12_sunHere 100 = .ok (.aaload, 1) := by decide +kernel
theorem dX12_sunHere_101 : decode cX12_sunHere 101 = .ok (.iconst 2, 1) := by decide +kernel
theorem dX12_sunHere_102 : decode cX12_sunHere 102 = .ok (.iload_n 3, 1) := by decide +kernel
theorem dX12_sunHere_103 : decode cX12_sunHere 103 = .ok (.iastore, 1) := by decide +kernel
theorem dX12_sunHere_104 : decode cX12_sunHere 104 = .ok (.aload_n 0, 1) := by decide +kernel
theorem dX12_sunHere_105 : decode cX12_sunHere 105 = .ok (.getfield 20, 3) := by decide +kernel
theorem dX12_sunHere_108 : decode cX12_sunHere 108 = .ok (.iconst 2, 1) := by decide +kernel
theorem dX12_sunHere_109 : decode cX12_sunHere 109 = .ok (.dup2, 1) := by decide +kernel
theorem dX12_sunHere_110 : decode cX12_sunHere 110 = .ok (.iaload, 1) := by decide +kernel
theorem dX12_sunHere_111 : decode cX12_sunHere 111 = .ok (.iload 4, 2) := by decide +kernel
theorem dX12_sunHere_113 : decode cX12_sunHere 113 = .ok (.aload_n 0, 1) := by decide +kernel
theorem dX12_sunHere_114 : decode cX12_sunHere 114 = .ok (.getfield 20, 3) := by decide +kernel
theorem dX12_sunHere_117 : decode cX12_sunHere 117 = .ok (.iconst 2, 1) := by decide +kernel
theorem dX12_sunHere_118 : decode cX12_sunHere 118 = .ok (.iaload, 1) := by decide +kernel
theorem dX12_sunHere_119 : decode cX12_sunHere 119 = .ok (.if_icmp .ne 7, 3) := by decide +kernel
theorem dX12_sunHere_122 : decode cX12_sunHere 122 = .ok (.iconst 1, 1) := by decide +kernel
theorem dX12_sunHere_123 : decode cX12_sunHere 123 = .ok (.goto 4, 3) := by decide +kernel
theorem dX12_sunHere_126 : decode cX12_sunHere 126 = .ok (.iconst 0, 1) := by decide +kernel
theorem dX12_sunHere_127 : decode cX12_sunHere 127 = .ok (.iadd, 1) := by decide +kernel
theorem dX12_sunHere_128 : decode cX12_sunHere 128 = .ok (.iastore, 1) := by decide +kernel
theorem dX12_sunHere_129 : decode cX12_sunHere 129 = .ok (.return_, 1) := by decide +kernel
theorem ct_X12_sunHere {g : Gw} (hG : GF g) {z : Bool} (E : Mm) (B : Nat → Int) (n : Nat) (t : TS) (ht : t.1 ≤ n) (hP_E : RTp E B n t) (h0 : t.2.2.1 = 0) (P : SP) (Q : RX) (hP : WS P) (hD : RTD E P Q) (hB : RBd P Q) (ns : Nat) (hns : E 125 27 = ((ns : Nat) : Int)) (hn12 : ns < 12) (hxn : xNs Q ≤ ns) : CT g yX12_sunHere cX12_sunHere 5 none 3 65 0 0 K2 z [mR 125] (ov E) K2 z (fun r D' => r = none ∧ ∃ E1, D' = ov E1 ∧ RTp E1 B n (suC B n t P).1 ∧ ((suC B n t P).1.2.2.1 = 0 → E1 125 27 = ((ns + 1 : Nat) : Int) ∧ ∃ Q2, RTD E1 (suC B n t P).2 Q2 ∧ xNs Q2 ≤ ns + 1) ∧ RFr E E1 ∧ E1 125 7 = E 125 7) := by
  refine CT.mk hG (by decide +kernel) (Nat.le_of_ble_eq_true rfl) (fun κ X Rt _ ok => ?_)
  refine at_aload_n 1 X rfl rfl dX12_sunHere_0 rfl ?_
  refine at_iconst 2 X (by decide) dX12_sunHere_1 rfl ?_
  refine at_bipush 4 X (by decide) (by decide) dX12_sunHere_2 rfl ?_
  refine at_callV 7 X _ 12 (c12_nu hG E B n t hP_E 0 23 (by omega) (by omega)) clX12 rfl k_125 mo_X12_number w_2010 vo_X12_number.1 vo_X12_number.2 rfl rfl (crm Rt (by decide)) (Nat.le_of_ble_eq_true rfl) dX12_sunHere_4 rfl ?_
  rintro _ _ ⟨rfl, F1, rfl, hP_F1, hf_F1⟩
  have hq_F1 : ∀ q, q ≠ 125 → F1 q = E q := fun q h0 => hf_F1.1 q h0
  have := nuR_in (B := B) (n := n) (t := t) (lo := 0) (hi := 23) (by omega)
  refine at_istore_n 8 X rfl dX12_sunHere_7 rfl (by decide) ?_
  refine at_aload_n 9 X rfl rfl dX12_sunHere_8 rfl ?_
  refine at_iconst 10 X (by decide) dX12_sunHere_9 rfl ?_
  refine at_iconst 11 X (by decide) dX12_sunHere_10 rfl ?_
  refine at_callV 14 X _ 12 (c12_nu hG F1 B n (nuT B n t 0 23) hP_F1 0 1 (by omega) (by omega)) clX12 rfl k_125 mo_X12_number w_2010 vo_X12_number.1 vo_X12_number.2 rfl rfl (crm Rt (by decide)) (Nat.le_of_ble_eq_true rfl) dX12_sunHere_11 rfl ?_
  rintro _ _ ⟨rfl, F2, rfl, hP_F2, hf_F2⟩
  have hq_F2 : ∀ q, q ≠ 125 → F2 q = E q := fun q h0 => (hf_F2.1 q h0).trans (hq_F1 q h0)
  have := nuR_in (B := B) (n := n) (t := (nuT B n t 0 23)) (lo := 0) (hi := 1) (by omega)
  refine at_istore_n 15 X rfl dX12_sunHere_14 rfl (by decide) ?_
  refine at_aload_n 16 X rfl rfl dX12_sunHere_15 rfl ?_
  refine at_iconst 17 X (by decide) dX12_sunHere_16 rfl ?_
  refine at_bipush 19 X (by decide) (by decide) dX12_sunHere_17 rfl ?_
  refine at_callV 22 X _ 12 (c12_nu hG F2 B n (nuT B n (nuT B n t 0 23) 0 1) hP_F2 0 99 (by omega) (by omega)) clX12 rfl k_125 mo_X12_number w_2010 vo_X12_number.1 vo_X12_number.2 rfl rfl (crm Rt (by decide)) (Nat.le_of_ble_eq_true rfl) dX12_sunHere_19 rfl ?_
  rintro _ _ ⟨rfl, F3, rfl, hP_F3, hf_F3⟩
  have hq_F3 : ∀ q, q ≠ 125 → F3 q = E q := fun q h0 => (hf_F3.1 q h0).trans (hq_F2 q h0)
  have := nuR_in (B := B) (n := n) (t := (nuT B n (nuT B n t 0 23) 0 1)) (lo := 0) (hi := 99) (by omega)
  refine at_istore_n 23 X rfl dX12_sunHere_22 rfl (by decide) ?_
  refine at_iconst 24 X (by decide) dX12_sunHere_23 rfl ?_
  refine at_istore 26 X dX12_sunHere_24 rfl (by decide) ?_
  refine at_aload_n 27 X rfl rfl dX12_sunHere_26 rfl ?_
  refine m_getIV 30 X ((nuT B n (nuT B n (nuT B n t 0 23) 0 1) 0 99).2.2.1) (rfk hP_F3) f_X12_168 k_125 rn_125_5 dX12_sunHere_27 rfl ?_
  refine at_if_eq 33 34 X dX12_sunHere_30 rfl (by decide) (fun h30 => ?_) (fun h30 => ?_)
  · have hok : (nuT B n (nuT B n (nuT B n t 0 23) 0 1) 0 99).2.2.1 = 0 := h30
    have q3 := nu_ok hok
    have q2 := nu_ok q3.1
    have q1 := nu_ok q2.1
    have e3 := nuR_eq hok
    have e2 := nuR_eq q3.1
    have e1 := nuR_eq q2.1
    have r3 := q3.2.1 (by decide)
    have r2 := q2.2.1 (by decide)
    have r1 := q1.2.1 (by decide)
    refine at_aload_n 35 X rfl rfl dX12_sunHere_34 rfl ?_
    refine at_dup 36 X (show ¬ (2 : Nat) = 1 by decide) dX12_sunHere_35 rfl ?_
    refine m_getIV 39 X ((ns : Nat) : Int) ((hf_F3.2 27 (by omega)).trans ((hf_F2.2 27 (by omega)).trans ((hf_F1.2 27 (by omega)).trans hns))) f_X12_214 k_125 rn_125_27 dX12_sunHere_36 rfl ?_
    refine at_iconst 40 X (by decide) dX12_sunHere_39 rfl ?_
    refine at_iaddV 41 X ((ns + 1 : Nat) : Int) (w32_v (by omega) (by omega) (by omega)) dX12_sunHere_40 rfl ?_
    refine m_putI 44 X f_X12_214 fw_12_27 k_125 rn_125_27 dX12_sunHere_41 rfl ?_
    have J44 : ∀ (f44 : Nat) (m : Nat), 13 - m < f44 → (m ≤ xNs Q) → (∀ k, k < m → ¬ xTk Q k = nuR B n t 0 23) → AT g κ K2 z 0 0 44 [(0, mR 125), (1, mI ((nuR B n t 0 23 : Nat) : Int)), (2, mI ((nuR B n (nuT B n t 0 23) 0 1 : Nat) : Int)), (3, mI ((nuR B n (nuT B n (nuT B n t 0 23) 0 1) 0 99 : Nat) : Int)), (4, mI ((m : Nat) : Int))] [] (ov (wr F3 125 27 ((ns + 1 : Nat) : Int))) := by
      intro f44
      induction f44 with
      | zero => intro m hf44; omega
      | succ f44 ih44 =>
      intro m hf44 hm hno
      refine at_iload 46 X rfl dX12_sunHere_44 rfl ?_
      refine at_aload_n 47 X rfl rfl dX12_sunHere_46 rfl ?_
      refine m_getR 50 X f_X12_20 k_125 r_125_11 dX12_sunHere_47 rfl ?_
      refine at_iconst 51 X (by decide) dX12_sunHere_50 rfl ?_
      refine m_ialoadV 52 X 2 (by omega) ((xNs Q : Nat) : Int) ((wr_o (by omega)).trans ((congrFun (hq_F3 128 (by omega)) 2).trans hD.1.2.2.1)) k_128 e_128 (by omega) dX12_sunHere_51 rfl ?_
      refine at_icmp_ge 55 74 X dX12_sunHere_52 rfl (by decide) (fun h52 => ?_) (fun h52 => ?_)
      · refine at_aload_n 75 X rfl rfl dX12_sunHere_74 rfl ?_
        refine m_getR 78 X f_X12_34 k_125 r_125_15 dX12_sunHere_75 rfl ?_
        refine at_iload 80 X rfl dX12_sunHere_78 rfl ?_
        refine m_aaloadV 81 X m (by omega) k_153 (by decide) (by omega) (rr_153 _ (by omega)) dX12_sunHere_80 rfl ?_
        refine at_iconst 82 X (by decide) dX12_sunHere_81 rfl ?_
        refine at_iload_n 83 X rfl rfl dX12_sunHere_82 rfl ?_
        refine m_iastoreV 84 X 0 (by omega) (kr_153 _ (by omega)) (er_153 _ (by omega)) (by omega) dX12_sunHere_83 rfl ?_
        refine at_aload_n 85 X rfl rfl dX12_sunHere_84 rfl ?_
        refine m_getR 88 X f_X12_34 k_125 r_125_15 dX12_sunHere_85 rfl ?_
        refine at_iload 90 X rfl dX12_sunHere_88 rfl ?_
        refine m_aaloadV 91 X m (by omega) k_153 (by decide) (by omega) (rr_153 _ (by omega)) dX12_sunHere_90 rfl ?_
        refine at_iconst 92 X (by decide) dX12_sunHere_91 rfl ?_
        refine at_iload_n 93 X rfl rfl dX12_sunHere_92 rfl ?_
        refine m_iastoreV 94 X 1 (by omega) (kr_153 _ (by omega)) (er_153 _ (by omega)) (by omega) dX12_sunHere_93 rfl ?_
        refine at_aload_n 95 X rfl rfl dX12_sunHere_94 rfl ?_
        refine m_getR 98 X f_X12_34 k_125 r_125_15 dX12_sunHere_95 rfl ?_
        refine at_iload 100 X rfl dX12_sunHere_98 rfl ?_
        refine m_aaloadV 101 X m (by omega) k_153 (by decide) (by omega) (rr_153 _ (by omega)) dX12_sunHere_100 rfl ?_
        refine at_iconst 102 X (by decide) dX12_sunHere_101 rfl ?_
        refine at_iload_n 103 X rfl rfl dX12_sunHere_102 rfl ?_
        refine m_iastoreV 104 X 2 (by omega) (kr_153 _ (by omega)) (er_153 _ (by omega)) (by omega) dX12_sunHere_103 rfl ?_
        refine at_aload_n 105 X rfl rfl dX12_sunHere_104 rfl ?_
        refine m_getR 108 X f_X12_20 k_125 r_125_11 dX12_sunHere_105 rfl ?_
        refine at_iconst 109 X (by decide) dX12_sunHere_108 rfl ?_
        refine at_dup2 110 X (show ¬ (0 : Nat) = 1 by decide) (show ¬ (2 : Nat) = 1 by decide) dX12_sunHere_109 rfl ?_
        refine m_ialoadV 111 X 2 (by omega) ((xNs Q : Nat) : Int) ((wr_o (by omega)).trans ((wr_o (by omega)).trans ((wr_o (by omega)).trans ((wr_o (by omega)).trans ((congrFun (hq_F3 128 (by omega)) 2).trans hD.1.2.2.1))))) k_128 e_128 (by omega) dX12_sunHere_110 rfl ?_
        refine at_iload 113 X rfl dX12_sunHere_111 rfl ?_
        refine at_aload_n 114 X rfl rfl dX12_sunHere_113 rfl ?_
        refine m_getR 117 X f_X12_20 k_125 r_125_11 dX12_sunHere_114 rfl ?_
        refine at_iconst 118 X (by decide) dX12_sunHere_117 rfl ?_
        refine m_ialoadV 119 X 2 (by omega) ((xNs Q : Nat) : Int) ((wr_o (by omega)).trans ((wr_o (by omega)).trans ((wr_o (by omega)).trans ((wr_o (by omega)).trans ((congrFun (hq_F3 128 (by omega)) 2).trans hD.1.2.2.1))))) k_128 e_128 (by omega) dX12_sunHere_118 rfl ?_
        refine at_icmp_ne 122 126 X dX12_sunHere_119 rfl (by decide) (fun h119 => ?_) (fun h119 => ?_)
        · exfalso; omega
        · refine at_iconst 123 X (by decide) dX12_sunHere_122 rfl ?_
          refine at_goto 127 X dX12_sunHere_123 (by decide) ?_
          refine at_iaddV 128 X ((xNs Q + 1 : Nat) : Int) (w32_v (by omega) (by omega) (by omega)) dX12_sunHere_127 rfl ?_
          refine m_iastoreV 129 X 2 (by omega) k_128 e_128 (by omega) dX12_sunHere_128 rfl ?_
          refine at_vret X Rt ?_ (Nat.le_refl _) (Nat.le_refl _) dX12_sunHere_129
          have hq7 : (wr (wr (wr (wr (wr F3 125 27 ((ns + 1 : Nat) : Int)) (154 + m) 0 ((nuR B n t 0 23 : Nat) : Int)) (154 + m) 1 ((nuR B n (nuT B n t 0 23) 0 1 : Nat) : Int)) (154 + m) 2 ((nuR B n (nuT B n (nuT B n t 0 23) 0 1) 0 99 : Nat) : Int)) 128 2 ((xNs Q + 1 : Nat) : Int)) 125 7 = E 125 7 := by simp (disch := omega) only [wr_o]; exact (hf_F3.2 7 (by omega)).trans ((hf_F2.2 7 (by omega)).trans (hf_F1.2 7 (by omega)))
          have hRF : RFr E (wr (wr (wr (wr (wr F3 125 27 ((ns + 1 : Nat) : Int)) (154 + m) 0 ((nuR B n t 0 23 : Nat) : Int)) (154 + m) 1 ((nuR B n (nuT B n t 0 23) 0 1 : Nat) : Int)) (154 + m) 2 ((nuR B n (nuT B n (nuT B n t 0 23) 0 1) 0 99 : Nat) : Int)) 128 2 ((xNs Q + 1 : Nat) : Int)) := ⟨fun q hq => by simp (disch := omega) only [wr_row]; exact hq_F3 q (by omega), fun k hk => by simp (disch := omega) only [wr_o]; exact (hf_F3.2 k (by omega)).trans ((hf_F2.2 k (by omega)).trans (hf_F1.2 k (by omega)))⟩
          have hD3 : RTD F3 P Q := hD.fr (fun q hq => hq_F3 q hq)
          refine ⟨rfl, _, rfl, (hP_F3.w (fun k hk => by simp (disch := omega) only [wr_o]) (by simp (disch := omega) only [wr_row])), fun _ => ⟨by simp (disch := omega) only [wr_o, wr_s], ?_⟩, hRF, hq7⟩
          have hmx : m = xNs Q := by omega
          have hfin := RTD_Su2 (E := F3) (f := nuR B n t 0 23) (w := nuR B n (nuT B n t 0 23) 0 1) (l := nuR B n (nuT B n (nuT B n t 0 23) 0 1) 0 99) hD3 hB (by omega) (by omega) (by rw [← hmx]; exact hno) (by omega)
          have hfin2 := hfin.fr (E1 := wr (wr (wr (wr (wr F3 125 27 ((ns + 1 : Nat) : Int)) (154 + xNs Q) 0 ((nuR B n t 0 23 : Nat) : Int)) (154 + xNs Q) 1 ((nuR B n (nuT B n t 0 23) 0 1 : Nat) : Int)) (154 + xNs Q) 2 ((nuR B n (nuT B n (nuT B n t 0 23) 0 1) 0 99 : Nat) : Int)) 128 2 ((xNs Q + 1 : Nat) : Int)) (fun q hq => (wr_cong (wr_cong (wr_cong (wr_cong ((wr_row hq).trans rfl))))))
          have hst : wr (wr (wr (wr (wr F3 125 27 ((ns + 1 : Nat) : Int)) (154 + m) 0 ((nuR B n t 0 23 : Nat) : Int)) (154 + m) 1 ((nuR B n (nuT B n t 0 23) 0 1 : Nat) : Int)) (154 + m) 2 ((nuR B n (nuT B n (nuT B n t 0 23) 0 1) 0 99 : Nat) : Int)) 128 2 ((xNs Q + 1 : Nat) : Int) = wr (wr (wr (wr (wr F3 125 27 ((ns + 1 : Nat) : Int)) (154 + xNs Q) 0 ((nuR B n t 0 23 : Nat) : Int)) (154 + xNs Q) 1 ((nuR B n (nuT B n t 0 23) 0 1 : Nat) : Int)) (154 + xNs Q) 2 ((nuR B n (nuT B n (nuT B n t 0 23) 0 1) 0 99 : Nat) : Int)) 128 2 ((xNs Q + 1 : Nat) : Int) := by rw [hmx]
          rw [hst]
          have hsu : (suC B n t P).2 = setSu P (nuV B n t 0 23) (nuV B n (nuT B n t 0 23) 0 1) (nuV B n (nuT B n (nuT B n t 0 23) 0 1) 0 99) := rfl
          rw [hsu]
          exact ⟨_, by rw [← e1, ← e2, ← e3]; exact hfin2, by show xNs Q + 1 ≤ ns + 1; omega⟩
      · refine at_aload_n 56 X rfl rfl dX12_sunHere_55 rfl ?_
        refine m_getR 59 X f_X12_34 k_125 r_125_15 dX12_sunHere_56 rfl ?_
        refine at_iload 61 X rfl dX12_sunHere_59 rfl ?_
        refine m_aaloadV 62 X m (by omega) k_153 (by decide) (by omega) (rr_153 _ (by omega)) dX12_sunHere_61 rfl ?_
        refine at_iconst 63 X (by decide) dX12_sunHere_62 rfl ?_
        refine m_ialoadV 64 X 0 (by omega) ((xTk Q m : Nat) : Int) ((wr_o (by omega)).trans ((congrFun (hq_F3 (154 + m) (by omega)) 0).trans (hD.2.2.1.1 m (by omega)).2.2.1)) (kr_153 _ (by omega)) (er_153 _ (by omega)) (by omega) dX12_sunHere_63 rfl ?_
        refine at_iload_n 65 X rfl rfl dX12_sunHere_64 rfl ?_
        refine at_icmp_eq 68 74 X dX12_sunHere_65 rfl (by decide) (fun h65 => ?_) (fun h65 => ?_)
        · refine at_aload_n 75 X rfl rfl dX12_sunHere_74 rfl ?_
          refine m_getR 78 X f_X12_34 k_125 r_125_15 dX12_sunHere_75 rfl ?_
          refine at_iload 80 X rfl dX12_sunHere_78 rfl ?_
          refine m_aaloadV 81 X m (by omega) k_153 (by decide) (by omega) (rr_153 _ (by omega)) dX12_sunHere_80 rfl ?_
          refine at_iconst 82 X (by decide) dX12_sunHere_81 rfl ?_
          refine at_iload_n 83 X rfl rfl dX12_sunHere_82 rfl ?_
          refine m_iastoreV 84 X 0 (by omega) (kr_153 _ (by omega)) (er_153 _ (by omega)) (by omega) dX12_sunHere_83 rfl ?_
          refine at_aload_n 85 X rfl rfl dX12_sunHere_84 rfl ?_
          refine m_getR 88 X f_X12_34 k_125 r_125_15 dX12_sunHere_85 rfl ?_
          refine at_iload 90 X rfl dX12_sunHere_88 rfl ?_
          refine m_aaloadV 91 X m (by omega) k_153 (by decide) (by omega) (rr_153 _ (by omega)) dX12_sunHere_90 rfl ?_
          refine at_iconst 92 X (by decide) dX12_sunHere_91 rfl ?_
          refine at_iload_n 93 X rfl rfl dX12_sunHere_92 rfl ?_
          refine m_iastoreV 94 X 1 (by omega) (kr_153 _ (by omega)) (er_153 _ (by omega)) (by omega) dX12_sunHere_93 rfl ?_
          refine at_aload_n 95 X rfl rfl dX12_sunHere_94 rfl ?_
          refine m_getR 98 X f_X12_34 k_125 r_125_15 dX12_sunHere_95 rfl ?_
          refine at_iload 100 X rfl dX12_sunHere_98 rfl ?_
          refine m_aaloadV 101 X m (by omega) k_153 (by decide) (by omega) (rr_153 _ (by omega)) dX12_sunHere_100 rfl ?_
          refine at_iconst 102 X (by decide) dX12_sunHere_101 rfl ?_
          refine at_iload_n 103 X rfl rfl dX12_sunHere_102 rfl ?_
          refine m_iastoreV 104 X 2 (by omega) (kr_153 _ (by omega)) (er_153 _ (by omega)) (by omega) dX12_sunHere_103 rfl ?_
          refine at_aload_n 105 X rfl rfl dX12_sunHere_104 rfl ?_
          refine m_getR 108 X f_X12_20 k_125 r_125_11 dX12_sunHere_105 rfl ?_
          refine at_iconst 109 X (by decide) dX12_sunHere_108 rfl ?_
          refine at_dup2 110 X (show ¬ (0 : Nat) = 1 by decide) (show ¬ (2 : Nat) = 1 by decide) dX12_sunHere_109 rfl ?_
          refine m_ialoadV 111 X 2 (by omega) ((xNs Q : Nat) : Int) ((wr_o (by omega)).trans ((wr_o (by omega)).trans ((wr_o (by omega)).trans ((wr_o (by omega)).trans ((congrFun (hq_F3 128 (by omega)) 2).trans hD.1.2.2.1))))) k_128 e_128 (by omega) dX12_sunHere_110 rfl ?_
          refine at_iload 113 X rfl dX12_sunHere_111 rfl ?_
          refine at_aload_n 114 X rfl rfl dX12_sunHere_113 rfl ?_
          refine m_getR 117 X f_X12_20 k_125 r_125_11 dX12_sunHere_114 rfl ?_
          refine at_iconst 118 X (by decide) dX12_sunHere_117 rfl ?_
          refine m_ialoadV 119 X 2 (by omega) ((xNs Q : Nat) : Int) ((wr_o (by omega)).trans ((wr_o (by omega)).trans ((wr_o (by omega)).trans ((wr_o (by omega)).trans ((congrFun (hq_F3 128 (by omega)) 2).trans hD.1.2.2.1))))) k_128 e_128 (by omega) dX12_sunHere_118 rfl ?_
          refine at_icmp_ne 122 126 X dX12_sunHere_119 rfl (by decide) (fun h119 => ?_) (fun h119 => ?_)
          · refine at_iconst 127 X (by decide) dX12_sunHere_126 rfl ?_
            refine at_iaddV 128 X ((xNs Q + 0 : Nat) : Int) (w32_v (by omega) (by omega) (by omega)) dX12_sunHere_127 rfl ?_
            refine m_iastoreV 129 X 2 (by omega) k_128 e_128 (by omega) dX12_sunHere_128 rfl ?_
            refine at_vret X Rt ?_ (Nat.le_refl _) (Nat.le_refl _) dX12_sunHere_129
            have hq7 : (wr (wr (wr (wr (wr F3 125 27 ((ns + 1 : Nat) : Int)) (154 + m) 0 ((nuR B n t 0 23 : Nat) : Int)) (154 + m) 1 ((nuR B n (nuT B n t 0 23) 0 1 : Nat) : Int)) (154 + m) 2 ((nuR B n (nuT B n (nuT B n t 0 23) 0 1) 0 99 : Nat) : Int)) 128 2 ((xNs Q + 0 : Nat) : Int)) 125 7 = E 125 7 := by simp (disch := omega) only [wr_o]; exact (hf_F3.2 7 (by omega)).trans ((hf_F2.2 7 (by omega)).trans (hf_F1.2 7 (by omega)))
            have hRF : RFr E (wr (wr (wr (wr (wr F3 125 27 ((ns + 1 : Nat) : Int)) (154 + m) 0 ((nuR B n t 0 23 : Nat) : Int)) (154 + m) 1 ((nuR B n (nuT B n t 0 23) 0 1 : Nat) : Int)) (154 + m) 2 ((nuR B n (nuT B n (nuT B n t 0 23) 0 1) 0 99 : Nat) : Int)) 128 2 ((xNs Q + 0 : Nat) : Int)) := ⟨fun q hq => by simp (disch := omega) only [wr_row]; exact hq_F3 q (by omega), fun k hk => by simp (disch := omega) only [wr_o]; exact (hf_F3.2 k (by omega)).trans ((hf_F2.2 k (by omega)).trans (hf_F1.2 k (by omega)))⟩
            have hD3 : RTD F3 P Q := hD.fr (fun q hq => hq_F3 q hq)
            refine ⟨rfl, _, rfl, (hP_F3.w (fun k hk => by simp (disch := omega) only [wr_o]) (by simp (disch := omega) only [wr_row])), fun _ => ⟨by simp (disch := omega) only [wr_o, wr_s], ?_⟩, hRF, hq7⟩
            have hmf : xTk Q m = nuR B n t 0 23 := by omega
            have hfin := RTD_Su1 (E := F3) (f := nuR B n t 0 23) (w := nuR B n (nuT B n t 0 23) 0 1) (l := nuR B n (nuT B n (nuT B n t 0 23) 0 1) 0 99) (k0 := m) hD3 hB (by omega) (by omega) (by omega) hmf
            have hfin2 := hfin.fr (E1 := wr (wr (wr (wr F3 125 27 ((ns + 1 : Nat) : Int)) (154 + m) 0 ((nuR B n t 0 23 : Nat) : Int)) (154 + m) 1 ((nuR B n (nuT B n t 0 23) 0 1 : Nat) : Int)) (154 + m) 2 ((nuR B n (nuT B n (nuT B n t 0 23) 0 1) 0 99 : Nat) : Int)) (fun q hq => (wr_cong (wr_cong (wr_cong ((wr_row hq).trans rfl)))))
            have hid : wr (wr (wr (wr (wr F3 125 27 ((ns + 1 : Nat) : Int)) (154 + m) 0 ((nuR B n t 0 23 : Nat) : Int)) (154 + m) 1 ((nuR B n (nuT B n t 0 23) 0 1 : Nat) : Int)) (154 + m) 2 ((nuR B n (nuT B n (nuT B n t 0 23) 0 1) 0 99 : Nat) : Int)) 128 2 ((xNs Q + 0 : Nat) : Int) = wr (wr (wr (wr F3 125 27 ((ns + 1 : Nat) : Int)) (154 + m) 0 ((nuR B n t 0 23 : Nat) : Int)) (154 + m) 1 ((nuR B n (nuT B n t 0 23) 0 1 : Nat) : Int)) (154 + m) 2 ((nuR B n (nuT B n (nuT B n t 0 23) 0 1) 0 99 : Nat) : Int) := wr_id (by simp (disch := omega) only [wr_o]; rw [show F3 128 2 = ((xNs Q : Nat) : Int) from (congrFun (hq_F3 128 (by omega)) 2).trans hD.1.2.2.1]; first | rfl | omega)
            rw [hid]
            have hsu : (suC B n t P).2 = setSu P (nuV B n t 0 23) (nuV B n (nuT B n t 0 23) 0 1) (nuV B n (nuT B n (nuT B n t 0 23) 0 1) 0 99) := rfl
            rw [hsu]
            exact ⟨Q, by rw [← e1, ← e2, ← e3]; exact hfin2, by omega⟩
          · exfalso; omega
        · refine at_iincV 71 X ((m + 1 : Nat) : Int) (w32_v (by omega) (by omega) (by omega)) rfl dX12_sunHere_68 rfl (by decide) ?_
          refine at_goto 44 X dX12_sunHere_71 (by decide) ?_
          exact at_sub _ (by exact ⟨rfl, rfl, rfl, rfl, rfl, trivial⟩) (ih44 (m + 1) (by first | omega | (simp only [] at *; omega)) (by first | omega | assumption) (fun k hk => if c : k = m then by rw [c]; omega else hno k (by omega)))
    exact at_sub _ (by exact ⟨rfl, rfl, rfl, rfl, rfl, trivial⟩) (J44 _ 0 (Nat.lt_succ_self _) (by omega) (fun k hk => absurd hk (Nat.not_lt_zero k)))
  · have hok : ¬ (nuT B n (nuT B n (nuT B n t 0 23) 0 1) 0 99).2.2.1 = 0 := h30
    refine at_vret X Rt ?_ (Nat.le_refl _) (Nat.le_refl _) dX12_sunHere_33
    exact ⟨rfl, F3, rfl, hP_F3, fun q => absurd q hok, (hf_F1.tr (hf_F2.tr hf_F3)).fr, (hf_F3.2 7 (by omega)).trans ((hf_F2.2 7 (by omega)).trans (hf_F1.2 7 (by omega)))⟩
