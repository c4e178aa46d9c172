/-- the reference where a change has been put by (c: how many before) -/
def CHO (E E1 : Mm) (c : Nat) : Prop := (∀ i, i < 178 → E1 (633 + c) i = snI E i) ∧ E1 125 46 = ((c + 1 : Nat) : Int) ∧ (∀ q, q ≠ 633 + c → q ≠ 125 → E1 q = E q) ∧ (∀ k, k ≠ 0 → k ≠ 46 → k ≠ 48 → E1 125 k = E 125 k) ∧ E1 125 0 = 0
theorem dX12_build_0 : decode cX12_build 0 = .ok (.aload_n 0, 1) := by decide +kernel
theorem dX12_build_1 : decode cX12_build 1 = .ok (.iconst 0, 1) := by decide +kernel
theorem dX12_build_2 : decode cX12_build 2 = .ok (.putfield 152, 3) := by decide +kernel
theorem dX12_build_5 : decode cX12_build 5 = .ok (.aload_n 0, 1) := by decide +kernel
theorem dX12_build_6 : decode cX12_build 6 = .ok (.aload_n 0, 1) := by decide +kernel
theorem dX12_build_7 : decode cX12_build 7 = .ok (.iload_n 1, 1) := by decide +kernel
theorem dX12_build_8 : decode cX12_build 8 = .ok (.invokevirtual 321, 3) := by decide +kernel
theorem dX12_build_11 : decode cX12_build 11 = .ok (.ifCond .ne 7, 3) := by decide +kernel
theorem dX12_build_14 : decode cX12_build 14 = .ok (.iconst 1, 1) := by decide +kernel
theorem dX12_build_15 : decode cX12_build 15 = .ok (.goto 4, 3) := by decide +kernel
theorem dX12_build_18 : decode cX12_build 18 = .ok (.iconst 0, 1) := by decide +kernel
theorem dX12_build_19 : decode cX12_build 19 = .ok (.iconst 1, 1) := by decide +kernel
theorem dX12_build_20 : decode cX12_build 20 = .ok (.iconst 1, 1) := by decide +kernel
theorem dX12_build_21 : decode cX12_build 21 = .ok (.invokevirtual 244, 3) := by decide +kernel
theorem dX12_build_24 : decode cX12_build 24 = .ok (.ifCond .ne 27, 3) := by decide +kernel
theorem dX12_build_27 : decode cX12_build 27 = .ok (.aload_n 0, 1) := by decide +kernel
theorem dX12_build_28 : decode cX12_build 28 = .ok (.iload_n 2, 1) := by decide +kernel
theorem dX12_build_29 : decode cX12_build 29 = .ok (.iconst 1, 1) := by decide +kernel
theorem dX12_build_30 : decode cX12_build 30 = .ok (.bipush 99, 2) := by decide +kernel
theorem dX12_build_32 : decode cX12_build 32 = .ok (.invokestatic 186, 3) := by decide +kernel
theorem dX12_build_35 : decode cX12_build 35 = .ok (.ifCond .ne 7, 3) := by decide +kernel
theorem dX12_build_38 : decode cX12_build 38 = .ok (.iconst 1, 1) := by decide +kernel
theorem dX12_build_39 : decode cX12_build 39 = .ok (.goto 4, 3) := by decide +kernel
theorem dX12_build_42 : decode cX12_build 42 = .ok (.iconst 0, 1) := by decide +kernel
theorem dX12_build_43 : decode cX12_build 43 = .ok (.iconst 2, 1) := by decide +kernel
theorem dX12_build_44 : decode cX12_build 44 = .ok (.iconst 2, 1) := by decide +kernel
theorem dX12_build_45 : decode cX12_build 45 = .ok (.invokevirtual 244, 3) := by decide +kernel
theorem dX12_build_48 : decode cX12_build 48 = .ok (.ifCond .eq 5, 3) := by decide +kernel
theorem dX12_build_51 : decode cX12_build 51 = .ok (.iconst 0, 1) := by decide +kernel
theorem dX12_build_52 : decode cX12_build 52 = .ok (.ireturn, 1) := by decide +kernel
theorem dX12_build_53 : decode cX12_build 53 = .ok (.aload_n 0, 1) := by decide +kernel
theorem dX12_build_54 : decode cX12_build 54 = .ok (.getfield 270, 3) := by decide +kernel
theorem dX12_build_57 : decode cX12_build 57 = .ok (.bipush 20, 2) := by decide +kernel
theorem dX12_build_59 : decode cX12_build 59 = .ok (.if_icmp .ne 5, 3) := by decide +kernel
theorem dX12_build_62 : decode cX12_build 62 = .ok (.iconst (-1), 1) := by decide +kernel
theorem dX12_build_63 : decode cX12_build 63 = .ok (.ireturn, 1) := by decide +kernel
theorem dX12_build_64 : decode cX12_build 64 = .ok (.aload_n 0, 1) := by decide +kernel
theorem dX12_build_65 : decode cX12_build 65 = .ok (.getfield 31, 3) := by decide +kernel
theorem dX12_build_68 : decode cX12_build 68 = .ok (.iload_n 1, 1) := by decide +kernel
theorem dX12_build_69 : decode cX12_build 69 = .ok (.aaload, 1) := by decide +kernel
theorem dX12_build_70 : decode cX12_build 70 = .ok (.iconst 1, 1) := by decide +kernel
theorem dX12_build_71 : decode cX12_build 71 = .ok (.iaload, 1) := by decide +kernel
theorem dX12_build_72 : decode cX12_build 72 = .ok (.istore_n 3, 1) := by decide +kernel
theorem dX12_build_73 : decode cX12_build 73 = .ok (.aload_n 0, 1) := by decide +kernel
theorem dX12_build_74 : decode cX12_build 74 = .ok (.invokevirtual 471, 3) := by decide +kernel
theorem dX12_build_77 : decode cX12_build 77 = .ok (.aload_n 0, 1) := by decide +kernel
theorem dX12_build_78 : decode cX12_build 78 = .ok (.getfield 31, 3) := by decide +kernel
theorem dX12_build_81 : decode cX12_build 81 = .ok (.iload_n 1, 1) := by decide +kernel
theorem dX12_build_82 : decode cX12_build 82 = .ok (.aaload, 1) := by decide +kernel
theorem dX12_build_83 : decode cX12_build 83 = .ok (.iconst 1, 1) := by decide +kernel
theorem dX12_build_84 : decode cX12_build 84 = .ok (.iload_n 2, 1) := by decide +kernel
theorem dX12_build_85 : decode cX12_build 85 = .ok (.iastore, 1) := by decide +kernel
theorem dX12_build_86 : decode cX12_build 86 = .ok (.iload_n 3, 1) := by decide +kernel
theorem dX12_build_87 : decode cX12_build 87 = .ok (.ireturn, 1) := by decide +kernel
theorem ct_X12_build {g : Gw} (hG : GF g) {z : Bool} (E : Mm) (Q : RX) (P : SP) (L : LW) (T K : LN) (d st : Nat) (hWf : WF P L T K d st) (hI_E : RXI E Q P L T K d st) (x0 x1 : Int) (c : Nat) (hc20 : c ≤ 20) (hc : E 125 46 = (c : Int)) : CT g yX12_build cX12_build 4 (some .int) 3 67 0 0 K2 z [mR 125, mI x0, mI x1] (ov E) K2 z (fun r' D' => ((0 ≤ x0 ∧ x0 ≤ (sN P : Int) - 1) ∧ (1 ≤ x1 ∧ x1 ≤ 99) ∧ ((c = 20 ∧ r' = some (mI (-1)) ∧ ∃ E1, D' = ov E1 ∧ RXO E E1 Q P L T K d st) ∨ (c < 20 ∧ r' = some (mI (sH P x0.toNat : Int)) ∧ ∃ E1, D' = ov (wr E1 (142 + x0.toNat) 1 x1) ∧ CHO E E1 c))) ∨ (¬ (0 ≤ x0 ∧ x0 ≤ (sN P : Int) - 1) ∧ r' = some (mI 0) ∧ D' = ov (badR E 1 1)) ∨ ((0 ≤ x0 ∧ x0 ≤ (sN P : Int) - 1) ∧ ¬ (1 ≤ x1 ∧ x1 ≤ 99) ∧ r' = some (mI 0) ∧ D' = ov (badR E 2 2))) := by
  refine CT.mk hG (by decide +kernel) (Nat.le_of_ble_eq_true rfl) (fun κ X Rt _ ok => ?_)
  have hP := hWf.1
  have hN8 := hP.B.N
  have hW40 := hP.W
  have hN11 := hP.N
  have hwN : gN (gDay P L d) ≤ 11 := Nat.le_trans hP.N (by decide)
  have hgw : gW (gDay P L d) = sW P := rfl
  have hDI24 := dyP_DI (G := (gDay P L d)) hP.B hWf.2.2.2.1 (Nat.le_refl 24)
  refine at_aload_n 1 X rfl rfl dX12_build_0 rfl ?_
  refine at_iconst 2 X (by decide) dX12_build_1 rfl ?_
  refine m_putI 5 X f_X12_152 fw_12_0 k_125 rn_125_0 dX12_build_2 rfl ?_
  have hO_E0 := RXO.z hWf hI_E
  generalize hE0 : wr E 125 0 0 = E0 at hO_E0 ⊢
  have hR_E0 := hO_E0.1.1
  refine at_aload_n 6 X rfl rfl dX12_build_5 rfl ?_
  refine at_aload_n 7 X rfl rfl dX12_build_6 rfl ?_
  refine at_iload_n 8 X rfl rfl dX12_build_7 rfl ?_
  refine at_callV 11 X _ 12 (ct_X12_isPost hG E0 P Q hP hR_E0 x0) clX12 rfl k_125 mo_X12_isPost w_2114 vo_X12_isPost.1 vo_X12_isPost.2 rfl rfl (crm Rt (by decide)) (Nat.le_of_ble_eq_true rfl) dX12_build_8 rfl ?_
  rintro _ _ ⟨rfl, rfl⟩
  refine at_if_ne 14 18 X dX12_build_11 rfl (by decide) (fun h11 => ?_) (fun h11 => ?_)
  · have h11 : (0 ≤ x0 ∧ x0 ≤ (sN P : Int) - 1) := ite_yes.mp h11
    refine at_iconst 19 X (by decide) dX12_build_18 rfl ?_
    refine at_iconst 20 X (by decide) dX12_build_19 rfl ?_
    refine at_iconst 21 X (by decide) dX12_build_20 rfl ?_
    refine at_callV 24 X _ 12 (ct_bad0 hG E0 1 1 (by decide) hO_E0.2.2.1) clX12 rfl k_125 mo_X12_bad w_1960 vo_X12_bad.1 vo_X12_bad.2 rfl rfl (crm Rt (by decide)) (Nat.le_of_ble_eq_true rfl) dX12_build_21 rfl ?_
    rintro _ _ ⟨rfl, rfl⟩
    have hc0 : 0 ≤ x0 ∧ x0 ≤ (sN P : Int) - 1 := by omega
    refine at_if_ne 27 51 X dX12_build_24 rfl (by decide) (fun h24 => ?_) (fun h24 => ?_)
    · exact absurd h24 (by decide)
    · refine at_aload_n 28 X rfl rfl dX12_build_27 rfl ?_
      refine at_iload_n 29 X rfl rfl dX12_build_28 rfl ?_
      refine at_iconst 30 X (by decide) dX12_build_29 rfl ?_
      refine at_bipush 32 X (by decide) (by decide) dX12_build_30 rfl ?_
      refine at_callS 35 X (ct_X12_in hG _ _ _) mo_X12_in w_1957 so_X12_in rfl rfl (crm Rt (by decide)) (Nat.le_of_ble_eq_true rfl) dX12_build_32 rfl ?_
      rintro _ _ ⟨rfl, rfl⟩
      refine at_if_ne 38 42 X dX12_build_35 rfl (by decide) (fun h35 => ?_) (fun h35 => ?_)
      · have h35 : (1 ≤ x1 ∧ x1 ≤ 99) := ite_yes.mp h35
        refine at_iconst 43 X (by decide) dX12_build_42 rfl ?_
        refine at_iconst 44 X (by decide) dX12_build_43 rfl ?_
        refine at_iconst 45 X (by decide) dX12_build_44 rfl ?_
        refine at_callV 48 X _ 12 (ct_bad0 hG E0 2 2 (by decide) hO_E0.2.2.1) clX12 rfl k_125 mo_X12_bad w_1960 vo_X12_bad.1 vo_X12_bad.2 rfl rfl (crm Rt (by decide)) (Nat.le_of_ble_eq_true rfl) dX12_build_45 rfl ?_
        rintro _ _ ⟨rfl, rfl⟩
        have hc1 : 1 ≤ x1 ∧ x1 ≤ 99 := by omega
        refine at_if_eq 51 53 X dX12_build_48 rfl (by decide) (fun h48 => ?_) (fun h48 => ?_)
        · obtain ⟨p, rfl⟩ : ∃ p : Nat, x0 = (p : Int) := ⟨x0.toNat, by omega⟩
          have hcc : E0 125 46 = (c : Int) := (hO_E0.2.1.2 46 (by omega)).trans hc
          refine at_aload_n 54 X rfl rfl dX12_build_53 rfl ?_
          refine m_getIV 57 X ((c : Nat) : Int) hcc f_X12_270 k_125 rn_125_46 dX12_build_54 rfl ?_
          refine at_bipush 59 X (by decide) (by decide) dX12_build_57 rfl ?_
          refine at_icmp_ne 62 64 X dX12_build_59 rfl (by decide) (fun h59 => ?_) (fun h59 => ?_)
          · refine at_aload_n 65 X rfl rfl dX12_build_64 rfl ?_
            refine m_getR 68 X f_X12_31 k_125 r_125_14 dX12_build_65 rfl ?_
            refine at_iload_n 69 X rfl rfl dX12_build_68 rfl ?_
            refine m_aaloadV 70 X p (by omega) k_141 (by decide) (by omega) (rr_141 _ (by omega)) dX12_build_69 rfl ?_
            refine at_iconst 71 X (by decide) dX12_build_70 rfl ?_
            refine m_ialoadV 72 X 1 (by omega) ((sH P p : Nat) : Int) (hR_E0.2.1 p (by omega)).2 (kr_141 _ (by omega)) (er_141 _ (by omega)) (by omega) dX12_build_71 rfl ?_
            have := hP.H (p := p) (by omega)
            refine at_istore_n 73 X rfl dX12_build_72 rfl (by decide) ?_
            refine at_aload_n 74 X rfl rfl dX12_build_73 rfl ?_
            refine at_callV 77 X _ 12 (ct_X12_changes hG E0 c (by omega) hcc) clX12 rfl k_125 mo_X12_changes w_2406 vo_X12_changes.1 vo_X12_changes.2 rfl rfl (crm Rt (by decide)) (Nat.le_of_ble_eq_true rfl) dX12_build_74 rfl ?_
            rintro _ _ ⟨rfl, F, rfl, g1, g2, g3, g4⟩
            have hq0 : ∀ q, q ≠ 125 → E0 q = E q := fun q h => by rw [← hE0]; exact wr_row h
            have hk0 : ∀ k, k ≠ 0 → E0 125 k = E 125 k := fun k h => by rw [← hE0]; exact wr_o (Or.inr h)
            have hch : CHO E F c := ⟨fun i hi => (g1 i hi).trans (snI_congr (fun q hq => hq0 q (by omega)) hi), g2, fun q h1 h2 => (g3 q h1 h2).trans (hq0 q h2), fun k h1 h2 h3 => (g4 k h2 h3).trans (hk0 k h1), (g4 0 (by decide) (by decide)).trans hO_E0.2.2.1⟩
            refine at_aload_n 78 X rfl rfl dX12_build_77 rfl ?_
            refine m_getR 81 X f_X12_31 k_125 r_125_14 dX12_build_78 rfl ?_
            refine at_iload_n 82 X rfl rfl dX12_build_81 rfl ?_
            refine m_aaloadV 83 X p (by omega) k_141 (by decide) (by omega) (rr_141 _ (by omega)) dX12_build_82 rfl ?_
            refine at_iconst 84 X (by decide) dX12_build_83 rfl ?_
            refine at_iload_n 85 X rfl rfl dX12_build_84 rfl ?_
            refine m_iastoreV 86 X 1 (by omega) (kr_141 _ (by omega)) (er_141 _ (by omega)) (by omega) dX12_build_85 rfl ?_
            refine at_iload_n 87 X rfl rfl dX12_build_86 rfl ?_
            refine at_iret X Rt ?_ (Nat.le_refl _) (Nat.le_refl _) dX12_build_87
            exact Or.inl ⟨hc0, hc1, Or.inr ⟨by omega, rfl, F, rfl, hch⟩⟩
          · refine at_iconst 63 X (by decide) dX12_build_62 rfl ?_
            refine at_iret X Rt ?_ (Nat.le_refl _) (Nat.le_refl _) dX12_build_63
            exact Or.inl ⟨hc0, hc1, Or.inl ⟨by omega, rfl, _, rfl, hO_E0⟩⟩
        · exact absurd h48 (by decide)
      · have h35 : ¬ (1 ≤ x1 ∧ x1 ≤ 99) := ite_no.mp h35
        refine at_iconst 39 X (by decide) dX12_build_38 rfl ?_
        refine at_goto 43 X dX12_build_39 (by decide) ?_
        refine at_iconst 44 X (by decide) dX12_build_43 rfl ?_
        refine at_iconst 45 X (by decide) dX12_build_44 rfl ?_
        refine at_callV 48 X _ 12 (ct_bad1 hG E0 2 2 (by decide) hO_E0.2.2.1 (by decide)) clX12 rfl k_125 mo_X12_bad w_1960 vo_X12_bad.1 vo_X12_bad.2 rfl rfl (crm Rt (by decide)) (Nat.le_of_ble_eq_true rfl) dX12_build_45 rfl ?_
        rintro _ _ ⟨rfl, rfl⟩
        have hb : ¬ (1 ≤ x1 ∧ x1 ≤ 99) := by omega
        refine at_if_eq 51 53 X dX12_build_48 rfl (by decide) (fun h48 => ?_) (fun h48 => ?_)
        · exact absurd h48 (by decide)
        · refine at_iconst 52 X (by decide) dX12_build_51 rfl ?_
          refine at_iret X Rt ?_ (Nat.le_refl _) (Nat.le_refl _) dX12_build_52
          exact Or.inr (Or.inr (⟨hc0, hb, rfl, congrArg ov (badR_of hE0)⟩))
  · have h11 : ¬ (0 ≤ x0 ∧ x0 ≤ (sN P : Int) - 1) := ite_no.mp h11
    refine at_iconst 15 X (by decide) dX12_build_14 rfl ?_
    refine at_goto 19 X dX12_build_15 (by decide) ?_
    refine at_iconst 20 X (by decide) dX12_build_19 rfl ?_
    refine at_iconst 21 X (by decide) dX12_build_20 rfl ?_
    refine at_callV 24 X _ 12 (ct_bad1 hG E0 1 1 (by decide) hO_E0.2.2.1 (by decide)) clX12 rfl k_125 mo_X12_bad w_1960 vo_X12_bad.1 vo_X12_bad.2 rfl rfl (crm Rt (by decide)) (Nat.le_of_ble_eq_true rfl) dX12_build_21 rfl ?_
    rintro _ _ ⟨rfl, rfl⟩
    have hb : ¬ (0 ≤ x0 ∧ x0 ≤ (sN P : Int) - 1) := by omega
    refine at_if_ne 27 51 X dX12_build_24 rfl (by decide) (fun h24 => ?_) (fun h24 => ?_)
    · refine at_iconst 52 X (by decide) dX12_build_51 rfl ?_
      refine at_iret X Rt ?_ (Nat.le_refl _) (Nat.le_refl _) dX12_build_52
      exact Or.inr (Or.inl ⟨hb, rfl, congrArg ov (badR_of hE0)⟩)
    · exact absurd h24 (by decide)
