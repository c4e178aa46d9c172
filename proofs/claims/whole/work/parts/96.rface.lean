theorem dX12_kept_0 : decode cX12_kept 0 = .ok (.aload_n 0, 1) := by decide +kernel
theorem dX12_kept_1 : decode cX12_kept 1 = .ok (.iconst 0, 1) := by decide +kernel
theorem dX12_kept_2 : decode cX12_kept 2 = .ok (.putfield 152, 3) := by decide +kernel
theorem dX12_kept_5 : decode cX12_kept 5 = .ok (.aload_n 0, 1) := by decide +kernel
theorem dX12_kept_6 : decode cX12_kept 6 = .ok (.aload_n 0, 1) := by decide +kernel
theorem dX12_kept_7 : decode cX12_kept 7 = .ok (.iload_n 1, 1) := by decide +kernel
theorem dX12_kept_8 : decode cX12_kept 8 = .ok (.invokevirtual 324, 3) := by decide +kernel
theorem dX12_kept_11 : decode cX12_kept 11 = .ok (.ifCond .ne 7, 3) := by decide +kernel
theorem dX12_kept_14 : decode cX12_kept 14 = .ok (.iconst 1, 1) := by decide +kernel
theorem dX12_kept_15 : decode cX12_kept 15 = .ok (.goto 4, 3) := by decide +kernel
theorem dX12_kept_18 : decode cX12_kept 18 = .ok (.iconst 0, 1) := by decide +kernel
theorem dX12_kept_19 : decode cX12_kept 19 = .ok (.iconst 1, 1) := by decide +kernel
theorem dX12_kept_20 : decode cX12_kept 20 = .ok (.iconst 1, 1) := by decide +kernel
theorem dX12_kept_21 : decode cX12_kept 21 = .ok (.invokevirtual 244, 3) := by decide +kernel
theorem dX12_kept_24 : decode cX12_kept 24 = .ok (.ifCond .ne 36, 3) := by decide +kernel
theorem dX12_kept_27 : decode cX12_kept 27 = .ok (.aload_n 0, 1) := by decide +kernel
theorem dX12_kept_28 : decode cX12_kept 28 = .ok (.iload_n 2, 1) := by decide +kernel
theorem dX12_kept_29 : decode cX12_kept 29 = .ok (.invokestatic 314, 3) := by decide +kernel
theorem dX12_kept_32 : decode cX12_kept 32 = .ok (.ifCond .eq 15, 3) := by decide +kernel
theorem dX12_kept_35 : decode cX12_kept 35 = .ok (.iload_n 3, 1) := by decide +kernel
theorem dX12_kept_36 : decode cX12_kept 36 = .ok (.invokestatic 314, 3) := by decide +kernel
theorem dX12_kept_39 : decode cX12_kept 39 = .ok (.ifCond .eq 8, 3) := by decide +kernel
theorem dX12_kept_42 : decode cX12_kept 42 = .ok (.iload_n 2, 1) := by decide +kernel
theorem dX12_kept_43 : decode cX12_kept 43 = .ok (.iload_n 3, 1) := by decide +kernel
theorem dX12_kept_44 : decode cX12_kept 44 = .ok (.if_icmp .le 7, 3) := by decide +kernel
theorem dX12_kept_47 : decode cX12_kept 47 = .ok (.iconst 1, 1) := by decide +kernel
theorem dX12_kept_48 : decode cX12_kept 48 = .ok (.goto 4, 3) := by decide +kernel
theorem dX12_kept_51 : decode cX12_kept 51 = .ok (.iconst 0, 1) := by decide +kernel
theorem dX12_kept_52 : decode cX12_kept 52 = .ok (.iconst 2, 1) := by decide +kernel
theorem dX12_kept_53 : decode cX12_kept 53 = .ok (.iconst 2, 1) := by decide +kernel
theorem dX12_kept_54 : decode cX12_kept 54 = .ok (.invokevirtual 244, 3) := by decide +kernel
theorem dX12_kept_57 : decode cX12_kept 57 = .ok (.ifCond .eq 5, 3) := by decide +kernel
theorem dX12_kept_60 : decode cX12_kept 60 = .ok (.iconst 0, 1) := by decide +kernel
theorem dX12_kept_61 : decode cX12_kept 61 = .ok (.ireturn, 1) := by decide +kernel
theorem dX12_kept_62 : decode cX12_kept 62 = .ok (.aload_n 0, 1) := by decide +kernel
theorem dX12_kept_63 : decode cX12_kept 63 = .ok (.invokevirtual 378, 3) := by decide +kernel
theorem dX12_kept_66 : decode cX12_kept 66 = .ok (.aload_n 0, 1) := by decide +kernel
theorem dX12_kept_67 : decode cX12_kept 67 = .ok (.iload_n 1, 1) := by decide +kernel
theorem dX12_kept_68 : decode cX12_kept 68 = .ok (.iload_n 2, 1) := by decide +kernel
theorem dX12_kept_69 : decode cX12_kept 69 = .ok (.iload_n 3, 1) := by decide +kernel
theorem dX12_kept_70 : decode cX12_kept 70 = .ok (.invokevirtual 416, 3) := by decide +kernel
theorem dX12_kept_73 : decode cX12_kept 73 = .ok (.aload_n 0, 1) := by decide +kernel
theorem dX12_kept_74 : decode cX12_kept 74 = .ok (.iload_n 1, 1) := by decide +kernel
theorem dX12_kept_75 : decode cX12_kept 75 = .ok (.aload_n 0, 1) := by decide +kernel
theorem dX12_kept_76 : decode cX12_kept 76 = .ok (.getfield 61, 3) := by decide +kernel
theorem dX12_kept_79 : decode cX12_kept 79 = .ok (.iload_n 1, 1) := by decide +kernel
theorem dX12_kept_80 : decode cX12_kept 80 = .ok (.aaload, 1) := by decide +kernel
theorem dX12_kept_81 : decode cX12_kept 81 = .ok (.iconst 0, 1) := by decide +kernel
theorem dX12_kept_82 : decode cX12_kept 82 = .ok (.iaload, 1) := by decide +kernel
theorem dX12_kept_83 : decode cX12_kept 83 = .ok (.iload_n 2, 1) := by decide +kernel
theorem dX12_kept_84 : decode cX12_kept 84 = .ok (.invokevirtual 420, 3) := by decide +kernel
theorem dX12_kept_87 : decode cX12_kept 87 = .ok (.istore 4, 2) := by decide +kernel
theorem dX12_kept_89 : decode cX12_kept 89 = .ok (.iload 4, 2) := by decide +kernel
theorem dX12_kept_91 : decode cX12_kept 91 = .ok (.iconst (-1), 1) := by decide +kernel
theorem dX12_kept_92 : decode cX12_kept 92 = .ok (.if_icmp .ne 7, 3) := by decide +kernel
theorem dX12_kept_95 : decode cX12_kept 95 = .ok (.iconst (-1), 1) := by decide +kernel
theorem dX12_kept_96 : decode cX12_kept 96 = .ok (.goto 38, 3) := by decide +kernel
theorem dX12_kept_99 : decode cX12_kept 99 = .ok (.aload_n 0, 1) := by decide +kernel
theorem dX12_kept_100 : decode cX12_kept 100 = .ok (.getfield 136, 3) := by decide +kernel
theorem dX12_kept_103 : decode cX12_kept 103 = .ok (.iload_n 2, 1) := by decide +kernel
theorem dX12_kept_104 : decode cX12_kept 104 = .ok (.aaload, 1) := by decide +kernel
theorem dX12_kept_105 : decode cX12_kept 105 = .ok (.iload 4, 2) := by decide +kernel
theorem dX12_kept_107 : decode cX12_kept 107 = .ok (.iaload, 1) := by decide +kernel
theorem dX12_kept_108 : decode cX12_kept 108 = .ok (.iload 4, 2) := by decide +kernel
theorem dX12_kept_110 : decode cX12_kept 110 = .ok (.aload_n 0, 1) := by decide +kernel
theorem dX12_kept_111 : decode cX12_kept 111 = .ok (.getfield 61, 3) := by decide +kernel
theorem dX12_kept_114 : decode cX12_kept 114 = .ok (.iload_n 1, 1) := by decide +kernel
theorem dX12_kept_115 : decode cX12_kept 115 = .ok (.aaload, 1) := by decide +kernel
theorem dX12_kept_116 : decode cX12_kept 116 = .ok (.iconst 0, 1) := by decide +kernel
theorem dX12_kept_117 : decode cX12_kept 117 = .ok (.iaload, 1) := by decide +kernel
theorem dX12_kept_118 : decode cX12_kept 118 = .ok (.isub, 1) := by decide +kernel
theorem dX12_kept_119 : decode cX12_kept 119 = .ok (.aload_n 0, 1) := by decide +kernel
theorem dX12_kept_120 : decode cX12_kept 120 = .ok (.getfield 61, 3) := by decide +kernel
theorem dX12_kept_123 : decode cX12_kept 123 = .ok (.iload_n 1, 1) := by decide +kernel
theorem dX12_kept_124 : decode cX12_kept 124 = .ok (.aaload, 1) := by decide +kernel
theorem dX12_kept_125 : decode cX12_kept 125 = .ok (.iconst 0, 1) := by decide +kernel
theorem dX12_kept_126 : decode cX12_kept 126 = .ok (.iaload, 1) := by decide +kernel
theorem dX12_kept_127 : decode cX12_kept 127 = .ok (.iload 4, 2) := by decide +kernel
theorem dX12_kept_129 : decode cX12_kept 129 = .ok (.isub, 1) := by decide +kernel
theorem dX12_kept_130 : decode cX12_kept 130 = .ok (.invokestatic 304, 3) := by decide +kernel
theorem dX12_kept_133 : decode cX12_kept 133 = .ok (.iadd, 1) := by decide +kernel
theorem dX12_kept_134 : decode cX12_kept 134 = .ok (.ireturn, 1) := by decide +kernel
theorem ct_X12_kept {g : Gw} (hG : GF g) {z : Bool} (E : Mm) (Q : RX) (P : SP) (L : LW) (T K : LN) (d st : Nat) (hWf : WF P L T K d st) (hI_E : RXI E Q P L T K d st) (x0 x1 x2 : Int) : CT g yX12_kept cX12_kept 5 (some .int) 7 156 0 0 K2 z [mR 125, mI x0, mI x1, mI x2] (ov E) K2 z (fun r' D' => ((0 ≤ x0 ∧ x0 ≤ (bN (sB P) : Int) - 1) ∧ ((0 ≤ x1 ∧ x1 ≤ 23) ∧ (0 ≤ x2 ∧ x2 ≤ 23) ∧ x1 ≤ x2) ∧ r' = some (mI (keA (gDay P L d) (sB P) x0.toNat x1.toNat x2.toNat)) ∧ ∃ E1, D' = ov E1 ∧ RXO E E1 Q P L T K d st) ∨ (¬ (0 ≤ x0 ∧ x0 ≤ (bN (sB P) : Int) - 1) ∧ r' = some (mI 0) ∧ D' = ov (badR E 1 1)) ∨ ((0 ≤ x0 ∧ x0 ≤ (bN (sB P) : Int) - 1) ∧ ¬ ((0 ≤ x1 ∧ x1 ≤ 23) ∧ (0 ≤ x2 ∧ x2 ≤ 23) ∧ x1 ≤ x2) ∧ r' = some (mI 0) ∧ D' = ov (badR E 2 2))) := by
  refine CT.mk hG (by decide +kernel) (Nat.le_of_ble_eq_true rfl) (fun κ X Rt _ ok => ?_)
  have hP := hWf.1
  have hN8 := hP.B.N
  have hW40 := hP.W
  have hN11 := hP.N
  have hwN : gN (gDay P L d) ≤ 11 := Nat.le_trans hP.N (by decide)
  have hgw : gW (gDay P L d) = sW P := rfl
  have hDI24 := dyP_DI (G := (gDay P L d)) hP.B hWf.2.2.2.1 (Nat.le_refl 24)
  refine at_aload_n 1 X rfl rfl dX12_kept_0 rfl ?_
  refine at_iconst 2 X (by decide) dX12_kept_1 rfl ?_
  refine m_putI 5 X f_X12_152 fw_12_0 k_125 rn_125_0 dX12_kept_2 rfl ?_
  have hO_E0 := RXO.z hWf hI_E
  generalize hE0 : wr E 125 0 0 = E0 at hO_E0 ⊢
  have hR_E0 := hO_E0.1.1
  refine at_aload_n 6 X rfl rfl dX12_kept_5 rfl ?_
  refine at_aload_n 7 X rfl rfl dX12_kept_6 rfl ?_
  refine at_iload_n 8 X rfl rfl dX12_kept_7 rfl ?_
  refine at_callV 11 X _ 12 (ct_X12_isBeam hG E0 P Q hP hR_E0 x0) clX12 rfl k_125 mo_X12_isBeam w_2122 vo_X12_isBeam.1 vo_X12_isBeam.2 rfl rfl (crm Rt (by decide)) (Nat.le_of_ble_eq_true rfl) dX12_kept_8 rfl ?_
  rintro _ _ ⟨rfl, rfl⟩
  refine at_if_ne 14 18 X dX12_kept_11 rfl (by decide) (fun h11 => ?_) (fun h11 => ?_)
  · have h11 : (0 ≤ x0 ∧ x0 ≤ (bN (sB P) : Int) - 1) := ite_yes.mp h11
    refine at_iconst 19 X (by decide) dX12_kept_18 rfl ?_
    refine at_iconst 20 X (by decide) dX12_kept_19 rfl ?_
    refine at_iconst 21 X (by decide) dX12_kept_20 rfl ?_
    refine at_callV 24 X _ 12 (ct_bad0 hG E0 1 1 (by decide) hO_E0.2.2.1) clX12 rfl k_125 mo_X12_bad w_1960 vo_X12_bad.1 vo_X12_bad.2 rfl rfl (crm Rt (by decide)) (Nat.le_of_ble_eq_true rfl) dX12_kept_21 rfl ?_
    rintro _ _ ⟨rfl, rfl⟩
    have hc0 : 0 ≤ x0 ∧ x0 ≤ (bN (sB P) : Int) - 1 := by omega
    refine at_if_ne 27 60 X dX12_kept_24 rfl (by decide) (fun h24 => ?_) (fun h24 => ?_)
    · exact absurd h24 (by decide)
    · refine at_aload_n 28 X rfl rfl dX12_kept_27 rfl ?_
      refine at_iload_n 29 X rfl rfl dX12_kept_28 rfl ?_
      refine at_callS 32 X (ct_X12_isHour hG E0 x1) mo_X12_isHour w_2074 so_X12_isHour rfl rfl (crm Rt (by decide)) (Nat.le_of_ble_eq_true rfl) dX12_kept_29 rfl ?_
      rintro _ _ ⟨rfl, rfl⟩
      refine at_if_eq 35 47 X dX12_kept_32 rfl (by decide) (fun h32 => ?_) (fun h32 => ?_)
      · have h32 : ¬ (0 ≤ x1 ∧ x1 ≤ 23) := ite_no.mp h32
        refine at_iconst 48 X (by decide) dX12_kept_47 rfl ?_
        refine at_goto 52 X dX12_kept_48 (by decide) ?_
        refine at_iconst 53 X (by decide) dX12_kept_52 rfl ?_
        refine at_iconst 54 X (by decide) dX12_kept_53 rfl ?_
        refine at_callV 57 X _ 12 (ct_bad1 hG E0 2 2 (by decide) hO_E0.2.2.1 (by decide)) clX12 rfl k_125 mo_X12_bad w_1960 vo_X12_bad.1 vo_X12_bad.2 rfl rfl (crm Rt (by decide)) (Nat.le_of_ble_eq_true rfl) dX12_kept_54 rfl ?_
        rintro _ _ ⟨rfl, rfl⟩
        have hb : ¬ ((0 ≤ x1 ∧ x1 ≤ 23) ∧ (0 ≤ x2 ∧ x2 ≤ 23) ∧ x1 ≤ x2) := by omega
        refine at_if_eq 60 62 X dX12_kept_57 rfl (by decide) (fun h57 => ?_) (fun h57 => ?_)
        · exact absurd h57 (by decide)
        · refine at_iconst 61 X (by decide) dX12_kept_60 rfl ?_
          refine at_iret X Rt ?_ (Nat.le_refl _) (Nat.le_refl _) dX12_kept_61
          exact Or.inr (Or.inr (⟨hc0, hb, rfl, congrArg ov (badR_of hE0)⟩))
      · have h32 : (0 ≤ x1 ∧ x1 ≤ 23) := ite_yes.mp h32
        refine at_iload_n 36 X rfl rfl dX12_kept_35 rfl ?_
        refine at_callS 39 X (ct_X12_isHour hG E0 x2) mo_X12_isHour w_2074 so_X12_isHour rfl rfl (crm Rt (by decide)) (Nat.le_of_ble_eq_true rfl) dX12_kept_36 rfl ?_
        rintro _ _ ⟨rfl, rfl⟩
        refine at_if_eq 42 47 X dX12_kept_39 rfl (by decide) (fun h39 => ?_) (fun h39 => ?_)
        · have h39 : ¬ (0 ≤ x2 ∧ x2 ≤ 23) := ite_no.mp h39
          refine at_iconst 48 X (by decide) dX12_kept_47 rfl ?_
          refine at_goto 52 X dX12_kept_48 (by decide) ?_
          refine at_iconst 53 X (by decide) dX12_kept_52 rfl ?_
          refine at_iconst 54 X (by decide) dX12_kept_53 rfl ?_
          refine at_callV 57 X _ 12 (ct_bad1 hG E0 2 2 (by decide) hO_E0.2.2.1 (by decide)) clX12 rfl k_125 mo_X12_bad w_1960 vo_X12_bad.1 vo_X12_bad.2 rfl rfl (crm Rt (by decide)) (Nat.le_of_ble_eq_true rfl) dX12_kept_54 rfl ?_
          rintro _ _ ⟨rfl, rfl⟩
          have hb : ¬ ((0 ≤ x1 ∧ x1 ≤ 23) ∧ (0 ≤ x2 ∧ x2 ≤ 23) ∧ x1 ≤ x2) := by omega
          refine at_if_eq 60 62 X dX12_kept_57 rfl (by decide) (fun h57 => ?_) (fun h57 => ?_)
          · exact absurd h57 (by decide)
          · refine at_iconst 61 X (by decide) dX12_kept_60 rfl ?_
            refine at_iret X Rt ?_ (Nat.le_refl _) (Nat.le_refl _) dX12_kept_61
            exact Or.inr (Or.inr (⟨hc0, hb, rfl, congrArg ov (badR_of hE0)⟩))
        · have h39 : (0 ≤ x2 ∧ x2 ≤ 23) := ite_yes.mp h39
          refine at_iload_n 43 X rfl rfl dX12_kept_42 rfl ?_
          refine at_iload_n 44 X rfl rfl dX12_kept_43 rfl ?_
          refine at_icmp_le 47 51 X dX12_kept_44 rfl (by decide) (fun h44 => ?_) (fun h44 => ?_)
          · refine at_iconst 52 X (by decide) dX12_kept_51 rfl ?_
            refine at_iconst 53 X (by decide) dX12_kept_52 rfl ?_
            refine at_iconst 54 X (by decide) dX12_kept_53 rfl ?_
            refine at_callV 57 X _ 12 (ct_bad0 hG E0 2 2 (by decide) hO_E0.2.2.1) clX12 rfl k_125 mo_X12_bad w_1960 vo_X12_bad.1 vo_X12_bad.2 rfl rfl (crm Rt (by decide)) (Nat.le_of_ble_eq_true rfl) dX12_kept_54 rfl ?_
            rintro _ _ ⟨rfl, rfl⟩
            have hc1 : (0 ≤ x1 ∧ x1 ≤ 23) ∧ (0 ≤ x2 ∧ x2 ≤ 23) ∧ x1 ≤ x2 := by omega
            refine at_if_eq 60 62 X dX12_kept_57 rfl (by decide) (fun h57 => ?_) (fun h57 => ?_)
            · obtain ⟨b, rfl⟩ : ∃ b : Nat, x0 = (b : Int) := ⟨x0.toNat, by omega⟩
              obtain ⟨f, rfl⟩ : ∃ f : Nat, x1 = (f : Int) := ⟨x1.toNat, by omega⟩
              obtain ⟨t, rfl⟩ : ∃ t : Nat, x2 = (t : Int) := ⟨x2.toNat, by omega⟩
              have hlb := hP.B.L (b := b) (by omega)
              have hxb := hP.B.X (b := b) (by omega)
              refine at_aload_n 63 X rfl rfl dX12_kept_62 rfl ?_
              refine at_callV 66 X _ 12 (ct_X12_laysNow hG E0 Q P L T K d st hWf hO_E0.1) clX12 rfl k_125 mo_X12_laysNow w_2158 vo_X12_laysNow.1 vo_X12_laysNow.2 rfl rfl (crm Rt (by decide)) (Nat.le_of_ble_eq_true rfl) dX12_kept_63 rfl ?_
              rintro _ _ ⟨rfl, F1, rfl, hI_F1, hY_F1, hs_F1, hz_F1, hv_F1, h0_F1, h7_F1⟩
              have hO_F1 := hO_E0.nx hI_F1 hY_F1 h0_F1 h7_F1
              have hR_F1 := hI_F1.1
              refine at_aload_n 67 X rfl rfl dX12_kept_66 rfl ?_
              refine at_iload_n 68 X rfl rfl dX12_kept_67 rfl ?_
              refine at_iload_n 69 X rfl rfl dX12_kept_68 rfl ?_
              refine at_iload_n 70 X rfl rfl dX12_kept_69 rfl ?_
              refine at_callV 73 X _ 12 (ct_X12_laysCarries hG F1 P Q hP hR_F1 (gDay P L d) rfl (fun h hh c hc => (hs_F1 h c hh hc).2) b f t (by omega) (by omega) (by omega) (by omega)) clX12 rfl k_125 mo_X12_laysCarries w_2265 vo_X12_laysCarries.1 vo_X12_laysCarries.2 rfl rfl (crm Rt (by decide)) (Nat.le_of_ble_eq_true rfl) dX12_kept_70 rfl ?_
              rintro _ _ ⟨rfl, F2, rfl, hrw_F2, hq_F2⟩
              have hY_F2 : RXF P F1 F2 := ⟨fun q h => hq_F2 q (by omega), fun k h => by rw [hq_F2 125 (by omega)]⟩
              have hO_F2 := hO_F1.nx (hO_F1.1.fr hWf hY_F2 (hO_F1.1.2.2.1.fr (by rw [hq_F2 125 (by omega)]) (hq_F2 578 (by omega)) (hq_F2 579 (by omega)))) hY_F2 (by rw [hq_F2 125 (by omega)]) (hq_F2 127 (by omega))
              have hR_F2 := hO_F2.1.1
              have hlf40 : gW (gDay P L d) + 1 - bL (sB P) b ≤ 40 := by omega
              refine at_aload_n 74 X rfl rfl dX12_kept_73 rfl ?_
              refine at_iload_n 75 X rfl rfl dX12_kept_74 rfl ?_
              refine at_aload_n 76 X rfl rfl dX12_kept_75 rfl ?_
              refine m_getR 79 X f_X12_61 k_125 r_125_24 dX12_kept_76 rfl ?_
              refine at_iload_n 80 X rfl rfl dX12_kept_79 rfl ?_
              refine m_aaloadV 81 X b (by omega) k_227 (by decide) (by omega) (rr_227 _ (by omega)) dX12_kept_80 rfl ?_
              refine at_iconst 82 X (by decide) dX12_kept_81 rfl ?_
              refine m_ialoadV 83 X 0 (by omega) ((bX (sB P) b : Nat) : Int) (hR_F2.2.2.2.2.2.2 b (by omega)).1 (kr_227 _ (by omega)) (er_227 _ (by omega)) (by omega) dX12_kept_82 rfl ?_
              have := hP.B.X (b := b) (by omega)
              refine at_iload_n 84 X rfl rfl dX12_kept_83 rfl ?_
              refine at_callV 87 X _ 12 (ct_X12_nextEnd hG F2 P Q hP hR_F2 (crk (gDay P L d) (sB P) b t (t - f)) b (bX (sB P) b) f (by omega) (by omega) (by omega) (by omega) (fun x hx => hrw_F2 f x (by omega) (by omega) hx) (fun x hx => by have := crk_fin (G := (gDay P L d)) (B := sB P) (b := b) (last := t) hlf40 (k := t - f) (x := x) (by omega) (by omega); omega)) clX12 rfl k_125 mo_X12_nextEnd w_2277 vo_X12_nextEnd.1 vo_X12_nextEnd.2 rfl rfl (crm Rt (by decide)) (Nat.le_of_ble_eq_true rfl) dX12_kept_84 rfl ?_
              rintro _ _ ⟨rfl, rfl⟩
              refine at_istore 89 X dX12_kept_87 rfl (by decide) ?_
              refine at_iload 91 X rfl dX12_kept_89 rfl ?_
              refine at_iconst 92 X (by decide) dX12_kept_91 rfl ?_
              refine at_icmp_ne 95 99 X dX12_kept_92 rfl (by decide) (fun h92 => ?_) (fun h92 => ?_)
              · obtain ⟨n1, n2, n3, n4, n5, n6⟩ := neC_at h92
                rw [n1]
                refine at_aload_n 100 X rfl rfl dX12_kept_99 rfl ?_
                refine m_getR 103 X f_X12_136 k_125 r_125_61 dX12_kept_100 rfl ?_
                refine at_iload_n 104 X rfl rfl dX12_kept_103 rfl ?_
                refine m_aaloadV 105 X f (by omega) k_785 (by decide) (by omega) (rr_785 _ (by omega)) dX12_kept_104 rfl ?_
                refine at_iload 107 X rfl dX12_kept_105 rfl ?_
                refine m_ialoadV 108 X (fcN (crk (gDay P L d) (sB P) b t (t - f)) (bX (sB P) b) (sW P + 1 - bL (sB P) b)) (by omega) (nvC (crk (gDay P L d) (sB P) b t (t - f) (fcN (crk (gDay P L d) (sB P) b t (t - f)) (bX (sB P) b) (sW P + 1 - bL (sB P) b)))) (hrw_F2 f (fcN (crk (gDay P L d) (sB P) b t (t - f)) (bX (sB P) b) (sW P + 1 - bL (sB P) b)) (by omega) (by omega) (by omega)) (kr_785 _ (by omega)) (er_785 _ (by omega)) (by omega) dX12_kept_107 rfl ?_
                have hnvl : nvC (crk (gDay P L d) (sB P) b t (t - f) (fcN (crk (gDay P L d) (sB P) b t (t - f)) (bX (sB P) b) (sW P + 1 - bL (sB P) b))) = ((crk (gDay P L d) (sB P) b t (t - f) (fcN (crk (gDay P L d) (sB P) b t (t - f)) (bX (sB P) b) (sW P + 1 - bL (sB P) b)) : Nat) : Int) := if_neg (by omega)
                refine at_iload 110 X rfl dX12_kept_108 rfl ?_
                refine at_aload_n 111 X rfl rfl dX12_kept_110 rfl ?_
                refine m_getR 114 X f_X12_61 k_125 r_125_24 dX12_kept_111 rfl ?_
                refine at_iload_n 115 X rfl rfl dX12_kept_114 rfl ?_
                refine m_aaloadV 116 X b (by omega) k_227 (by decide) (by omega) (rr_227 _ (by omega)) dX12_kept_115 rfl ?_
                refine at_iconst 117 X (by decide) dX12_kept_116 rfl ?_
                refine m_ialoadV 118 X 0 (by omega) ((bX (sB P) b : Nat) : Int) (hR_F2.2.2.2.2.2.2 b (by omega)).1 (kr_227 _ (by omega)) (er_227 _ (by omega)) (by omega) dX12_kept_117 rfl ?_
                have := hP.B.X (b := b) (by omega)
                refine at_isubV 119 X (((fcN (crk (gDay P L d) (sB P) b t (t - f)) (bX (sB P) b) (sW P + 1 - bL (sB P) b) : Nat) : Int) - ((bX (sB P) b : Nat) : Int)) (w32_v rfl (by omega) (by omega)) dX12_kept_118 rfl ?_
                refine at_aload_n 120 X rfl rfl dX12_kept_119 rfl ?_
                refine m_getR 123 X f_X12_61 k_125 r_125_24 dX12_kept_120 rfl ?_
                refine at_iload_n 124 X rfl rfl dX12_kept_123 rfl ?_
                refine m_aaloadV 125 X b (by omega) k_227 (by decide) (by omega) (rr_227 _ (by omega)) dX12_kept_124 rfl ?_
                refine at_iconst 126 X (by decide) dX12_kept_125 rfl ?_
                refine m_ialoadV 127 X 0 (by omega) ((bX (sB P) b : Nat) : Int) (hR_F2.2.2.2.2.2.2 b (by omega)).1 (kr_227 _ (by omega)) (er_227 _ (by omega)) (by omega) dX12_kept_126 rfl ?_
                have := hP.B.X (b := b) (by omega)
                refine at_iload 129 X rfl dX12_kept_127 rfl ?_
                refine at_isubV 130 X (((bX (sB P) b : Nat) : Int) - ((fcN (crk (gDay P L d) (sB P) b t (t - f)) (bX (sB P) b) (sW P + 1 - bL (sB P) b) : Nat) : Int)) (w32_v rfl (by omega) (by omega)) dX12_kept_129 rfl ?_
                refine at_callS 133 X (ct_X12_more hG F2 (((fcN (crk (gDay P L d) (sB P) b t (t - f)) (bX (sB P) b) (sW P + 1 - bL (sB P) b) : Nat) : Int) - ((bX (sB P) b : Nat) : Int)) (((bX (sB P) b : Nat) : Int) - ((fcN (crk (gDay P L d) (sB P) b t (t - f)) (bX (sB P) b) (sW P + 1 - bL (sB P) b) : Nat) : Int))) mo_X12_more w_2091 so_X12_more rfl rfl (crm Rt (by decide)) (Nat.le_of_ble_eq_true rfl) dX12_kept_130 rfl ?_
                rintro _ _ ⟨rfl, rfl⟩
                rw [show (if (((bX (sB P) b : Nat) : Int) - ((fcN (crk (gDay P L d) (sB P) b t (t - f)) (bX (sB P) b) (sW P + 1 - bL (sB P) b) : Nat) : Int)) < (((fcN (crk (gDay P L d) (sB P) b t (t - f)) (bX (sB P) b) (sW P + 1 - bL (sB P) b) : Nat) : Int) - ((bX (sB P) b : Nat) : Int)) then (((fcN (crk (gDay P L d) (sB P) b t (t - f)) (bX (sB P) b) (sW P + 1 - bL (sB P) b) : Nat) : Int) - ((bX (sB P) b : Nat) : Int)) else (((bX (sB P) b : Nat) : Int) - ((fcN (crk (gDay P L d) (sB P) b t (t - f)) (bX (sB P) b) (sW P + 1 - bL (sB P) b) : Nat) : Int))) = ((dst (bX (sB P) b) (fcN (crk (gDay P L d) (sB P) b t (t - f)) (bX (sB P) b) (sW P + 1 - bL (sB P) b)) : Nat) : Int) from by unfold dst; split <;> split <;> omega]
                have hdl : dst (bX (sB P) b) (fcN (crk (gDay P L d) (sB P) b t (t - f)) (bX (sB P) b) (sW P + 1 - bL (sB P) b)) ≤ 40 := by unfold dst; split <;> omega
                refine at_iaddV 134 X ((nvC (crk (gDay P L d) (sB P) b t (t - f) (fcN (crk (gDay P L d) (sB P) b t (t - f)) (bX (sB P) b) (sW P + 1 - bL (sB P) b)))) + ((dst (bX (sB P) b) (fcN (crk (gDay P L d) (sB P) b t (t - f)) (bX (sB P) b) (sW P + 1 - bL (sB P) b)) : Nat) : Int)) (w32_v rfl (by omega) (by omega)) dX12_kept_133 rfl ?_
                refine at_iret X Rt ?_ (Nat.le_refl _) (Nat.le_refl _) dX12_kept_134
                exact Or.inl ⟨hc0, hc1, (by (try simp only [Int.toNat_natCast]); unfold keA; rw [if_neg (show ¬ 1000000 ≤ chN (crk (gDay P L d) (sB P) b t (t - f)) (bX (sB P) b) (gW (gDay P L d) + 1 - bL (sB P) b) from fun q => by have q2 : 1000000 ≤ chN (crk (gDay P L d) (sB P) b t (t - f)) (bX (sB P) b) (sW P + 1 - bL (sB P) b) := q; omega)]; exact congrArg (fun q => some (mI q)) (show _ = ((chN (crk (gDay P L d) (sB P) b t (t - f)) (bX (sB P) b) (sW P + 1 - bL (sB P) b) : Nat) : Int) by omega)), _, rfl, hO_F2⟩
              · refine at_iconst 96 X (by decide) dX12_kept_95 rfl ?_
                refine at_goto 134 X dX12_kept_96 (by decide) ?_
                refine at_iret X Rt ?_ (Nat.le_refl _) (Nat.le_refl _) dX12_kept_134
                exact Or.inl ⟨hc0, hc1, (by (try simp only [Int.toNat_natCast]); unfold keA; rw [if_pos (show 1000000 ≤ chN (crk (gDay P L d) (sB P) b t (t - f)) (bX (sB P) b) (gW (gDay P L d) + 1 - bL (sB P) b) from neC_none.mp h92)]), _, rfl, hO_F2⟩
            · exact absurd h57 (by decide)
          · refine at_iconst 48 X (by decide) dX12_kept_47 rfl ?_
            refine at_goto 52 X dX12_kept_48 (by decide) ?_
            refine at_iconst 53 X (by decide) dX12_kept_52 rfl ?_
            refine at_iconst 54 X (by decide) dX12_kept_53 rfl ?_
            refine at_callV 57 X _ 12 (ct_bad1 hG E0 2 2 (by decide) hO_E0.2.2.1 (by decide)) clX12 rfl k_125 mo_X12_bad w_1960 vo_X12_bad.1 vo_X12_bad.2 rfl rfl (crm Rt (by decide)) (Nat.le_of_ble_eq_true rfl) dX12_kept_54 rfl ?_
            rintro _ _ ⟨rfl, rfl⟩
            have hb : ¬ ((0 ≤ x1 ∧ x1 ≤ 23) ∧ (0 ≤ x2 ∧ x2 ≤ 23) ∧ x1 ≤ x2) := by omega
            refine at_if_eq 60 62 X dX12_kept_57 rfl (by decide) (fun h57 => ?_) (fun h57 => ?_)
            · exact absurd h57 (by decide)
            · refine at_iconst 61 X (by decide) dX12_kept_60 rfl ?_
              refine at_iret X Rt ?_ (Nat.le_refl _) (Nat.le_refl _) dX12_kept_61
              exact Or.inr (Or.inr (⟨hc0, hb, rfl, congrArg ov (badR_of hE0)⟩))
  · have h11 : ¬ (0 ≤ x0 ∧ x0 ≤ (bN (sB P) : Int) - 1) := ite_no.mp h11
    refine at_iconst 15 X (by decide) dX12_kept_14 rfl ?_
    refine at_goto 19 X dX12_kept_15 (by decide) ?_
    refine at_iconst 20 X (by decide) dX12_kept_19 rfl ?_
    refine at_iconst 21 X (by decide) dX12_kept_20 rfl ?_
    refine at_callV 24 X _ 12 (ct_bad1 hG E0 1 1 (by decide) hO_E0.2.2.1 (by decide)) clX12 rfl k_125 mo_X12_bad w_1960 vo_X12_bad.1 vo_X12_bad.2 rfl rfl (crm Rt (by decide)) (Nat.le_of_ble_eq_true rfl) dX12_kept_21 rfl ?_
    rintro _ _ ⟨rfl, rfl⟩
    have hb : ¬ (0 ≤ x0 ∧ x0 ≤ (bN (sB P) : Int) - 1) := by omega
    refine at_if_ne 27 60 X dX12_kept_24 rfl (by decide) (fun h24 => ?_) (fun h24 => ?_)
    · refine at_iconst 61 X (by decide) dX12_kept_60 rfl ?_
      refine at_iret X Rt ?_ (Nat.le_refl _) (Nat.le_refl _) dX12_kept_61
      exact Or.inr (Or.inl ⟨hb, rfl, congrArg ov (badR_of hE0)⟩)
    · exact absurd h24 (by decide)
theorem dX12_carry_0 : decode cX12_carry 0 = .ok (.aload_n 0, 1) := by decide +kernel
theorem dX12_carry_1 : decode cX12_carry 1 = .ok (.iconst 0, 1) := by decide +kernel
theorem dX12_carry_2 : decode cX12_carry 2 = .ok (.putfield 152, 3) := by decide +kernel
theorem dX12_carry_5 : decode cX12_carry 5 = .ok (.aload_n 0, 1) := by decide +kernel
theorem dX12_carry_6 : decode cX12_carry 6 = .ok (.aload_n 0, 1) := by decide +kernel
theorem dX12_carry_7 : decode cX12_carry 7 = .ok (.iload_n 1, 1) := by decide +kernel
theorem dX12_carry_8 : decode cX12_carry 8 = .ok (.invokevirtual 324, 3) := by decide +kernel
theorem dX12_carry_11 : decode cX12_carry 11 = .ok (.ifCond .ne 7, 3) := by decide +kernel
theorem dX12_carry_14 : decode cX12_carry 14 = .ok (.iconst 1, 1) := by decide +kernel
theorem dX12_carry_15 : decode cX12_carry 15 = .ok (.goto 4, 3) := by decide +kernel
theorem dX12_carry_18 : decode cX12_carry 18 = .ok (.iconst 0, 1) := by decide +kernel
theorem dX12_carry_19 : decode cX12_carry 19 = .ok (.iconst 1, 1) := by decide +kernel
theorem dX12_carry_20 : decode cX12_carry 20 = .ok (.iconst 1, 1) := by decide +kernel
theorem dX12_carry_21 : decode cX12_carry 21 = .ok (.invokevirtual 244, 3) := by decide +kernel
theorem dX12_carry_24 : decode cX12_carry 24 = .ok (.ifCond .ne 46, 3) := by decide +kernel
theorem dX12_carry_27 : decode cX12_carry 27 = .ok (.aload_n 0, 1) := by decide +kernel
theorem dX12_carry_28 : decode cX12_carry 28 = .ok (.iload_n 2, 1) := by decide +kernel
theorem dX12_carry_29 : decode cX12_carry 29 = .ok (.invokestatic 314, 3) := by decide +kernel
theorem dX12_carry_32 : decode cX12_carry 32 = .ok (.ifCond .eq 25, 3) := by decide +kernel
theorem dX12_carry_35 : decode cX12_carry 35 = .ok (.iload_n 3, 1) := by decide +kernel
theorem dX12_carry_36 : decode cX12_carry 36 = .ok (.invokestatic 314, 3) := by decide +kernel
theorem dX12_carry_39 : decode cX12_carry 39 = .ok (.ifCond .eq 18, 3) := by decide +kernel
theorem dX12_carry_42 : decode cX12_carry 42 = .ok (.iload_n 2, 1) := by decide +kernel
theorem dX12_carry_43 : decode cX12_carry 43 = .ok (.iload_n 3, 1) := by decide +kernel
theorem dX12_carry_44 : decode cX12_carry 44 = .ok (.if_icmp .gt 13, 3) := by decide +kernel
theorem dX12_carry_47 : decode cX12_carry 47 = .ok (.iload 4, 2) := by decide +kernel
theorem dX12_carry_49 : decode cX12_carry 49 = .ok (.iload_n 2, 1) := by decide +kernel
theorem dX12_carry_50 : decode cX12_carry 50 = .ok (.iload_n 3, 1) := by decide +kernel
theorem dX12_carry_51 : decode cX12_carry 51 = .ok (.invokestatic 186, 3) := by decide +kernel
theorem dX12_carry_54 : decode cX12_carry 54 = .ok (.ifCond .ne 7, 3) := by decide +kernel
theorem dX12_carry_57 : decode cX12_carry 57 = .ok (.iconst 1, 1) := by decide +kernel
theorem dX12_carry_58 : decode cX12_carry 58 = .ok (.goto 4, 3) := by decide +kernel
theorem dX12_carry_61 : decode cX12_carry 61 = .ok (.iconst 0, 1) := by decide +kernel
theorem dX12_carry_62 : decode cX12_carry 62 = .ok (.iconst 2, 1) := by decide +kernel
theorem dX12_carry_63 : decode cX12_carry 63 = .ok (.iconst 2, 1) := by decide +kernel
theorem dX12_carry_64 : decode cX12_carry 64 = .ok (.invokevirtual 244, 3) := by decide +kernel
theorem dX12_carry_67 : decode cX12_carry 67 = .ok (.ifCond .eq 5, 3) := by decide +kernel
theorem dX12_carry_70 : decode cX12_carry 70 = .ok (.iconst 0, 1) := by decide +kernel
theorem dX12_carry_71 : decode cX12_carry 71 = .ok (.ireturn, 1) := by decide +kernel
theorem dX12_carry_72 : decode cX12_carry 72 = .ok (.aload_n 0, 1) := by decide +kernel
theorem dX12_carry_73 : decode cX12_carry 73 = .ok (.invokevirtual 378, 3) := by decide +kernel
theorem dX12_carry_76 : decode cX12_carry 76 = .ok (.aload_n 0, 1) := by decide +kernel
theorem dX12_carry_77 : decode cX12_carry 77 = .ok (.iload_n 1, 1) := by decide +kernel
theorem dX12_carry_78 : decode cX12_carry 78 = .ok (.iload_n 2, 1) := by decide +kernel
theorem dX12_carry_79 : decode cX12_carry 79 = .ok (.iload_n 3, 1) := by decide +kernel
theorem dX12_carry_80 : decode cX12_carry 80 = .ok (.invokevirtual 416, 3) := by decide +kernel
theorem dX12_carry_83 : decode cX12_carry 83 = .ok (.aload_n 0, 1) := by decide +kernel
theorem dX12_carry_84 : decode cX12_carry 84 = .ok (.getfield 61, 3) := by decide +kernel
theorem dX12_carry_87 : decode cX12_carry 87 = .ok (.iload_n 1, 1) := by decide +kernel
theorem dX12_carry_88 : decode cX12_carry 88 = .ok (.aaload, 1) := by decide +kernel
theorem dX12_carry_89 : decode cX12_carry 89 = .ok (.iconst 0, 1) := by decide +kernel
theorem dX12_carry_90 : decode cX12_carry 90 = .ok (.iaload, 1) := by decide +kernel
theorem dX12_carry_91 : decode cX12_carry 91 = .ok (.istore 5, 2) := by decide +kernel
theorem dX12_carry_93 : decode cX12_carry 93 = .ok (.iload_n 2, 1) := by decide +kernel
theorem dX12_carry_94 : decode cX12_carry 94 = .ok (.istore 6, 2) := by decide +kernel
theorem dX12_carry_96 : decode cX12_carry 96 = .ok (.iload 6, 2) := by decide +kernel
theorem dX12_carry_98 : decode cX12_carry 98 = .ok (.iload 4, 2) := by decide +kernel
theorem dX12_carry_100 : decode cX12_carry 100 = .ok (.if_icmp .gt 26, 3) := by decide +kernel
theorem dX12_carry_103 : decode cX12_carry 103 = .ok (.iload 5, 2) := by decide +kernel
theorem dX12_carry_105 : decode cX12_carry 105 = .ok (.iconst (-1), 1) := by decide +kernel
theorem dX12_carry_106 : decode cX12_carry 106 = .ok (.if_icmp .eq 20, 3) := by decide +kernel
theorem dX12_carry_109 : decode cX12_carry 109 = .ok (.aload_n 0, 1) := by decide +kernel
theorem dX12_carry_110 : decode cX12_carry 110 = .ok (.iload_n 1, 1) := by decide +kernel
theorem dX12_carry_111 : decode cX12_carry 111 = .ok (.iload 5, 2) := by decide +kernel
theorem dX12_carry_113 : decode cX12_carry 113 = .ok (.iload 6, 2) := by decide +kernel
theorem dX12_carry_115 : decode cX12_carry 115 = .ok (.invokevirtual 420, 3) := by decide +kernel
theorem dX12_carry_118 : decode cX12_carry 118 = .ok (.istore 5, 2) := by decide +kernel
theorem dX12_carry_120 : decode cX12_carry 120 = .ok (.iinc 6 1, 3) := by decide +kernel
theorem dX12_carry_123 : decode cX12_carry 123 = .ok (.goto (-27), 3) := by decide +kernel
theorem dX12_carry_126 : decode cX12_carry 126 = .ok (.iload 5, 2) := by decide +kernel
theorem dX12_carry_128 : decode cX12_carry 128 = .ok (.ireturn, 1) := by decide +kernel
theorem ct_X12_carry {g : Gw} (hG : GF g) {z : Bool} (E : Mm) (Q : RX) (P : SP) (L : LW) (T K : LN) (d st : Nat) (hWf : WF P L T K d st) (hI_E : RXI E Q P L T K d st) (x0 x1 x2 x3 : Int) : CT g yX12_carry cX12_carry 7 (some .int) 7 156 0 0 K2 z [mR 125, mI x0, mI x1, mI x2, mI x3] (ov E) K2 z (fun r' D' => ((0 ≤ x0 ∧ x0 ≤ (bN (sB P) : Int) - 1) ∧ ((0 ≤ x1 ∧ x1 ≤ 23) ∧ (0 ≤ x2 ∧ x2 ≤ 23) ∧ x1 ≤ x2 ∧ x1 ≤ x3 ∧ x3 ≤ x2) ∧ r' = some (mI (caA (gDay P L d) (sB P) x0.toNat x1.toNat x2.toNat x3.toNat)) ∧ ∃ E1, D' = ov E1 ∧ RXO E E1 Q P L T K d st) ∨ (¬ (0 ≤ x0 ∧ x0 ≤ (bN (sB P) : Int) - 1) ∧ r' = some (mI 0) ∧ D' = ov (badR E 1 1)) ∨ ((0 ≤ x0 ∧ x0 ≤ (bN (sB P) : Int) - 1) ∧ ¬ ((0 ≤ x1 ∧ x1 ≤ 23) ∧ (0 ≤ x2 ∧ x2 ≤ 23) ∧ x1 ≤ x2 ∧ x1 ≤ x3 ∧ x3 ≤ x2) ∧ r' = some (mI 0) ∧ D' = ov (badR E 2 2))) := by
  refine CT.mk hG (by decide +kernel) (Nat.le_of_ble_eq_true rfl) (fun κ X Rt _ ok => ?_)
  have hP := hWf.1
  have hN8 := hP.B.N
  have hW40 := hP.W
  have hN11 := hP.N
  have hwN : gN (gDay P L d) ≤ 11 := Nat.le_trans hP.N (by decide)
  have hgw : gW (gDay P L d) = sW P := rfl
  have hDI24 := dyP_DI (G := (gDay P L d)) hP.B hWf.2.2.2.1 (Nat.le_refl 24)
  refine at_aload_n 1 X rfl rfl dX12_carry_0 rfl ?_
  refine at_iconst 2 X (by decide) dX12_carry_1 rfl ?_
  refine m_putI 5 X f_X12_152 fw_12_0 k_125 rn_125_0 dX12_carry_2 rfl ?_
  have hO_E0 := RXO.z hWf hI_E
  generalize hE0 : wr E 125 0 0 = E0 at hO_E0 ⊢
  have hR_E0 := hO_E0.1.1
  refine at_aload_n 6 X rfl rfl dX12_carry_5 rfl ?_
  refine at_aload_n 7 X rfl rfl dX12_carry_6 rfl ?_
  refine at_iload_n 8 X rfl rfl dX12_carry_7 rfl ?_
  refine at_callV 11 X _ 12 (ct_X12_isBeam hG E0 P Q hP hR_E0 x0) clX12 rfl k_125 mo_X12_isBeam w_2122 vo_X12_isBeam.1 vo_X12_isBeam.2 rfl rfl (crm Rt (by decide)) (Nat.le_of_ble_eq_true rfl) dX12_carry_8 rfl ?_
  rintro _ _ ⟨rfl, rfl⟩
  refine at_if_ne 14 18 X dX12_carry_11 rfl (by decide) (fun h11 => ?_) (fun h11 => ?_)
  · have h11 : (0 ≤ x0 ∧ x0 ≤ (bN (sB P) : Int) - 1) := ite_yes.mp h11
    refine at_iconst 19 X (by decide) dX12_carry_18 rfl ?_
    refine at_iconst 20 X (by decide) dX12_carry_19 rfl ?_
    refine at_iconst 21 X (by decide) dX12_carry_20 rfl ?_
    refine at_callV 24 X _ 12 (ct_bad0 hG E0 1 1 (by decide) hO_E0.2.2.1) clX12 rfl k_125 mo_X12_bad w_1960 vo_X12_bad.1 vo_X12_bad.2 rfl rfl (crm Rt (by decide)) (Nat.le_of_ble_eq_true rfl) dX12_carry_21 rfl ?_
    rintro _ _ ⟨rfl, rfl⟩
    have hc0 : 0 ≤ x0 ∧ x0 ≤ (bN (sB P) : Int) - 1 := by omega
    refine at_if_ne 27 70 X dX12_carry_24 rfl (by decide) (fun h24 => ?_) (fun h24 => ?_)
    · exact absurd h24 (by decide)
    · refine at_aload_n 28 X rfl rfl dX12_carry_27 rfl ?_
      refine at_iload_n 29 X rfl rfl dX12_carry_28 rfl ?_
      refine at_callS 32 X (ct_X12_isHour hG E0 x1) mo_X12_isHour w_2074 so_X12_isHour rfl rfl (crm Rt (by decide)) (Nat.le_of_ble_eq_true rfl) dX12_carry_29 rfl ?_
      rintro _ _ ⟨rfl, rfl⟩
      refine at_if_eq 35 57 X dX12_carry_32 rfl (by decide) (fun h32 => ?_) (fun h32 => ?_)
      · have h32 : ¬ (0 ≤ x1 ∧ x1 ≤ 23) := ite_no.mp h32
        refine at_iconst 58 X (by decide) dX12_carry_57 rfl ?_
        refine at_goto 62 X dX12_carry_58 (by decide) ?_
        refine at_iconst 63 X (by decide) dX12_carry_62 rfl ?_
        refine at_iconst 64 X (by decide) dX12_carry_63 rfl ?_
        refine at_callV 67 X _ 12 (ct_bad1 hG E0 2 2 (by decide) hO_E0.2.2.1 (by decide)) clX12 rfl k_125 mo_X12_bad w_1960 vo_X12_bad.1 vo_X12_bad.2 rfl rfl (crm Rt (by decide)) (Nat.le_of_ble_eq_true rfl) dX12_carry_64 rfl ?_
        rintro _ _ ⟨rfl, rfl⟩
        have hb : ¬ ((0 ≤ x1 ∧ x1 ≤ 23) ∧ (0 ≤ x2 ∧ x2 ≤ 23) ∧ x1 ≤ x2 ∧ x1 ≤ x3 ∧ x3 ≤ x2) := by omega
        refine at_if_eq 70 72 X dX12_carry_67 rfl (by decide) (fun h67 => ?_) (fun h67 => ?_)
        · exact absurd h67 (by decide)
        · refine at_iconst 71 X (by decide) dX12_carry_70 rfl ?_
          refine at_iret X Rt ?_ (Nat.le_refl _) (Nat.le_refl _) dX12_carry_71
          exact Or.inr (Or.inr (⟨hc0, hb, rfl, congrArg ov (badR_of hE0)⟩))
      · have h32 : (0 ≤ x1 ∧ x1 ≤ 23) := ite_yes.mp h32
        refine at_iload_n 36 X rfl rfl dX12_carry_35 rfl ?_
        refine at_callS 39 X (ct_X12_isHour hG E0 x2) mo_X12_isHour w_2074 so_X12_isHour rfl rfl (crm Rt (by decide)) (Nat.le_of_ble_eq_true rfl) dX12_carry_36 rfl ?_
        rintro _ _ ⟨rfl, rfl⟩
        refine at_if_eq 42 57 X dX12_carry_39 rfl (by decide) (fun h39 => ?_) (fun h39 => ?_)
        · have h39 : ¬ (0 ≤ x2 ∧ x2 ≤ 23) := ite_no.mp h39
          refine at_iconst 58 X (by decide) dX12_carry_57 rfl ?_
          refine at_goto 62 X dX12_carry_58 (by decide) ?_
          refine at_iconst 63 X (by decide) dX12_carry_62 rfl ?_
          refine at_iconst 64 X (by decide) dX12_carry_63 rfl ?_
          refine at_callV 67 X _ 12 (ct_bad1 hG E0 2 2 (by decide) hO_E0.2.2.1 (by decide)) clX12 rfl k_125 mo_X12_bad w_1960 vo_X12_bad.1 vo_X12_bad.2 rfl rfl (crm Rt (by decide)) (Nat.le_of_ble_eq_true rfl) dX12_carry_64 rfl ?_
          rintro _ _ ⟨rfl, rfl⟩
          have hb : ¬ ((0 ≤ x1 ∧ x1 ≤ 23) ∧ (0 ≤ x2 ∧ x2 ≤ 23) ∧ x1 ≤ x2 ∧ x1 ≤ x3 ∧ x3 ≤ x2) := by omega
          refine at_if_eq 70 72 X dX12_carry_67 rfl (by decide) (fun h67 => ?_) (fun h67 => ?_)
          · exact absurd h67 (by decide)
          · refine at_iconst 71 X (by decide) dX12_carry_70 rfl ?_
            refine at_iret X Rt ?_ (Nat.le_refl _) (Nat.le_refl _) dX12_carry_71
            exact Or.inr (Or.inr (⟨hc0, hb, rfl, congrArg ov (badR_of hE0)⟩))
        · have h39 : (0 ≤ x2 ∧ x2 ≤ 23) := ite_yes.mp h39
          refine at_iload_n 43 X rfl rfl dX12_carry_42 rfl ?_
          refine at_iload_n 44 X rfl rfl dX12_carry_43 rfl ?_
          refine at_icmp_gt 47 57 X dX12_carry_44 rfl (by decide) (fun h44 => ?_) (fun h44 => ?_)
          · refine at_iconst 58 X (by decide) dX12_carry_57 rfl ?_
            refine at_goto 62 X dX12_carry_58 (by decide) ?_
            refine at_iconst 63 X (by decide) dX12_carry_62 rfl ?_
            refine at_iconst 64 X (by decide) dX12_carry_63 rfl ?_
            refine at_callV 67 X _ 12 (ct_bad1 hG E0 2 2 (by decide) hO_E0.2.2.1 (by decide)) clX12 rfl k_125 mo_X12_bad w_1960 vo_X12_bad.1 vo_X12_bad.2 rfl rfl (crm Rt (by decide)) (Nat.le_of_ble_eq_true rfl) dX12_carry_64 rfl ?_
            rintro _ _ ⟨rfl, rfl⟩
            have hb : ¬ ((0 ≤ x1 ∧ x1 ≤ 23) ∧ (0 ≤ x2 ∧ x2 ≤ 23) ∧ x1 ≤ x2 ∧ x1 ≤ x3 ∧ x3 ≤ x2) := by omega
            refine at_if_eq 70 72 X dX12_carry_67 rfl (by decide) (fun h67 => ?_) (fun h67 => ?_)
            · exact absurd h67 (by decide)
            · refine at_iconst 71 X (by decide) dX12_carry_70 rfl ?_
              refine at_iret X Rt ?_ (Nat.le_refl _) (Nat.le_refl _) dX12_carry_71
              exact Or.inr (Or.inr (⟨hc0, hb, rfl, congrArg ov (badR_of hE0)⟩))
          · refine at_iload 49 X rfl dX12_carry_47 rfl ?_
            refine at_iload_n 50 X rfl rfl dX12_carry_49 rfl ?_
            refine at_iload_n 51 X rfl rfl dX12_carry_50 rfl ?_
            refine at_callS 54 X (ct_X12_in hG _ _ _) mo_X12_in w_1957 so_X12_in rfl rfl (crm Rt (by decide)) (Nat.le_of_ble_eq_true rfl) dX12_carry_51 rfl ?_
            rintro _ _ ⟨rfl, rfl⟩
            refine at_if_ne 57 61 X dX12_carry_54 rfl (by decide) (fun h54 => ?_) (fun h54 => ?_)
            · have h54 : (x1 ≤ x3 ∧ x3 ≤ x2) := ite_yes.mp h54
              refine at_iconst 62 X (by decide) dX12_carry_61 rfl ?_
              refine at_iconst 63 X (by decide) dX12_carry_62 rfl ?_
              refine at_iconst 64 X (by decide) dX12_carry_63 rfl ?_
              refine at_callV 67 X _ 12 (ct_bad0 hG E0 2 2 (by decide) hO_E0.2.2.1) clX12 rfl k_125 mo_X12_bad w_1960 vo_X12_bad.1 vo_X12_bad.2 rfl rfl (crm Rt (by decide)) (Nat.le_of_ble_eq_true rfl) dX12_carry_64 rfl ?_
              rintro _ _ ⟨rfl, rfl⟩
              have hc1 : (0 ≤ x1 ∧ x1 ≤ 23) ∧ (0 ≤ x2 ∧ x2 ≤ 23) ∧ x1 ≤ x2 ∧ x1 ≤ x3 ∧ x3 ≤ x2 := by omega
              refine at_if_eq 70 72 X dX12_carry_67 rfl (by decide) (fun h67 => ?_) (fun h67 => ?_)
              · obtain ⟨b, rfl⟩ : ∃ b : Nat, x0 = (b : Int) := ⟨x0.toNat, by omega⟩
                obtain ⟨f, rfl⟩ : ∃ f : Nat, x1 = (f : Int) := ⟨x1.toNat, by omega⟩
                obtain ⟨t, rfl⟩ : ∃ t : Nat, x2 = (t : Int) := ⟨x2.toNat, by omega⟩
                obtain ⟨h, rfl⟩ : ∃ h : Nat, x3 = (h : Int) := ⟨x3.toNat, by omega⟩
                have hlb := hP.B.L (b := b) (by omega)
                have hxb := hP.B.X (b := b) (by omega)
                refine at_aload_n 73 X rfl rfl dX12_carry_72 rfl ?_
                refine at_callV 76 X _ 12 (ct_X12_laysNow hG E0 Q P L T K d st hWf hO_E0.1) clX12 rfl k_125 mo_X12_laysNow w_2158 vo_X12_laysNow.1 vo_X12_laysNow.2 rfl rfl (crm Rt (by decide)) (Nat.le_of_ble_eq_true rfl) dX12_carry_73 rfl ?_
                rintro _ _ ⟨rfl, F1, rfl, hI_F1, hY_F1, hs_F1, hz_F1, hv_F1, h0_F1, h7_F1⟩
                have hO_F1 := hO_E0.nx hI_F1 hY_F1 h0_F1 h7_F1
                have hR_F1 := hI_F1.1
                refine at_aload_n 77 X rfl rfl dX12_carry_76 rfl ?_
                refine at_iload_n 78 X rfl rfl dX12_carry_77 rfl ?_
                refine at_iload_n 79 X rfl rfl dX12_carry_78 rfl ?_
                refine at_iload_n 80 X rfl rfl dX12_carry_79 rfl ?_
                refine at_callV 83 X _ 12 (ct_X12_laysCarries hG F1 P Q hP hR_F1 (gDay P L d) rfl (fun h hh c hc => (hs_F1 h c hh hc).2) b f t (by omega) (by omega) (by omega) (by omega)) clX12 rfl k_125 mo_X12_laysCarries w_2265 vo_X12_laysCarries.1 vo_X12_laysCarries.2 rfl rfl (crm Rt (by decide)) (Nat.le_of_ble_eq_true rfl) dX12_carry_80 rfl ?_
                rintro _ _ ⟨rfl, F2, rfl, hrw_F2, hq_F2⟩
                have hY_F2 : RXF P F1 F2 := ⟨fun q h => hq_F2 q (by omega), fun k h => by rw [hq_F2 125 (by omega)]⟩
                have hO_F2 := hO_F1.nx (hO_F1.1.fr hWf hY_F2 (hO_F1.1.2.2.1.fr (by rw [hq_F2 125 (by omega)]) (hq_F2 578 (by omega)) (hq_F2 579 (by omega)))) hY_F2 (by rw [hq_F2 125 (by omega)]) (hq_F2 127 (by omega))
                have hR_F2 := hO_F2.1.1
                have hlf40 : gW (gDay P L d) + 1 - bL (sB P) b ≤ 40 := by omega
                refine at_aload_n 84 X rfl rfl dX12_carry_83 rfl ?_
                refine m_getR 87 X f_X12_61 k_125 r_125_24 dX12_carry_84 rfl ?_
                refine at_iload_n 88 X rfl rfl dX12_carry_87 rfl ?_
                refine m_aaloadV 89 X b (by omega) k_227 (by decide) (by omega) (rr_227 _ (by omega)) dX12_carry_88 rfl ?_
                refine at_iconst 90 X (by decide) dX12_carry_89 rfl ?_
                refine m_ialoadV 91 X 0 (by omega) ((bX (sB P) b : Nat) : Int) (hR_F2.2.2.2.2.2.2 b (by omega)).1 (kr_227 _ (by omega)) (er_227 _ (by omega)) (by omega) dX12_carry_90 rfl ?_
                have := hP.B.X (b := b) (by omega)
                refine at_istore 93 X dX12_carry_91 rfl (by decide) ?_
                refine at_iload_n 94 X rfl rfl dX12_carry_93 rfl ?_
                refine at_istore 96 X dX12_carry_94 rfl (by decide) ?_
                have J96 : ∀ (f96 : Nat) (e : Nat) (v : Int), 26 - e < f96 → (f ≤ e ∧ e ≤ h + 1) → ((v = -1 ∧ 1000000 ≤ chN (crk (gDay P L d) (sB P) b t (t - f)) (bX (sB P) b) (sW P + 1 - bL (sB P) b) ∧ f < e) ∨ ∃ a : Nat, v = (a : Int) ∧ a = plN (fun y x => crk (gDay P L d) (sB P) b t (t - y) x) (sW P + 1 - bL (sB P) b) (bX (sB P) b) f (e - f) ∧ a ≤ 40 ∧ (e = f ∨ (¬ 1000000 ≤ chN (crk (gDay P L d) (sB P) b t (t - f)) (bX (sB P) b) (sW P + 1 - bL (sB P) b) ∧ crk (gDay P L d) (sB P) b t (t - (e - 1)) a ≤ 999999))) → AT g κ K2 z 0 0 96 [(0, mR 125), (1, mI ((b : Nat) : Int)), (4, mI ((h : Nat) : Int)), (5, mI v), (6, mI ((e : Nat) : Int))] [] (ov F2) := by
                  intro f96
                  induction f96 with
                  | zero => intro e v hf96; omega
                  | succ f96 ih96 =>
                  intro e v hf96 he hx
                  refine at_iload 98 X rfl dX12_carry_96 rfl ?_
                  refine at_iload 100 X rfl dX12_carry_98 rfl ?_
                  refine at_icmp_gt 103 126 X dX12_carry_100 rfl (by decide) (fun h100 => ?_) (fun h100 => ?_)
                  · refine at_iload 128 X rfl dX12_carry_126 rfl ?_
                    refine at_iret X Rt ?_ (Nat.le_refl _) (Nat.le_refl _) dX12_carry_128
                    have hfin : some (mI v) = some (mI (caA (gDay P L d) (sB P) b f t h)) := by
                      unfold caA
                      rcases hx with ⟨q1, q2, -⟩ | ⟨a, q1, q2, q3, q4⟩
                      · rw [if_pos (show 1000000 ≤ chN (crk (gDay P L d) (sB P) b t (t - f)) (bX (sB P) b) (gW (gDay P L d) + 1 - bL (sB P) b) from q2), q1]
                      · have e1 : e = h + 1 := by omega
                        rcases q4 with q4 | ⟨q4, -⟩
                        · omega
                        · rw [if_neg (show ¬ 1000000 ≤ chN (crk (gDay P L d) (sB P) b t (t - f)) (bX (sB P) b) (gW (gDay P L d) + 1 - bL (sB P) b) from q4), q1, q2, e1]; rfl
                    exact Or.inl ⟨hc0, hc1, hfin, _, rfl, hO_F2⟩
                  · refine at_iload 105 X rfl dX12_carry_103 rfl ?_
                    refine at_iconst 106 X (by decide) dX12_carry_105 rfl ?_
                    refine at_icmp_eq 109 126 X dX12_carry_106 rfl (by decide) (fun h106 => ?_) (fun h106 => ?_)
                    · refine at_iload 128 X rfl dX12_carry_126 rfl ?_
                      refine at_iret X Rt ?_ (Nat.le_refl _) (Nat.le_refl _) dX12_carry_128
                      have hfin : some (mI v) = some (mI (caA (gDay P L d) (sB P) b f t h)) := by
                        unfold caA
                        rcases hx with ⟨q1, q2, -⟩ | ⟨a, q1, q2, q3, q4⟩
                        · rw [if_pos (show 1000000 ≤ chN (crk (gDay P L d) (sB P) b t (t - f)) (bX (sB P) b) (gW (gDay P L d) + 1 - bL (sB P) b) from q2), q1]
                        · have e1 : e = h + 1 := by omega
                          rcases q4 with q4 | ⟨q4, -⟩
                          · omega
                          · rw [if_neg (show ¬ 1000000 ≤ chN (crk (gDay P L d) (sB P) b t (t - f)) (bX (sB P) b) (gW (gDay P L d) + 1 - bL (sB P) b) from q4), q1, q2, e1]; rfl
                      exact Or.inl ⟨hc0, hc1, hfin, _, rfl, hO_F2⟩
                    · obtain ⟨a, rfl, ha1, ha2, ha3⟩ : ∃ a : Nat, v = (a : Int) ∧ a = plN (fun y x => crk (gDay P L d) (sB P) b t (t - y) x) (sW P + 1 - bL (sB P) b) (bX (sB P) b) f (e - f) ∧ a ≤ 40 ∧ (e = f ∨ (¬ 1000000 ≤ chN (crk (gDay P L d) (sB P) b t (t - f)) (bX (sB P) b) (sW P + 1 - bL (sB P) b) ∧ crk (gDay P L d) (sB P) b t (t - (e - 1)) a ≤ 999999)) := hx.elim (fun q => absurd q.1 h106) id
                      refine at_aload_n 110 X rfl rfl dX12_carry_109 rfl ?_
                      refine at_iload_n 111 X rfl rfl dX12_carry_110 rfl ?_
                      refine at_iload 113 X rfl dX12_carry_111 rfl ?_
                      refine at_iload 115 X rfl dX12_carry_113 rfl ?_
                      refine at_callV 118 X _ 12 (ct_X12_nextEnd hG F2 P Q hP hR_F2 (crk (gDay P L d) (sB P) b t (t - e)) b a e (by omega) (by omega) (by omega) (by omega) (fun x hx => hrw_F2 e x (by omega) (by omega) hx) (fun x hx => by have := crk_fin (G := (gDay P L d)) (B := sB P) (b := b) (last := t) hlf40 (k := t - e) (x := x) (by omega) (by omega); omega)) clX12 rfl k_125 mo_X12_nextEnd w_2277 vo_X12_nextEnd.1 vo_X12_nextEnd.2 rfl rfl (crm Rt (by decide)) (Nat.le_of_ble_eq_true rfl) dX12_carry_115 rfl ?_
                      rintro _ _ ⟨rfl, rfl⟩
                      have hnx : (neC (crk (gDay P L d) (sB P) b t (t - e)) a (sW P + 1 - bL (sB P) b) = -1 ∧ 1000000 ≤ chN (crk (gDay P L d) (sB P) b t (t - f)) (bX (sB P) b) (sW P + 1 - bL (sB P) b) ∧ f < e + 1) ∨ ∃ a2 : Nat, neC (crk (gDay P L d) (sB P) b t (t - e)) a (sW P + 1 - bL (sB P) b) = (a2 : Int) ∧ a2 = plN (fun y x => crk (gDay P L d) (sB P) b t (t - y) x) (sW P + 1 - bL (sB P) b) (bX (sB P) b) f (e + 1 - f) ∧ a2 ≤ 40 ∧ (e + 1 = f ∨ (¬ 1000000 ≤ chN (crk (gDay P L d) (sB P) b t (t - f)) (bX (sB P) b) (sW P + 1 - bL (sB P) b) ∧ crk (gDay P L d) (sB P) b t (t - (e + 1 - 1)) a2 ≤ 999999)) := by
                        have hpl : plN (fun y x => crk (gDay P L d) (sB P) b t (t - y) x) (sW P + 1 - bL (sB P) b) (bX (sB P) b) f (e + 1 - f) = fcN (crk (gDay P L d) (sB P) b t (t - e)) a (sW P + 1 - bL (sB P) b) := by
                          rw [show e + 1 - f = (e - f) + 1 by omega]
                          show fcN (fun x => crk (gDay P L d) (sB P) b t (t - (f + (e - f))) x) (plN (fun y x => crk (gDay P L d) (sB P) b t (t - y) x) (sW P + 1 - bL (sB P) b) (bX (sB P) b) f (e - f)) (sW P + 1 - bL (sB P) b) = _
                          rw [show f + (e - f) = e by omega, ← ha1]
                        by_cases c : neC (crk (gDay P L d) (sB P) b t (t - e)) a (sW P + 1 - bL (sB P) b) = -1
                        · have c2 := neC_none.mp c
                          rcases ha3 with e1 | ⟨e1, e2⟩
                          · left
                            refine ⟨c, ?_, by omega⟩
                            rw [e1, Nat.sub_self] at ha1
                            have ha4 : a = bX (sB P) b := ha1
                            rw [← ha4, ← e1]; exact c2
                          · exfalso
                            by_cases e0 : e = f
                            · subst e0
                              rw [Nat.sub_self] at ha1
                              have ha4 : a = bX (sB P) b := ha1
                              rw [ha4] at c2
                              exact e1 c2
                            · rw [show t - (e - 1) = (t - e) + 1 by omega] at e2
                              have e3 : (if stP (gDay P L d) (sB P) b a (t - (t - e + 1)) then chN (crk (gDay P L d) (sB P) b t (t - e)) a (gW (gDay P L d) + 1 - bL (sB P) b) else 1000000) ≤ 999999 := e2
                              have c3 : 1000000 ≤ chN (crk (gDay P L d) (sB P) b t (t - e)) a (gW (gDay P L d) + 1 - bL (sB P) b) := c2
                              split at e3 <;> omega
                        · obtain ⟨n1, n2, n3, n4, n5, n6⟩ := neC_at c
                          right
                          refine ⟨_, n1, hpl.symm, by omega, Or.inr ⟨?_, n6⟩⟩
                          rcases ha3 with e1 | ⟨e1, e2⟩
                          · rw [e1, Nat.sub_self] at ha1
                            have ha4 : a = bX (sB P) b := ha1
                            rw [← ha4, ← e1]; omega
                          · exact e1
                      refine at_istore 120 X dX12_carry_118 rfl (by decide) ?_
                      refine at_iincV 123 X ((e + 1 : Nat) : Int) (w32_v (by omega) (by omega) (by omega)) rfl dX12_carry_120 rfl (by decide) ?_
                      refine at_goto 96 X dX12_carry_123 (by decide) ?_
                      exact at_sub _ (by exact ⟨rfl, rfl, rfl, rfl, rfl, trivial⟩) (ih96 (e + 1) (neC (crk (gDay P L d) (sB P) b t (t - e)) a (sW P + 1 - bL (sB P) b)) (by clear hnx hx; omega) (by clear hnx hx; omega) hnx)
                exact at_sub _ (by exact ⟨rfl, rfl, rfl, rfl, rfl, trivial⟩) (J96 _ f ((bX (sB P) b : Nat) : Int) (Nat.lt_succ_self _) (by omega) (Or.inr ⟨bX (sB P) b, rfl, by rw [Nat.sub_self]; rfl, by omega, Or.inl rfl⟩))
              · exact absurd h67 (by decide)
            · have h54 : ¬ (x1 ≤ x3 ∧ x3 ≤ x2) := ite_no.mp h54
              refine at_iconst 58 X (by decide) dX12_carry_57 rfl ?_
              refine at_goto 62 X dX12_carry_58 (by decide) ?_
              refine at_iconst 63 X (by decide) dX12_carry_62 rfl ?_
              refine at_iconst 64 X (by decide) dX12_carry_63 rfl ?_
              refine at_callV 67 X _ 12 (ct_bad1 hG E0 2 2 (by decide) hO_E0.2.2.1 (by decide)) clX12 rfl k_125 mo_X12_bad w_1960 vo_X12_bad.1 vo_X12_bad.2 rfl rfl (crm Rt (by decide)) (Nat.le_of_ble_eq_true rfl) dX12_carry_64 rfl ?_
              rintro _ _ ⟨rfl, rfl⟩
              have hb : ¬ ((0 ≤ x1 ∧ x1 ≤ 23) ∧ (0 ≤ x2 ∧ x2 ≤ 23) ∧ x1 ≤ x2 ∧ x1 ≤ x3 ∧ x3 ≤ x2) := by omega
              refine at_if_eq 70 72 X dX12_carry_67 rfl (by decide) (fun h67 => ?_) (fun h67 => ?_)
              · exact absurd h67 (by decide)
              · refine at_iconst 71 X (by decide) dX12_carry_70 rfl ?_
                refine at_iret X Rt ?_ (Nat.le_refl _) (Nat.le_refl _) dX12_carry_71
                exact Or.inr (Or.inr (⟨hc0, hb, rfl, congrArg ov (badR_of hE0)⟩))
  · have h11 : ¬ (0 ≤ x0 ∧ x0 ≤ (bN (sB P) : Int) - 1) := ite_no.mp h11
    refine at_iconst 15 X (by decide) dX12_carry_14 rfl ?_
    refine at_goto 19 X dX12_carry_15 (by decide) ?_
    refine at_iconst 20 X (by decide) dX12_carry_19 rfl ?_
    refine at_iconst 21 X (by decide) dX12_carry_20 rfl ?_
    refine at_callV 24 X _ 12 (ct_bad1 hG E0 1 1 (by decide) hO_E0.2.2.1 (by decide)) clX12 rfl k_125 mo_X12_bad w_1960 vo_X12_bad.1 vo_X12_bad.2 rfl rfl (crm Rt (by decide)) (Nat.le_of_ble_eq_true rfl) dX12_carry_21 rfl ?_
    rintro _ _ ⟨rfl, rfl⟩
    have hb : ¬ (0 ≤ x0 ∧ x0 ≤ (bN (sB P) : Int) - 1) := by omega
    refine at_if_ne 27 70 X dX12_carry_24 rfl (by decide) (fun h24 => ?_) (fun h24 => ?_)
    · refine at_iconst 71 X (by decide) dX12_carry_70 rfl ?_
      refine at_iret X Rt ?_ (Nat.le_refl _) (Nat.le_refl _) dX12_carry_71
      exact Or.inr (Or.inl ⟨hb, rfl, congrArg ov (badR_of hE0)⟩)
    · exact absurd h24 (by decide)
