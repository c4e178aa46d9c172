theorem dX12_lay_0 : decode cX12_lay 0 = .ok (.aload_n 0, 1) := by decide +kernel
theorem dX12_lay_1 : decode cX12_lay 1 = .ok (.iconst 0, 1) := by decide +kernel
theorem dX12_lay_2 : decode cX12_lay 2 = .ok (.putfield 152, 3) := by decide +kernel
theorem dX12_lay_5 : decode cX12_lay 5 = .ok (.aload_n 0, 1) := by decide +kernel
theorem dX12_lay_6 : decode cX12_lay 6 = .ok (.aload_n 0, 1) := by decide +kernel
theorem dX12_lay_7 : decode cX12_lay 7 = .ok (.iload_n 1, 1) := by decide +kernel
theorem dX12_lay_8 : decode cX12_lay 8 = .ok (.invokevirtual 324, 3) := by decide +kernel
theorem dX12_lay_11 : decode cX12_lay 11 = .ok (.ifCond .ne 7, 3) := by decide +kernel
theorem dX12_lay_14 : decode cX12_lay 14 = .ok (.iconst 1, 1) := by decide +kernel
theorem dX12_lay_15 : decode cX12_lay 15 = .ok (.goto 4, 3) := by decide +kernel
theorem dX12_lay_18 : decode cX12_lay 18 = .ok (.iconst 0, 1) := by decide +kernel
theorem dX12_lay_19 : decode cX12_lay 19 = .ok (.iconst 1, 1) := by decide +kernel
theorem dX12_lay_20 : decode cX12_lay 20 = .ok (.iconst 1, 1) := by decide +kernel
theorem dX12_lay_21 : decode cX12_lay 21 = .ok (.invokevirtual 244, 3) := by decide +kernel
theorem dX12_lay_24 : decode cX12_lay 24 = .ok (.ifCond .ne 32, 3) := by decide +kernel
theorem dX12_lay_27 : decode cX12_lay 27 = .ok (.aload_n 0, 1) := by decide +kernel
theorem dX12_lay_28 : decode cX12_lay 28 = .ok (.iload_n 2, 1) := by decide +kernel
theorem dX12_lay_29 : decode cX12_lay 29 = .ok (.iconst 0, 1) := by decide +kernel
theorem dX12_lay_30 : decode cX12_lay 30 = .ok (.aload_n 0, 1) := by decide +kernel
theorem dX12_lay_31 : decode cX12_lay 31 = .ok (.iload_n 1, 1) := by decide +kernel
theorem dX12_lay_32 : decode cX12_lay 32 = .ok (.invokevirtual 410, 3) := by decide +kernel
theorem dX12_lay_35 : decode cX12_lay 35 = .ok (.iconst 1, 1) := by decide +kernel
theorem dX12_lay_36 : decode cX12_lay 36 = .ok (.isub, 1) := by decide +kernel
theorem dX12_lay_37 : decode cX12_lay 37 = .ok (.invokestatic 186, 3) := by decide +kernel
theorem dX12_lay_40 : decode cX12_lay 40 = .ok (.ifCond .ne 7, 3) := by decide +kernel
theorem dX12_lay_43 : decode cX12_lay 43 = .ok (.iconst 1, 1) := by decide +kernel
theorem dX12_lay_44 : decode cX12_lay 44 = .ok (.goto 4, 3) := by decide +kernel
theorem dX12_lay_47 : decode cX12_lay 47 = .ok (.iconst 0, 1) := by decide +kernel
theorem dX12_lay_48 : decode cX12_lay 48 = .ok (.iconst 2, 1) := by decide +kernel
theorem dX12_lay_49 : decode cX12_lay 49 = .ok (.iconst 2, 1) := by decide +kernel
theorem dX12_lay_50 : decode cX12_lay 50 = .ok (.invokevirtual 244, 3) := by decide +kernel
theorem dX12_lay_53 : decode cX12_lay 53 = .ok (.ifCond .eq 5, 3) := by decide +kernel
theorem dX12_lay_56 : decode cX12_lay 56 = .ok (.iconst 0, 1) := by decide +kernel
theorem dX12_lay_57 : decode cX12_lay 57 = .ok (.ireturn, 1) := by decide +kernel
theorem dX12_lay_58 : decode cX12_lay 58 = .ok (.aload_n 0, 1) := by decide +kernel
theorem dX12_lay_59 : decode cX12_lay 59 = .ok (.getfield 270, 3) := by decide +kernel
theorem dX12_lay_62 : decode cX12_lay 62 = .ok (.bipush 20, 2) := by decide +kernel
theorem dX12_lay_64 : decode cX12_lay 64 = .ok (.if_icmp .ne 5, 3) := by decide +kernel
theorem dX12_lay_67 : decode cX12_lay 67 = .ok (.iconst (-1), 1) := by decide +kernel
theorem dX12_lay_68 : decode cX12_lay 68 = .ok (.ireturn, 1) := by decide +kernel
theorem dX12_lay_69 : decode cX12_lay 69 = .ok (.aload_n 0, 1) := by decide +kernel
theorem dX12_lay_70 : decode cX12_lay 70 = .ok (.getfield 61, 3) := by decide +kernel
theorem dX12_lay_73 : decode cX12_lay 73 = .ok (.iload_n 1, 1) := by decide +kernel
theorem dX12_lay_74 : decode cX12_lay 74 = .ok (.aaload, 1) := by decide +kernel
theorem dX12_lay_75 : decode cX12_lay 75 = .ok (.iconst 0, 1) := by decide +kernel
theorem dX12_lay_76 : decode cX12_lay 76 = .ok (.iaload, 1) := by decide +kernel
theorem dX12_lay_77 : decode cX12_lay 77 = .ok (.istore_n 3, 1) := by decide +kernel
theorem dX12_lay_78 : decode cX12_lay 78 = .ok (.aload_n 0, 1) := by decide +kernel
theorem dX12_lay_79 : decode cX12_lay 79 = .ok (.invokevirtual 471, 3) := by decide +kernel
theorem dX12_lay_82 : decode cX12_lay 82 = .ok (.aload_n 0, 1) := by decide +kernel
theorem dX12_lay_83 : decode cX12_lay 83 = .ok (.getfield 61, 3) := by decide +kernel
theorem dX12_lay_86 : decode cX12_lay 86 = .ok (.iload_n 1, 1) := by decide +kernel
theorem dX12_lay_87 : decode cX12_lay 87 = .ok (.aaload, 1) := by decide +kernel
theorem dX12_lay_88 : decode cX12_lay 88 = .ok (.iconst 0, 1) := by decide +kernel
theorem dX12_lay_89 : decode cX12_lay 89 = .ok (.iload_n 2, 1) := by decide +kernel
theorem dX12_lay_90 : decode cX12_lay 90 = .ok (.iastore, 1) := by decide +kernel
theorem dX12_lay_91 : decode cX12_lay 91 = .ok (.iload_n 3, 1) := by decide +kernel
theorem dX12_lay_92 : decode cX12_lay 92 = .ok (.ireturn, 1) := by decide +kernel
theorem ct_X12_lay {g : Gw} (hG : GF g) {z : Bool} (E : Mm) (Q : RX) (P : SP) (L : LW) (T K : LN) (d st : Nat) (hWf : WF P L T K d st) (hI_E : RXI E Q P L T K d st) (x0 x1 : Int) (c : Nat) (hc20 : c ≤ 20) (hc : E 125 46 = (c : Int)) : CT g yX12_lay cX12_lay 4 (some .int) 3 67 0 0 K2 z [mR 125, mI x0, mI x1] (ov E) K2 z (fun r' D' => ((0 ≤ x0 ∧ x0 ≤ (bN (sB P) : Int) - 1) ∧ (0 ≤ x1 ∧ x1 ≤ (sW P : Int) - (bL (sB P) x0.toNat : Int)) ∧ ((c = 20 ∧ r' = some (mI (-1)) ∧ ∃ E1, D' = ov E1 ∧ RXO E E1 Q P L T K d st) ∨ (c < 20 ∧ r' = some (mI (bX (sB P) x0.toNat : Int)) ∧ ∃ E1, D' = ov (wr E1 (228 + x0.toNat) 0 x1) ∧ CHO E E1 c))) ∨ (¬ (0 ≤ x0 ∧ x0 ≤ (bN (sB P) : Int) - 1) ∧ r' = some (mI 0) ∧ D' = ov (badR E 1 1)) ∨ ((0 ≤ x0 ∧ x0 ≤ (bN (sB P) : Int) - 1) ∧ ¬ (0 ≤ x1 ∧ x1 ≤ (sW P : Int) - (bL (sB P) x0.toNat : Int)) ∧ r' = some (mI 0) ∧ D' = ov (badR E 2 2))) := by
  refine CT.mk hG (by decide +kernel) (Nat.le_of_ble_eq_true rfl) (fun κ X Rt _ ok => ?_)
  have hP := hWf.1
  have hN8 := hP.B.N
  have hW40 := hP.W
  have hN11 := hP.N
  have hwN : gN (gDay P L d) ≤ 11 := Nat.le_trans hP.N (by decide)
  have hgw : gW (gDay P L d) = sW P := rfl
  have hDI24 := dyP_DI (G := (gDay P L d)) hP.B hWf.2.2.2.1 (Nat.le_refl 24)
  refine at_aload_n 1 X rfl rfl dX12_lay_0 rfl ?_
  refine at_iconst 2 X (by decide) dX12_lay_1 rfl ?_
  refine m_putI 5 X f_X12_152 fw_12_0 k_125 rn_125_0 dX12_lay_2 rfl ?_
  have hO_E0 := RXO.z hWf hI_E
  generalize hE0 : wr E 125 0 0 = E0 at hO_E0 ⊢
  have hR_E0 := hO_E0.1.1
  refine at_aload_n 6 X rfl rfl dX12_lay_5 rfl ?_
  refine at_aload_n 7 X rfl rfl dX12_lay_6 rfl ?_
  refine at_iload_n 8 X rfl rfl dX12_lay_7 rfl ?_
  refine at_callV 11 X _ 12 (ct_X12_isBeam hG E0 P Q hP hR_E0 x0) clX12 rfl k_125 mo_X12_isBeam w_2122 vo_X12_isBeam.1 vo_X12_isBeam.2 rfl rfl (crm Rt (by decide)) (Nat.le_of_ble_eq_true rfl) dX12_lay_8 rfl ?_
  rintro _ _ ⟨rfl, rfl⟩
  refine at_if_ne 14 18 X dX12_lay_11 rfl (by decide) (fun h11 => ?_) (fun h11 => ?_)
  · have h11 : (0 ≤ x0 ∧ x0 ≤ (bN (sB P) : Int) - 1) := ite_yes.mp h11
    refine at_iconst 19 X (by decide) dX12_lay_18 rfl ?_
    refine at_iconst 20 X (by decide) dX12_lay_19 rfl ?_
    refine at_iconst 21 X (by decide) dX12_lay_20 rfl ?_
    refine at_callV 24 X _ 12 (ct_bad0 hG E0 1 1 (by decide) hO_E0.2.2.1) clX12 rfl k_125 mo_X12_bad w_1960 vo_X12_bad.1 vo_X12_bad.2 rfl rfl (crm Rt (by decide)) (Nat.le_of_ble_eq_true rfl) dX12_lay_21 rfl ?_
    rintro _ _ ⟨rfl, rfl⟩
    have hc0 : 0 ≤ x0 ∧ x0 ≤ (bN (sB P) : Int) - 1 := by omega
    refine at_if_ne 27 56 X dX12_lay_24 rfl (by decide) (fun h24 => ?_) (fun h24 => ?_)
    · exact absurd h24 (by decide)
    · obtain ⟨b, rfl⟩ : ∃ b : Nat, x0 = (b : Int) := ⟨x0.toNat, by omega⟩
      have hlb := hP.B.L (b := b) (by omega)
      have hxb := hP.B.X (b := b) (by omega)
      refine at_aload_n 28 X rfl rfl dX12_lay_27 rfl ?_
      refine at_iload_n 29 X rfl rfl dX12_lay_28 rfl ?_
      refine at_iconst 30 X (by decide) dX12_lay_29 rfl ?_
      refine at_aload_n 31 X rfl rfl dX12_lay_30 rfl ?_
      refine at_iload_n 32 X rfl rfl dX12_lay_31 rfl ?_
      refine at_callV 35 X _ 12 (ct_X12_endsOf hG E0 P Q hP hR_E0 b (by omega) (by omega)) clX12 rfl k_125 mo_X12_endsOf w_2269 vo_X12_endsOf.1 vo_X12_endsOf.2 rfl rfl (crm Rt (by decide)) (Nat.le_of_ble_eq_true rfl) dX12_lay_32 rfl ?_
      rintro _ _ ⟨rfl, rfl⟩
      refine at_iconst 36 X (by decide) dX12_lay_35 rfl ?_
      refine at_isubV 37 X (((sW P + 1 - bL (sB P) b : Nat) : Int) - 1) (w32_v rfl (by omega) (by omega)) dX12_lay_36 rfl ?_
      refine at_callS 40 X (ct_X12_in hG _ _ _) mo_X12_in w_1957 so_X12_in rfl rfl (crm Rt (by decide)) (Nat.le_of_ble_eq_true rfl) dX12_lay_37 rfl ?_
      rintro _ _ ⟨rfl, rfl⟩
      refine at_if_ne 43 47 X dX12_lay_40 rfl (by decide) (fun h40 => ?_) (fun h40 => ?_)
      · have h40 : (0 ≤ x1 ∧ x1 ≤ (((sW P + 1 - bL (sB P) b : Nat) : Int) - 1)) := ite_yes.mp h40
        refine at_iconst 48 X (by decide) dX12_lay_47 rfl ?_
        refine at_iconst 49 X (by decide) dX12_lay_48 rfl ?_
        refine at_iconst 50 X (by decide) dX12_lay_49 rfl ?_
        refine at_callV 53 X _ 12 (ct_bad0 hG E0 2 2 (by decide) hO_E0.2.2.1) clX12 rfl k_125 mo_X12_bad w_1960 vo_X12_bad.1 vo_X12_bad.2 rfl rfl (crm Rt (by decide)) (Nat.le_of_ble_eq_true rfl) dX12_lay_50 rfl ?_
        rintro _ _ ⟨rfl, rfl⟩
        have hc1 : 0 ≤ x1 ∧ x1 ≤ (sW P : Int) - (bL (sB P) b : Int) := by omega
        refine at_if_eq 56 58 X dX12_lay_53 rfl (by decide) (fun h53 => ?_) (fun h53 => ?_)
        · have hcc : E0 125 46 = (c : Int) := (hO_E0.2.1.2 46 (by omega)).trans hc
          refine at_aload_n 59 X rfl rfl dX12_lay_58 rfl ?_
          refine m_getIV 62 X ((c : Nat) : Int) hcc f_X12_270 k_125 rn_125_46 dX12_lay_59 rfl ?_
          refine at_bipush 64 X (by decide) (by decide) dX12_lay_62 rfl ?_
          refine at_icmp_ne 67 69 X dX12_lay_64 rfl (by decide) (fun h64 => ?_) (fun h64 => ?_)
          · refine at_aload_n 70 X rfl rfl dX12_lay_69 rfl ?_
            refine m_getR 73 X f_X12_61 k_125 r_125_24 dX12_lay_70 rfl ?_
            refine at_iload_n 74 X rfl rfl dX12_lay_73 rfl ?_
            refine m_aaloadV 75 X b (by omega) k_227 (by decide) (by omega) (rr_227 _ (by omega)) dX12_lay_74 rfl ?_
            refine at_iconst 76 X (by decide) dX12_lay_75 rfl ?_
            refine m_ialoadV 77 X 0 (by omega) ((bX (sB P) b : Nat) : Int) (hR_E0.2.2.2.2.2.2 b (by omega)).1 (kr_227 _ (by omega)) (er_227 _ (by omega)) (by omega) dX12_lay_76 rfl ?_
            have := hP.B.X (b := b) (by omega)
            refine at_istore_n 78 X rfl dX12_lay_77 rfl (by decide) ?_
            refine at_aload_n 79 X rfl rfl dX12_lay_78 rfl ?_
            refine at_callV 82 X _ 12 (ct_X12_changes hG E0 c (by omega) hcc) clX12 rfl k_125 mo_X12_changes w_2406 vo_X12_changes.1 vo_X12_changes.2 rfl rfl (crm Rt (by decide)) (Nat.le_of_ble_eq_true rfl) dX12_lay_79 rfl ?_
            rintro _ _ ⟨rfl, F, rfl, g1, g2, g3, g4⟩
            have hq0 : ∀ q, q ≠ 125 → E0 q = E q := fun q h => by rw [← hE0]; exact wr_row h
            have hk0 : ∀ k, k ≠ 0 → E0 125 k = E 125 k := fun k h => by rw [← hE0]; exact wr_o (Or.inr h)
            have hch : CHO E F c := ⟨fun i hi => (g1 i hi).trans (snI_congr (fun q hq => hq0 q (by omega)) hi), g2, fun q h1 h2 => (g3 q h1 h2).trans (hq0 q h2), fun k h1 h2 h3 => (g4 k h2 h3).trans (hk0 k h1), (g4 0 (by decide) (by decide)).trans hO_E0.2.2.1⟩
            refine at_aload_n 83 X rfl rfl dX12_lay_82 rfl ?_
            refine m_getR 86 X f_X12_61 k_125 r_125_24 dX12_lay_83 rfl ?_
            refine at_iload_n 87 X rfl rfl dX12_lay_86 rfl ?_
            refine m_aaloadV 88 X b (by omega) k_227 (by decide) (by omega) (rr_227 _ (by omega)) dX12_lay_87 rfl ?_
            refine at_iconst 89 X (by decide) dX12_lay_88 rfl ?_
            refine at_iload_n 90 X rfl rfl dX12_lay_89 rfl ?_
            refine m_iastoreV 91 X 0 (by omega) (kr_227 _ (by omega)) (er_227 _ (by omega)) (by omega) dX12_lay_90 rfl ?_
            refine at_iload_n 92 X rfl rfl dX12_lay_91 rfl ?_
            refine at_iret X Rt ?_ (Nat.le_refl _) (Nat.le_refl _) dX12_lay_92
            exact Or.inl ⟨hc0, hc1, Or.inr ⟨by omega, rfl, F, rfl, hch⟩⟩
          · refine at_iconst 68 X (by decide) dX12_lay_67 rfl ?_
            refine at_iret X Rt ?_ (Nat.le_refl _) (Nat.le_refl _) dX12_lay_68
            exact Or.inl ⟨hc0, hc1, Or.inl ⟨by omega, rfl, _, rfl, hO_E0⟩⟩
        · exact absurd h53 (by decide)
      · have h40 : ¬ (0 ≤ x1 ∧ x1 ≤ (((sW P + 1 - bL (sB P) b : Nat) : Int) - 1)) := ite_no.mp h40
        refine at_iconst 44 X (by decide) dX12_lay_43 rfl ?_
        refine at_goto 48 X dX12_lay_44 (by decide) ?_
        refine at_iconst 49 X (by decide) dX12_lay_48 rfl ?_
        refine at_iconst 50 X (by decide) dX12_lay_49 rfl ?_
        refine at_callV 53 X _ 12 (ct_bad1 hG E0 2 2 (by decide) hO_E0.2.2.1 (by decide)) clX12 rfl k_125 mo_X12_bad w_1960 vo_X12_bad.1 vo_X12_bad.2 rfl rfl (crm Rt (by decide)) (Nat.le_of_ble_eq_true rfl) dX12_lay_50 rfl ?_
        rintro _ _ ⟨rfl, rfl⟩
        have hb : ¬ (0 ≤ x1 ∧ x1 ≤ (sW P : Int) - (bL (sB P) b : Int)) := by omega
        refine at_if_eq 56 58 X dX12_lay_53 rfl (by decide) (fun h53 => ?_) (fun h53 => ?_)
        · exact absurd h53 (by decide)
        · refine at_iconst 57 X (by decide) dX12_lay_56 rfl ?_
          refine at_iret X Rt ?_ (Nat.le_refl _) (Nat.le_refl _) dX12_lay_57
          exact Or.inr (Or.inr (⟨hc0, hb, rfl, congrArg ov (badR_of hE0)⟩))
  · have h11 : ¬ (0 ≤ x0 ∧ x0 ≤ (bN (sB P) : Int) - 1) := ite_no.mp h11
    refine at_iconst 15 X (by decide) dX12_lay_14 rfl ?_
    refine at_goto 19 X dX12_lay_15 (by decide) ?_
    refine at_iconst 20 X (by decide) dX12_lay_19 rfl ?_
    refine at_iconst 21 X (by decide) dX12_lay_20 rfl ?_
    refine at_callV 24 X _ 12 (ct_bad1 hG E0 1 1 (by decide) hO_E0.2.2.1 (by decide)) clX12 rfl k_125 mo_X12_bad w_1960 vo_X12_bad.1 vo_X12_bad.2 rfl rfl (crm Rt (by decide)) (Nat.le_of_ble_eq_true rfl) dX12_lay_21 rfl ?_
    rintro _ _ ⟨rfl, rfl⟩
    have hb : ¬ (0 ≤ x0 ∧ x0 ≤ (bN (sB P) : Int) - 1) := by omega
    refine at_if_ne 27 56 X dX12_lay_24 rfl (by decide) (fun h24 => ?_) (fun h24 => ?_)
    · refine at_iconst 57 X (by decide) dX12_lay_56 rfl ?_
      refine at_iret X Rt ?_ (Nat.le_refl _) (Nat.le_refl _) dX12_lay_57
      exact Or.inr (Or.inl ⟨hb, rfl, congrArg ov (badR_of hE0)⟩)
    · exact absurd h24 (by decide)
theorem dX12_put_0 : decode cX12_put 0 = .ok (.aload_n 0, 1) := by decide +kernel
theorem dX12_put_1 : decode cX12_put 1 = .ok (.iconst 0, 1) := by decide +kernel
theorem dX12_put_2 : decode cX12_put 2 = .ok (.putfield 152, 3) := by decide +kernel
theorem dX12_put_5 : decode cX12_put 5 = .ok (.aload_n 0, 1) := by decide +kernel
theorem dX12_put_6 : decode cX12_put 6 = .ok (.aload_n 0, 1) := by decide +kernel
theorem dX12_put_7 : decode cX12_put 7 = .ok (.iload_n 1, 1) := by decide +kernel
theorem dX12_put_8 : decode cX12_put 8 = .ok (.invokevirtual 324, 3) := by decide +kernel
theorem dX12_put_11 : decode cX12_put 11 = .ok (.ifCond .ne 7, 3) := by decide +kernel
theorem dX12_put_14 : decode cX12_put 14 = .ok (.iconst 1, 1) := by decide +kernel
theorem dX12_put_15 : decode cX12_put 15 = .ok (.goto 4, 3) := by decide +kernel
theorem dX12_put_18 : decode cX12_put 18 = .ok (.iconst 0, 1) := by decide +kernel
theorem dX12_put_19 : decode cX12_put 19 = .ok (.iconst 1, 1) := by decide +kernel
theorem dX12_put_20 : decode cX12_put 20 = .ok (.iconst 1, 1) := by decide +kernel
theorem dX12_put_21 : decode cX12_put 21 = .ok (.invokevirtual 244, 3) := by decide +kernel
theorem dX12_put_24 : decode cX12_put 24 = .ok (.ifCond .ne 45, 3) := by decide +kernel
theorem dX12_put_27 : decode cX12_put 27 = .ok (.aload_n 0, 1) := by decide +kernel
theorem dX12_put_28 : decode cX12_put 28 = .ok (.iload_n 2, 1) := by decide +kernel
theorem dX12_put_29 : decode cX12_put 29 = .ok (.iconst 0, 1) := by decide +kernel
theorem dX12_put_30 : decode cX12_put 30 = .ok (.aload_n 0, 1) := by decide +kernel
theorem dX12_put_31 : decode cX12_put 31 = .ok (.getfield 61, 3) := by decide +kernel
theorem dX12_put_34 : decode cX12_put 34 = .ok (.iload_n 1, 1) := by decide +kernel
theorem dX12_put_35 : decode cX12_put 35 = .ok (.aaload, 1) := by decide +kernel
theorem dX12_put_36 : decode cX12_put 36 = .ok (.iconst 1, 1) := by decide +kernel
theorem dX12_put_37 : decode cX12_put 37 = .ok (.iaload, 1) := by decide +kernel
theorem dX12_put_38 : decode cX12_put 38 = .ok (.iconst 1, 1) := by decide +kernel
theorem dX12_put_39 : decode cX12_put 39 = .ok (.isub, 1) := by decide +kernel
theorem dX12_put_40 : decode cX12_put 40 = .ok (.invokestatic 186, 3) := by decide +kernel
theorem dX12_put_43 : decode cX12_put 43 = .ok (.ifCond .eq 13, 3) := by decide +kernel
theorem dX12_put_46 : decode cX12_put 46 = .ok (.iload_n 3, 1) := by decide +kernel
theorem dX12_put_47 : decode cX12_put 47 = .ok (.iconst 0, 1) := by decide +kernel
theorem dX12_put_48 : decode cX12_put 48 = .ok (.bipush 99, 2) := by decide +kernel
theorem dX12_put_50 : decode cX12_put 50 = .ok (.invokestatic 186, 3) := by decide +kernel
theorem dX12_put_53 : decode cX12_put 53 = .ok (.ifCond .ne 7, 3) := by decide +kernel
theorem dX12_put_56 : decode cX12_put 56 = .ok (.iconst 1, 1) := by decide +kernel
theorem dX12_put_57 : decode cX12_put 57 = .ok (.goto 4, 3) := by decide +kernel
theorem dX12_put_60 : decode cX12_put 60 = .ok (.iconst 0, 1) := by decide +kernel
theorem dX12_put_61 : decode cX12_put 61 = .ok (.iconst 2, 1) := by decide +kernel
theorem dX12_put_62 : decode cX12_put 62 = .ok (.iconst 2, 1) := by decide +kernel
theorem dX12_put_63 : decode cX12_put 63 = .ok (.invokevirtual 244, 3) := by decide +kernel
theorem dX12_put_66 : decode cX12_put 66 = .ok (.ifCond .eq 5, 3) := by decide +kernel
theorem dX12_put_69 : decode cX12_put 69 = .ok (.iconst 0, 1) := by decide +kernel
theorem dX12_put_70 : decode cX12_put 70 = .ok (.ireturn, 1) := by decide +kernel
theorem dX12_put_71 : decode cX12_put 71 = .ok (.aload_n 0, 1) := by decide +kernel
theorem dX12_put_72 : decode cX12_put 72 = .ok (.getfield 270, 3) := by decide +kernel
theorem dX12_put_75 : decode cX12_put 75 = .ok (.bipush 20, 2) := by decide +kernel
theorem dX12_put_77 : decode cX12_put 77 = .ok (.if_icmp .ne 5, 3) := by decide +kernel
theorem dX12_put_80 : decode cX12_put 80 = .ok (.iconst (-1), 1) := by decide +kernel
theorem dX12_put_81 : decode cX12_put 81 = .ok (.ireturn, 1) := by decide +kernel
theorem dX12_put_82 : decode cX12_put 82 = .ok (.aload_n 0, 1) := by decide +kernel
theorem dX12_put_83 : decode cX12_put 83 = .ok (.getfield 67, 3) := by decide +kernel
theorem dX12_put_86 : decode cX12_put 86 = .ok (.iload_n 1, 1) := by decide +kernel
theorem dX12_put_87 : decode cX12_put 87 = .ok (.aaload, 1) := by decide +kernel
theorem dX12_put_88 : decode cX12_put 88 = .ok (.iload_n 2, 1) := by decide +kernel
theorem dX12_put_89 : decode cX12_put 89 = .ok (.iaload, 1) := by decide +kernel
theorem dX12_put_90 : decode cX12_put 90 = .ok (.istore 4, 2) := by decide +kernel
theorem dX12_put_92 : decode cX12_put 92 = .ok (.aload_n 0, 1) := by decide +kernel
theorem dX12_put_93 : decode cX12_put 93 = .ok (.invokevirtual 471, 3) := by decide +kernel
theorem dX12_put_96 : decode cX12_put 96 = .ok (.aload_n 0, 1) := by decide +kernel
theorem dX12_put_97 : decode cX12_put 97 = .ok (.getfield 67, 3) := by decide +kernel
theorem dX12_put_100 : decode cX12_put 100 = .ok (.iload_n 1, 1) := by decide +kernel
theorem dX12_put_101 : decode cX12_put 101 = .ok (.aaload, 1) := by decide +kernel
theorem dX12_put_102 : decode cX12_put 102 = .ok (.iload_n 2, 1) := by decide +kernel
theorem dX12_put_103 : decode cX12_put 103 = .ok (.iload_n 3, 1) := by decide +kernel
theorem dX12_put_104 : decode cX12_put 104 = .ok (.iastore, 1) := by decide +kernel
theorem dX12_put_105 : decode cX12_put 105 = .ok (.iload 4, 2) := by decide +kernel
theorem dX12_put_107 : decode cX12_put 107 = .ok (.ireturn, 1) := by decide +kernel
theorem ct_X12_put {g : Gw} (hG : GF g) {z : Bool} (E : Mm) (Q : RX) (P : SP) (L : LW) (T K : LN) (d st : Nat) (hWf : WF P L T K d st) (hI_E : RXI E Q P L T K d st) (x0 x1 x2 : Int) (c : Nat) (hc20 : c ≤ 20) (hc : E 125 46 = (c : Int)) : CT g yX12_put cX12_put 5 (some .int) 3 67 0 0 K2 z [mR 125, mI x0, mI x1, mI x2] (ov E) K2 z (fun r' D' => ((0 ≤ x0 ∧ x0 ≤ (bN (sB P) : Int) - 1) ∧ ((0 ≤ x1 ∧ x1 ≤ (bL (sB P) x0.toNat : Int) - 1) ∧ (0 ≤ x2 ∧ x2 ≤ 99)) ∧ ((c = 20 ∧ r' = some (mI (-1)) ∧ ∃ E1, D' = ov E1 ∧ RXO E E1 Q P L T K d st) ∨ (c < 20 ∧ r' = some (mI (bD (sB P) x0.toNat x1.toNat : Int)) ∧ ∃ E1, D' = ov (wr E1 (246 + x0.toNat) x1.toNat x2) ∧ CHO E E1 c))) ∨ (¬ (0 ≤ x0 ∧ x0 ≤ (bN (sB P) : Int) - 1) ∧ r' = some (mI 0) ∧ D' = ov (badR E 1 1)) ∨ ((0 ≤ x0 ∧ x0 ≤ (bN (sB P) : Int) - 1) ∧ ¬ ((0 ≤ x1 ∧ x1 ≤ (bL (sB P) x0.toNat : Int) - 1) ∧ (0 ≤ x2 ∧ x2 ≤ 99)) ∧ r' = some (mI 0) ∧ D' = ov (badR E 2 2))) := by
  refine CT.mk hG (by decide +kernel) (Nat.le_of_ble_eq_true rfl) (fun κ X Rt _ ok => ?_)
  have hP := hWf.1
  have hN8 := hP.B.N
  have hW40 := hP.W
  have hN11 := hP.N
  have hwN : gN (gDay P L d) ≤ 11 := Nat.le_trans hP.N (by decide)
  have hgw : gW (gDay P L d) = sW P := rfl
  have hDI24 := dyP_DI (G := (gDay P L d)) hP.B hWf.2.2.2.1 (Nat.le_refl 24)
  refine at_aload_n 1 X rfl rfl dX12_put_0 rfl ?_
  refine at_iconst 2 X (by decide) dX12_put_1 rfl ?_
  refine m_putI 5 X f_X12_152 fw_12_0 k_125 rn_125_0 dX12_put_2 rfl ?_
  have hO_E0 := RXO.z hWf hI_E
  generalize hE0 : wr E 125 0 0 = E0 at hO_E0 ⊢
  have hR_E0 := hO_E0.1.1
  refine at_aload_n 6 X rfl rfl dX12_put_5 rfl ?_
  refine at_aload_n 7 X rfl rfl dX12_put_6 rfl ?_
  refine at_iload_n 8 X rfl rfl dX12_put_7 rfl ?_
  refine at_callV 11 X _ 12 (ct_X12_isBeam hG E0 P Q hP hR_E0 x0) clX12 rfl k_125 mo_X12_isBeam w_2122 vo_X12_isBeam.1 vo_X12_isBeam.2 rfl rfl (crm Rt (by decide)) (Nat.le_of_ble_eq_true rfl) dX12_put_8 rfl ?_
  rintro _ _ ⟨rfl, rfl⟩
  refine at_if_ne 14 18 X dX12_put_11 rfl (by decide) (fun h11 => ?_) (fun h11 => ?_)
  · have h11 : (0 ≤ x0 ∧ x0 ≤ (bN (sB P) : Int) - 1) := ite_yes.mp h11
    refine at_iconst 19 X (by decide) dX12_put_18 rfl ?_
    refine at_iconst 20 X (by decide) dX12_put_19 rfl ?_
    refine at_iconst 21 X (by decide) dX12_put_20 rfl ?_
    refine at_callV 24 X _ 12 (ct_bad0 hG E0 1 1 (by decide) hO_E0.2.2.1) clX12 rfl k_125 mo_X12_bad w_1960 vo_X12_bad.1 vo_X12_bad.2 rfl rfl (crm Rt (by decide)) (Nat.le_of_ble_eq_true rfl) dX12_put_21 rfl ?_
    rintro _ _ ⟨rfl, rfl⟩
    have hc0 : 0 ≤ x0 ∧ x0 ≤ (bN (sB P) : Int) - 1 := by omega
    refine at_if_ne 27 69 X dX12_put_24 rfl (by decide) (fun h24 => ?_) (fun h24 => ?_)
    · exact absurd h24 (by decide)
    · obtain ⟨b, rfl⟩ : ∃ b : Nat, x0 = (b : Int) := ⟨x0.toNat, by omega⟩
      have hlb := hP.B.L (b := b) (by omega)
      have hxb := hP.B.X (b := b) (by omega)
      refine at_aload_n 28 X rfl rfl dX12_put_27 rfl ?_
      refine at_iload_n 29 X rfl rfl dX12_put_28 rfl ?_
      refine at_iconst 30 X (by decide) dX12_put_29 rfl ?_
      refine at_aload_n 31 X rfl rfl dX12_put_30 rfl ?_
      refine m_getR 34 X f_X12_61 k_125 r_125_24 dX12_put_31 rfl ?_
      refine at_iload_n 35 X rfl rfl dX12_put_34 rfl ?_
      refine m_aaloadV 36 X b (by omega) k_227 (by decide) (by omega) (rr_227 _ (by omega)) dX12_put_35 rfl ?_
      refine at_iconst 37 X (by decide) dX12_put_36 rfl ?_
      refine m_ialoadV 38 X 1 (by omega) ((bL (sB P) b : Nat) : Int) (hR_E0.2.2.2.2.2.2 b (by omega)).2.1 (kr_227 _ (by omega)) (er_227 _ (by omega)) (by omega) dX12_put_37 rfl ?_
      have := hP.B.L (b := b) (by omega)
      refine at_iconst 39 X (by decide) dX12_put_38 rfl ?_
      refine at_isubV 40 X (((bL (sB P) b : Nat) : Int) - 1) (w32_v rfl (by omega) (by omega)) dX12_put_39 rfl ?_
      refine at_callS 43 X (ct_X12_in hG _ _ _) mo_X12_in w_1957 so_X12_in rfl rfl (crm Rt (by decide)) (Nat.le_of_ble_eq_true rfl) dX12_put_40 rfl ?_
      rintro _ _ ⟨rfl, rfl⟩
      refine at_if_eq 46 56 X dX12_put_43 rfl (by decide) (fun h43 => ?_) (fun h43 => ?_)
      · have h43 : ¬ (0 ≤ x1 ∧ x1 ≤ (((bL (sB P) b : Nat) : Int) - 1)) := ite_no.mp h43
        refine at_iconst 57 X (by decide) dX12_put_56 rfl ?_
        refine at_goto 61 X dX12_put_57 (by decide) ?_
        refine at_iconst 62 X (by decide) dX12_put_61 rfl ?_
        refine at_iconst 63 X (by decide) dX12_put_62 rfl ?_
        refine at_callV 66 X _ 12 (ct_bad1 hG E0 2 2 (by decide) hO_E0.2.2.1 (by decide)) clX12 rfl k_125 mo_X12_bad w_1960 vo_X12_bad.1 vo_X12_bad.2 rfl rfl (crm Rt (by decide)) (Nat.le_of_ble_eq_true rfl) dX12_put_63 rfl ?_
        rintro _ _ ⟨rfl, rfl⟩
        have hb : ¬ ((0 ≤ x1 ∧ x1 ≤ (bL (sB P) b : Int) - 1) ∧ (0 ≤ x2 ∧ x2 ≤ 99)) := by omega
        refine at_if_eq 69 71 X dX12_put_66 rfl (by decide) (fun h66 => ?_) (fun h66 => ?_)
        · exact absurd h66 (by decide)
        · refine at_iconst 70 X (by decide) dX12_put_69 rfl ?_
          refine at_iret X Rt ?_ (Nat.le_refl _) (Nat.le_refl _) dX12_put_70
          exact Or.inr (Or.inr (⟨hc0, hb, rfl, congrArg ov (badR_of hE0)⟩))
      · have h43 : (0 ≤ x1 ∧ x1 ≤ (((bL (sB P) b : Nat) : Int) - 1)) := ite_yes.mp h43
        refine at_iload_n 47 X rfl rfl dX12_put_46 rfl ?_
        refine at_iconst 48 X (by decide) dX12_put_47 rfl ?_
        refine at_bipush 50 X (by decide) (by decide) dX12_put_48 rfl ?_
        refine at_callS 53 X (ct_X12_in hG _ _ _) mo_X12_in w_1957 so_X12_in rfl rfl (crm Rt (by decide)) (Nat.le_of_ble_eq_true rfl) dX12_put_50 rfl ?_
        rintro _ _ ⟨rfl, rfl⟩
        refine at_if_ne 56 60 X dX12_put_53 rfl (by decide) (fun h53 => ?_) (fun h53 => ?_)
        · have h53 : (0 ≤ x2 ∧ x2 ≤ 99) := ite_yes.mp h53
          refine at_iconst 61 X (by decide) dX12_put_60 rfl ?_
          refine at_iconst 62 X (by decide) dX12_put_61 rfl ?_
          refine at_iconst 63 X (by decide) dX12_put_62 rfl ?_
          refine at_callV 66 X _ 12 (ct_bad0 hG E0 2 2 (by decide) hO_E0.2.2.1) clX12 rfl k_125 mo_X12_bad w_1960 vo_X12_bad.1 vo_X12_bad.2 rfl rfl (crm Rt (by decide)) (Nat.le_of_ble_eq_true rfl) dX12_put_63 rfl ?_
          rintro _ _ ⟨rfl, rfl⟩
          have hc1 : (0 ≤ x1 ∧ x1 ≤ (bL (sB P) b : Int) - 1) ∧ (0 ≤ x2 ∧ x2 ≤ 99) := by omega
          refine at_if_eq 69 71 X dX12_put_66 rfl (by decide) (fun h66 => ?_) (fun h66 => ?_)
          · have hcc : E0 125 46 = (c : Int) := (hO_E0.2.1.2 46 (by omega)).trans hc
            refine at_aload_n 72 X rfl rfl dX12_put_71 rfl ?_
            refine m_getIV 75 X ((c : Nat) : Int) hcc f_X12_270 k_125 rn_125_46 dX12_put_72 rfl ?_
            refine at_bipush 77 X (by decide) (by decide) dX12_put_75 rfl ?_
            refine at_icmp_ne 80 82 X dX12_put_77 rfl (by decide) (fun h77 => ?_) (fun h77 => ?_)
            · refine at_aload_n 83 X rfl rfl dX12_put_82 rfl ?_
              refine m_getR 86 X f_X12_67 k_125 r_125_26 dX12_put_83 rfl ?_
              refine at_iload_n 87 X rfl rfl dX12_put_86 rfl ?_
              refine m_aaloadV 88 X b (by omega) k_245 (by decide) (by omega) (rr_245 _ (by omega)) dX12_put_87 rfl ?_
              refine at_iload_n 89 X rfl rfl dX12_put_88 rfl ?_
              refine m_ialoadV 90 X x1.toNat (by omega) ((bD (sB P) b x1.toNat : Nat) : Int) ((hR_E0.2.2.2.2.2.2 b (by omega)).2.2.2 x1.toNat (by omega)) (kr_245 _ (by omega)) (er_245 _ (by omega)) (by omega) dX12_put_89 rfl ?_
              have := hP.B.D (b := b) (p := x1.toNat) (by omega) (by omega)
              refine at_istore 92 X dX12_put_90 rfl (by decide) ?_
              refine at_aload_n 93 X rfl rfl dX12_put_92 rfl ?_
              refine at_callV 96 X _ 12 (ct_X12_changes hG E0 c (by omega) hcc) clX12 rfl k_125 mo_X12_changes w_2406 vo_X12_changes.1 vo_X12_changes.2 rfl rfl (crm Rt (by decide)) (Nat.le_of_ble_eq_true rfl) dX12_put_93 rfl ?_
              rintro _ _ ⟨rfl, F, rfl, g1, g2, g3, g4⟩
              have hq0 : ∀ q, q ≠ 125 → E0 q = E q := fun q h => by rw [← hE0]; exact wr_row h
              have hk0 : ∀ k, k ≠ 0 → E0 125 k = E 125 k := fun k h => by rw [← hE0]; exact wr_o (Or.inr h)
              have hch : CHO E F c := ⟨fun i hi => (g1 i hi).trans (snI_congr (fun q hq => hq0 q (by omega)) hi), g2, fun q h1 h2 => (g3 q h1 h2).trans (hq0 q h2), fun k h1 h2 h3 => (g4 k h2 h3).trans (hk0 k h1), (g4 0 (by decide) (by decide)).trans hO_E0.2.2.1⟩
              refine at_aload_n 97 X rfl rfl dX12_put_96 rfl ?_
              refine m_getR 100 X f_X12_67 k_125 r_125_26 dX12_put_97 rfl ?_
              refine at_iload_n 101 X rfl rfl dX12_put_100 rfl ?_
              refine m_aaloadV 102 X b (by omega) k_245 (by decide) (by omega) (rr_245 _ (by omega)) dX12_put_101 rfl ?_
              refine at_iload_n 103 X rfl rfl dX12_put_102 rfl ?_
              refine at_iload_n 104 X rfl rfl dX12_put_103 rfl ?_
              refine m_iastoreV 105 X x1.toNat (by omega) (kr_245 _ (by omega)) (er_245 _ (by omega)) (by omega) dX12_put_104 rfl ?_
              refine at_iload 107 X rfl dX12_put_105 rfl ?_
              refine at_iret X Rt ?_ (Nat.le_refl _) (Nat.le_refl _) dX12_put_107
              exact Or.inl ⟨hc0, hc1, Or.inr ⟨by omega, rfl, F, rfl, hch⟩⟩
            · refine at_iconst 81 X (by decide) dX12_put_80 rfl ?_
              refine at_iret X Rt ?_ (Nat.le_refl _) (Nat.le_refl _) dX12_put_81
              exact Or.inl ⟨hc0, hc1, Or.inl ⟨by omega, rfl, _, rfl, hO_E0⟩⟩
          · exact absurd h66 (by decide)
        · have h53 : ¬ (0 ≤ x2 ∧ x2 ≤ 99) := ite_no.mp h53
          refine at_iconst 57 X (by decide) dX12_put_56 rfl ?_
          refine at_goto 61 X dX12_put_57 (by decide) ?_
          refine at_iconst 62 X (by decide) dX12_put_61 rfl ?_
          refine at_iconst 63 X (by decide) dX12_put_62 rfl ?_
          refine at_callV 66 X _ 12 (ct_bad1 hG E0 2 2 (by decide) hO_E0.2.2.1 (by decide)) clX12 rfl k_125 mo_X12_bad w_1960 vo_X12_bad.1 vo_X12_bad.2 rfl rfl (crm Rt (by decide)) (Nat.le_of_ble_eq_true rfl) dX12_put_63 rfl ?_
          rintro _ _ ⟨rfl, rfl⟩
          have hb : ¬ ((0 ≤ x1 ∧ x1 ≤ (bL (sB P) b : Int) - 1) ∧ (0 ≤ x2 ∧ x2 ≤ 99)) := by omega
          refine at_if_eq 69 71 X dX12_put_66 rfl (by decide) (fun h66 => ?_) (fun h66 => ?_)
          · exact absurd h66 (by decide)
          · refine at_iconst 70 X (by decide) dX12_put_69 rfl ?_
            refine at_iret X Rt ?_ (Nat.le_refl _) (Nat.le_refl _) dX12_put_70
            exact Or.inr (Or.inr (⟨hc0, hb, rfl, congrArg ov (badR_of hE0)⟩))
  · have h11 : ¬ (0 ≤ x0 ∧ x0 ≤ (bN (sB P) : Int) - 1) := ite_no.mp h11
    refine at_iconst 15 X (by decide) dX12_put_14 rfl ?_
    refine at_goto 19 X dX12_put_15 (by decide) ?_
    refine at_iconst 20 X (by decide) dX12_put_19 rfl ?_
    refine at_iconst 21 X (by decide) dX12_put_20 rfl ?_
    refine at_callV 24 X _ 12 (ct_bad1 hG E0 1 1 (by decide) hO_E0.2.2.1 (by decide)) clX12 rfl k_125 mo_X12_bad w_1960 vo_X12_bad.1 vo_X12_bad.2 rfl rfl (crm Rt (by decide)) (Nat.le_of_ble_eq_true rfl) dX12_put_21 rfl ?_
    rintro _ _ ⟨rfl, rfl⟩
    have hb : ¬ (0 ≤ x0 ∧ x0 ≤ (bN (sB P) : Int) - 1) := by omega
    refine at_if_ne 27 69 X dX12_put_24 rfl (by decide) (fun h24 => ?_) (fun h24 => ?_)
    · refine at_iconst 70 X (by decide) dX12_put_69 rfl ?_
      refine at_iret X Rt ?_ (Nat.le_refl _) (Nat.le_refl _) dX12_put_70
      exact Or.inr (Or.inl ⟨hb, rfl, congrArg ov (badR_of hE0)⟩)
    · exact absurd h24 (by decide)
