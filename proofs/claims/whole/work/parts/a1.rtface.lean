theorem lawT_no {B : Nat → Int} {n : Nat} (h : ¬ goB B n (lawS B n).1) : (lawT B n).2.2 = (lawS B n).1.2.2 := by
  have e : lawT B n = goT B n (lawS B n).1 := if_neg h
  rw [e, go_fk]
theorem RLw_of {E : Mm} {L : LW} (h28 : E 125 28 = (L.1 : Int)) (h : ∀ i, i < L.1 → E (255 + i) 0 = rcode (L.2.1 i) ∧ (L.2.1 i = 0 → E (255 + i) 1 = L.2.2 i) ∧ (1 ≤ L.2.1 i → L.2.1 i < 5 → E (255 + i) 1 = L.2.1 i - 1)) : RLw E L := Or.inr ⟨h28, h⟩
theorem dX12_law_0 : decode cX12_law 0 = .ok (.aload_n 0, 1) := by decide +kernel
theorem dX12_law_1 : decode cX12_law 1 = .ok (.iconst 0, 1) := by decide +kernel
theorem dX12_law_2 : decode cX12_law 2 = .ok (.putfield 152, 3) := by decide +kernel
theorem dX12_law_5 : decode cX12_law 5 = .ok (.aload_n 0, 1) := by decide +kernel
theorem dX12_law_6 : decode cX12_law 6 = .ok (.iload_n 1, 1) := by decide +kernel
theorem dX12_law_7 : decode cX12_law 7 = .ok (.iconst 0, 1) := by decide +kernel
theorem dX12_law_8 : decode cX12_law 8 = .ok (.aload_n 0, 1) := by decide +kernel
theorem dX12_law_9 : decode cX12_law 9 = .ok (.getfield 155, 3) := by decide +kernel
theorem dX12_law_12 : decode cX12_law 12 = .ok (.invokestatic 186, 3) := by decide +kernel
theorem dX12_law_15 : decode cX12_law 15 = .ok (.ifCond .eq 10, 3) := by decide +kernel
theorem dX12_law_18 : decode cX12_law 18 = .ok (.iload_n 1, 1) := by decide +kernel
theorem dX12_law_19 : decode cX12_law 19 = .ok (.sipush 150, 3) := by decide +kernel
theorem dX12_law_22 : decode cX12_law 22 = .ok (.if_icmp .le 7, 3) := by decide +kernel
theorem dX12_law_25 : decode cX12_law 25 = .ok (.iconst 1, 1) := by decide +kernel
theorem dX12_law_26 : decode cX12_law 26 = .ok (.goto 4, 3) := by decide +kernel
theorem dX12_law_29 : decode cX12_law 29 = .ok (.iconst 0, 1) := by decide +kernel
theorem dX12_law_30 : decode cX12_law 30 = .ok (.iconst 1, 1) := by decide +kernel
theorem dX12_law_31 : decode cX12_law 31 = .ok (.iconst 2, 1) := by decide +kernel
theorem dX12_law_32 : decode cX12_law 32 = .ok (.invokevirtual 244, 3) := by decide +kernel
theorem dX12_law_35 : decode cX12_law 35 = .ok (.ifCond .eq 5, 3) := by decide +kernel
theorem dX12_law_38 : decode cX12_law 38 = .ok (.iconst 0, 1) := by decide +kernel
theorem dX12_law_39 : decode cX12_law 39 = .ok (.ireturn, 1) := by decide +kernel
theorem dX12_law_40 : decode cX12_law 40 = .ok (.aload_n 0, 1) := by decide +kernel
theorem dX12_law_41 : decode cX12_law 41 = .ok (.iload_n 1, 1) := by decide +kernel
theorem dX12_law_42 : decode cX12_law 42 = .ok (.invokevirtual 248, 3) := by decide +kernel
theorem dX12_law_45 : decode cX12_law 45 = .ok (.aload_n 0, 1) := by decide +kernel
theorem dX12_law_46 : decode cX12_law 46 = .ok (.iconst 0, 1) := by decide +kernel
theorem dX12_law_47 : decode cX12_law 47 = .ok (.putfield 276, 3) := by decide +kernel
theorem dX12_law_50 : decode cX12_law 50 = .ok (.aload_n 0, 1) := by decide +kernel
theorem dX12_law_51 : decode cX12_law 51 = .ok (.invokevirtual 295, 3) := by decide +kernel
theorem dX12_law_54 : decode cX12_law 54 = .ok (.aload_n 0, 1) := by decide +kernel
theorem dX12_law_55 : decode cX12_law 55 = .ok (.invokevirtual 174, 3) := by decide +kernel
theorem dX12_law_58 : decode cX12_law 58 = .ok (.aload_n 0, 1) := by decide +kernel
theorem dX12_law_59 : decode cX12_law 59 = .ok (.getfield 168, 3) := by decide +kernel
theorem dX12_law_62 : decode cX12_law 62 = .ok (.ifCond .ne 23, 3) := by decide +kernel
theorem dX12_law_65 : decode cX12_law 65 = .ok (.aload_n 0, 1) := by decide +kernel
theorem dX12_law_66 : decode cX12_law 66 = .ok (.getfield 161, 3) := by decide +kernel
theorem dX12_law_69 : decode cX12_law 69 = .ok (.aload_n 0, 1) := by decide +kernel
theorem dX12_law_70 : decode cX12_law 70 = .ok (.getfield 158, 3) := by decide +kernel
theorem dX12_law_73 : decode cX12_law 73 = .ok (.if_icmp .ge 12, 3) := by decide +kernel
theorem dX12_law_76 : decode cX12_law 76 = .ok (.aload_n 0, 1) := by decide +kernel
theorem dX12_law_77 : decode cX12_law 77 = .ok (.iconst 1, 1) := by decide +kernel
theorem dX12_law_78 : decode cX12_law 78 = .ok (.aload_n 0, 1) := by decide +kernel
theorem dX12_law_79 : decode cX12_law 79 = .ok (.getfield 161, 3) := by decide +kernel
theorem dX12_law_82 : decode cX12_law 82 = .ok (.invokevirtual 181, 3) := by decide +kernel
theorem dX12_law_85 : decode cX12_law 85 = .ok (.aload_n 0, 1) := by decide +kernel
theorem dX12_law_86 : decode cX12_law 86 = .ok (.aload_n 0, 1) := by decide +kernel
theorem dX12_law_87 : decode cX12_law 87 = .ok (.getfield 171, 3) := by decide +kernel
theorem dX12_law_90 : decode cX12_law 90 = .ok (.putfield 9, 3) := by decide +kernel
theorem dX12_law_93 : decode cX12_law 93 = .ok (.aload_n 0, 1) := by decide +kernel
theorem dX12_law_94 : decode cX12_law 94 = .ok (.getfield 168, 3) := by decide +kernel
theorem dX12_law_97 : decode cX12_law 97 = .ok (.ifCond .eq 11, 3) := by decide +kernel
theorem dX12_law_100 : decode cX12_law 100 = .ok (.aload_n 0, 1) := by decide +kernel
theorem dX12_law_101 : decode cX12_law 101 = .ok (.getfield 168, 3) := by decide +kernel
theorem dX12_law_104 : decode cX12_law 104 = .ok (.bipush 10, 2) := by decide +kernel
theorem dX12_law_106 : decode cX12_law 106 = .ok (.isub, 1) := by decide +kernel
theorem dX12_law_107 : decode cX12_law 107 = .ok (.ireturn, 1) := by decide +kernel
theorem dX12_law_108 : decode cX12_law 108 = .ok (.aload_n 0, 1) := by decide +kernel
theorem dX12_law_109 : decode cX12_law 109 = .ok (.aload_n 0, 1) := by decide +kernel
theorem dX12_law_110 : decode cX12_law 110 = .ok (.getfield 276, 3) := by decide +kernel
theorem dX12_law_113 : decode cX12_law 113 = .ok (.putfield 258, 3) := by decide +kernel
theorem dX12_law_116 : decode cX12_law 116 = .ok (.aload_n 0, 1) := by decide +kernel
theorem dX12_law_117 : decode cX12_law 117 = .ok (.dup, 1) := by decide +kernel
theorem dX12_law_118 : decode cX12_law 118 = .ok (.getfield 70, 3) := by decide +kernel
theorem dX12_law_121 : decode cX12_law 121 = .ok (.iconst 1, 1) := by decide +kernel
theorem dX12_law_122 : decode cX12_law 122 = .ok (.iadd, 1) := by decide +kernel
theorem dX12_law_123 : decode cX12_law 123 = .ok (.putfield 70, 3) := by decide +kernel
theorem dX12_law_126 : decode cX12_law 126 = .ok (.iconst 0, 1) := by decide +kernel
theorem dX12_law_127 : decode cX12_law 127 = .ok (.istore_n 2, 1) := by decide +kernel
theorem dX12_law_128 : decode cX12_law 128 = .ok (.iload_n 2, 1) := by decide +kernel
theorem dX12_law_129 : decode cX12_law 129 = .ok (.aload_n 0, 1) := by decide +kernel
theorem dX12_law_130 : decode cX12_law 130 = .ok (.getfield 258, 3) := by decide +kernel
theorem dX12_law_133 : decode cX12_law 133 = .ok (.if_icmp .ge 38, 3) := by decide +kernel
theorem dX12_law_136 : decode cX12_law 136 = .ok (.iconst 0, 1) := by decide +kernel
theorem dX12_law_137 : decode cX12_law 137 = .ok (.istore_n 3, 1) := by decide +kernel
theorem dX12_law_138 : decode cX12_law 138 = .ok (.iload_n 3, 1) := by decide +kernel
theorem dX12_law_139 : decode cX12_law 139 = .ok (.iconst 2, 1) := by decide +kernel
theorem dX12_law_140 : decode cX12_law 140 = .ok (.if_icmp .ge 25, 3) := by decide +kernel
theorem dX12_law_143 : decode cX12_law 143 = .ok (.aload_n 0, 1) := by decide +kernel
theorem dX12_law_144 : decode cX12_law 144 = .ok (.getfield 73, 3) := by decide +kernel
theorem dX12_law_147 : decode cX12_law 147 = .ok (.iload_n 2, 1) := by decide +kernel
theorem dX12_law_148 : decode cX12_law 148 = .ok (.aaload, 1) := by decide +kernel
theorem dX12_law_149 : decode cX12_law 149 = .ok (.iload_n 3, 1) := by decide +kernel
theorem dX12_law_150 : decode cX12_law 150 = .ok (.aload_n 0, 1) := by decide +kernel
theorem dX12_law_151 : decode cX12_law 151 = .ok (.getfield 76, 3) := by decide +kernel
theorem dX12_law_154 : decode cX12_law 154 = .ok (.iload_n 2, 1) := by decide +kernel
theorem dX12_law_155 : decode cX12_law 155 = .ok (.aaload, 1) := by decide +kernel
theorem dX12_law_156 : decode cX12_law 156 = .ok (.iload_n 3, 1) := by decide +kernel
theorem dX12_law_157 : decode cX12_law 157 = .ok (.iaload, 1) := by decide +kernel
theorem dX12_law_158 : decode cX12_law 158 = .ok (.iastore, 1) := by decide +kernel
theorem dX12_law_159 : decode cX12_law 159 = .ok (.iinc 3 1, 3) := by decide +kernel
theorem dX12_law_162 : decode cX12_law 162 = .ok (.goto (-24), 3) := by decide +kernel
theorem dX12_law_165 : decode cX12_law 165 = .ok (.iinc 2 1, 3) := by decide +kernel
theorem dX12_law_168 : decode cX12_law 168 = .ok (.goto (-40), 3) := by decide +kernel
theorem dX12_law_171 : decode cX12_law 171 = .ok (.iconst 1, 1) := by decide +kernel
theorem dX12_law_172 : decode cX12_law 172 = .ok (.ireturn, 1) := by decide +kernel
theorem ct_X12_law {g : Gw} (hG : GF g) {z : Bool} (E : Mm) (Q : RX) (P : SP) (L : LW) (T K : LN) (d st : Nat) (hWf : WF P L T K d st) (hI_E : RXI E Q P L T K d st) (x0 : Int) (sz : Nat) (hTp : TAPM E sz) : CT g yX12_law cX12_law 4 (some .int) 26 564 0 0 K2 z [mR 125, mI x0] (ov E) K2 z (fun r' D' => ((0 ≤ x0 ∧ x0 ≤ 150 ∧ x0 ≤ (sz : Int)) ∧ ((¬ (lawT (E 126) x0.toNat).2.2.1 = 0 ∧ r' = some (mI ((lawT (E 126) x0.toNat).2.2.1 - 10)) ∧ ∃ E1, D' = ov E1 ∧ RXI E1 Q P L T K d st ∧ E1 125 46 = E 125 46 ∧ E1 125 47 = E 125 47 ∧ RTXO E E1 (lawT (E 126) x0.toNat)) ∨ ((lawT (E 126) x0.toNat).2.2.1 = 0 ∧ r' = some (mI 1) ∧ ∃ E1, D' = ov E1 ∧ RXI E1 Q P (lawS (E 126) x0.toNat).2 T K d (st + 1) ∧ E1 125 46 = E 125 46 ∧ E1 125 47 = E 125 47 ∧ RTXO E E1 (lawT (E 126) x0.toNat)))) ∨ (¬ (0 ≤ x0 ∧ x0 ≤ 150 ∧ x0 ≤ (sz : Int)) ∧ r' = some (mI 0) ∧ D' = ov (badR E 1 2))) := by
  refine CT.mk hG (by decide +kernel) (Nat.le_of_ble_eq_true rfl) (fun κ X Rt _ ok => ?_)
  have hP := hWf.1
  have hN8 := hP.B.N
  have hW40 := hP.W
  have hN11 := hP.N
  have hwN : gN (gDay P L d) ≤ 11 := Nat.le_trans hP.N (by decide)
  have hgw : gW (gDay P L d) = sW P := rfl
  have hDI24 := dyP_DI (G := (gDay P L d)) hP.B hWf.2.2.2.1 (Nat.le_refl 24)
  refine at_aload_n 1 X rfl rfl dX12_law_0 rfl ?_
  refine at_iconst 2 X (by decide) dX12_law_1 rfl ?_
  refine m_putI 5 X f_X12_152 fw_12_0 k_125 rn_125_0 dX12_law_2 rfl ?_
  have hO_E0 := RXO.z hWf hI_E
  generalize hE0 : wr E 125 0 0 = E0 at hO_E0 ⊢
  have hR_E0 := hO_E0.1.1
  have h1_E0 : E0 125 1 = (sz : Int) := (hO_E0.2.1.2 1 (by omega)).trans hTp.2.2.1
  refine at_aload_n 6 X rfl rfl dX12_law_5 rfl ?_
  refine at_iload_n 7 X rfl rfl dX12_law_6 rfl ?_
  refine at_iconst 8 X (by decide) dX12_law_7 rfl ?_
  refine at_aload_n 9 X rfl rfl dX12_law_8 rfl ?_
  refine m_getIV 12 X ((sz : Nat) : Int) h1_E0 f_X12_155 k_125 rn_125_1 dX12_law_9 rfl ?_
  refine at_callS 15 X (ct_X12_in hG _ _ _) mo_X12_in w_1957 so_X12_in rfl rfl (crm Rt (by decide)) (Nat.le_of_ble_eq_true rfl) dX12_law_12 rfl ?_
  rintro _ _ ⟨rfl, rfl⟩
  refine at_if_eq 18 25 X dX12_law_15 rfl (by decide) (fun h15 => ?_) (fun h15 => ?_)
  · have h15 : ¬ (0 ≤ x0 ∧ x0 ≤ ((sz : Nat) : Int)) := ite_no.mp h15
    refine at_iconst 26 X (by decide) dX12_law_25 rfl ?_
    refine at_goto 30 X dX12_law_26 (by decide) ?_
    refine at_iconst 31 X (by decide) dX12_law_30 rfl ?_
    refine at_iconst 32 X (by decide) dX12_law_31 rfl ?_
    refine at_callV 35 X _ 12 (ct_bad1 hG E0 1 2 (by decide) hO_E0.2.2.1 (by decide)) clX12 rfl k_125 mo_X12_bad w_1960 vo_X12_bad.1 vo_X12_bad.2 rfl rfl (crm Rt (by decide)) (Nat.le_of_ble_eq_true rfl) dX12_law_32 rfl ?_
    rintro _ _ ⟨rfl, rfl⟩
    have hb : ¬ (0 ≤ x0 ∧ x0 ≤ 150 ∧ x0 ≤ (sz : Int)) := by omega
    refine at_if_eq 38 40 X dX12_law_35 rfl (by decide) (fun h35 => ?_) (fun h35 => ?_)
    · exact absurd h35 (by decide)
    · refine at_iconst 39 X (by decide) dX12_law_38 rfl ?_
      refine at_iret X Rt ?_ (Nat.le_refl _) (Nat.le_refl _) dX12_law_39
      exact Or.inr (⟨hb, rfl, congrArg ov (badR_of hE0)⟩)
  · have h15 : (0 ≤ x0 ∧ x0 ≤ ((sz : Nat) : Int)) := ite_yes.mp h15
    refine at_iload_n 19 X rfl rfl dX12_law_18 rfl ?_
    refine at_sipush 22 X (by decide) (by decide) dX12_law_19 rfl ?_
    refine at_icmp_le 25 29 X dX12_law_22 rfl (by decide) (fun h22 => ?_) (fun h22 => ?_)
    · refine at_iconst 30 X (by decide) dX12_law_29 rfl ?_
      refine at_iconst 31 X (by decide) dX12_law_30 rfl ?_
      refine at_iconst 32 X (by decide) dX12_law_31 rfl ?_
      refine at_callV 35 X _ 12 (ct_bad0 hG E0 1 2 (by decide) hO_E0.2.2.1) clX12 rfl k_125 mo_X12_bad w_1960 vo_X12_bad.1 vo_X12_bad.2 rfl rfl (crm Rt (by decide)) (Nat.le_of_ble_eq_true rfl) dX12_law_32 rfl ?_
      rintro _ _ ⟨rfl, rfl⟩
      have hc0 : 0 ≤ x0 ∧ x0 ≤ 150 ∧ x0 ≤ (sz : Int) := by omega
      refine at_if_eq 38 40 X dX12_law_35 rfl (by decide) (fun h35 => ?_) (fun h35 => ?_)
      · obtain ⟨n, rfl⟩ : ∃ n : Nat, x0 = (n : Int) := ⟨x0.toNat, by omega⟩
        have hnz : n ≤ sz := by omega
        have hz600 := hTp.1
        have hq_E0 : ∀ q, q ≠ 125 → E0 q = E q := fun q h => by rw [← hE0]; exact wr_row h
        have hs_E0 : ∀ k, k ≠ 0 → E0 125 k = E 125 k := fun k h => by rw [← hE0]; exact wr_o (by omega)
        have hB126 : E0 126 = E 126 := hq_E0 126 (by omega)
        refine at_aload_n 41 X rfl rfl dX12_law_40 rfl ?_
        refine at_iload_n 42 X rfl rfl dX12_law_41 rfl ?_
        refine at_callV 45 X _ 12 (ct_X12_starts hG E0 n (by omega) (fun k hk => by rw [hB126]; exact (hTp.2.2.2 k (by omega)).1)) clX12 rfl k_125 mo_X12_starts w_1964 vo_X12_starts.1 vo_X12_starts.2 rfl rfl (crm Rt (by decide)) (Nat.le_of_ble_eq_true rfl) dX12_law_42 rfl ?_
        rintro _ _ ⟨rfl, F1, rfl, hP_F1, h1_F1, h7_F1, h8_F1, hq_F1, hs_F1, hat_F1⟩
        rw [hB126] at hP_F1 hat_F1
        obtain ⟨B, hB⟩ : ∃ B, B = E 126 := ⟨_, rfl⟩
        rw [← hB] at hP_F1 hat_F1
        refine at_aload_n 46 X rfl rfl dX12_law_45 rfl ?_
        refine at_iconst 47 X (by decide) dX12_law_46 rfl ?_
        refine m_putI 50 X f_X12_276 fw_12_29 k_125 rn_125_29 dX12_law_47 rfl ?_
        refine at_aload_n 51 X rfl rfl dX12_law_50 rfl ?_
        have hS1 : RLP B n 0 (wr F1 125 29 0) (wr F1 125 29 0) ((0, 0, 0, -1), (0, fun _ => 0, fun _ => 0)) := ⟨hP_F1.w (fun k hk => wr_o (by omega)) (wr_row (by omega)), ⟨Nat.le_refl _, Nat.zero_le _⟩, fun _ => ⟨Nat.le_refl _, wr_s _ _ _ _, fun i hi => absurd hi (Nat.not_lt_zero i)⟩, (wr_o (by omega)).trans h8_F1, RFl.rf⟩
        refine at_callV 54 X _ 12 (c12_law hG B n (by omega) (wr F1 125 29 0) (wr F1 125 29 0) (0, 0, 0, -1) (0, fun _ => 0, fun _ => 0) hS1) clX12 rfl k_125 mo_X12_sum w_2042 vo_X12_sum.1 vo_X12_sum.2 rfl rfl (crm Rt (by decide)) (Nat.le_of_ble_eq_true rfl) dX12_law_51 rfl ?_
        rintro _ _ ⟨rfl, F2, rfl, hS_F2⟩
        have hS_F2 : RLP B n 0 (wr F1 125 29 0) F2 (lawS B n) := hS_F2
        have hx_F2 : (∀ q, ¬ (q = 125 ∨ (416 ≤ q ∧ q ≤ 575)) → F2 q = E q) ∧ ∀ k, ¬ (k ≤ 8 ∨ k = 29) → F2 125 k = E 125 k := ⟨fun q hq => by rw [hS_F2.2.2.2.2.1 q hq, wr_row (by omega), hq_F1 q (by omega)]; exact hq_E0 q (by omega), fun k hk => by rw [hS_F2.2.2.2.2.2 k (by omega), wr_o (by omega), hs_F1 k (by omega)]; exact hs_E0 k (by omega)⟩
        have hz_F2 : F2 125 0 = 0 ∧ F2 125 1 = 0 := ⟨by rw [hS_F2.2.2.2.2.2 0 (by omega), wr_o (by omega), hs_F1 0 (by omega)]; exact hO_E0.2.2.1, by rw [hS_F2.2.2.2.2.2 1 (by omega), wr_o (by omega)]; exact h1_F1⟩
        refine at_aload_n 55 X rfl rfl dX12_law_54 rfl ?_
        refine at_callV 58 X _ 12 (c12_bl hG F2 B n (lawS B n).1 hS_F2.1) clX12 rfl k_125 mo_X12_blanks w_1968 vo_X12_blanks.1 vo_X12_blanks.2 rfl rfl (crm Rt (by decide)) (Nat.le_of_ble_eq_true rfl) dX12_law_55 rfl ?_
        rintro _ _ ⟨rfl, F3, rfl, hP_F3, hf_F3, hat_F3⟩
        have hr_F3 : (∀ q, ¬ (q = 125 ∨ (416 ≤ q ∧ q ≤ 575)) → F3 q = E q) ∧ ∀ k, ¬ (k ≤ 8 ∨ k = 29) → F3 125 k = E 125 k := ⟨fun q hq => (hf_F3.1 q (by omega)).trans (hx_F2.1 q hq), fun k hk => (hf_F3.2 k (by omega)).trans (hx_F2.2 k hk)⟩
        have hz_F3 : F3 125 0 = 0 ∧ F3 125 1 = 0 := ⟨(hf_F3.2 0 (by omega)).trans hz_F2.1, (hf_F3.2 1 (by omega)).trans hz_F2.2⟩
        refine at_aload_n 59 X rfl rfl dX12_law_58 rfl ?_
        refine m_getIV 62 X ((lawS B n).1.2.2.1) (rfk hP_F3) f_X12_168 k_125 rn_125_5 dX12_law_59 rfl ?_
        refine at_if_ne 65 85 X dX12_law_62 rfl (by decide) (fun h62 => ?_) (fun h62 => ?_)
        · have hng : ¬ goB B n (lawS B n).1 := (fun q => h62 q.1)
          have hl1 : (lawT B n).2.2.1 = (lawS B n).1.2.2.1 := congrArg Prod.fst (lawT_no hng)
          refine at_aload_n 86 X rfl rfl dX12_law_85 rfl ?_
          refine at_aload_n 87 X rfl rfl dX12_law_86 rfl ?_
          refine m_getIV 90 X ((lawS B n).1.2.2.2) (rfp hP_F3) f_X12_171 k_125 rn_125_6 dX12_law_87 rfl ?_
          refine m_putI 93 X f_X12_9 fw_12_3 k_125 rn_125_3 dX12_law_90 rfl ?_
          refine at_aload_n 94 X rfl rfl dX12_law_93 rfl ?_
          refine m_getIV 97 X ((lawS B n).1.2.2.1) ((wr_o (by omega)).trans (rfk hP_F3)) f_X12_168 k_125 rn_125_5 dX12_law_94 rfl ?_
          refine at_if_eq 100 108 X dX12_law_97 rfl (by decide) (fun h97 => ?_) (fun h97 => ?_)
          · exact absurd h97 h62
          · have hl0 : ¬ (lawT B n).2.2.1 = 0 := by rw [hl1]; exact h97
            have hle := hl1
            have hlp : (lawS B n).1.2.2.2 = (lawT B n).2.2.2 := (congrArg Prod.snd (lawT_no hng)).symm
            have hfk : 0 ≤ (lawT B n).2.2.1 ∧ (lawT B n).2.2.1 ≤ 4 := lawT_FK B n
            refine at_aload_n 101 X rfl rfl dX12_law_100 rfl ?_
            refine m_getIV 104 X ((lawS B n).1.2.2.1) ((wr_o (by omega)).trans (rfk hP_F3)) f_X12_168 k_125 rn_125_5 dX12_law_101 rfl ?_
            refine at_bipush 106 X (by decide) (by decide) dX12_law_104 rfl ?_
            refine at_isubV 107 X (((lawS B n).1.2.2.1) - 10) (w32_v rfl (by omega) (by omega)) dX12_law_106 rfl ?_
            refine at_iret X Rt ?_ (Nat.le_refl _) (Nat.le_refl _) dX12_law_107
            refine Or.inl ⟨hc0, Or.inl ?_⟩
            rw [Int.toNat_natCast, ← hB]
            exact ⟨hl0, by rw [hle], _, rfl, hI_E.fr2 hWf (fun q hq => by rw [wr_row (by omega)]; exact hr_F3.1 q (by omega)) (fun k hk => by rw [wr_o (by omega)]; exact hr_F3.2 k (by omega)), by rw [wr_o (by omega)]; exact hr_F3.2 46 (by omega), by rw [wr_o (by omega)]; exact hr_F3.2 47 (by omega), by rw [wr_o (by omega)]; exact hz_F3.1, by rw [wr_o (by omega)]; exact hz_F3.2, by rw [wr_s, hlp], fun q hq => by rw [wr_row (by omega)]; exact hr_F3.1 q (by omega)⟩
        · have h0 : (lawS B n).1.2.2.1 = 0 := by first | exact h62 | exact Decidable.byContradiction h62
          refine at_aload_n 66 X rfl rfl dX12_law_65 rfl ?_
          refine m_getIV 69 X ((sk B n (lawS B n).1.1 : Nat) : Int) (hat_F3 h0) f_X12_161 k_125 rn_125_4 dX12_law_66 rfl ?_
          refine at_aload_n 70 X rfl rfl dX12_law_69 rfl ?_
          refine m_getIV 73 X ((n : Nat) : Int) (rsz hP_F3) f_X12_158 k_125 rn_125_2 dX12_law_70 rfl ?_
          refine at_icmp_ge 76 85 X dX12_law_73 rfl (by decide) (fun h73 => ?_) (fun h73 => ?_)
          · have hng : ¬ goB B n (lawS B n).1 := (fun q => by have := q.2; omega)
            have hl1 : (lawT B n).2.2.1 = (lawS B n).1.2.2.1 := congrArg Prod.fst (lawT_no hng)
            refine at_aload_n 86 X rfl rfl dX12_law_85 rfl ?_
            refine at_aload_n 87 X rfl rfl dX12_law_86 rfl ?_
            refine m_getIV 90 X ((lawS B n).1.2.2.2) (rfp hP_F3) f_X12_171 k_125 rn_125_6 dX12_law_87 rfl ?_
            refine m_putI 93 X f_X12_9 fw_12_3 k_125 rn_125_3 dX12_law_90 rfl ?_
            refine at_aload_n 94 X rfl rfl dX12_law_93 rfl ?_
            refine m_getIV 97 X ((lawS B n).1.2.2.1) ((wr_o (by omega)).trans (rfk hP_F3)) f_X12_168 k_125 rn_125_5 dX12_law_94 rfl ?_
            refine at_if_eq 100 108 X dX12_law_97 rfl (by decide) (fun h97 => ?_) (fun h97 => ?_)
            · have h0 : (lawS B n).1.2.2.1 = 0 := by first | exact h97 | exact Decidable.byContradiction h97
              have hl0 : (lawT B n).2.2.1 = 0 := hl1.trans h0
              obtain ⟨hWL, hs0⟩ := lawS_WL B (n := n) (by omega) hl0
              have hlr : RLr F3 (lawS B n).2 := (hS_F2.2.2.1 h0).2.fr hf_F3.1 (hf_F3.2 29 (by omega))
              have hL150 := hWL.2.1
              have hstb := hWf.2.2.2.2.2.2
              refine at_aload_n 109 X rfl rfl dX12_law_108 rfl ?_
              refine at_aload_n 110 X rfl rfl dX12_law_109 rfl ?_
              refine m_getIV 113 X (((lawS B n).2.1 : Nat) : Int) ((wr_o (by omega)).trans hlr.1) f_X12_276 k_125 rn_125_29 dX12_law_110 rfl ?_
              refine m_putI 116 X f_X12_258 fw_12_28 k_125 rn_125_28 dX12_law_113 rfl ?_
              refine at_aload_n 117 X rfl rfl dX12_law_116 rfl ?_
              refine at_dup 118 X (show ¬ (2 : Nat) = 1 by decide) dX12_law_117 rfl ?_
              refine m_getIV 121 X ((st : Nat) : Int) ((wr_o (by omega)).trans ((wr_o (by omega)).trans ((hr_F3.2 30 (by omega)).trans hI_E.2.2.1.1))) f_X12_70 k_125 rn_125_30 dX12_law_118 rfl ?_
              refine at_iconst 122 X (by decide) dX12_law_121 rfl ?_
              refine at_iaddV 123 X ((st + 1 : Nat) : Int) (w32_v (by omega) (by omega) (by omega)) dX12_law_122 rfl ?_
              refine m_putI 126 X f_X12_70 fw_12_30 k_125 rn_125_30 dX12_law_123 rfl ?_
              have hH0 : (∀ q, q ≠ 125 → (wr (wr (wr F3 125 3 ((lawS B n).1.2.2.2)) 125 28 (((lawS B n).2.1 : Nat) : Int)) 125 30 ((st + 1 : Nat) : Int)) q = F3 q) ∧ (∀ k, ¬ (k = 3 ∨ k = 28 ∨ k = 30) → (wr (wr (wr F3 125 3 ((lawS B n).1.2.2.2)) 125 28 (((lawS B n).2.1 : Nat) : Int)) 125 30 ((st + 1 : Nat) : Int)) 125 k = F3 125 k) ∧ (wr (wr (wr F3 125 3 ((lawS B n).1.2.2.2)) 125 28 (((lawS B n).2.1 : Nat) : Int)) 125 30 ((st + 1 : Nat) : Int)) 125 3 = (lawS B n).1.2.2.2 ∧ (wr (wr (wr F3 125 3 ((lawS B n).1.2.2.2)) 125 28 (((lawS B n).2.1 : Nat) : Int)) 125 30 ((st + 1 : Nat) : Int)) 125 28 = ((lawS B n).2.1 : Int) ∧ (wr (wr (wr F3 125 3 ((lawS B n).1.2.2.2)) 125 28 (((lawS B n).2.1 : Nat) : Int)) 125 30 ((st + 1 : Nat) : Int)) 125 30 = ((st + 1 : Nat) : Int) := ⟨fun q hq => by simp (disch := omega) only [wr_row], fun k hk => by simp (disch := omega) only [wr_o], by simp (disch := omega) only [wr_o, wr_s], by simp (disch := omega) only [wr_o, wr_s], by simp (disch := omega) only [wr_o, wr_s]⟩
              generalize wr (wr (wr F3 125 3 ((lawS B n).1.2.2.2)) 125 28 (((lawS B n).2.1 : Nat) : Int)) 125 30 ((st + 1 : Nat) : Int) = H0 at hH0 ⊢
              refine at_iconst 127 X (by decide) dX12_law_126 rfl ?_
              refine at_istore_n 128 X rfl dX12_law_127 rfl (by decide) ?_
              have J128 : ∀ (f128 : Nat) (H : Mm) (i : Nat), 160 - i < f128 → (i ≤ (lawS B n).2.1) → (∀ q, ¬ (q = 125 ∨ (255 ≤ q ∧ q ≤ 404)) → H q = F3 q) → (∀ k, H 125 k = H0 125 k) → (∀ j, j < i → ∀ b, b < 2 → H (255 + j) b = F3 (416 + j) b) → AT g κ K2 z 0 0 128 [(0, mR 125), (2, mI ((i : Nat) : Int))] [] (ov H) := by
                intro f128
                induction f128 with
                | zero => intro H i hf128; omega
                | succ f128 ih128 =>
                intro H i hf128 hi hq_H hs_H hc_H
                refine at_iload_n 129 X rfl rfl dX12_law_128 rfl ?_
                refine at_aload_n 130 X rfl rfl dX12_law_129 rfl ?_
                refine m_getIV 133 X (((lawS B n).2.1 : Nat) : Int) ((hs_H 28).trans hH0.2.2.2.1) f_X12_258 k_125 rn_125_28 dX12_law_130 rfl ?_
                refine at_icmp_ge 136 171 X dX12_law_133 rfl (by decide) (fun h133 => ?_) (fun h133 => ?_)
                · refine at_iconst 172 X (by decide) dX12_law_171 rfl ?_
                  refine at_iret X Rt ?_ (Nat.le_refl _) (Nat.le_refl _) dX12_law_172
                  refine Or.inl ⟨hc0, Or.inr ?_⟩
                  rw [Int.toNat_natCast, ← hB]
                  have hqE : ∀ q, ¬ (q = 125 ∨ (255 ≤ q ∧ q ≤ 404) ∨ (416 ≤ q ∧ q ≤ 575)) → H q = E q := fun q hq => (hq_H q (by omega)).trans (hr_F3.1 q (by omega))
                  have hsE : ∀ k, ¬ (k ≤ 8 ∨ k = 28 ∨ k = 29 ∨ k = 30) → H 125 k = E 125 k := fun k hk => (hs_H k).trans ((hH0.2.1 k (by omega)).trans (hr_F3.2 k (by omega)))
                  have hTW := hWf.2.2.2.1.1
                  have hKW := hWf.2.2.2.2.1.1
                  refine ⟨by rw [show (lawT B n).2.2.1 = _ from congrArg Prod.fst (lawT_no hng)]; exact h0, rfl, H, rfl, ⟨hI_E.1.fr (fun q hq => hqE q (by omega)) hWf.1, RLw_of ((hs_H 28).trans hH0.2.2.2.1) (fun i2 hi2 => ?_), ⟨(hs_H 30).trans hH0.2.2.2.2, fun s t h m k1 k2 k3 k4 => ?_⟩, ⟨(hsE 43 (by omega)).trans hI_E.2.2.2.1.1, fun i2 hi2 => by rw [hqE (581 + i2) (by omega)]; exact hI_E.2.2.2.1.2 i2 hi2⟩, ⟨(hsE 44 (by omega)).trans hI_E.2.2.2.2.1.1, fun i2 hi2 => by rw [hqE (615 + i2) (by omega)]; exact hI_E.2.2.2.2.1.2 i2 hi2⟩, (hsE 45 (by omega)).trans hI_E.2.2.2.2.2⟩, hsE 46 (by omega), hsE 47 (by omega), (hs_H 0).trans ((hH0.2.1 0 (by omega)).trans hz_F3.1), (hs_H 1).trans ((hH0.2.1 1 (by omega)).trans hz_F3.2), (hs_H 3).trans (hH0.2.2.1.trans (congrArg Prod.snd (lawT_no hng)).symm), fun q hq => hqE q (by omega)⟩
                  · rw [hc_H i2 (by omega) 0 (by decide), hc_H i2 (by omega) 1 (by decide)]; exact hlr.2 i2 hi2
                  · rw [hqE 579 (by omega)]
                    have := (hI_E.2.2.1.2 s t h m k1 k2 k3 k4).1
                    exact ⟨by omega, fun q => by omega⟩
                · refine at_iconst 137 X (by decide) dX12_law_136 rfl ?_
                  refine at_istore_n 138 X rfl dX12_law_137 rfl (by decide) ?_
                  have J138 : ∀ (f138 : Nat) (H : Mm) (j : Nat), 2 - j < f138 → (j ≤ 2) → (∀ q, ¬ (q = 125 ∨ (255 ≤ q ∧ q ≤ 404)) → H q = F3 q) → (∀ k, H 125 k = H0 125 k) → ((∀ j, j < i → ∀ b, b < 2 → H (255 + j) b = F3 (416 + j) b) ∧ ∀ b, b < j → H (255 + i) b = F3 (416 + i) b) → AT g κ K2 z 0 0 138 [(0, mR 125), (2, mI ((i : Nat) : Int)), (3, mI ((j : Nat) : Int))] [] (ov H) := by
                    intro f138
                    induction f138 with
                    | zero => intro H j hf138; omega
                    | succ f138 ih138 =>
                    intro H j hf138 hj hq_H hs_H hc_H
                    refine at_iload_n 139 X rfl rfl dX12_law_138 rfl ?_
                    refine at_iconst 140 X (by decide) dX12_law_139 rfl ?_
                    refine at_icmp_ge 143 165 X dX12_law_140 rfl (by decide) (fun h140 => ?_) (fun h140 => ?_)
                    · refine at_iincV 168 X ((i + 1 : Nat) : Int) (w32_v (by omega) (by omega) (by omega)) rfl dX12_law_165 rfl (by decide) ?_
                      refine at_goto 128 X dX12_law_168 (by decide) ?_
                      exact at_sub _ (by exact ⟨rfl, rfl, trivial⟩) (ih128 H (i + 1) (by first | omega | (simp only [] at *; omega)) (by omega) (by first | omega | assumption) (by first | omega | assumption) (fun j2 hj2 b hb => if c : j2 = i then by rw [c]; exact hc_H.2 b (by omega) else hc_H.1 j2 (by omega) b hb))
                    · refine at_aload_n 144 X rfl rfl dX12_law_143 rfl ?_
                      refine m_getR 147 X f_X12_73 k_125 r_125_31 dX12_law_144 rfl ?_
                      refine at_iload_n 148 X rfl rfl dX12_law_147 rfl ?_
                      refine m_aaloadV 149 X i (by omega) k_254 (by decide) (by omega) (rr_254 _ (by omega)) dX12_law_148 rfl ?_
                      refine at_iload_n 150 X rfl rfl dX12_law_149 rfl ?_
                      refine at_aload_n 151 X rfl rfl dX12_law_150 rfl ?_
                      refine m_getR 154 X f_X12_76 k_125 r_125_32 dX12_law_151 rfl ?_
                      refine at_iload_n 155 X rfl rfl dX12_law_154 rfl ?_
                      refine m_aaloadV 156 X i (by omega) k_415 (by decide) (by omega) (rr_415 _ (by omega)) dX12_law_155 rfl ?_
                      refine at_iload_n 157 X rfl rfl dX12_law_156 rfl ?_
                      refine m_ialoadV 158 X j (by omega) (F3 (416 + i) j) (congrFun (hq_H (416 + i) (by omega)) j) (kr_415 _ (by omega)) (er_415 _ (by omega)) (by omega) dX12_law_157 rfl ?_
                      refine m_iastoreV 159 X j (by omega) (kr_254 _ (by omega)) (er_254 _ (by omega)) (by omega) dX12_law_158 rfl ?_
                      refine at_iincV 162 X ((j + 1 : Nat) : Int) (w32_v (by omega) (by omega) (by omega)) rfl dX12_law_159 rfl (by decide) ?_
                      refine at_goto 138 X dX12_law_162 (by decide) ?_
                      exact at_sub _ (by exact ⟨rfl, rfl, rfl, trivial⟩) (ih138 (wr H (255 + i) j (F3 (416 + i) j)) (j + 1) (by first | omega | (simp only [] at *; omega)) (by omega) (fun q hq => by rw [wr_row (by omega)]; exact hq_H q hq) (fun k => by rw [wr_o (by omega)]; exact hs_H k) ⟨fun j2 hj2 b hb => by rw [wr_o (by omega)]; exact hc_H.1 j2 hj2 b hb, fun b hb => by
                            by_cases c : b = j
                            · rw [c, wr_s]
                            · rw [wr_o (by omega)]; exact hc_H.2 b (by omega)⟩)
                  exact at_sub _ (by exact ⟨rfl, rfl, rfl, trivial⟩) (J138 _ H 0 (Nat.lt_succ_self _) (by first | omega | assumption | rfl) (by first | omega | assumption | rfl) (by first | omega | assumption | rfl) ⟨hc_H, fun b hb => absurd hb (Nat.not_lt_zero b)⟩)
              exact at_sub _ (by exact ⟨rfl, rfl, trivial⟩) (J128 _ H0 0 (Nat.lt_succ_self _) (by first | omega | assumption | rfl) (fun q hq => hH0.1 q (by omega)) (fun _ => rfl) (fun j hj => absurd hj (Nat.not_lt_zero j)))
            · have hl0 : ¬ (lawT B n).2.2.1 = 0 := by rw [hl1]; exact h97
              have hle := hl1
              have hlp : (lawS B n).1.2.2.2 = (lawT B n).2.2.2 := (congrArg Prod.snd (lawT_no hng)).symm
              have hfk : 0 ≤ (lawT B n).2.2.1 ∧ (lawT B n).2.2.1 ≤ 4 := lawT_FK B n
              refine at_aload_n 101 X rfl rfl dX12_law_100 rfl ?_
              refine m_getIV 104 X ((lawS B n).1.2.2.1) ((wr_o (by omega)).trans (rfk hP_F3)) f_X12_168 k_125 rn_125_5 dX12_law_101 rfl ?_
              refine at_bipush 106 X (by decide) (by decide) dX12_law_104 rfl ?_
              refine at_isubV 107 X (((lawS B n).1.2.2.1) - 10) (w32_v rfl (by omega) (by omega)) dX12_law_106 rfl ?_
              refine at_iret X Rt ?_ (Nat.le_refl _) (Nat.le_refl _) dX12_law_107
              refine Or.inl ⟨hc0, Or.inl ?_⟩
              rw [Int.toNat_natCast, ← hB]
              exact ⟨hl0, by rw [hle], _, rfl, hI_E.fr2 hWf (fun q hq => by rw [wr_row (by omega)]; exact hr_F3.1 q (by omega)) (fun k hk => by rw [wr_o (by omega)]; exact hr_F3.2 k (by omega)), by rw [wr_o (by omega)]; exact hr_F3.2 46 (by omega), by rw [wr_o (by omega)]; exact hr_F3.2 47 (by omega), by rw [wr_o (by omega)]; exact hz_F3.1, by rw [wr_o (by omega)]; exact hz_F3.2, by rw [wr_s, hlp], fun q hq => by rw [wr_row (by omega)]; exact hr_F3.1 q (by omega)⟩
          · refine at_aload_n 77 X rfl rfl dX12_law_76 rfl ?_
            refine at_iconst 78 X (by decide) dX12_law_77 rfl ?_
            refine at_aload_n 79 X rfl rfl dX12_law_78 rfl ?_
            refine m_getIV 82 X ((sk B n (lawS B n).1.1 : Nat) : Int) (hat_F3 h0) f_X12_161 k_125 rn_125_4 dX12_law_79 rfl ?_
            refine at_callV 85 X _ 12 (c12_fl hG F3 B n (lawS B n).1 hP_F3 h0 1 ((sk B n (lawS B n).1.1 : Nat) : Int) (by decide) (flT (goT B n (lawS B n).1) 1) (flT_go h0 1)) clX12 rfl k_125 mo_X12_wrong w_1998 vo_X12_wrong.1 vo_X12_wrong.2 rfl rfl (crm Rt (by decide)) (Nat.le_of_ble_eq_true rfl) dX12_law_82 rfl ?_
            rintro _ _ ⟨rfl, F4, rfl, hP_F4, hf_F4⟩
            have hr_F4 : (∀ q, ¬ (q = 125 ∨ (416 ≤ q ∧ q ≤ 575)) → F4 q = E q) ∧ ∀ k, ¬ (k ≤ 8 ∨ k = 29) → F4 125 k = E 125 k := ⟨fun q hq => (hf_F4.1 q (by omega)).trans (hr_F3.1 q hq), fun k hk => (hf_F4.2 k (by omega)).trans (hr_F3.2 k hk)⟩
            have hz_F4 : F4 125 0 = 0 ∧ F4 125 1 = 0 := ⟨(hf_F4.2 0 (by omega)).trans hz_F3.1, (hf_F4.2 1 (by omega)).trans hz_F3.2⟩
            have hlt : lawT B n = flT (goT B n (lawS B n).1) 1 := if_pos ⟨h0, by omega⟩
            refine at_aload_n 86 X rfl rfl dX12_law_85 rfl ?_
            refine at_aload_n 87 X rfl rfl dX12_law_86 rfl ?_
            refine m_getIV 90 X ((flT (goT B n (lawS B n).1) 1).2.2.2) (rfp hP_F4) f_X12_171 k_125 rn_125_6 dX12_law_87 rfl ?_
            refine m_putI 93 X f_X12_9 fw_12_3 k_125 rn_125_3 dX12_law_90 rfl ?_
            refine at_aload_n 94 X rfl rfl dX12_law_93 rfl ?_
            refine m_getIV 97 X ((flT (goT B n (lawS B n).1) 1).2.2.1) ((wr_o (by omega)).trans (rfk hP_F4)) f_X12_168 k_125 rn_125_5 dX12_law_94 rfl ?_
            refine at_if_eq 100 108 X dX12_law_97 rfl (by decide) (fun h97 => ?_) (fun h97 => ?_)
            · exact absurd h97 (flT_fk (by decide))
            · have hl0 : ¬ (lawT B n).2.2.1 = 0 := by rw [hlt]; exact h97
              have hle : (lawT B n).2.2.1 = (flT (goT B n (lawS B n).1) 1).2.2.1 := by rw [hlt]
              have hlp : (flT (goT B n (lawS B n).1) 1).2.2.2 = (lawT B n).2.2.2 := by rw [hlt]
              have hfk : 0 ≤ (lawT B n).2.2.1 ∧ (lawT B n).2.2.1 ≤ 4 := lawT_FK B n
              refine at_aload_n 101 X rfl rfl dX12_law_100 rfl ?_
              refine m_getIV 104 X ((flT (goT B n (lawS B n).1) 1).2.2.1) ((wr_o (by omega)).trans (rfk hP_F4)) f_X12_168 k_125 rn_125_5 dX12_law_101 rfl ?_
              refine at_bipush 106 X (by decide) (by decide) dX12_law_104 rfl ?_
              refine at_isubV 107 X (((flT (goT B n (lawS B n).1) 1).2.2.1) - 10) (w32_v rfl (by omega) (by omega)) dX12_law_106 rfl ?_
              refine at_iret X Rt ?_ (Nat.le_refl _) (Nat.le_refl _) dX12_law_107
              refine Or.inl ⟨hc0, Or.inl ?_⟩
              rw [Int.toNat_natCast, ← hB]
              exact ⟨hl0, by rw [hle], _, rfl, hI_E.fr2 hWf (fun q hq => by rw [wr_row (by omega)]; exact hr_F4.1 q (by omega)) (fun k hk => by rw [wr_o (by omega)]; exact hr_F4.2 k (by omega)), by rw [wr_o (by omega)]; exact hr_F4.2 46 (by omega), by rw [wr_o (by omega)]; exact hr_F4.2 47 (by omega), by rw [wr_o (by omega)]; exact hz_F4.1, by rw [wr_o (by omega)]; exact hz_F4.2, by rw [wr_s, hlp], fun q hq => by rw [wr_row (by omega)]; exact hr_F4.1 q (by omega)⟩
      · exact absurd h35 (by decide)
    · refine at_iconst 26 X (by decide) dX12_law_25 rfl ?_
      refine at_goto 30 X dX12_law_26 (by decide) ?_
      refine at_iconst 31 X (by decide) dX12_law_30 rfl ?_
      refine at_iconst 32 X (by decide) dX12_law_31 rfl ?_
      refine at_callV 35 X _ 12 (ct_bad1 hG E0 1 2 (by decide) hO_E0.2.2.1 (by decide)) clX12 rfl k_125 mo_X12_bad w_1960 vo_X12_bad.1 vo_X12_bad.2 rfl rfl (crm Rt (by decide)) (Nat.le_of_ble_eq_true rfl) dX12_law_32 rfl ?_
      rintro _ _ ⟨rfl, rfl⟩
      have hb : ¬ (0 ≤ x0 ∧ x0 ≤ 150 ∧ x0 ≤ (sz : Int)) := by omega
      refine at_if_eq 38 40 X dX12_law_35 rfl (by decide) (fun h35 => ?_) (fun h35 => ?_)
      · exact absurd h35 (by decide)
      · refine at_iconst 39 X (by decide) dX12_law_38 rfl ?_
        refine at_iret X Rt ?_ (Nat.le_refl _) (Nat.le_refl _) dX12_law_39
        exact Or.inr (⟨hb, rfl, congrArg ov (badR_of hE0)⟩)
theorem dX12_moves_0 : decode cX12_moves 0 = .ok (.aload_n 0, 1) := by decide +kernel
theorem dX12_moves_1 : decode cX12_moves 1 = .ok (.iconst 0, 1) := by decide +kernel
theorem dX12_moves_2 : decode cX12_moves 2 = .ok (.putfield 152, 3) := by decide +kernel
theorem dX12_moves_5 : decode cX12_moves 5 = .ok (.aload_n 0, 1) := by decide +kernel
theorem dX12_moves_6 : decode cX12_moves 6 = .ok (.iload_n 1, 1) := by decide +kernel
theorem dX12_moves_7 : decode cX12_moves 7 = .ok (.iconst 0, 1) := by decide +kernel
theorem dX12_moves_8 : decode cX12_moves 8 = .ok (.aload_n 0, 1) := by decide +kernel
theorem dX12_moves_9 : decode cX12_moves 9 = .ok (.getfield 155, 3) := by decide +kernel
theorem dX12_moves_12 : decode cX12_moves 12 = .ok (.invokestatic 186, 3) := by decide +kernel
theorem dX12_moves_15 : decode cX12_moves 15 = .ok (.ifCond .eq 10, 3) := by decide +kernel
theorem dX12_moves_18 : decode cX12_moves 18 = .ok (.iload_n 1, 1) := by decide +kernel
theorem dX12_moves_19 : decode cX12_moves 19 = .ok (.sipush 150, 3) := by decide +kernel
theorem dX12_moves_22 : decode cX12_moves 22 = .ok (.if_icmp .le 7, 3) := by decide +kernel
theorem dX12_moves_25 : decode cX12_moves 25 = .ok (.iconst 1, 1) := by decide +kernel
theorem dX12_moves_26 : decode cX12_moves 26 = .ok (.goto 4, 3) := by decide +kernel
theorem dX12_moves_29 : decode cX12_moves 29 = .ok (.iconst 0, 1) := by decide +kernel
theorem dX12_moves_30 : decode cX12_moves 30 = .ok (.iconst 1, 1) := by decide +kernel
theorem dX12_moves_31 : decode cX12_moves 31 = .ok (.iconst 2, 1) := by decide +kernel
theorem dX12_moves_32 : decode cX12_moves 32 = .ok (.invokevirtual 244, 3) := by decide +kernel
theorem dX12_moves_35 : decode cX12_moves 35 = .ok (.ifCond .eq 5, 3) := by decide +kernel
theorem dX12_moves_38 : decode cX12_moves 38 = .ok (.iconst 0, 1) := by decide +kernel
theorem dX12_moves_39 : decode cX12_moves 39 = .ok (.ireturn, 1) := by decide +kernel
theorem dX12_moves_40 : decode cX12_moves 40 = .ok (.aload_n 0, 1) := by decide +kernel
theorem dX12_moves_41 : decode cX12_moves 41 = .ok (.iload_n 1, 1) := by decide +kernel
theorem dX12_moves_42 : decode cX12_moves 42 = .ok (.invokevirtual 248, 3) := by decide +kernel
theorem dX12_moves_45 : decode cX12_moves 45 = .ok (.iconst 0, 1) := by decide +kernel
theorem dX12_moves_46 : decode cX12_moves 46 = .ok (.istore_n 2, 1) := by decide +kernel
theorem dX12_moves_47 : decode cX12_moves 47 = .ok (.aload_n 0, 1) := by decide +kernel
theorem dX12_moves_48 : decode cX12_moves 48 = .ok (.getfield 168, 3) := by decide +kernel
theorem dX12_moves_51 : decode cX12_moves 51 = .ok (.ifCond .ne 150, 3) := by decide +kernel
theorem dX12_moves_54 : decode cX12_moves 54 = .ok (.aload_n 0, 1) := by decide +kernel
theorem dX12_moves_55 : decode cX12_moves 55 = .ok (.getfield 161, 3) := by decide +kernel
theorem dX12_moves_58 : decode cX12_moves 58 = .ok (.aload_n 0, 1) := by decide +kernel
theorem dX12_moves_59 : decode cX12_moves 59 = .ok (.getfield 158, 3) := by decide +kernel
theorem dX12_moves_62 : decode cX12_moves 62 = .ok (.if_icmp .ge 139, 3) := by decide +kernel
theorem dX12_moves_65 : decode cX12_moves 65 = .ok (.aload_n 0, 1) := by decide +kernel
theorem dX12_moves_66 : decode cX12_moves 66 = .ok (.getfield 161, 3) := by decide +kernel
theorem dX12_moves_69 : decode cX12_moves 69 = .ok (.istore_n 3, 1) := by decide +kernel
theorem dX12_moves_70 : decode cX12_moves 70 = .ok (.aload_n 0, 1) := by decide +kernel
theorem dX12_moves_71 : decode cX12_moves 71 = .ok (.iconst 0, 1) := by decide +kernel
theorem dX12_moves_72 : decode cX12_moves 72 = .ok (.bipush 23, 2) := by decide +kernel
theorem dX12_moves_74 : decode cX12_moves 74 = .ok (.invokevirtual 217, 3) := by decide +kernel
theorem dX12_moves_77 : decode cX12_moves 77 = .ok (.istore 4, 2) := by decide +kernel
theorem dX12_moves_79 : decode cX12_moves 79 = .ok (.aload_n 0, 1) := by decide +kernel
theorem dX12_moves_80 : decode cX12_moves 80 = .ok (.getfield 168, 3) := by decide +kernel
theorem dX12_moves_83 : decode cX12_moves 83 = .ok (.ifCond .ne 15, 3) := by decide +kernel
theorem dX12_moves_86 : decode cX12_moves 86 = .ok (.iload_n 2, 1) := by decide +kernel
theorem dX12_moves_87 : decode cX12_moves 87 = .ok (.bipush 16, 2) := by decide +kernel
theorem dX12_moves_89 : decode cX12_moves 89 = .ok (.if_icmp .ne 9, 3) := by decide +kernel
theorem dX12_moves_92 : decode cX12_moves 92 = .ok (.aload_n 0, 1) := by decide +kernel
theorem dX12_moves_93 : decode cX12_moves 93 = .ok (.iconst 3, 1) := by decide +kernel
theorem dX12_moves_94 : decode cX12_moves 94 = .ok (.iload_n 3, 1) := by decide +kernel
theorem dX12_moves_95 : decode cX12_moves 95 = .ok (.invokevirtual 181, 3) := by decide +kernel
theorem dX12_moves_98 : decode cX12_moves 98 = .ok (.aload_n 0, 1) := by decide +kernel
theorem dX12_moves_99 : decode cX12_moves 99 = .ok (.iconst 0, 1) := by decide +kernel
theorem dX12_moves_100 : decode cX12_moves 100 = .ok (.aload_n 0, 1) := by decide +kernel
theorem dX12_moves_101 : decode cX12_moves 101 = .ok (.getfield 23, 3) := by decide +kernel
theorem dX12_moves_104 : decode cX12_moves 104 = .ok (.bipush 6, 2) := by decide +kernel
theorem dX12_moves_106 : decode cX12_moves 106 = .ok (.iaload, 1) := by decide +kernel
theorem dX12_moves_107 : decode cX12_moves 107 = .ok (.iconst 1, 1) := by decide +kernel
theorem dX12_moves_108 : decode cX12_moves 108 = .ok (.isub, 1) := by decide +kernel
theorem dX12_moves_109 : decode cX12_moves 109 = .ok (.invokevirtual 217, 3) := by decide +kernel
theorem dX12_moves_112 : decode cX12_moves 112 = .ok (.istore 5, 2) := by decide +kernel
theorem dX12_moves_114 : decode cX12_moves 114 = .ok (.aload_n 0, 1) := by decide +kernel
theorem dX12_moves_115 : decode cX12_moves 115 = .ok (.getfield 168, 3) := by decide +kernel
theorem dX12_moves_118 : decode cX12_moves 118 = .ok (.ifCond .ne 27, 3) := by decide +kernel
theorem dX12_moves_121 : decode cX12_moves 121 = .ok (.aload_n 0, 1) := by decide +kernel
theorem dX12_moves_122 : decode cX12_moves 122 = .ok (.iconst 0, 1) := by decide +kernel
theorem dX12_moves_123 : decode cX12_moves 123 = .ok (.aload_n 0, 1) := by decide +kernel
theorem dX12_moves_124 : decode cX12_moves 124 = .ok (.getfield 23, 3) := by decide +kernel
theorem dX12_moves_127 : decode cX12_moves 127 = .ok (.iconst 0, 1) := by decide +kernel
theorem dX12_moves_128 : decode cX12_moves 128 = .ok (.iaload, 1) := by decide +kernel
theorem dX12_moves_129 : decode cX12_moves 129 = .ok (.aload_n 0, 1) := by decide +kernel
theorem dX12_moves_130 : decode cX12_moves 130 = .ok (.getfield 61, 3) := by decide +kernel
theorem dX12_moves_133 : decode cX12_moves 133 = .ok (.iload 5, 2) := by decide +kernel
theorem dX12_moves_135 : decode cX12_moves 135 = .ok (.aaload, 1) := by decide +kernel
theorem dX12_moves_136 : decode cX12_moves 136 = .ok (.iconst 1, 1) := by decide +kernel
theorem dX12_moves_137 : decode cX12_moves 137 = .ok (.iaload, 1) := by decide +kernel
theorem dX12_moves_138 : decode cX12_moves 138 = .ok (.isub, 1) := by decide +kernel
theorem dX12_moves_139 : decode cX12_moves 139 = .ok (.invokevirtual 217, 3) := by decide +kernel
theorem dX12_moves_142 : decode cX12_moves 142 = .ok (.goto 4, 3) := by decide +kernel
theorem dX12_moves_145 : decode cX12_moves 145 = .ok (.iconst 0, 1) := by decide +kernel
theorem dX12_moves_146 : decode cX12_moves 146 = .ok (.istore 6, 2) := by decide +kernel
theorem dX12_moves_148 : decode cX12_moves 148 = .ok (.aload_n 0, 1) := by decide +kernel
theorem dX12_moves_149 : decode cX12_moves 149 = .ok (.bipush 59, 2) := by decide +kernel
theorem dX12_moves_151 : decode cX12_moves 151 = .ok (.invokevirtual 240, 3) := by decide +kernel
theorem dX12_moves_154 : decode cX12_moves 154 = .ok (.aload_n 0, 1) := by decide +kernel
theorem dX12_moves_155 : decode cX12_moves 155 = .ok (.getfield 168, 3) := by decide +kernel
theorem dX12_moves_158 : decode cX12_moves 158 = .ok (.ifCond .ne 36, 3) := by decide +kernel
theorem dX12_moves_161 : decode cX12_moves 161 = .ok (.aload_n 0, 1) := by decide +kernel
theorem dX12_moves_162 : decode cX12_moves 162 = .ok (.getfield 95, 3) := by decide +kernel
theorem dX12_moves_165 : decode cX12_moves 165 = .ok (.iload_n 2, 1) := by decide +kernel
theorem dX12_moves_166 : decode cX12_moves 166 = .ok (.aaload, 1) := by decide +kernel
theorem dX12_moves_167 : decode cX12_moves 167 = .ok (.iconst 0, 1) := by decide +kernel
theorem dX12_moves_168 : decode cX12_moves 168 = .ok (.iload 4, 2) := by decide +kernel
theorem dX12_moves_170 : decode cX12_moves 170 = .ok (.iastore, 1) := by decide +kernel
theorem dX12_moves_171 : decode cX12_moves 171 = .ok (.aload_n 0, 1) := by decide +kernel
theorem dX12_moves_172 : decode cX12_moves 172 = .ok (.getfield 95, 3) := by decide +kernel
theorem dX12_moves_175 : decode cX12_moves 175 = .ok (.iload_n 2, 1) := by decide +kernel
theorem dX12_moves_176 : decode cX12_moves 176 = .ok (.aaload, 1) := by decide +kernel
theorem dX12_moves_177 : decode cX12_moves 177 = .ok (.iconst 1, 1) := by decide +kernel
theorem dX12_moves_178 : decode cX12_moves 178 = .ok (.iload 5, 2) := by decide +kernel
theorem dX12_moves_180 : decode cX12_moves 180 = .ok (.iastore, 1) := by decide +kernel
theorem dX12_moves_181 : decode cX12_moves 181 = .ok (.aload_n 0, 1) := by decide +kernel
theorem dX12_moves_182 : decode cX12_moves 182 = .ok (.getfield 95, 3) := by decide +kernel
theorem dX12_moves_185 : decode cX12_moves 185 = .ok (.iload_n 2, 1) := by decide +kernel
theorem dX12_moves_186 : decode cX12_moves 186 = .ok (.aaload, 1) := by decide +kernel
theorem dX12_moves_187 : decode cX12_moves 187 = .ok (.iconst 2, 1) := by decide +kernel
theorem dX12_moves_188 : decode cX12_moves 188 = .ok (.iload 6, 2) := by decide +kernel
theorem dX12_moves_190 : decode cX12_moves 190 = .ok (.iastore, 1) := by decide +kernel
theorem dX12_moves_191 : decode cX12_moves 191 = .ok (.iinc 2 1, 3) := by decide +kernel
theorem dX12_moves_194 : decode cX12_moves 194 = .ok (.aload_n 0, 1) := by decide +kernel
theorem dX12_moves_195 : decode cX12_moves 195 = .ok (.invokevirtual 174, 3) := by decide +kernel
theorem dX12_moves_198 : decode cX12_moves 198 = .ok (.goto (-151), 3) := by decide +kernel
theorem dX12_moves_201 : decode cX12_moves 201 = .ok (.aload_n 0, 1) := by decide +kernel
theorem dX12_moves_202 : decode cX12_moves 202 = .ok (.aload_n 0, 1) := by decide +kernel
theorem dX12_moves_203 : decode cX12_moves 203 = .ok (.getfield 171, 3) := by decide +kernel
theorem dX12_moves_206 : decode cX12_moves 206 = .ok (.putfield 9, 3) := by decide +kernel
theorem dX12_moves_209 : decode cX12_moves 209 = .ok (.aload_n 0, 1) := by decide +kernel
theorem dX12_moves_210 : decode cX12_moves 210 = .ok (.getfield 168, 3) := by decide +kernel
theorem dX12_moves_213 : decode cX12_moves 213 = .ok (.ifCond .eq 11, 3) := by decide +kernel
theorem dX12_moves_216 : decode cX12_moves 216 = .ok (.aload_n 0, 1) := by decide +kernel
theorem dX12_moves_217 : decode cX12_moves 217 = .ok (.getfield 168, 3) := by decide +kernel
theorem dX12_moves_220 : decode cX12_moves 220 = .ok (.bipush 10, 2) := by decide +kernel
theorem dX12_moves_222 : decode cX12_moves 222 = .ok (.isub, 1) := by decide +kernel
theorem dX12_moves_223 : decode cX12_moves 223 = .ok (.ireturn, 1) := by decide +kernel
theorem dX12_moves_224 : decode cX12_moves 224 = .ok (.aload_n 0, 1) := by decide +kernel
theorem dX12_moves_225 : decode cX12_moves 225 = .ok (.iload_n 2, 1) := by decide +kernel
theorem dX12_moves_226 : decode cX12_moves 226 = .ok (.putfield 261, 3) := by decide +kernel
theorem dX12_moves_229 : decode cX12_moves 229 = .ok (.aload_n 0, 1) := by decide +kernel
theorem dX12_moves_230 : decode cX12_moves 230 = .ok (.getfield 95, 3) := by decide +kernel
theorem dX12_moves_233 : decode cX12_moves 233 = .ok (.aload_n 0, 1) := by decide +kernel
theorem dX12_moves_234 : decode cX12_moves 234 = .ok (.getfield 92, 3) := by decide +kernel
theorem dX12_moves_237 : decode cX12_moves 237 = .ok (.iload_n 2, 1) := by decide +kernel
theorem dX12_moves_238 : decode cX12_moves 238 = .ok (.invokestatic 254, 3) := by decide +kernel
theorem dX12_moves_241 : decode cX12_moves 241 = .ok (.iload_n 2, 1) := by decide +kernel
theorem dX12_moves_242 : decode cX12_moves 242 = .ok (.ireturn, 1) := by decide +kernel
theorem ct_X12_moves {g : Gw} (hG : GF g) {z : Bool} (E : Mm) (Q : RX) (P : SP) (L : LW) (T K : LN) (d st : Nat) (hWf : WF P L T K d st) (hI_E : RXI E Q P L T K d st) (x0 : Int) (sz : Nat) (hTp : TAPM E sz) : CT g yX12_moves cX12_moves 7 (some .int) 3 65 0 0 K2 z [mR 125, mI x0] (ov E) K2 z (fun r' D' => ((0 ≤ x0 ∧ x0 ≤ 150 ∧ x0 ≤ (sz : Int)) ∧ ((¬ (rdM (E 126) x0.toNat P 17).1.2.2.1 = 0 ∧ r' = some (mI ((rdM (E 126) x0.toNat P 17).1.2.2.1 - 10)) ∧ ∃ E1, D' = ov E1 ∧ RXI E1 Q P L T K d st ∧ E1 125 46 = E 125 46 ∧ E1 125 47 = E 125 47 ∧ RTXO E E1 (rdM (E 126) x0.toNat P 17).1) ∨ ((rdM (E 126) x0.toNat P 17).1.2.2.1 = 0 ∧ r' = some (mI ((rdM (E 126) x0.toNat P 17).2.1 : Nat)) ∧ ∃ E1, D' = ov E1 ∧ RXI E1 Q P L (rdM (E 126) x0.toNat P 17).2 K d st ∧ E1 125 46 = E 125 46 ∧ E1 125 47 = E 125 47 ∧ RTXO E E1 (rdM (E 126) x0.toNat P 17).1))) ∨ (¬ (0 ≤ x0 ∧ x0 ≤ 150 ∧ x0 ≤ (sz : Int)) ∧ r' = some (mI 0) ∧ D' = ov (badR E 1 2))) := by
  refine CT.mk hG (by decide +kernel) (Nat.le_of_ble_eq_true rfl) (fun κ X Rt _ ok => ?_)
  have hP := hWf.1
  have hN8 := hP.B.N
  have hW40 := hP.W
  have hN11 := hP.N
  have hwN : gN (gDay P L d) ≤ 11 := Nat.le_trans hP.N (by decide)
  have hgw : gW (gDay P L d) = sW P := rfl
  have hDI24 := dyP_DI (G := (gDay P L d)) hP.B hWf.2.2.2.1 (Nat.le_refl 24)
  refine at_aload_n 1 X rfl rfl dX12_moves_0 rfl ?_
  refine at_iconst 2 X (by decide) dX12_moves_1 rfl ?_
  refine m_putI 5 X f_X12_152 fw_12_0 k_125 rn_125_0 dX12_moves_2 rfl ?_
  have hO_E0 := RXO.z hWf hI_E
  generalize hE0 : wr E 125 0 0 = E0 at hO_E0 ⊢
  have hR_E0 := hO_E0.1.1
  have h1_E0 : E0 125 1 = (sz : Int) := (hO_E0.2.1.2 1 (by omega)).trans hTp.2.2.1
  refine at_aload_n 6 X rfl rfl dX12_moves_5 rfl ?_
  refine at_iload_n 7 X rfl rfl dX12_moves_6 rfl ?_
  refine at_iconst 8 X (by decide) dX12_moves_7 rfl ?_
  refine at_aload_n 9 X rfl rfl dX12_moves_8 rfl ?_
  refine m_getIV 12 X ((sz : Nat) : Int) h1_E0 f_X12_155 k_125 rn_125_1 dX12_moves_9 rfl ?_
  refine at_callS 15 X (ct_X12_in hG _ _ _) mo_X12_in w_1957 so_X12_in rfl rfl (crm Rt (by decide)) (Nat.le_of_ble_eq_true rfl) dX12_moves_12 rfl ?_
  rintro _ _ ⟨rfl, rfl⟩
  refine at_if_eq 18 25 X dX12_moves_15 rfl (by decide) (fun h15 => ?_) (fun h15 => ?_)
  · have h15 : ¬ (0 ≤ x0 ∧ x0 ≤ ((sz : Nat) : Int)) := ite_no.mp h15
    refine at_iconst 26 X (by decide) dX12_moves_25 rfl ?_
    refine at_goto 30 X dX12_moves_26 (by decide) ?_
    refine at_iconst 31 X (by decide) dX12_moves_30 rfl ?_
    refine at_iconst 32 X (by decide) dX12_moves_31 rfl ?_
    refine at_callV 35 X _ 12 (ct_bad1 hG E0 1 2 (by decide) hO_E0.2.2.1 (by decide)) clX12 rfl k_125 mo_X12_bad w_1960 vo_X12_bad.1 vo_X12_bad.2 rfl rfl (crm Rt (by decide)) (Nat.le_of_ble_eq_true rfl) dX12_moves_32 rfl ?_
    rintro _ _ ⟨rfl, rfl⟩
    have hb : ¬ (0 ≤ x0 ∧ x0 ≤ 150 ∧ x0 ≤ (sz : Int)) := by omega
    refine at_if_eq 38 40 X dX12_moves_35 rfl (by decide) (fun h35 => ?_) (fun h35 => ?_)
    · exact absurd h35 (by decide)
    · refine at_iconst 39 X (by decide) dX12_moves_38 rfl ?_
      refine at_iret X Rt ?_ (Nat.le_refl _) (Nat.le_refl _) dX12_moves_39
      exact Or.inr (⟨hb, rfl, congrArg ov (badR_of hE0)⟩)
  · have h15 : (0 ≤ x0 ∧ x0 ≤ ((sz : Nat) : Int)) := ite_yes.mp h15
    refine at_iload_n 19 X rfl rfl dX12_moves_18 rfl ?_
    refine at_sipush 22 X (by decide) (by decide) dX12_moves_19 rfl ?_
    refine at_icmp_le 25 29 X dX12_moves_22 rfl (by decide) (fun h22 => ?_) (fun h22 => ?_)
    · refine at_iconst 30 X (by decide) dX12_moves_29 rfl ?_
      refine at_iconst 31 X (by decide) dX12_moves_30 rfl ?_
      refine at_iconst 32 X (by decide) dX12_moves_31 rfl ?_
      refine at_callV 35 X _ 12 (ct_bad0 hG E0 1 2 (by decide) hO_E0.2.2.1) clX12 rfl k_125 mo_X12_bad w_1960 vo_X12_bad.1 vo_X12_bad.2 rfl rfl (crm Rt (by decide)) (Nat.le_of_ble_eq_true rfl) dX12_moves_32 rfl ?_
      rintro _ _ ⟨rfl, rfl⟩
      have hc0 : 0 ≤ x0 ∧ x0 ≤ 150 ∧ x0 ≤ (sz : Int) := by omega
      refine at_if_eq 38 40 X dX12_moves_35 rfl (by decide) (fun h35 => ?_) (fun h35 => ?_)
      · obtain ⟨n, rfl⟩ : ∃ n : Nat, x0 = (n : Int) := ⟨x0.toNat, by omega⟩
        have hnz : n ≤ sz := by omega
        have hz600 := hTp.1
        have hq_E0 : ∀ q, q ≠ 125 → E0 q = E q := fun q h => by rw [← hE0]; exact wr_row h
        have hs_E0 : ∀ k, k ≠ 0 → E0 125 k = E 125 k := fun k h => by rw [← hE0]; exact wr_o (by omega)
        have hB126 : E0 126 = E 126 := hq_E0 126 (by omega)
        refine at_aload_n 41 X rfl rfl dX12_moves_40 rfl ?_
        refine at_iload_n 42 X rfl rfl dX12_moves_41 rfl ?_
        refine at_callV 45 X _ 12 (ct_X12_starts hG E0 n (by omega) (fun k hk => by rw [hB126]; exact (hTp.2.2.2 k (by omega)).1)) clX12 rfl k_125 mo_X12_starts w_1964 vo_X12_starts.1 vo_X12_starts.2 rfl rfl (crm Rt (by decide)) (Nat.le_of_ble_eq_true rfl) dX12_moves_42 rfl ?_
        rintro _ _ ⟨rfl, F1, rfl, hP_F1, h1_F1, h7_F1, h8_F1, hq_F1, hs_F1, hat_F1⟩
        rw [hB126] at hP_F1 hat_F1
        obtain ⟨B, hB⟩ : ∃ B, B = E 126 := ⟨_, rfl⟩
        rw [← hB] at hP_F1 hat_F1
        refine at_iconst 46 X (by decide) dX12_moves_45 rfl ?_
        refine at_istore_n 47 X rfl dX12_moves_46 rfl (by decide) ?_
        have J47 : ∀ (f47 : Nat) (G : Mm) (k : Nat) (m : Nat), 18 - k < f47 → (k ≤ 17) → (m ≤ 16) → (RTp G B n (rdM B n P k).1) → ((rdM B n P k).1.2.2.1 = 0 → m = (rdM B n P k).2.1 ∧ G 125 4 = ((sk B n (rdM B n P k).1.1 : Nat) : Int) ∧ ∀ i, i < m → G (598 + i) 0 = (((rdM B n P k).2.2.1 i : Nat) : Int) ∧ G (598 + i) 1 = (((rdM B n P k).2.2.2.1 i : Nat) : Int) ∧ G (598 + i) 2 = (((rdM B n P k).2.2.2.2 i : Nat) : Int)) → (∀ q, ¬ (q = 125 ∨ (598 ≤ q ∧ q ≤ 613)) → G q = E q) → (∀ k, ¬ (k ≤ 8) → G 125 k = E 125 k) → (G 125 0 = 0 ∧ G 125 1 = 0) → AT g κ K2 z 0 0 47 [(0, mR 125), (2, mI ((m : Nat) : Int))] [] (ov G) := by
          intro f47
          induction f47 with
          | zero => intro G k m hf47; omega
          | succ f47 ih47 =>
          intro G k m hf47 hk hm hP_G hD_G hr_G hx_G hz_G
          refine at_aload_n 48 X rfl rfl dX12_moves_47 rfl ?_
          refine m_getIV 51 X ((rdM B n P k).1.2.2.1) (rfk hP_G) f_X12_168 k_125 rn_125_5 dX12_moves_48 rfl ?_
          refine at_if_ne 54 201 X dX12_moves_51 rfl (by decide) (fun h51 => ?_) (fun h51 => ?_)
          · have hend : rdM B n P k = rdM B n P 17 := by have := rdM_stay (B := B) (n := n) (P := P) (k := k) (fun q => h51 q.1) (17 - k); rw [show k + (17 - k) = 17 by omega] at this; exact this.symm
            refine at_aload_n 202 X rfl rfl dX12_moves_201 rfl ?_
            refine at_aload_n 203 X rfl rfl dX12_moves_202 rfl ?_
            refine m_getIV 206 X ((rdM B n P k).1.2.2.2) (rfp hP_G) f_X12_171 k_125 rn_125_6 dX12_moves_203 rfl ?_
            refine m_putI 209 X f_X12_9 fw_12_3 k_125 rn_125_3 dX12_moves_206 rfl ?_
            refine at_aload_n 210 X rfl rfl dX12_moves_209 rfl ?_
            refine m_getIV 213 X ((rdM B n P k).1.2.2.1) ((wr_o (by omega)).trans (rfk hP_G)) f_X12_168 k_125 rn_125_5 dX12_moves_210 rfl ?_
            refine at_if_eq 216 224 X dX12_moves_213 rfl (by decide) (fun h213 => ?_) (fun h213 => ?_)
            · exact absurd h213 h51
            · have hl0 : ¬ (rdM B n P k).1.2.2.1 = 0 := h213
              have hfk : 0 ≤ (rdM B n P k).1.2.2.1 ∧ (rdM B n P k).1.2.2.1 ≤ 4 := FK_rdM B n P k
              refine at_aload_n 217 X rfl rfl dX12_moves_216 rfl ?_
              refine m_getIV 220 X ((rdM B n P k).1.2.2.1) ((wr_o (by omega)).trans (rfk hP_G)) f_X12_168 k_125 rn_125_5 dX12_moves_217 rfl ?_
              refine at_bipush 222 X (by decide) (by decide) dX12_moves_220 rfl ?_
              refine at_isubV 223 X (((rdM B n P k).1.2.2.1) - 10) (w32_v rfl (by omega) (by omega)) dX12_moves_222 rfl ?_
              refine at_iret X Rt ?_ (Nat.le_refl _) (Nat.le_refl _) dX12_moves_223
              refine Or.inl ⟨hc0, Or.inl ?_⟩
              rw [Int.toNat_natCast, ← hB, ← hend]
              exact ⟨hl0, rfl, _, rfl, hI_E.fr2 hWf (fun q hq => by rw [wr_row (by omega)]; exact hr_G q (by omega)) (fun k hk => by rw [wr_o (by omega)]; exact hx_G k (by omega)), by rw [wr_o (by omega)]; exact hx_G 46 (by omega), by rw [wr_o (by omega)]; exact hx_G 47 (by omega), by rw [wr_o (by omega)]; exact hz_G.1, by rw [wr_o (by omega)]; exact hz_G.2, wr_s _ _ _ _, fun q hq => by rw [wr_row (by omega)]; exact hr_G q (by omega)⟩
          · have h0 : (rdM B n P k).1.2.2.1 = 0 := by first | exact h51 | exact Decidable.byContradiction h51
            refine at_aload_n 55 X rfl rfl dX12_moves_54 rfl ?_
            refine m_getIV 58 X ((sk B n (rdM B n P k).1.1 : Nat) : Int) (hD_G h0).2.1 f_X12_161 k_125 rn_125_4 dX12_moves_55 rfl ?_
            refine at_aload_n 59 X rfl rfl dX12_moves_58 rfl ?_
            refine m_getIV 62 X ((n : Nat) : Int) (rsz hP_G) f_X12_158 k_125 rn_125_2 dX12_moves_59 rfl ?_
            refine at_icmp_ge 65 201 X dX12_moves_62 rfl (by decide) (fun h62 => ?_) (fun h62 => ?_)
            · have hend : rdM B n P k = rdM B n P 17 := by have := rdM_stay (B := B) (n := n) (P := P) (k := k) (fun q => by have := q.2; omega) (17 - k); rw [show k + (17 - k) = 17 by omega] at this; exact this.symm
              refine at_aload_n 202 X rfl rfl dX12_moves_201 rfl ?_
              refine at_aload_n 203 X rfl rfl dX12_moves_202 rfl ?_
              refine m_getIV 206 X ((rdM B n P k).1.2.2.2) (rfp hP_G) f_X12_171 k_125 rn_125_6 dX12_moves_203 rfl ?_
              refine m_putI 209 X f_X12_9 fw_12_3 k_125 rn_125_3 dX12_moves_206 rfl ?_
              refine at_aload_n 210 X rfl rfl dX12_moves_209 rfl ?_
              refine m_getIV 213 X ((rdM B n P k).1.2.2.1) ((wr_o (by omega)).trans (rfk hP_G)) f_X12_168 k_125 rn_125_5 dX12_moves_210 rfl ?_
              refine at_if_eq 216 224 X dX12_moves_213 rfl (by decide) (fun h213 => ?_) (fun h213 => ?_)
              · have hl0 : (rdM B n P k).1.2.2.1 = 0 := by first | exact h213 | exact Decidable.byContradiction h213
                obtain ⟨hmT, hat_G, hold⟩ := hD_G hl0
                have hWk := (rdM_n B n P k hl0).1
                refine at_aload_n 225 X rfl rfl dX12_moves_224 rfl ?_
                refine at_iload_n 226 X rfl rfl dX12_moves_225 rfl ?_
                refine m_putI 229 X f_X12_261 fw_12_43 k_125 rn_125_43 dX12_moves_226 rfl ?_
                refine at_aload_n 230 X rfl rfl dX12_moves_229 rfl ?_
                refine m_getR 233 X f_X12_95 k_125 r_125_38 dX12_moves_230 rfl ?_
                refine at_aload_n 234 X rfl rfl dX12_moves_233 rfl ?_
                refine m_getR 237 X f_X12_92 k_125 r_125_37 dX12_moves_234 rfl ?_
                refine at_iload_n 238 X rfl rfl dX12_moves_237 rfl ?_
                refine at_callS 241 X (ct_X12_copies hG (wr (wr G 125 3 ((rdM B n P k).1.2.2.2)) 125 43 ((m : Nat) : Int)) 597 580 16 16 3 m (by have h := grd_597 (i := 814) (by decide); rw [KT_all] at h; exact h) (by have h := grd_580 (i := 814) (by decide); rw [KT_all] at h; exact h) (by omega) (by omega) (by omega)) mo_X12_copies w_1742 so_X12_copies rfl rfl (crm Rt (by decide)) (Nat.le_of_ble_eq_true rfl) dX12_moves_238 rfl ?_
                rintro _ _ ⟨rfl, rfl⟩
                have hH : (∀ i, i < m → ∀ j, j < 3 → cpR (wr (wr G 125 3 ((rdM B n P k).1.2.2.2)) 125 43 ((m : Nat) : Int)) 597 580 3 m 0 (581 + i) j = G (598 + i) j) ∧ (∀ q, ¬ (q = 125 ∨ (581 ≤ q ∧ q ≤ 596)) → cpR (wr (wr G 125 3 ((rdM B n P k).1.2.2.2)) 125 43 ((m : Nat) : Int)) 597 580 3 m 0 q = G q) ∧ (∀ j, ¬ (j = 3 ∨ j = 43) → cpR (wr (wr G 125 3 ((rdM B n P k).1.2.2.2)) 125 43 ((m : Nat) : Int)) 597 580 3 m 0 125 j = G 125 j) ∧ cpR (wr (wr G 125 3 ((rdM B n P k).1.2.2.2)) 125 43 ((m : Nat) : Int)) 597 580 3 m 0 125 3 = (rdM B n P k).1.2.2.2 ∧ cpR (wr (wr G 125 3 ((rdM B n P k).1.2.2.2)) 125 43 ((m : Nat) : Int)) 597 580 3 m 0 125 43 = (m : Int) := by
                  refine ⟨fun i hi j hj => ?_, fun q hq => ?_, fun j hj => ?_, ?_, ?_⟩
                  · rw [cpR_i (p := i) (by omega) hi hj]; simp (disch := omega) only [wr_o]
                  · funext j; rw [cpR_o (by omega)]; simp (disch := omega) only [wr_o]
                  · rw [cpR_o (by omega)]; simp (disch := omega) only [wr_o]
                  · rw [cpR_o (by omega)]; simp (disch := omega) only [wr_o, wr_s]
                  · rw [cpR_o (by omega), wr_s]
                generalize cpR (wr (wr G 125 3 ((rdM B n P k).1.2.2.2)) 125 43 ((m : Nat) : Int)) 597 580 3 m 0 = H at hH ⊢
                refine at_iload_n 242 X rfl rfl dX12_moves_241 rfl ?_
                refine at_iret X Rt ?_ (Nat.le_refl _) (Nat.le_refl _) dX12_moves_242
                refine Or.inl ⟨hc0, Or.inr ?_⟩
                rw [Int.toNat_natCast, ← hB, ← hend]
                have hqE : ∀ q, ¬ (q = 125 ∨ (581 ≤ q ∧ q ≤ 596) ∨ (598 ≤ q ∧ q ≤ 613)) → H q = E q := fun q hq => (hH.2.1 q (by omega)).trans (hr_G q (by omega))
                have hsE : ∀ k, ¬ (k ≤ 8 ∨ k = 43) → H 125 k = E 125 k := fun k hk => (hH.2.2.1 k (by omega)).trans (hx_G k (by omega))
                have hTW := hWf.2.2.2.1.1
                have hKW := hWf.2.2.2.2.1.1
                have hLW := hWf.2.2.1.2.1
                exact ⟨hl0, by rw [hmT], H, rfl, ⟨hI_E.1.fr (fun q hq => hqE q (by omega)) hWf.1, hI_E.2.1.fr hLW (hsE 28 (by omega)) (fun q a b => hqE q (by omega)), hI_E.2.2.1.fr (hsE 30 (by omega)) (hqE 578 (by omega)) (hqE 579 (by omega)), ⟨(hH.2.2.2.2).trans (by rw [hmT]), fun i hi => by rw [hH.1 i (by omega) 0 (by decide), hH.1 i (by omega) 1 (by decide), hH.1 i (by omega) 2 (by decide)]; exact hold i (by omega)⟩, ⟨(hsE 44 (by omega)).trans hI_E.2.2.2.2.1.1, fun i2 hi2 => by rw [hqE (615 + i2) (by omega)]; exact hI_E.2.2.2.2.1.2 i2 hi2⟩, (hsE 45 (by omega)).trans hI_E.2.2.2.2.2⟩, hsE 46 (by omega), hsE 47 (by omega), (hH.2.2.1 0 (by omega)).trans hz_G.1, (hH.2.2.1 1 (by omega)).trans hz_G.2, hH.2.2.2.1, fun q hq => hqE q (by omega)⟩
              · have hl0 : ¬ (rdM B n P k).1.2.2.1 = 0 := h213
                have hfk : 0 ≤ (rdM B n P k).1.2.2.1 ∧ (rdM B n P k).1.2.2.1 ≤ 4 := FK_rdM B n P k
                refine at_aload_n 217 X rfl rfl dX12_moves_216 rfl ?_
                refine m_getIV 220 X ((rdM B n P k).1.2.2.1) ((wr_o (by omega)).trans (rfk hP_G)) f_X12_168 k_125 rn_125_5 dX12_moves_217 rfl ?_
                refine at_bipush 222 X (by decide) (by decide) dX12_moves_220 rfl ?_
                refine at_isubV 223 X (((rdM B n P k).1.2.2.1) - 10) (w32_v rfl (by omega) (by omega)) dX12_moves_222 rfl ?_
                refine at_iret X Rt ?_ (Nat.le_refl _) (Nat.le_refl _) dX12_moves_223
                refine Or.inl ⟨hc0, Or.inl ?_⟩
                rw [Int.toNat_natCast, ← hB, ← hend]
                exact ⟨hl0, rfl, _, rfl, hI_E.fr2 hWf (fun q hq => by rw [wr_row (by omega)]; exact hr_G q (by omega)) (fun k hk => by rw [wr_o (by omega)]; exact hx_G k (by omega)), by rw [wr_o (by omega)]; exact hx_G 46 (by omega), by rw [wr_o (by omega)]; exact hx_G 47 (by omega), by rw [wr_o (by omega)]; exact hz_G.1, by rw [wr_o (by omega)]; exact hz_G.2, wr_s _ _ _ _, fun q hq => by rw [wr_row (by omega)]; exact hr_G q (by omega)⟩
            · have hlt : sk B n (rdM B n P k).1.1 < n := by omega
              have hgo : goB B n (rdM B n P k).1 := ⟨h0, hlt⟩
              obtain ⟨hmT, hat_G, hold⟩ := hD_G h0
              obtain ⟨t, ht⟩ : ∃ t, t = goT B n (rdM B n P k).1 := ⟨_, rfl⟩
              obtain ⟨T, hTe⟩ : ∃ T, T = (rdM B n P k).2 := ⟨_, rfl⟩
              have hP_t : RTp G B n t := by rw [ht]; exact hP_G.go
              have ht0 : t.2.2.1 = 0 := by rw [ht, go_fk]; exact h0
              have hskt : sk B n t.1 = sk B n (rdM B n P k).1.1 := by rw [ht]; exact goT_1 h0
              rw [← hTe] at hmT hold
              have hkm : k ≤ 16 := by
                by_cases c : k = 17
                · exact absurd hgo (rdM_end B n P k c)
                · omega
              have hstp' : rdM B n P (k + 1) = mvL B n P (t, T) := by rw [ht, hTe]; exact if_pos hgo
              have hq_G : ∀ q, q ≠ 125 → G q = G q := fun _ _ => rfl
              have hs_G : ∀ j, ¬ (4 ≤ j ∧ j ≤ 6) → G 125 j = G 125 j := fun _ _ => rfl
              have hto : RTS G P Q := hI_E.1.fr (fun q hq => hr_G q (by omega)) hP
              have hP_G := hP_t
              refine at_aload_n 66 X rfl rfl dX12_moves_65 rfl ?_
              refine m_getIV 69 X ((sk B n (rdM B n P k).1.1 : Nat) : Int) (hD_G h0).2.1 f_X12_161 k_125 rn_125_4 dX12_moves_66 rfl ?_
              refine at_istore_n 70 X rfl dX12_moves_69 rfl (by decide) ?_
              refine at_aload_n 71 X rfl rfl dX12_moves_70 rfl ?_
              refine at_iconst 72 X (by decide) dX12_moves_71 rfl ?_
              refine at_bipush 74 X (by decide) (by decide) dX12_moves_72 rfl ?_
              refine at_callV 77 X _ 12 (c12_nu hG G B n (t) hP_G 0 23 (by omega) (by omega)) clX12 rfl k_125 mo_X12_number w_2010 vo_X12_number.1 vo_X12_number.2 rfl rfl (crm Rt (by decide)) (Nat.le_of_ble_eq_true rfl) dX12_moves_74 rfl ?_
              rintro _ _ ⟨rfl, N1, rfl, hP_N1, hf_N1⟩
              have hq_N1 : ∀ q, q ≠ 125 → N1 q = G q := fun q h => (hf_N1.1 q h).trans (hq_G q h)
              have hs_N1 : ∀ j, ¬ (4 ≤ j ∧ j ≤ 6) → N1 125 j = G 125 j := fun j h => (hf_N1.2 j h).trans (hs_G j h)
              have := nuR_in (B := B) (n := n) (t := t) (lo := 0) (hi := 23) (by omega)
              refine at_istore 79 X dX12_moves_77 rfl (by decide) ?_
              have J98 : ∀ (N3 : Mm), (RTp N3 B n (mv2 B n T t)) → (∀ q, q ≠ 125 → N3 q = G q) → (∀ j, ¬ (4 ≤ j ∧ j ≤ 6) → N3 125 j = G 125 j) → AT g κ K2 z 0 0 98 [(0, mR 125), (2, mI ((m : Nat) : Int)), (4, mI ((nuR B n (t) 0 23 : Nat) : Int))] [] (ov N3) := by
                intro N3 hP_N3 hq_N3 hs_N3
                refine at_aload_n 99 X rfl rfl dX12_moves_98 rfl ?_
                refine at_iconst 100 X (by decide) dX12_moves_99 rfl ?_
                refine at_aload_n 101 X rfl rfl dX12_moves_100 rfl ?_
                refine m_getR 104 X f_X12_23 k_125 r_125_12 dX12_moves_101 rfl ?_
                refine at_bipush 106 X (by decide) (by decide) dX12_moves_104 rfl ?_
                refine m_ialoadV 107 X 6 (by omega) ((bN (sB P) : Nat) : Int) ((congrFun (hq_N3 129 (by omega)) 6).trans hto.1.2.2.2.2.2.2.1) k_129 e_129 (by omega) dX12_moves_106 rfl ?_
                refine at_iconst 108 X (by decide) dX12_moves_107 rfl ?_
                refine at_isubV 109 X (((bN (sB P) : Nat) : Int) - 1) (w32_v rfl (by omega) (by omega)) dX12_moves_108 rfl ?_
                refine at_callV 112 X _ 12 (c12_nu hG N3 B n (mv2 B n T t) hP_N3 0 (((bN (sB P) : Nat) : Int) - 1) (by omega) (by omega)) clX12 rfl k_125 mo_X12_number w_2010 vo_X12_number.1 vo_X12_number.2 rfl rfl (crm Rt (by decide)) (Nat.le_of_ble_eq_true rfl) dX12_moves_109 rfl ?_
                rintro _ _ ⟨rfl, N4, rfl, hP_N4, hf_N4⟩
                have hq_N4 : ∀ q, q ≠ 125 → N4 q = G q := fun q h => (hf_N4.1 q h).trans (hq_N3 q h)
                have hs_N4 : ∀ j, ¬ (4 ≤ j ∧ j ≤ 6) → N4 125 j = G 125 j := fun j h => (hf_N4.2 j h).trans (hs_N3 j h)
                have := nuR_in (B := B) (n := n) (t := mv2 B n T t) (lo := 0) (hi := (((bN (sB P) : Nat) : Int) - 1)) (by omega)
                refine at_istore 114 X dX12_moves_112 rfl (by decide) ?_
                refine at_aload_n 115 X rfl rfl dX12_moves_114 rfl ?_
                refine m_getIV 118 X ((mv3 B n P T t).2.2.1) (rfk hP_N4) f_X12_168 k_125 rn_125_5 dX12_moves_115 rfl ?_
                refine at_if_ne 121 145 X dX12_moves_118 rfl (by decide) (fun h118 => ?_) (fun h118 => ?_)
                · have hz3 : ¬ (mv3 B n P T t).2.2.1 = 0 := h118
                  refine at_iconst 146 X (by decide) dX12_moves_145 rfl ?_
                  refine at_istore 148 X dX12_moves_146 rfl (by decide) ?_
                  refine at_aload_n 149 X rfl rfl dX12_moves_148 rfl ?_
                  refine at_bipush 151 X (by decide) (by decide) dX12_moves_149 rfl ?_
                  refine at_callV 154 X _ 12 (c12_sign hG N4 B n (mv3 B n P T t) hP_N4 59 (by decide)) clX12 rfl k_125 mo_X12_sign w_2034 vo_X12_sign.1 vo_X12_sign.2 rfl rfl (crm Rt (by decide)) (Nat.le_of_ble_eq_true rfl) dX12_moves_151 rfl ?_
                  rintro _ _ ⟨rfl, N6, rfl, hP_N6, hf_N6⟩
                  have hq_N6 : ∀ q, q ≠ 125 → N6 q = G q := fun q h => (hf_N6.1 q h).trans (hq_N4 q h)
                  have hs_N6 : ∀ j, ¬ (4 ≤ j ∧ j ≤ 6) → N6 125 j = G 125 j := fun j h => (hf_N6.2 j h).trans (hs_N4 j h)
                  refine at_aload_n 155 X rfl rfl dX12_moves_154 rfl ?_
                  refine m_getIV 158 X ((tsT B n (mv3 B n P T t) 59).2.2.1) (rfk hP_N6) f_X12_168 k_125 rn_125_5 dX12_moves_155 rfl ?_
                  refine at_if_ne 161 194 X dX12_moves_158 rfl (by decide) (fun h158 => ?_) (fun h158 => ?_)
                  · have e5 : tsT B n (mv3 B n P T t) 59 = mv5 B n P T t := by
                      show tsT B n _ 59 = tsT B n (nuT B n (mv3 B n P T t) 0 (((sW P : Nat) : Int) - ((bL (sB P) (mvB B n P T t) : Nat) : Int))) 59
                      first | rw [hvb] | rw [nu_bad hz3]
                    have e5f := congrArg (fun x : TS => x.2.2.1) e5
                    have hb5 : ¬ (mv5 B n P T t).2.2.1 = 0 := by rw [← e5]; exact h158
                    have hstp : rdM B n P (k + 1) = (tsT B n (mv3 B n P T t) 59, T) := by
                      rw [hstp', e5]
                      exact congrArg (fun x : LN => ((mv5 B n P T t), x)) (if_neg hb5)
                    have hb5 : ¬ ((tsT B n (mv3 B n P T t) 59, T) : Lns).1.2.2.1 = 0 := by show ¬ (tsT B n (mv3 B n P T t) 59).2.2.1 = 0; rw [e5]; exact hb5
                    refine at_aload_n 195 X rfl rfl dX12_moves_194 rfl ?_
                    refine at_callV 198 X _ 12 (c12_bl hG (N6) B n (tsT B n (mv3 B n P T t) 59) hP_N6) clX12 rfl k_125 mo_X12_blanks w_1968 vo_X12_blanks.1 vo_X12_blanks.2 rfl rfl (crm Rt (by decide)) (Nat.le_of_ble_eq_true rfl) dX12_moves_195 rfl ?_
                    rintro _ _ ⟨rfl, N7, rfl, hP_N7, hf_N7, hat_N7⟩
                    refine at_goto 47 X dX12_moves_198 (by decide) ?_
                    exact at_sub _ (by exact ⟨rfl, rfl, trivial⟩) (ih47 N7 (k + 1) m (by first | omega | (simp only [] at *; omega)) (by omega) (by omega) (by rw [hstp]; exact hP_N7) (fun q => by rw [hstp] at q; exact absurd q hb5) (fun q hq => by rw [hf_N7.1 q (by omega)]; rw [hq_N6 q (by omega)]; exact hr_G q hq) (fun j hj => by rw [hf_N7.2 j (by omega)]; rw [hs_N6 j (by omega)]; exact hx_G j hj) ⟨by rw [hf_N7.2 0 (by omega)]; rw [hs_N6 0 (by omega)]; exact hz_G.1, by rw [hf_N7.2 1 (by omega)]; rw [hs_N6 1 (by omega)]; exact hz_G.2⟩)
                  · have e5 : tsT B n (mv3 B n P T t) 59 = mv5 B n P T t := by
                      show tsT B n _ 59 = tsT B n (nuT B n (mv3 B n P T t) 0 (((sW P : Nat) : Int) - ((bL (sB P) (mvB B n P T t) : Nat) : Int))) 59
                      first | rw [hvb] | rw [nu_bad hz3]
                    have e5f := congrArg (fun x : TS => x.2.2.1) e5
                    have hb5 : (mv5 B n P T t).2.2.1 = 0 := by rw [← e5]; first | exact h158 | exact Decidable.byContradiction h158
                    have hok := mv5_ok hb5
                    have hstp : rdM B n P (k + 1) = (tsT B n (mv3 B n P T t) 59, addT T (nuV B n t 0 23) (mvB B n P T t) (mvE B n P T t)) := by
                      rw [hstp', e5]
                      exact congrArg (fun x : LN => ((mv5 B n P T t), x)) (if_pos hb5)
                    have hb5 : ((tsT B n (mv3 B n P T t) 59, addT T (nuV B n t 0 23) (mvB B n P T t) (mvE B n P T t)) : Lns).1.2.2.1 = 0 := by show (tsT B n (mv3 B n P T t) 59).2.2.1 = 0; rw [e5]; exact hb5
                    have hx1 := ts_ok (show (tsT B n _ 59).2.2.1 = 0 from hb5)
                    have hw1x : ((nuR B n (mv2 B n T t) 0 (((bN (sB P) : Nat) : Int) - 1) : Nat) : Int) = ((mvB B n P T t : Nat) : Int) := by rw [show nuR B n (mv2 B n T t) 0 (((bN (sB P) : Nat) : Int) - 1) = mvB B n P T t from nuR_eq hok.2.2.2.1]
                    have hz2 : (mv2 B n T t).2.2.1 = 0 := (nu_ok (show (nuT B n (mv2 B n T t) 0 (((bN (sB P) : Nat) : Int) - 1)).2.2.1 = 0 from hok.2.2.2.1)).1
                    have hzz : (nuT B n t 0 23).2.2.1 = 0 := (fl_no (k := 3) (by decide) hz2).2
                    have hw0 : ((nuR B n t 0 23 : Nat) : Int) = ((nuV B n t 0 23 : Nat) : Int) := by rw [show nuR B n t 0 23 = _ from nuR_eq hzz]
                    have hw1 := hw1x
                    exact absurd hok.2.2.2.1 hz3
                · have hz3 : (mv3 B n P T t).2.2.1 = 0 := by first | exact h118 | exact Decidable.byContradiction h118
                  have hvb : nuR B n (mv2 B n T t) 0 (((bN (sB P) : Nat) : Int) - 1) = mvB B n P T t := nuR_eq hz3
                  have hvb2 := (nu_ok (show (nuT B n (mv2 B n T t) 0 (((bN (sB P) : Nat) : Int) - 1)).2.2.1 = 0 from hz3)).2.1 (by decide)
                  have hvb3 : ((mvB B n P T t : Nat) : Int) = ((nuV B n (mv2 B n T t) 0 (((bN (sB P) : Nat) : Int) - 1) : Nat) : Int) := rfl
                  refine at_aload_n 122 X rfl rfl dX12_moves_121 rfl ?_
                  refine at_iconst 123 X (by decide) dX12_moves_122 rfl ?_
                  refine at_aload_n 124 X rfl rfl dX12_moves_123 rfl ?_
                  refine m_getR 127 X f_X12_23 k_125 r_125_12 dX12_moves_124 rfl ?_
                  refine at_iconst 128 X (by decide) dX12_moves_127 rfl ?_
                  refine m_ialoadV 129 X 0 (by omega) ((sW P : Nat) : Int) ((congrFun (hq_N4 129 (by omega)) 0).trans hto.1.1) k_129 e_129 (by omega) dX12_moves_128 rfl ?_
                  refine at_aload_n 130 X rfl rfl dX12_moves_129 rfl ?_
                  refine m_getR 133 X f_X12_61 k_125 r_125_24 dX12_moves_130 rfl ?_
                  refine at_iload 135 X rfl dX12_moves_133 rfl ?_
                  refine m_aaloadV 136 X (nuR B n (mv2 B n T t) 0 (((bN (sB P) : Nat) : Int) - 1)) (by omega) k_227 (by decide) (by omega) (rr_227 _ (by omega)) dX12_moves_135 rfl ?_
                  refine at_iconst 137 X (by decide) dX12_moves_136 rfl ?_
                  refine m_ialoadV 138 X 1 (by omega) ((bL (sB P) (nuR B n (mv2 B n T t) 0 (((bN (sB P) : Nat) : Int) - 1)) : Nat) : Int) ((congrFun (hq_N4 (228 + (nuR B n (mv2 B n T t) 0 (((bN (sB P) : Nat) : Int) - 1))) (by omega)) 1).trans (hto.2.2.2.2.2.2 (nuR B n (mv2 B n T t) 0 (((bN (sB P) : Nat) : Int) - 1)) (by omega)).2.1) (kr_227 _ (by omega)) (er_227 _ (by omega)) (by omega) dX12_moves_137 rfl ?_
                  have hbl := hP.B.L (b := (nuR B n (mv2 B n T t) 0 (((bN (sB P) : Nat) : Int) - 1))) (by omega)
                  have hbx := hP.B.X (b := (nuR B n (mv2 B n T t) 0 (((bN (sB P) : Nat) : Int) - 1))) (by omega)
                  refine at_isubV 139 X (((sW P : Nat) : Int) - ((bL (sB P) (nuR B n (mv2 B n T t) 0 (((bN (sB P) : Nat) : Int) - 1)) : Nat) : Int)) (w32_v rfl (by omega) (by omega)) dX12_moves_138 rfl ?_
                  refine at_callV 142 X _ 12 (c12_nu hG N4 B n (mv3 B n P T t) hP_N4 0 (((sW P : Nat) : Int) - ((bL (sB P) (nuR B n (mv2 B n T t) 0 (((bN (sB P) : Nat) : Int) - 1)) : Nat) : Int)) (by omega) (by omega)) clX12 rfl k_125 mo_X12_number w_2010 vo_X12_number.1 vo_X12_number.2 rfl rfl (crm Rt (by decide)) (Nat.le_of_ble_eq_true rfl) dX12_moves_139 rfl ?_
                  rintro _ _ ⟨rfl, N5, rfl, hP_N5, hf_N5⟩
                  have hq_N5 : ∀ q, q ≠ 125 → N5 q = G q := fun q h => (hf_N5.1 q h).trans (hq_N4 q h)
                  have hs_N5 : ∀ j, ¬ (4 ≤ j ∧ j ≤ 6) → N5 125 j = G 125 j := fun j h => (hf_N5.2 j h).trans (hs_N4 j h)
                  have := nuR_in (B := B) (n := n) (t := mv3 B n P T t) (lo := 0) (hi := (((sW P : Nat) : Int) - ((bL (sB P) (nuR B n (mv2 B n T t) 0 (((bN (sB P) : Nat) : Int) - 1)) : Nat) : Int))) (by omega)
                  refine at_goto 146 X dX12_moves_142 (by decide) ?_
                  refine at_istore 148 X dX12_moves_146 rfl (by decide) ?_
                  refine at_aload_n 149 X rfl rfl dX12_moves_148 rfl ?_
                  refine at_bipush 151 X (by decide) (by decide) dX12_moves_149 rfl ?_
                  refine at_callV 154 X _ 12 (c12_sign hG N5 B n (nuT B n (mv3 B n P T t) 0 (((sW P : Nat) : Int) - ((bL (sB P) (nuR B n (mv2 B n T t) 0 (((bN (sB P) : Nat) : Int) - 1)) : Nat) : Int))) hP_N5 59 (by decide)) clX12 rfl k_125 mo_X12_sign w_2034 vo_X12_sign.1 vo_X12_sign.2 rfl rfl (crm Rt (by decide)) (Nat.le_of_ble_eq_true rfl) dX12_moves_151 rfl ?_
                  rintro _ _ ⟨rfl, N6, rfl, hP_N6, hf_N6⟩
                  have hq_N6 : ∀ q, q ≠ 125 → N6 q = G q := fun q h => (hf_N6.1 q h).trans (hq_N5 q h)
                  have hs_N6 : ∀ j, ¬ (4 ≤ j ∧ j ≤ 6) → N6 125 j = G 125 j := fun j h => (hf_N6.2 j h).trans (hs_N5 j h)
                  refine at_aload_n 155 X rfl rfl dX12_moves_154 rfl ?_
                  refine m_getIV 158 X ((tsT B n (nuT B n (mv3 B n P T t) 0 (((sW P : Nat) : Int) - ((bL (sB P) (nuR B n (mv2 B n T t) 0 (((bN (sB P) : Nat) : Int) - 1)) : Nat) : Int))) 59).2.2.1) (rfk hP_N6) f_X12_168 k_125 rn_125_5 dX12_moves_155 rfl ?_
                  refine at_if_ne 161 194 X dX12_moves_158 rfl (by decide) (fun h158 => ?_) (fun h158 => ?_)
                  · have e5 : tsT B n (nuT B n (mv3 B n P T t) 0 (((sW P : Nat) : Int) - ((bL (sB P) (nuR B n (mv2 B n T t) 0 (((bN (sB P) : Nat) : Int) - 1)) : Nat) : Int))) 59 = mv5 B n P T t := by
                      show tsT B n _ 59 = tsT B n (nuT B n (mv3 B n P T t) 0 (((sW P : Nat) : Int) - ((bL (sB P) (mvB B n P T t) : Nat) : Int))) 59
                      first | rw [hvb] | rw [nu_bad hz3]
                    have e5f := congrArg (fun x : TS => x.2.2.1) e5
                    have hb5 : ¬ (mv5 B n P T t).2.2.1 = 0 := by rw [← e5]; exact h158
                    have hstp : rdM B n P (k + 1) = (tsT B n (nuT B n (mv3 B n P T t) 0 (((sW P : Nat) : Int) - ((bL (sB P) (nuR B n (mv2 B n T t) 0 (((bN (sB P) : Nat) : Int) - 1)) : Nat) : Int))) 59, T) := by
                      rw [hstp', e5]
                      exact congrArg (fun x : LN => ((mv5 B n P T t), x)) (if_neg hb5)
                    have hb5 : ¬ ((tsT B n (nuT B n (mv3 B n P T t) 0 (((sW P : Nat) : Int) - ((bL (sB P) (nuR B n (mv2 B n T t) 0 (((bN (sB P) : Nat) : Int) - 1)) : Nat) : Int))) 59, T) : Lns).1.2.2.1 = 0 := by show ¬ (tsT B n (nuT B n (mv3 B n P T t) 0 (((sW P : Nat) : Int) - ((bL (sB P) (nuR B n (mv2 B n T t) 0 (((bN (sB P) : Nat) : Int) - 1)) : Nat) : Int))) 59).2.2.1 = 0; rw [e5]; exact hb5
                    refine at_aload_n 195 X rfl rfl dX12_moves_194 rfl ?_
                    refine at_callV 198 X _ 12 (c12_bl hG (N6) B n (tsT B n (nuT B n (mv3 B n P T t) 0 (((sW P : Nat) : Int) - ((bL (sB P) (nuR B n (mv2 B n T t) 0 (((bN (sB P) : Nat) : Int) - 1)) : Nat) : Int))) 59) hP_N6) clX12 rfl k_125 mo_X12_blanks w_1968 vo_X12_blanks.1 vo_X12_blanks.2 rfl rfl (crm Rt (by decide)) (Nat.le_of_ble_eq_true rfl) dX12_moves_195 rfl ?_
                    rintro _ _ ⟨rfl, N7, rfl, hP_N7, hf_N7, hat_N7⟩
                    refine at_goto 47 X dX12_moves_198 (by decide) ?_
                    exact at_sub _ (by exact ⟨rfl, rfl, trivial⟩) (ih47 N7 (k + 1) m (by first | omega | (simp only [] at *; omega)) (by omega) (by omega) (by rw [hstp]; exact hP_N7) (fun q => by rw [hstp] at q; exact absurd q hb5) (fun q hq => by rw [hf_N7.1 q (by omega)]; rw [hq_N6 q (by omega)]; exact hr_G q hq) (fun j hj => by rw [hf_N7.2 j (by omega)]; rw [hs_N6 j (by omega)]; exact hx_G j hj) ⟨by rw [hf_N7.2 0 (by omega)]; rw [hs_N6 0 (by omega)]; exact hz_G.1, by rw [hf_N7.2 1 (by omega)]; rw [hs_N6 1 (by omega)]; exact hz_G.2⟩)
                  · have e5 : tsT B n (nuT B n (mv3 B n P T t) 0 (((sW P : Nat) : Int) - ((bL (sB P) (nuR B n (mv2 B n T t) 0 (((bN (sB P) : Nat) : Int) - 1)) : Nat) : Int))) 59 = mv5 B n P T t := by
                      show tsT B n _ 59 = tsT B n (nuT B n (mv3 B n P T t) 0 (((sW P : Nat) : Int) - ((bL (sB P) (mvB B n P T t) : Nat) : Int))) 59
                      first | rw [hvb] | rw [nu_bad hz3]
                    have e5f := congrArg (fun x : TS => x.2.2.1) e5
                    have hb5 : (mv5 B n P T t).2.2.1 = 0 := by rw [← e5]; first | exact h158 | exact Decidable.byContradiction h158
                    have hok := mv5_ok hb5
                    have hstp : rdM B n P (k + 1) = (tsT B n (nuT B n (mv3 B n P T t) 0 (((sW P : Nat) : Int) - ((bL (sB P) (nuR B n (mv2 B n T t) 0 (((bN (sB P) : Nat) : Int) - 1)) : Nat) : Int))) 59, addT T (nuV B n t 0 23) (mvB B n P T t) (mvE B n P T t)) := by
                      rw [hstp', e5]
                      exact congrArg (fun x : LN => ((mv5 B n P T t), x)) (if_pos hb5)
                    have hb5 : ((tsT B n (nuT B n (mv3 B n P T t) 0 (((sW P : Nat) : Int) - ((bL (sB P) (nuR B n (mv2 B n T t) 0 (((bN (sB P) : Nat) : Int) - 1)) : Nat) : Int))) 59, addT T (nuV B n t 0 23) (mvB B n P T t) (mvE B n P T t)) : Lns).1.2.2.1 = 0 := by show (tsT B n (nuT B n (mv3 B n P T t) 0 (((sW P : Nat) : Int) - ((bL (sB P) (nuR B n (mv2 B n T t) 0 (((bN (sB P) : Nat) : Int) - 1)) : Nat) : Int))) 59).2.2.1 = 0; rw [e5]; exact hb5
                    have hx1 := ts_ok (show (tsT B n _ 59).2.2.1 = 0 from hb5)
                    have hw1x : ((nuR B n (mv2 B n T t) 0 (((bN (sB P) : Nat) : Int) - 1) : Nat) : Int) = ((mvB B n P T t : Nat) : Int) := by rw [show nuR B n (mv2 B n T t) 0 (((bN (sB P) : Nat) : Int) - 1) = mvB B n P T t from nuR_eq hok.2.2.2.1]
                    have hz2 : (mv2 B n T t).2.2.1 = 0 := (nu_ok (show (nuT B n (mv2 B n T t) 0 (((bN (sB P) : Nat) : Int) - 1)).2.2.1 = 0 from hok.2.2.2.1)).1
                    have hzz : (nuT B n t 0 23).2.2.1 = 0 := (fl_no (k := 3) (by decide) hz2).2
                    have hw0 : ((nuR B n t 0 23 : Nat) : Int) = ((nuV B n t 0 23 : Nat) : Int) := by rw [show nuR B n t 0 23 = _ from nuR_eq hzz]
                    have hw1 := hw1x
                    have hw2 : ((nuR B n (mv3 B n P T t) 0 (((sW P : Nat) : Int) - ((bL (sB P) (nuR B n (mv2 B n T t) 0 (((bN (sB P) : Nat) : Int) - 1)) : Nat) : Int)) : Nat) : Int) = ((mvE B n P T t : Nat) : Int) := by
                      rw [hvb] at hx1 ⊢
                      rw [show nuR B n (mv3 B n P T t) 0 (((sW P : Nat) : Int) - ((bL (sB P) (mvB B n P T t) : Nat) : Int)) = _ from nuR_eq hx1.1]
                      rfl
                    refine at_aload_n 162 X rfl rfl dX12_moves_161 rfl ?_
                    refine m_getR 165 X f_X12_95 k_125 r_125_38 dX12_moves_162 rfl ?_
                    refine at_iload_n 166 X rfl rfl dX12_moves_165 rfl ?_
                    refine m_aaloadV 167 X m (by omega) k_597 (by decide) (by omega) (rr_597 _ (by omega)) dX12_moves_166 rfl ?_
                    refine at_iconst 168 X (by decide) dX12_moves_167 rfl ?_
                    refine at_iload 170 X rfl dX12_moves_168 rfl ?_
                    refine m_iastoreV 171 X 0 (by omega) (kr_597 _ (by omega)) (er_597 _ (by omega)) (by omega) dX12_moves_170 rfl ?_
                    refine at_aload_n 172 X rfl rfl dX12_moves_171 rfl ?_
                    refine m_getR 175 X f_X12_95 k_125 r_125_38 dX12_moves_172 rfl ?_
                    refine at_iload_n 176 X rfl rfl dX12_moves_175 rfl ?_
                    refine m_aaloadV 177 X m (by omega) k_597 (by decide) (by omega) (rr_597 _ (by omega)) dX12_moves_176 rfl ?_
                    refine at_iconst 178 X (by decide) dX12_moves_177 rfl ?_
                    refine at_iload 180 X rfl dX12_moves_178 rfl ?_
                    refine m_iastoreV 181 X 1 (by omega) (kr_597 _ (by omega)) (er_597 _ (by omega)) (by omega) dX12_moves_180 rfl ?_
                    refine at_aload_n 182 X rfl rfl dX12_moves_181 rfl ?_
                    refine m_getR 185 X f_X12_95 k_125 r_125_38 dX12_moves_182 rfl ?_
                    refine at_iload_n 186 X rfl rfl dX12_moves_185 rfl ?_
                    refine m_aaloadV 187 X m (by omega) k_597 (by decide) (by omega) (rr_597 _ (by omega)) dX12_moves_186 rfl ?_
                    refine at_iconst 188 X (by decide) dX12_moves_187 rfl ?_
                    refine at_iload 190 X rfl dX12_moves_188 rfl ?_
                    refine m_iastoreV 191 X 2 (by omega) (kr_597 _ (by omega)) (er_597 _ (by omega)) (by omega) dX12_moves_190 rfl ?_
                    refine at_iincV 194 X ((m + 1 : Nat) : Int) (w32_v (by omega) (by omega) (by omega)) rfl dX12_moves_191 rfl (by decide) ?_
                    refine at_aload_n 195 X rfl rfl dX12_moves_194 rfl ?_
                    refine at_callV 198 X _ 12 (c12_bl hG (wr (wr (wr N6 (598 + m) 0 ((nuR B n (t) 0 23 : Nat) : Int)) (598 + m) 1 ((nuR B n (mv2 B n T t) 0 (((bN (sB P) : Nat) : Int) - 1) : Nat) : Int)) (598 + m) 2 ((nuR B n (mv3 B n P T t) 0 (((sW P : Nat) : Int) - ((bL (sB P) (nuR B n (mv2 B n T t) 0 (((bN (sB P) : Nat) : Int) - 1)) : Nat) : Int)) : Nat) : Int)) B n (tsT B n (nuT B n (mv3 B n P T t) 0 (((sW P : Nat) : Int) - ((bL (sB P) (nuR B n (mv2 B n T t) 0 (((bN (sB P) : Nat) : Int) - 1)) : Nat) : Int))) 59) (hP_N6.w (fun k hk => by simp (disch := omega) only [wr_o]) (by simp (disch := omega) only [wr_row]))) clX12 rfl k_125 mo_X12_blanks w_1968 vo_X12_blanks.1 vo_X12_blanks.2 rfl rfl (crm Rt (by decide)) (Nat.le_of_ble_eq_true rfl) dX12_moves_195 rfl ?_
                    rintro _ _ ⟨rfl, N7, rfl, hP_N7, hf_N7, hat_N7⟩
                    refine at_goto 47 X dX12_moves_198 (by decide) ?_
                    exact at_sub _ (by exact ⟨rfl, rfl, trivial⟩) (ih47 N7 (k + 1) (m + 1) (by first | omega | (simp only [] at *; omega)) (by omega) (by omega) (by rw [hstp]; exact hP_N7) (fun q => by
                        rw [hstp]
                        refine ⟨by show m + 1 = (addT T (nuV B n t 0 23) (mvB B n P T t) (mvE B n P T t)).1; show m + 1 = T.1 + 1; omega, hat_N7 hb5, fun i hi => ?_⟩
                        by_cases c : i = m
                        · subst c
                          have e : T.1 = i := hmT.symm
                          obtain ⟨a1, a2, a3⟩ := addT_s T (nuV B n t 0 23) (mvB B n P T t) (mvE B n P T t)
                          rw [e] at a1 a2 a3
                          show _ = (((addT T (nuV B n t 0 23) (mvB B n P T t) (mvE B n P T t)).2.1 i : Nat) : Int) ∧ _ = (((addT T (nuV B n t 0 23) (mvB B n P T t) (mvE B n P T t)).2.2.1 i : Nat) : Int) ∧ _ = (((addT T (nuV B n t 0 23) (mvB B n P T t) (mvE B n P T t)).2.2.2 i : Nat) : Int)
                          rw [a1, a2, a3]
                          exact ⟨(congrFun (hf_N7.1 (598 + i) (by omega)) 0).trans (by simp (disch := omega) only [wr_o, wr_s]; exact hw0), (congrFun (hf_N7.1 (598 + i) (by omega)) 1).trans (by simp (disch := omega) only [wr_o, wr_s]; exact hw1), (congrFun (hf_N7.1 (598 + i) (by omega)) 2).trans (by simp (disch := omega) only [wr_o, wr_s]; exact hw2)⟩
                        · have ho := hold i (by omega)
                          obtain ⟨a1, a2, a3⟩ := addT_a (T := T) (i := i) (a := nuV B n t 0 23) (b := mvB B n P T t) (c := mvE B n P T t) (by omega)
                          show _ = (((addT T (nuV B n t 0 23) (mvB B n P T t) (mvE B n P T t)).2.1 i : Nat) : Int) ∧ _ = (((addT T (nuV B n t 0 23) (mvB B n P T t) (mvE B n P T t)).2.2.1 i : Nat) : Int) ∧ _ = (((addT T (nuV B n t 0 23) (mvB B n P T t) (mvE B n P T t)).2.2.2 i : Nat) : Int)
                          rw [a1, a2, a3]
                          exact ⟨(congrFun (hf_N7.1 (598 + i) (by omega)) 0).trans (by simp (disch := omega) only [wr_o]; rw [hq_N6 (598 + i) (by omega)]; exact ho.1), (congrFun (hf_N7.1 (598 + i) (by omega)) 1).trans (by simp (disch := omega) only [wr_o]; rw [hq_N6 (598 + i) (by omega)]; exact ho.2.1), (congrFun (hf_N7.1 (598 + i) (by omega)) 2).trans (by simp (disch := omega) only [wr_o]; rw [hq_N6 (598 + i) (by omega)]; exact ho.2.2)⟩) (fun q hq => by rw [hf_N7.1 q (by omega)]; simp (disch := omega) only [wr_row]; rw [hq_N6 q (by omega)]; exact hr_G q hq) (fun j hj => by rw [hf_N7.2 j (by omega)]; simp (disch := omega) only [wr_o]; rw [hs_N6 j (by omega)]; exact hx_G j hj) ⟨by rw [hf_N7.2 0 (by omega)]; simp (disch := omega) only [wr_o]; rw [hs_N6 0 (by omega)]; exact hz_G.1, by rw [hf_N7.2 1 (by omega)]; simp (disch := omega) only [wr_o]; rw [hs_N6 1 (by omega)]; exact hz_G.2⟩)
              refine at_aload_n 80 X rfl rfl dX12_moves_79 rfl ?_
              refine m_getIV 83 X ((nuT B n (t) 0 23).2.2.1) (rfk hP_N1) f_X12_168 k_125 rn_125_5 dX12_moves_80 rfl ?_
              refine at_if_ne 86 98 X dX12_moves_83 rfl (by decide) (fun h83 => ?_) (fun h83 => ?_)
              · have hz1 : ¬ (nuT B n t 0 23).2.2.1 = 0 := h83
                have he2 : mv2 B n T t = nuT B n t 0 23 := by
                  unfold mv2
                  split
                  · exact flT_id hz1
                  · rfl
                exact at_sub _ (by exact ⟨rfl, rfl, rfl, trivial⟩) (J98 N1 (by rw [he2]; exact hP_N1) hq_N1 hs_N1)
              · have hz1 : (nuT B n t 0 23).2.2.1 = 0 := by first | exact h83 | exact Decidable.byContradiction h83
                refine at_iload_n 87 X rfl rfl dX12_moves_86 rfl ?_
                refine at_bipush 89 X (by decide) (by decide) dX12_moves_87 rfl ?_
                refine at_icmp_ne 92 98 X dX12_moves_89 rfl (by decide) (fun h89 => ?_) (fun h89 => ?_)
                · have he2 : mv2 B n T t = nuT B n t 0 23 := if_neg (by omega)
                  exact at_sub _ (by exact ⟨rfl, rfl, rfl, trivial⟩) (J98 N1 (by rw [he2]; exact hP_N1) hq_N1 hs_N1)
                · have he2 : mv2 B n T t = flT (nuT B n t 0 23) 3 := if_pos (by omega)
                  refine at_aload_n 93 X rfl rfl dX12_moves_92 rfl ?_
                  refine at_iconst 94 X (by decide) dX12_moves_93 rfl ?_
                  refine at_iload_n 95 X rfl rfl dX12_moves_94 rfl ?_
                  refine at_callV 98 X _ 12 (c12_fl hG N1 B n (nuT B n t 0 23) hP_N1 hz1 3 ((sk B n (rdM B n P k).1.1 : Nat) : Int) (by decide) (flT (nuT B n t 0 23) 3) (by rw [show flT (nuT B n t 0 23) 3 = _ from if_pos hz1, nuT_st ht0, hskt])) clX12 rfl k_125 mo_X12_wrong w_1998 vo_X12_wrong.1 vo_X12_wrong.2 rfl rfl (crm Rt (by decide)) (Nat.le_of_ble_eq_true rfl) dX12_moves_95 rfl ?_
                  rintro _ _ ⟨rfl, N2, rfl, hP_N2, hf_N2⟩
                  have hq_N2 : ∀ q, q ≠ 125 → N2 q = G q := fun q h => (hf_N2.1 q h).trans (hq_N1 q h)
                  have hs_N2 : ∀ j, ¬ (4 ≤ j ∧ j ≤ 6) → N2 125 j = G 125 j := fun j h => (hf_N2.2 j h).trans (hs_N1 j h)
                  exact at_sub _ (by exact ⟨rfl, rfl, rfl, trivial⟩) (J98 N2 (by rw [he2]; exact hP_N2) hq_N2 hs_N2)
        exact at_sub _ (by exact ⟨rfl, rfl, trivial⟩) (J47 _ F1 0 0 (Nat.lt_succ_self _) (by first | omega | assumption | rfl) (by first | omega | assumption | rfl) hP_F1 (fun _ => ⟨rfl, hat_F1, fun i hi => absurd hi (Nat.not_lt_zero i)⟩) (fun q hq => (hq_F1 q (by omega)).trans (hq_E0 q (by omega))) (fun k hk => (hs_F1 k (by omega)).trans (hs_E0 k (by omega))) ⟨(hs_F1 0 (by omega)).trans hO_E0.2.2.1, h1_F1⟩)
      · exact absurd h35 (by decide)
    · refine at_iconst 26 X (by decide) dX12_moves_25 rfl ?_
      refine at_goto 30 X dX12_moves_26 (by decide) ?_
      refine at_iconst 31 X (by decide) dX12_moves_30 rfl ?_
      refine at_iconst 32 X (by decide) dX12_moves_31 rfl ?_
      refine at_callV 35 X _ 12 (ct_bad1 hG E0 1 2 (by decide) hO_E0.2.2.1 (by decide)) clX12 rfl k_125 mo_X12_bad w_1960 vo_X12_bad.1 vo_X12_bad.2 rfl rfl (crm Rt (by decide)) (Nat.le_of_ble_eq_true rfl) dX12_moves_32 rfl ?_
      rintro _ _ ⟨rfl, rfl⟩
      have hb : ¬ (0 ≤ x0 ∧ x0 ≤ 150 ∧ x0 ≤ (sz : Int)) := by omega
      refine at_if_eq 38 40 X dX12_moves_35 rfl (by decide) (fun h35 => ?_) (fun h35 => ?_)
      · exact absurd h35 (by decide)
      · refine at_iconst 39 X (by decide) dX12_moves_38 rfl ?_
        refine at_iret X Rt ?_ (Nat.le_refl _) (Nat.le_refl _) dX12_moves_39
        exact Or.inr (⟨hb, rfl, congrArg ov (badR_of hE0)⟩)
theorem dX12_book_0 : decode cX12_book 0 = .ok (.aload_n 0, 1) := by decide +kernel
theorem dX12_book_1 : decode cX12_book 1 = .ok (.iconst 0, 1) := by decide +kernel
theorem dX12_book_2 : decode cX12_book 2 = .ok (.putfield 152, 3) := by decide +kernel
theorem dX12_book_5 : decode cX12_book 5 = .ok (.aload_n 0, 1) := by decide +kernel
theorem dX12_book_6 : decode cX12_book 6 = .ok (.iload_n 1, 1) := by decide +kernel
theorem dX12_book_7 : decode cX12_book 7 = .ok (.iconst 0, 1) := by decide +kernel
theorem dX12_book_8 : decode cX12_book 8 = .ok (.aload_n 0, 1) := by decide +kernel
theorem dX12_book_9 : decode cX12_book 9 = .ok (.getfield 155, 3) := by decide +kernel
theorem dX12_book_12 : decode cX12_book 12 = .ok (.invokestatic 186, 3) := by decide +kernel
theorem dX12_book_15 : decode cX12_book 15 = .ok (.ifCond .eq 9, 3) := by decide +kernel
theorem dX12_book_18 : decode cX12_book 18 = .ok (.iload_n 1, 1) := by decide +kernel
theorem dX12_book_19 : decode cX12_book 19 = .ok (.bipush 100, 2) := by decide +kernel
theorem dX12_book_21 : decode cX12_book 21 = .ok (.if_icmp .le 7, 3) := by decide +kernel
theorem dX12_book_24 : decode cX12_book 24 = .ok (.iconst 1, 1) := by decide +kernel
theorem dX12_book_25 : decode cX12_book 25 = .ok (.goto 4, 3) := by decide +kernel
theorem dX12_book_28 : decode cX12_book 28 = .ok (.iconst 0, 1) := by decide +kernel
theorem dX12_book_29 : decode cX12_book 29 = .ok (.iconst 1, 1) := by decide +kernel
theorem dX12_book_30 : decode cX12_book 30 = .ok (.iconst 2, 1) := by decide +kernel
theorem dX12_book_31 : decode cX12_book 31 = .ok (.invokevirtual 244, 3) := by decide +kernel
theorem dX12_book_34 : decode cX12_book 34 = .ok (.ifCond .eq 5, 3) := by decide +kernel
theorem dX12_book_37 : decode cX12_book 37 = .ok (.iconst 0, 1) := by decide +kernel
theorem dX12_book_38 : decode cX12_book 38 = .ok (.ireturn, 1) := by decide +kernel
theorem dX12_book_39 : decode cX12_book 39 = .ok (.aload_n 0, 1) := by decide +kernel
theorem dX12_book_40 : decode cX12_book 40 = .ok (.iload_n 1, 1) := by decide +kernel
theorem dX12_book_41 : decode cX12_book 41 = .ok (.invokevirtual 248, 3) := by decide +kernel
theorem dX12_book_44 : decode cX12_book 44 = .ok (.iconst 0, 1) := by decide +kernel
theorem dX12_book_45 : decode cX12_book 45 = .ok (.istore_n 2, 1) := by decide +kernel
theorem dX12_book_46 : decode cX12_book 46 = .ok (.aload_n 0, 1) := by decide +kernel
theorem dX12_book_47 : decode cX12_book 47 = .ok (.getfield 168, 3) := by decide +kernel
theorem dX12_book_50 : decode cX12_book 50 = .ok (.ifCond .ne 106, 3) := by decide +kernel
theorem dX12_book_53 : decode cX12_book 53 = .ok (.aload_n 0, 1) := by decide +kernel
theorem dX12_book_54 : decode cX12_book 54 = .ok (.getfield 161, 3) := by decide +kernel
theorem dX12_book_57 : decode cX12_book 57 = .ok (.aload_n 0, 1) := by decide +kernel
theorem dX12_book_58 : decode cX12_book 58 = .ok (.getfield 158, 3) := by decide +kernel
theorem dX12_book_61 : decode cX12_book 61 = .ok (.if_icmp .ge 95, 3) := by decide +kernel
theorem dX12_book_64 : decode cX12_book 64 = .ok (.aload_n 0, 1) := by decide +kernel
theorem dX12_book_65 : decode cX12_book 65 = .ok (.getfield 161, 3) := by decide +kernel
theorem dX12_book_68 : decode cX12_book 68 = .ok (.istore_n 3, 1) := by decide +kernel
theorem dX12_book_69 : decode cX12_book 69 = .ok (.aload_n 0, 1) := by decide +kernel
theorem dX12_book_70 : decode cX12_book 70 = .ok (.iconst 0, 1) := by decide +kernel
theorem dX12_book_71 : decode cX12_book 71 = .ok (.aload_n 0, 1) := by decide +kernel
theorem dX12_book_72 : decode cX12_book 72 = .ok (.getfield 23, 3) := by decide +kernel
theorem dX12_book_75 : decode cX12_book 75 = .ok (.bipush 6, 2) := by decide +kernel
theorem dX12_book_77 : decode cX12_book 77 = .ok (.iaload, 1) := by decide +kernel
theorem dX12_book_78 : decode cX12_book 78 = .ok (.iconst 1, 1) := by decide +kernel
theorem dX12_book_79 : decode cX12_book 79 = .ok (.isub, 1) := by decide +kernel
theorem dX12_book_80 : decode cX12_book 80 = .ok (.invokevirtual 217, 3) := by decide +kernel
theorem dX12_book_83 : decode cX12_book 83 = .ok (.istore 4, 2) := by decide +kernel
theorem dX12_book_85 : decode cX12_book 85 = .ok (.aload_n 0, 1) := by decide +kernel
theorem dX12_book_86 : decode cX12_book 86 = .ok (.getfield 168, 3) := by decide +kernel
theorem dX12_book_89 : decode cX12_book 89 = .ok (.ifCond .ne 15, 3) := by decide +kernel
theorem dX12_book_92 : decode cX12_book 92 = .ok (.iload_n 2, 1) := by decide +kernel
theorem dX12_book_93 : decode cX12_book 93 = .ok (.bipush 8, 2) := by decide +kernel
theorem dX12_book_95 : decode cX12_book 95 = .ok (.if_icmp .ne 9, 3) := by decide +kernel
theorem dX12_book_98 : decode cX12_book 98 = .ok (.aload_n 0, 1) := by decide +kernel
theorem dX12_book_99 : decode cX12_book 99 = .ok (.iconst 3, 1) := by decide +kernel
theorem dX12_book_100 : decode cX12_book 100 = .ok (.iload_n 3, 1) := by decide +kernel
theorem dX12_book_101 : decode cX12_book 101 = .ok (.invokevirtual 181, 3) := by decide +kernel
theorem dX12_book_104 : decode cX12_book 104 = .ok (.aload_n 0, 1) := by decide +kernel
theorem dX12_book_105 : decode cX12_book 105 = .ok (.iconst 0, 1) := by decide +kernel
theorem dX12_book_106 : decode cX12_book 106 = .ok (.bipush 24, 2) := by decide +kernel
theorem dX12_book_108 : decode cX12_book 108 = .ok (.invokevirtual 217, 3) := by decide +kernel
theorem dX12_book_111 : decode cX12_book 111 = .ok (.istore 5, 2) := by decide +kernel
theorem dX12_book_113 : decode cX12_book 113 = .ok (.aload_n 0, 1) := by decide +kernel
theorem dX12_book_114 : decode cX12_book 114 = .ok (.bipush 59, 2) := by decide +kernel
theorem dX12_book_116 : decode cX12_book 116 = .ok (.invokevirtual 240, 3) := by decide +kernel
theorem dX12_book_119 : decode cX12_book 119 = .ok (.aload_n 0, 1) := by decide +kernel
theorem dX12_book_120 : decode cX12_book 120 = .ok (.getfield 168, 3) := by decide +kernel
theorem dX12_book_123 : decode cX12_book 123 = .ok (.ifCond .ne 26, 3) := by decide +kernel
theorem dX12_book_126 : decode cX12_book 126 = .ok (.aload_n 0, 1) := by decide +kernel
theorem dX12_book_127 : decode cX12_book 127 = .ok (.getfield 101, 3) := by decide +kernel
theorem dX12_book_130 : decode cX12_book 130 = .ok (.iload_n 2, 1) := by decide +kernel
theorem dX12_book_131 : decode cX12_book 131 = .ok (.aaload, 1) := by decide +kernel
theorem dX12_book_132 : decode cX12_book 132 = .ok (.iconst 0, 1) := by decide +kernel
theorem dX12_book_133 : decode cX12_book 133 = .ok (.iload 4, 2) := by decide +kernel
theorem dX12_book_135 : decode cX12_book 135 = .ok (.iastore, 1) := by decide +kernel
theorem dX12_book_136 : decode cX12_book 136 = .ok (.aload_n 0, 1) := by decide +kernel
theorem dX12_book_137 : decode cX12_book 137 = .ok (.getfield 101, 3) := by decide +kernel
theorem dX12_book_140 : decode cX12_book 140 = .ok (.iload_n 2, 1) := by decide +kernel
theorem dX12_book_141 : decode cX12_book 141 = .ok (.aaload, 1) := by decide +kernel
theorem dX12_book_142 : decode cX12_book 142 = .ok (.iconst 1, 1) := by decide +kernel
theorem dX12_book_143 : decode cX12_book 143 = .ok (.iload 5, 2) := by decide +kernel
theorem dX12_book_145 : decode cX12_book 145 = .ok (.iastore, 1) := by decide +kernel
theorem dX12_book_146 : decode cX12_book 146 = .ok (.iinc 2 1, 3) := by decide +kernel
theorem dX12_book_149 : decode cX12_book 149 = .ok (.aload_n 0, 1) := by decide +kernel
theorem dX12_book_150 : decode cX12_book 150 = .ok (.invokevirtual 174, 3) := by decide +kernel
theorem dX12_book_153 : decode cX12_book 153 = .ok (.goto (-107), 3) := by decide +kernel
theorem dX12_book_156 : decode cX12_book 156 = .ok (.aload_n 0, 1) := by decide +kernel
theorem dX12_book_157 : decode cX12_book 157 = .ok (.aload_n 0, 1) := by decide +kernel
theorem dX12_book_158 : decode cX12_book 158 = .ok (.getfield 171, 3) := by decide +kernel
theorem dX12_book_161 : decode cX12_book 161 = .ok (.putfield 9, 3) := by decide +kernel
theorem dX12_book_164 : decode cX12_book 164 = .ok (.aload_n 0, 1) := by decide +kernel
theorem dX12_book_165 : decode cX12_book 165 = .ok (.getfield 168, 3) := by decide +kernel
theorem dX12_book_168 : decode cX12_book 168 = .ok (.ifCond .eq 11, 3) := by decide +kernel
theorem dX12_book_171 : decode cX12_book 171 = .ok (.aload_n 0, 1) := by decide +kernel
theorem dX12_book_172 : decode cX12_book 172 = .ok (.getfield 168, 3) := by decide +kernel
theorem dX12_book_175 : decode cX12_book 175 = .ok (.bipush 10, 2) := by decide +kernel
theorem dX12_book_177 : decode cX12_book 177 = .ok (.isub, 1) := by decide +kernel
theorem dX12_book_178 : decode cX12_book 178 = .ok (.ireturn, 1) := by decide +kernel
theorem dX12_book_179 : decode cX12_book 179 = .ok (.aload_n 0, 1) := by decide +kernel
theorem dX12_book_180 : decode cX12_book 180 = .ok (.iload_n 2, 1) := by decide +kernel
theorem dX12_book_181 : decode cX12_book 181 = .ok (.putfield 264, 3) := by decide +kernel
theorem dX12_book_184 : decode cX12_book 184 = .ok (.aload_n 0, 1) := by decide +kernel
theorem dX12_book_185 : decode cX12_book 185 = .ok (.getfield 101, 3) := by decide +kernel
theorem dX12_book_188 : decode cX12_book 188 = .ok (.aload_n 0, 1) := by decide +kernel
theorem dX12_book_189 : decode cX12_book 189 = .ok (.getfield 98, 3) := by decide +kernel
theorem dX12_book_192 : decode cX12_book 192 = .ok (.iload_n 2, 1) := by decide +kernel
theorem dX12_book_193 : decode cX12_book 193 = .ok (.invokestatic 254, 3) := by decide +kernel
theorem dX12_book_196 : decode cX12_book 196 = .ok (.iload_n 2, 1) := by decide +kernel
theorem dX12_book_197 : decode cX12_book 197 = .ok (.ireturn, 1) := by decide +kernel
theorem ct_X12_book {g : Gw} (hG : GF g) {z : Bool} (E : Mm) (Q : RX) (P : SP) (L : LW) (T K : LN) (d st : Nat) (hWf : WF P L T K d st) (hI_E : RXI E Q P L T K d st) (x0 : Int) (sz : Nat) (hTp : TAPM E sz) : CT g yX12_book cX12_book 6 (some .int) 3 65 0 0 K2 z [mR 125, mI x0] (ov E) K2 z (fun r' D' => ((0 ≤ x0 ∧ x0 ≤ 100 ∧ x0 ≤ (sz : Int)) ∧ ((¬ (rdB (E 126) x0.toNat P 9).1.2.2.1 = 0 ∧ r' = some (mI ((rdB (E 126) x0.toNat P 9).1.2.2.1 - 10)) ∧ ∃ E1, D' = ov E1 ∧ RXI E1 Q P L T K d st ∧ E1 125 46 = E 125 46 ∧ E1 125 47 = E 125 47 ∧ RTXO E E1 (rdB (E 126) x0.toNat P 9).1) ∨ ((rdB (E 126) x0.toNat P 9).1.2.2.1 = 0 ∧ r' = some (mI ((rdB (E 126) x0.toNat P 9).2.1 : Nat)) ∧ ∃ E1, D' = ov E1 ∧ RXI E1 Q P L T (rdB (E 126) x0.toNat P 9).2 d st ∧ E1 125 46 = E 125 46 ∧ E1 125 47 = E 125 47 ∧ RTXO E E1 (rdB (E 126) x0.toNat P 9).1))) ∨ (¬ (0 ≤ x0 ∧ x0 ≤ 100 ∧ x0 ≤ (sz : Int)) ∧ r' = some (mI 0) ∧ D' = ov (badR E 1 2))) := by
  refine CT.mk hG (by decide +kernel) (Nat.le_of_ble_eq_true rfl) (fun κ X Rt _ ok => ?_)
  have hP := hWf.1
  have hN8 := hP.B.N
  have hW40 := hP.W
  have hN11 := hP.N
  have hwN : gN (gDay P L d) ≤ 11 := Nat.le_trans hP.N (by decide)
  have hgw : gW (gDay P L d) = sW P := rfl
  have hDI24 := dyP_DI (G := (gDay P L d)) hP.B hWf.2.2.2.1 (Nat.le_refl 24)
  refine at_aload_n 1 X rfl rfl dX12_book_0 rfl ?_
  refine at_iconst 2 X (by decide) dX12_book_1 rfl ?_
  refine m_putI 5 X f_X12_152 fw_12_0 k_125 rn_125_0 dX12_book_2 rfl ?_
  have hO_E0 := RXO.z hWf hI_E
  generalize hE0 : wr E 125 0 0 = E0 at hO_E0 ⊢
  have hR_E0 := hO_E0.1.1
  have h1_E0 : E0 125 1 = (sz : Int) := (hO_E0.2.1.2 1 (by omega)).trans hTp.2.2.1
  refine at_aload_n 6 X rfl rfl dX12_book_5 rfl ?_
  refine at_iload_n 7 X rfl rfl dX12_book_6 rfl ?_
  refine at_iconst 8 X (by decide) dX12_book_7 rfl ?_
  refine at_aload_n 9 X rfl rfl dX12_book_8 rfl ?_
  refine m_getIV 12 X ((sz : Nat) : Int) h1_E0 f_X12_155 k_125 rn_125_1 dX12_book_9 rfl ?_
  refine at_callS 15 X (ct_X12_in hG _ _ _) mo_X12_in w_1957 so_X12_in rfl rfl (crm Rt (by decide)) (Nat.le_of_ble_eq_true rfl) dX12_book_12 rfl ?_
  rintro _ _ ⟨rfl, rfl⟩
  refine at_if_eq 18 24 X dX12_book_15 rfl (by decide) (fun h15 => ?_) (fun h15 => ?_)
  · have h15 : ¬ (0 ≤ x0 ∧ x0 ≤ ((sz : Nat) : Int)) := ite_no.mp h15
    refine at_iconst 25 X (by decide) dX12_book_24 rfl ?_
    refine at_goto 29 X dX12_book_25 (by decide) ?_
    refine at_iconst 30 X (by decide) dX12_book_29 rfl ?_
    refine at_iconst 31 X (by decide) dX12_book_30 rfl ?_
    refine at_callV 34 X _ 12 (ct_bad1 hG E0 1 2 (by decide) hO_E0.2.2.1 (by decide)) clX12 rfl k_125 mo_X12_bad w_1960 vo_X12_bad.1 vo_X12_bad.2 rfl rfl (crm Rt (by decide)) (Nat.le_of_ble_eq_true rfl) dX12_book_31 rfl ?_
    rintro _ _ ⟨rfl, rfl⟩
    have hb : ¬ (0 ≤ x0 ∧ x0 ≤ 100 ∧ x0 ≤ (sz : Int)) := by omega
    refine at_if_eq 37 39 X dX12_book_34 rfl (by decide) (fun h34 => ?_) (fun h34 => ?_)
    · exact absurd h34 (by decide)
    · refine at_iconst 38 X (by decide) dX12_book_37 rfl ?_
      refine at_iret X Rt ?_ (Nat.le_refl _) (Nat.le_refl _) dX12_book_38
      exact Or.inr (⟨hb, rfl, congrArg ov (badR_of hE0)⟩)
  · have h15 : (0 ≤ x0 ∧ x0 ≤ ((sz : Nat) : Int)) := ite_yes.mp h15
    refine at_iload_n 19 X rfl rfl dX12_book_18 rfl ?_
    refine at_bipush 21 X (by decide) (by decide) dX12_book_19 rfl ?_
    refine at_icmp_le 24 28 X dX12_book_21 rfl (by decide) (fun h21 => ?_) (fun h21 => ?_)
    · refine at_iconst 29 X (by decide) dX12_book_28 rfl ?_
      refine at_iconst 30 X (by decide) dX12_book_29 rfl ?_
      refine at_iconst 31 X (by decide) dX12_book_30 rfl ?_
      refine at_callV 34 X _ 12 (ct_bad0 hG E0 1 2 (by decide) hO_E0.2.2.1) clX12 rfl k_125 mo_X12_bad w_1960 vo_X12_bad.1 vo_X12_bad.2 rfl rfl (crm Rt (by decide)) (Nat.le_of_ble_eq_true rfl) dX12_book_31 rfl ?_
      rintro _ _ ⟨rfl, rfl⟩
      have hc0 : 0 ≤ x0 ∧ x0 ≤ 100 ∧ x0 ≤ (sz : Int) := by omega
      refine at_if_eq 37 39 X dX12_book_34 rfl (by decide) (fun h34 => ?_) (fun h34 => ?_)
      · obtain ⟨n, rfl⟩ : ∃ n : Nat, x0 = (n : Int) := ⟨x0.toNat, by omega⟩
        have hnz : n ≤ sz := by omega
        have hz600 := hTp.1
        have hq_E0 : ∀ q, q ≠ 125 → E0 q = E q := fun q h => by rw [← hE0]; exact wr_row h
        have hs_E0 : ∀ k, k ≠ 0 → E0 125 k = E 125 k := fun k h => by rw [← hE0]; exact wr_o (by omega)
        have hB126 : E0 126 = E 126 := hq_E0 126 (by omega)
        refine at_aload_n 40 X rfl rfl dX12_book_39 rfl ?_
        refine at_iload_n 41 X rfl rfl dX12_book_40 rfl ?_
        refine at_callV 44 X _ 12 (ct_X12_starts hG E0 n (by omega) (fun k hk => by rw [hB126]; exact (hTp.2.2.2 k (by omega)).1)) clX12 rfl k_125 mo_X12_starts w_1964 vo_X12_starts.1 vo_X12_starts.2 rfl rfl (crm Rt (by decide)) (Nat.le_of_ble_eq_true rfl) dX12_book_41 rfl ?_
        rintro _ _ ⟨rfl, F1, rfl, hP_F1, h1_F1, h7_F1, h8_F1, hq_F1, hs_F1, hat_F1⟩
        rw [hB126] at hP_F1 hat_F1
        obtain ⟨B, hB⟩ : ∃ B, B = E 126 := ⟨_, rfl⟩
        rw [← hB] at hP_F1 hat_F1
        refine at_iconst 45 X (by decide) dX12_book_44 rfl ?_
        refine at_istore_n 46 X rfl dX12_book_45 rfl (by decide) ?_
        have J46 : ∀ (f46 : Nat) (G : Mm) (k : Nat) (m : Nat), 10 - k < f46 → (k ≤ 9) → (m ≤ 8) → (RTp G B n (rdB B n P k).1) → ((rdB B n P k).1.2.2.1 = 0 → m = (rdB B n P k).2.1 ∧ G 125 4 = ((sk B n (rdB B n P k).1.1 : Nat) : Int) ∧ ∀ i, i < m → G (624 + i) 0 = (((rdB B n P k).2.2.1 i : Nat) : Int) ∧ G (624 + i) 1 = (((rdB B n P k).2.2.2.1 i : Nat) : Int)) → (∀ q, ¬ (q = 125 ∨ (624 ≤ q ∧ q ≤ 631)) → G q = E q) → (∀ k, ¬ (k ≤ 8) → G 125 k = E 125 k) → (G 125 0 = 0 ∧ G 125 1 = 0) → AT g κ K2 z 0 0 46 [(0, mR 125), (2, mI ((m : Nat) : Int))] [] (ov G) := by
          intro f46
          induction f46 with
          | zero => intro G k m hf46; omega
          | succ f46 ih46 =>
          intro G k m hf46 hk hm hP_G hD_G hr_G hx_G hz_G
          refine at_aload_n 47 X rfl rfl dX12_book_46 rfl ?_
          refine m_getIV 50 X ((rdB B n P k).1.2.2.1) (rfk hP_G) f_X12_168 k_125 rn_125_5 dX12_book_47 rfl ?_
          refine at_if_ne 53 156 X dX12_book_50 rfl (by decide) (fun h50 => ?_) (fun h50 => ?_)
          · have hend : rdB B n P k = rdB B n P 9 := by have := rdB_stay (B := B) (n := n) (P := P) (k := k) (fun q => h50 q.1) (9 - k); rw [show k + (9 - k) = 9 by omega] at this; exact this.symm
            refine at_aload_n 157 X rfl rfl dX12_book_156 rfl ?_
            refine at_aload_n 158 X rfl rfl dX12_book_157 rfl ?_
            refine m_getIV 161 X ((rdB B n P k).1.2.2.2) (rfp hP_G) f_X12_171 k_125 rn_125_6 dX12_book_158 rfl ?_
            refine m_putI 164 X f_X12_9 fw_12_3 k_125 rn_125_3 dX12_book_161 rfl ?_
            refine at_aload_n 165 X rfl rfl dX12_book_164 rfl ?_
            refine m_getIV 168 X ((rdB B n P k).1.2.2.1) ((wr_o (by omega)).trans (rfk hP_G)) f_X12_168 k_125 rn_125_5 dX12_book_165 rfl ?_
            refine at_if_eq 171 179 X dX12_book_168 rfl (by decide) (fun h168 => ?_) (fun h168 => ?_)
            · exact absurd h168 h50
            · have hl0 : ¬ (rdB B n P k).1.2.2.1 = 0 := h168
              have hfk : 0 ≤ (rdB B n P k).1.2.2.1 ∧ (rdB B n P k).1.2.2.1 ≤ 4 := FK_rdB B n P k
              refine at_aload_n 172 X rfl rfl dX12_book_171 rfl ?_
              refine m_getIV 175 X ((rdB B n P k).1.2.2.1) ((wr_o (by omega)).trans (rfk hP_G)) f_X12_168 k_125 rn_125_5 dX12_book_172 rfl ?_
              refine at_bipush 177 X (by decide) (by decide) dX12_book_175 rfl ?_
              refine at_isubV 178 X (((rdB B n P k).1.2.2.1) - 10) (w32_v rfl (by omega) (by omega)) dX12_book_177 rfl ?_
              refine at_iret X Rt ?_ (Nat.le_refl _) (Nat.le_refl _) dX12_book_178
              refine Or.inl ⟨hc0, Or.inl ?_⟩
              rw [Int.toNat_natCast, ← hB, ← hend]
              exact ⟨hl0, rfl, _, rfl, hI_E.fr2 hWf (fun q hq => by rw [wr_row (by omega)]; exact hr_G q (by omega)) (fun k hk => by rw [wr_o (by omega)]; exact hx_G k (by omega)), by rw [wr_o (by omega)]; exact hx_G 46 (by omega), by rw [wr_o (by omega)]; exact hx_G 47 (by omega), by rw [wr_o (by omega)]; exact hz_G.1, by rw [wr_o (by omega)]; exact hz_G.2, wr_s _ _ _ _, fun q hq => by rw [wr_row (by omega)]; exact hr_G q (by omega)⟩
          · have h0 : (rdB B n P k).1.2.2.1 = 0 := by first | exact h50 | exact Decidable.byContradiction h50
            refine at_aload_n 54 X rfl rfl dX12_book_53 rfl ?_
            refine m_getIV 57 X ((sk B n (rdB B n P k).1.1 : Nat) : Int) (hD_G h0).2.1 f_X12_161 k_125 rn_125_4 dX12_book_54 rfl ?_
            refine at_aload_n 58 X rfl rfl dX12_book_57 rfl ?_
            refine m_getIV 61 X ((n : Nat) : Int) (rsz hP_G) f_X12_158 k_125 rn_125_2 dX12_book_58 rfl ?_
            refine at_icmp_ge 64 156 X dX12_book_61 rfl (by decide) (fun h61 => ?_) (fun h61 => ?_)
            · have hend : rdB B n P k = rdB B n P 9 := by have := rdB_stay (B := B) (n := n) (P := P) (k := k) (fun q => by have := q.2; omega) (9 - k); rw [show k + (9 - k) = 9 by omega] at this; exact this.symm
              refine at_aload_n 157 X rfl rfl dX12_book_156 rfl ?_
              refine at_aload_n 158 X rfl rfl dX12_book_157 rfl ?_
              refine m_getIV 161 X ((rdB B n P k).1.2.2.2) (rfp hP_G) f_X12_171 k_125 rn_125_6 dX12_book_158 rfl ?_
              refine m_putI 164 X f_X12_9 fw_12_3 k_125 rn_125_3 dX12_book_161 rfl ?_
              refine at_aload_n 165 X rfl rfl dX12_book_164 rfl ?_
              refine m_getIV 168 X ((rdB B n P k).1.2.2.1) ((wr_o (by omega)).trans (rfk hP_G)) f_X12_168 k_125 rn_125_5 dX12_book_165 rfl ?_
              refine at_if_eq 171 179 X dX12_book_168 rfl (by decide) (fun h168 => ?_) (fun h168 => ?_)
              · have hl0 : (rdB B n P k).1.2.2.1 = 0 := by first | exact h168 | exact Decidable.byContradiction h168
                obtain ⟨hmT, hat_G, hold⟩ := hD_G hl0
                have hWk := (rdB_n B n P k hl0).1
                refine at_aload_n 180 X rfl rfl dX12_book_179 rfl ?_
                refine at_iload_n 181 X rfl rfl dX12_book_180 rfl ?_
                refine m_putI 184 X f_X12_264 fw_12_44 k_125 rn_125_44 dX12_book_181 rfl ?_
                refine at_aload_n 185 X rfl rfl dX12_book_184 rfl ?_
                refine m_getR 188 X f_X12_101 k_125 r_125_40 dX12_book_185 rfl ?_
                refine at_aload_n 189 X rfl rfl dX12_book_188 rfl ?_
                refine m_getR 192 X f_X12_98 k_125 r_125_39 dX12_book_189 rfl ?_
                refine at_iload_n 193 X rfl rfl dX12_book_192 rfl ?_
                refine at_callS 196 X (ct_X12_copies hG (wr (wr G 125 3 ((rdB B n P k).1.2.2.2)) 125 44 ((m : Nat) : Int)) 623 614 8 8 2 m (by have h := grd_623 (i := 814) (by decide); rw [KT_all] at h; exact h) (by have h := grd_614 (i := 814) (by decide); rw [KT_all] at h; exact h) (by omega) (by omega) (by omega)) mo_X12_copies w_1742 so_X12_copies rfl rfl (crm Rt (by decide)) (Nat.le_of_ble_eq_true rfl) dX12_book_193 rfl ?_
                rintro _ _ ⟨rfl, rfl⟩
                have hH : (∀ i, i < m → ∀ j, j < 2 → cpR (wr (wr G 125 3 ((rdB B n P k).1.2.2.2)) 125 44 ((m : Nat) : Int)) 623 614 2 m 0 (615 + i) j = G (624 + i) j) ∧ (∀ q, ¬ (q = 125 ∨ (615 ≤ q ∧ q ≤ 622)) → cpR (wr (wr G 125 3 ((rdB B n P k).1.2.2.2)) 125 44 ((m : Nat) : Int)) 623 614 2 m 0 q = G q) ∧ (∀ j, ¬ (j = 3 ∨ j = 44) → cpR (wr (wr G 125 3 ((rdB B n P k).1.2.2.2)) 125 44 ((m : Nat) : Int)) 623 614 2 m 0 125 j = G 125 j) ∧ cpR (wr (wr G 125 3 ((rdB B n P k).1.2.2.2)) 125 44 ((m : Nat) : Int)) 623 614 2 m 0 125 3 = (rdB B n P k).1.2.2.2 ∧ cpR (wr (wr G 125 3 ((rdB B n P k).1.2.2.2)) 125 44 ((m : Nat) : Int)) 623 614 2 m 0 125 44 = (m : Int) := by
                  refine ⟨fun i hi j hj => ?_, fun q hq => ?_, fun j hj => ?_, ?_, ?_⟩
                  · rw [cpR_i (p := i) (by omega) hi hj]; simp (disch := omega) only [wr_o]
                  · funext j; rw [cpR_o (by omega)]; simp (disch := omega) only [wr_o]
                  · rw [cpR_o (by omega)]; simp (disch := omega) only [wr_o]
                  · rw [cpR_o (by omega)]; simp (disch := omega) only [wr_o, wr_s]
                  · rw [cpR_o (by omega), wr_s]
                generalize cpR (wr (wr G 125 3 ((rdB B n P k).1.2.2.2)) 125 44 ((m : Nat) : Int)) 623 614 2 m 0 = H at hH ⊢
                refine at_iload_n 197 X rfl rfl dX12_book_196 rfl ?_
                refine at_iret X Rt ?_ (Nat.le_refl _) (Nat.le_refl _) dX12_book_197
                refine Or.inl ⟨hc0, Or.inr ?_⟩
                rw [Int.toNat_natCast, ← hB, ← hend]
                have hqE : ∀ q, ¬ (q = 125 ∨ (615 ≤ q ∧ q ≤ 622) ∨ (624 ≤ q ∧ q ≤ 631)) → H q = E q := fun q hq => (hH.2.1 q (by omega)).trans (hr_G q (by omega))
                have hsE : ∀ k, ¬ (k ≤ 8 ∨ k = 44) → H 125 k = E 125 k := fun k hk => (hH.2.2.1 k (by omega)).trans (hx_G k (by omega))
                have hTW := hWf.2.2.2.1.1
                have hKW := hWf.2.2.2.2.1.1
                have hLW := hWf.2.2.1.2.1
                exact ⟨hl0, by rw [hmT], H, rfl, ⟨hI_E.1.fr (fun q hq => hqE q (by omega)) hWf.1, hI_E.2.1.fr hLW (hsE 28 (by omega)) (fun q a b => hqE q (by omega)), hI_E.2.2.1.fr (hsE 30 (by omega)) (hqE 578 (by omega)) (hqE 579 (by omega)), ⟨(hsE 43 (by omega)).trans hI_E.2.2.2.1.1, fun i2 hi2 => by rw [hqE (581 + i2) (by omega)]; exact hI_E.2.2.2.1.2 i2 hi2⟩, ⟨(hH.2.2.2.2).trans (by rw [hmT]), fun i hi => by rw [hH.1 i (by omega) 0 (by decide), hH.1 i (by omega) 1 (by decide)]; exact hold i (by omega)⟩, (hsE 45 (by omega)).trans hI_E.2.2.2.2.2⟩, hsE 46 (by omega), hsE 47 (by omega), (hH.2.2.1 0 (by omega)).trans hz_G.1, (hH.2.2.1 1 (by omega)).trans hz_G.2, hH.2.2.2.1, fun q hq => hqE q (by omega)⟩
              · have hl0 : ¬ (rdB B n P k).1.2.2.1 = 0 := h168
                have hfk : 0 ≤ (rdB B n P k).1.2.2.1 ∧ (rdB B n P k).1.2.2.1 ≤ 4 := FK_rdB B n P k
                refine at_aload_n 172 X rfl rfl dX12_book_171 rfl ?_
                refine m_getIV 175 X ((rdB B n P k).1.2.2.1) ((wr_o (by omega)).trans (rfk hP_G)) f_X12_168 k_125 rn_125_5 dX12_book_172 rfl ?_
                refine at_bipush 177 X (by decide) (by decide) dX12_book_175 rfl ?_
                refine at_isubV 178 X (((rdB B n P k).1.2.2.1) - 10) (w32_v rfl (by omega) (by omega)) dX12_book_177 rfl ?_
                refine at_iret X Rt ?_ (Nat.le_refl _) (Nat.le_refl _) dX12_book_178
                refine Or.inl ⟨hc0, Or.inl ?_⟩
                rw [Int.toNat_natCast, ← hB, ← hend]
                exact ⟨hl0, rfl, _, rfl, hI_E.fr2 hWf (fun q hq => by rw [wr_row (by omega)]; exact hr_G q (by omega)) (fun k hk => by rw [wr_o (by omega)]; exact hx_G k (by omega)), by rw [wr_o (by omega)]; exact hx_G 46 (by omega), by rw [wr_o (by omega)]; exact hx_G 47 (by omega), by rw [wr_o (by omega)]; exact hz_G.1, by rw [wr_o (by omega)]; exact hz_G.2, wr_s _ _ _ _, fun q hq => by rw [wr_row (by omega)]; exact hr_G q (by omega)⟩
            · have hlt : sk B n (rdB B n P k).1.1 < n := by omega
              have hgo : goB B n (rdB B n P k).1 := ⟨h0, hlt⟩
              obtain ⟨hmT, hat_G, hold⟩ := hD_G h0
              obtain ⟨t, ht⟩ : ∃ t, t = goT B n (rdB B n P k).1 := ⟨_, rfl⟩
              obtain ⟨T, hTe⟩ : ∃ T, T = (rdB B n P k).2 := ⟨_, rfl⟩
              have hP_t : RTp G B n t := by rw [ht]; exact hP_G.go
              have ht0 : t.2.2.1 = 0 := by rw [ht, go_fk]; exact h0
              have hskt : sk B n t.1 = sk B n (rdB B n P k).1.1 := by rw [ht]; exact goT_1 h0
              rw [← hTe] at hmT hold
              have hkm : k ≤ 8 := by
                by_cases c : k = 9
                · exact absurd hgo (rdB_end B n P k c)
                · omega
              have hstp' : rdB B n P (k + 1) = bkL B n P (t, T) := by rw [ht, hTe]; exact if_pos hgo
              have hq_G : ∀ q, q ≠ 125 → G q = G q := fun _ _ => rfl
              have hs_G : ∀ j, ¬ (4 ≤ j ∧ j ≤ 6) → G 125 j = G 125 j := fun _ _ => rfl
              have hto : RTS G P Q := hI_E.1.fr (fun q hq => hr_G q (by omega)) hP
              have hP_G := hP_t
              refine at_aload_n 65 X rfl rfl dX12_book_64 rfl ?_
              refine m_getIV 68 X ((sk B n (rdB B n P k).1.1 : Nat) : Int) (hD_G h0).2.1 f_X12_161 k_125 rn_125_4 dX12_book_65 rfl ?_
              refine at_istore_n 69 X rfl dX12_book_68 rfl (by decide) ?_
              refine at_aload_n 70 X rfl rfl dX12_book_69 rfl ?_
              refine at_iconst 71 X (by decide) dX12_book_70 rfl ?_
              refine at_aload_n 72 X rfl rfl dX12_book_71 rfl ?_
              refine m_getR 75 X f_X12_23 k_125 r_125_12 dX12_book_72 rfl ?_
              refine at_bipush 77 X (by decide) (by decide) dX12_book_75 rfl ?_
              refine m_ialoadV 78 X 6 (by omega) ((bN (sB P) : Nat) : Int) ((congrFun (hq_G 129 (by omega)) 6).trans hto.1.2.2.2.2.2.2.1) k_129 e_129 (by omega) dX12_book_77 rfl ?_
              refine at_iconst 79 X (by decide) dX12_book_78 rfl ?_
              refine at_isubV 80 X (((bN (sB P) : Nat) : Int) - 1) (w32_v rfl (by omega) (by omega)) dX12_book_79 rfl ?_
              refine at_callV 83 X _ 12 (c12_nu hG G B n (t) hP_G 0 (((bN (sB P) : Nat) : Int) - 1) (by omega) (by omega)) clX12 rfl k_125 mo_X12_number w_2010 vo_X12_number.1 vo_X12_number.2 rfl rfl (crm Rt (by decide)) (Nat.le_of_ble_eq_true rfl) dX12_book_80 rfl ?_
              rintro _ _ ⟨rfl, N1, rfl, hP_N1, hf_N1⟩
              have hq_N1 : ∀ q, q ≠ 125 → N1 q = G q := fun q h => (hf_N1.1 q h).trans (hq_G q h)
              have hs_N1 : ∀ j, ¬ (4 ≤ j ∧ j ≤ 6) → N1 125 j = G 125 j := fun j h => (hf_N1.2 j h).trans (hs_G j h)
              have := nuR_in (B := B) (n := n) (t := t) (lo := 0) (hi := (((bN (sB P) : Nat) : Int) - 1)) (by omega)
              refine at_istore 85 X dX12_book_83 rfl (by decide) ?_
              have J104 : ∀ (N3 : Mm), (RTp N3 B n (bk2 B n P T t)) → (∀ q, q ≠ 125 → N3 q = G q) → (∀ j, ¬ (4 ≤ j ∧ j ≤ 6) → N3 125 j = G 125 j) → AT g κ K2 z 0 0 104 [(0, mR 125), (2, mI ((m : Nat) : Int)), (4, mI ((nuR B n (t) 0 (((bN (sB P) : Nat) : Int) - 1) : Nat) : Int))] [] (ov N3) := by
                intro N3 hP_N3 hq_N3 hs_N3
                refine at_aload_n 105 X rfl rfl dX12_book_104 rfl ?_
                refine at_iconst 106 X (by decide) dX12_book_105 rfl ?_
                refine at_bipush 108 X (by decide) (by decide) dX12_book_106 rfl ?_
                refine at_callV 111 X _ 12 (c12_nu hG N3 B n (bk2 B n P T t) hP_N3 0 24 (by omega) (by omega)) clX12 rfl k_125 mo_X12_number w_2010 vo_X12_number.1 vo_X12_number.2 rfl rfl (crm Rt (by decide)) (Nat.le_of_ble_eq_true rfl) dX12_book_108 rfl ?_
                rintro _ _ ⟨rfl, N4, rfl, hP_N4, hf_N4⟩
                have hq_N4 : ∀ q, q ≠ 125 → N4 q = G q := fun q h => (hf_N4.1 q h).trans (hq_N3 q h)
                have hs_N4 : ∀ j, ¬ (4 ≤ j ∧ j ≤ 6) → N4 125 j = G 125 j := fun j h => (hf_N4.2 j h).trans (hs_N3 j h)
                have := nuR_in (B := B) (n := n) (t := bk2 B n P T t) (lo := 0) (hi := 24) (by omega)
                refine at_istore 113 X dX12_book_111 rfl (by decide) ?_
                refine at_aload_n 114 X rfl rfl dX12_book_113 rfl ?_
                refine at_bipush 116 X (by decide) (by decide) dX12_book_114 rfl ?_
                refine at_callV 119 X _ 12 (c12_sign hG N4 B n (nuT B n (bk2 B n P T t) 0 24) hP_N4 59 (by decide)) clX12 rfl k_125 mo_X12_sign w_2034 vo_X12_sign.1 vo_X12_sign.2 rfl rfl (crm Rt (by decide)) (Nat.le_of_ble_eq_true rfl) dX12_book_116 rfl ?_
                rintro _ _ ⟨rfl, N6, rfl, hP_N6, hf_N6⟩
                have hq_N6 : ∀ q, q ≠ 125 → N6 q = G q := fun q h => (hf_N6.1 q h).trans (hq_N4 q h)
                have hs_N6 : ∀ j, ¬ (4 ≤ j ∧ j ≤ 6) → N6 125 j = G 125 j := fun j h => (hf_N6.2 j h).trans (hs_N4 j h)
                refine at_aload_n 120 X rfl rfl dX12_book_119 rfl ?_
                refine m_getIV 123 X ((tsT B n (nuT B n (bk2 B n P T t) 0 24) 59).2.2.1) (rfk hP_N6) f_X12_168 k_125 rn_125_5 dX12_book_120 rfl ?_
                refine at_if_ne 126 149 X dX12_book_123 rfl (by decide) (fun h123 => ?_) (fun h123 => ?_)
                · have e5 : tsT B n (nuT B n (bk2 B n P T t) 0 24) 59 = bk4 B n P T t := by
                    rfl
                  have e5f := congrArg (fun x : TS => x.2.2.1) e5
                  have hb5 : ¬ (bk4 B n P T t).2.2.1 = 0 := by rw [← e5]; exact h123
                  have hstp : rdB B n P (k + 1) = (tsT B n (nuT B n (bk2 B n P T t) 0 24) 59, T) := by
                    rw [hstp', e5]
                    exact congrArg (fun x : LN => ((bk4 B n P T t), x)) (if_neg hb5)
                  have hb5 : ¬ ((tsT B n (nuT B n (bk2 B n P T t) 0 24) 59, T) : Lns).1.2.2.1 = 0 := by show ¬ (tsT B n (nuT B n (bk2 B n P T t) 0 24) 59).2.2.1 = 0; rw [e5]; exact hb5
                  refine at_aload_n 150 X rfl rfl dX12_book_149 rfl ?_
                  refine at_callV 153 X _ 12 (c12_bl hG (N6) B n (tsT B n (nuT B n (bk2 B n P T t) 0 24) 59) hP_N6) clX12 rfl k_125 mo_X12_blanks w_1968 vo_X12_blanks.1 vo_X12_blanks.2 rfl rfl (crm Rt (by decide)) (Nat.le_of_ble_eq_true rfl) dX12_book_150 rfl ?_
                  rintro _ _ ⟨rfl, N7, rfl, hP_N7, hf_N7, hat_N7⟩
                  refine at_goto 46 X dX12_book_153 (by decide) ?_
                  exact at_sub _ (by exact ⟨rfl, rfl, trivial⟩) (ih46 N7 (k + 1) m (by first | omega | (simp only [] at *; omega)) (by omega) (by omega) (by rw [hstp]; exact hP_N7) (fun q => by rw [hstp] at q; exact absurd q hb5) (fun q hq => by rw [hf_N7.1 q (by omega)]; rw [hq_N6 q (by omega)]; exact hr_G q hq) (fun j hj => by rw [hf_N7.2 j (by omega)]; rw [hs_N6 j (by omega)]; exact hx_G j hj) ⟨by rw [hf_N7.2 0 (by omega)]; rw [hs_N6 0 (by omega)]; exact hz_G.1, by rw [hf_N7.2 1 (by omega)]; rw [hs_N6 1 (by omega)]; exact hz_G.2⟩)
                · have e5 : tsT B n (nuT B n (bk2 B n P T t) 0 24) 59 = bk4 B n P T t := by
                    rfl
                  have e5f := congrArg (fun x : TS => x.2.2.1) e5
                  have hb5 : (bk4 B n P T t).2.2.1 = 0 := by rw [← e5]; first | exact h123 | exact Decidable.byContradiction h123
                  have hok := bk4_ok hb5
                  have hstp : rdB B n P (k + 1) = (tsT B n (nuT B n (bk2 B n P T t) 0 24) 59, addT T (nuV B n t 0 (((bN (sB P) : Nat) : Int) - 1)) (nuV B n (bk2 B n P T t) 0 24) 0) := by
                    rw [hstp', e5]
                    exact congrArg (fun x : LN => ((bk4 B n P T t), x)) (if_pos hb5)
                  have hb5 : ((tsT B n (nuT B n (bk2 B n P T t) 0 24) 59, addT T (nuV B n t 0 (((bN (sB P) : Nat) : Int) - 1)) (nuV B n (bk2 B n P T t) 0 24) 0) : Lns).1.2.2.1 = 0 := by show (tsT B n (nuT B n (bk2 B n P T t) 0 24) 59).2.2.1 = 0; rw [e5]; exact hb5
                  have hx1 := ts_ok (show (tsT B n _ 59).2.2.1 = 0 from hb5)
                  have hz2 := nu_ok hx1.1
                  have hzz : (nuT B n t 0 (((bN (sB P) : Nat) : Int) - 1)).2.2.1 = 0 := (fl_no (k := 3) (by decide) (show (bk2 B n P T t).2.2.1 = 0 from hz2.1)).2
                  have hw0 : ((nuR B n t 0 (((bN (sB P) : Nat) : Int) - 1) : Nat) : Int) = ((nuV B n t 0 (((bN (sB P) : Nat) : Int) - 1) : Nat) : Int) := by rw [show nuR B n t 0 (((bN (sB P) : Nat) : Int) - 1) = _ from nuR_eq hzz]
                  have hw1 : ((nuR B n (bk2 B n P T t) 0 24 : Nat) : Int) = ((nuV B n (bk2 B n P T t) 0 24 : Nat) : Int) := by rw [show nuR B n (bk2 B n P T t) 0 24 = _ from nuR_eq hx1.1]
                  refine at_aload_n 127 X rfl rfl dX12_book_126 rfl ?_
                  refine m_getR 130 X f_X12_101 k_125 r_125_40 dX12_book_127 rfl ?_
                  refine at_iload_n 131 X rfl rfl dX12_book_130 rfl ?_
                  refine m_aaloadV 132 X m (by omega) k_623 (by decide) (by omega) (rr_623 _ (by omega)) dX12_book_131 rfl ?_
                  refine at_iconst 133 X (by decide) dX12_book_132 rfl ?_
                  refine at_iload 135 X rfl dX12_book_133 rfl ?_
                  refine m_iastoreV 136 X 0 (by omega) (kr_623 _ (by omega)) (er_623 _ (by omega)) (by omega) dX12_book_135 rfl ?_
                  refine at_aload_n 137 X rfl rfl dX12_book_136 rfl ?_
                  refine m_getR 140 X f_X12_101 k_125 r_125_40 dX12_book_137 rfl ?_
                  refine at_iload_n 141 X rfl rfl dX12_book_140 rfl ?_
                  refine m_aaloadV 142 X m (by omega) k_623 (by decide) (by omega) (rr_623 _ (by omega)) dX12_book_141 rfl ?_
                  refine at_iconst 143 X (by decide) dX12_book_142 rfl ?_
                  refine at_iload 145 X rfl dX12_book_143 rfl ?_
                  refine m_iastoreV 146 X 1 (by omega) (kr_623 _ (by omega)) (er_623 _ (by omega)) (by omega) dX12_book_145 rfl ?_
                  refine at_iincV 149 X ((m + 1 : Nat) : Int) (w32_v (by omega) (by omega) (by omega)) rfl dX12_book_146 rfl (by decide) ?_
                  refine at_aload_n 150 X rfl rfl dX12_book_149 rfl ?_
                  refine at_callV 153 X _ 12 (c12_bl hG (wr (wr N6 (624 + m) 0 ((nuR B n (t) 0 (((bN (sB P) : Nat) : Int) - 1) : Nat) : Int)) (624 + m) 1 ((nuR B n (bk2 B n P T t) 0 24 : Nat) : Int)) B n (tsT B n (nuT B n (bk2 B n P T t) 0 24) 59) (hP_N6.w (fun k hk => by simp (disch := omega) only [wr_o]) (by simp (disch := omega) only [wr_row]))) clX12 rfl k_125 mo_X12_blanks w_1968 vo_X12_blanks.1 vo_X12_blanks.2 rfl rfl (crm Rt (by decide)) (Nat.le_of_ble_eq_true rfl) dX12_book_150 rfl ?_
                  rintro _ _ ⟨rfl, N7, rfl, hP_N7, hf_N7, hat_N7⟩
                  refine at_goto 46 X dX12_book_153 (by decide) ?_
                  exact at_sub _ (by exact ⟨rfl, rfl, trivial⟩) (ih46 N7 (k + 1) (m + 1) (by first | omega | (simp only [] at *; omega)) (by omega) (by omega) (by rw [hstp]; exact hP_N7) (fun q => by
                      rw [hstp]
                      refine ⟨by show m + 1 = (addT T (nuV B n t 0 (((bN (sB P) : Nat) : Int) - 1)) (nuV B n (bk2 B n P T t) 0 24) 0).1; show m + 1 = T.1 + 1; omega, hat_N7 hb5, fun i hi => ?_⟩
                      by_cases c : i = m
                      · subst c
                        have e : T.1 = i := hmT.symm
                        obtain ⟨a1, a2, a3⟩ := addT_s T (nuV B n t 0 (((bN (sB P) : Nat) : Int) - 1)) (nuV B n (bk2 B n P T t) 0 24) 0
                        rw [e] at a1 a2 a3
                        show _ = (((addT T (nuV B n t 0 (((bN (sB P) : Nat) : Int) - 1)) (nuV B n (bk2 B n P T t) 0 24) 0).2.1 i : Nat) : Int) ∧ _ = (((addT T (nuV B n t 0 (((bN (sB P) : Nat) : Int) - 1)) (nuV B n (bk2 B n P T t) 0 24) 0).2.2.1 i : Nat) : Int)
                        rw [a1, a2]
                        exact ⟨(congrFun (hf_N7.1 (624 + i) (by omega)) 0).trans (by simp (disch := omega) only [wr_o, wr_s]; exact hw0), (congrFun (hf_N7.1 (624 + i) (by omega)) 1).trans (by simp (disch := omega) only [wr_o, wr_s]; exact hw1)⟩
                      · have ho := hold i (by omega)
                        obtain ⟨a1, a2, a3⟩ := addT_a (T := T) (i := i) (a := nuV B n t 0 (((bN (sB P) : Nat) : Int) - 1)) (b := nuV B n (bk2 B n P T t) 0 24) (c := 0) (by omega)
                        show _ = (((addT T (nuV B n t 0 (((bN (sB P) : Nat) : Int) - 1)) (nuV B n (bk2 B n P T t) 0 24) 0).2.1 i : Nat) : Int) ∧ _ = (((addT T (nuV B n t 0 (((bN (sB P) : Nat) : Int) - 1)) (nuV B n (bk2 B n P T t) 0 24) 0).2.2.1 i : Nat) : Int)
                        rw [a1, a2]
                        exact ⟨(congrFun (hf_N7.1 (624 + i) (by omega)) 0).trans (by simp (disch := omega) only [wr_o]; rw [hq_N6 (624 + i) (by omega)]; exact ho.1), (congrFun (hf_N7.1 (624 + i) (by omega)) 1).trans (by simp (disch := omega) only [wr_o]; rw [hq_N6 (624 + i) (by omega)]; exact ho.2)⟩) (fun q hq => by rw [hf_N7.1 q (by omega)]; simp (disch := omega) only [wr_row]; rw [hq_N6 q (by omega)]; exact hr_G q hq) (fun j hj => by rw [hf_N7.2 j (by omega)]; simp (disch := omega) only [wr_o]; rw [hs_N6 j (by omega)]; exact hx_G j hj) ⟨by rw [hf_N7.2 0 (by omega)]; simp (disch := omega) only [wr_o]; rw [hs_N6 0 (by omega)]; exact hz_G.1, by rw [hf_N7.2 1 (by omega)]; simp (disch := omega) only [wr_o]; rw [hs_N6 1 (by omega)]; exact hz_G.2⟩)
              refine at_aload_n 86 X rfl rfl dX12_book_85 rfl ?_
              refine m_getIV 89 X ((nuT B n (t) 0 (((bN (sB P) : Nat) : Int) - 1)).2.2.1) (rfk hP_N1) f_X12_168 k_125 rn_125_5 dX12_book_86 rfl ?_
              refine at_if_ne 92 104 X dX12_book_89 rfl (by decide) (fun h89 => ?_) (fun h89 => ?_)
              · have hz1 : ¬ (nuT B n t 0 (((bN (sB P) : Nat) : Int) - 1)).2.2.1 = 0 := h89
                have he2 : bk2 B n P T t = nuT B n t 0 (((bN (sB P) : Nat) : Int) - 1) := by
                  unfold bk2
                  split
                  · exact flT_id hz1
                  · rfl
                exact at_sub _ (by exact ⟨rfl, rfl, rfl, trivial⟩) (J104 N1 (by rw [he2]; exact hP_N1) hq_N1 hs_N1)
              · have hz1 : (nuT B n t 0 (((bN (sB P) : Nat) : Int) - 1)).2.2.1 = 0 := by first | exact h89 | exact Decidable.byContradiction h89
                refine at_iload_n 93 X rfl rfl dX12_book_92 rfl ?_
                refine at_bipush 95 X (by decide) (by decide) dX12_book_93 rfl ?_
                refine at_icmp_ne 98 104 X dX12_book_95 rfl (by decide) (fun h95 => ?_) (fun h95 => ?_)
                · have he2 : bk2 B n P T t = nuT B n t 0 (((bN (sB P) : Nat) : Int) - 1) := if_neg (by omega)
                  exact at_sub _ (by exact ⟨rfl, rfl, rfl, trivial⟩) (J104 N1 (by rw [he2]; exact hP_N1) hq_N1 hs_N1)
                · have he2 : bk2 B n P T t = flT (nuT B n t 0 (((bN (sB P) : Nat) : Int) - 1)) 3 := if_pos (by omega)
                  refine at_aload_n 99 X rfl rfl dX12_book_98 rfl ?_
                  refine at_iconst 100 X (by decide) dX12_book_99 rfl ?_
                  refine at_iload_n 101 X rfl rfl dX12_book_100 rfl ?_
                  refine at_callV 104 X _ 12 (c12_fl hG N1 B n (nuT B n t 0 (((bN (sB P) : Nat) : Int) - 1)) hP_N1 hz1 3 ((sk B n (rdB B n P k).1.1 : Nat) : Int) (by decide) (flT (nuT B n t 0 (((bN (sB P) : Nat) : Int) - 1)) 3) (by rw [show flT (nuT B n t 0 (((bN (sB P) : Nat) : Int) - 1)) 3 = _ from if_pos hz1, nuT_st ht0, hskt])) clX12 rfl k_125 mo_X12_wrong w_1998 vo_X12_wrong.1 vo_X12_wrong.2 rfl rfl (crm Rt (by decide)) (Nat.le_of_ble_eq_true rfl) dX12_book_101 rfl ?_
                  rintro _ _ ⟨rfl, N2, rfl, hP_N2, hf_N2⟩
                  have hq_N2 : ∀ q, q ≠ 125 → N2 q = G q := fun q h => (hf_N2.1 q h).trans (hq_N1 q h)
                  have hs_N2 : ∀ j, ¬ (4 ≤ j ∧ j ≤ 6) → N2 125 j = G 125 j := fun j h => (hf_N2.2 j h).trans (hs_N1 j h)
                  exact at_sub _ (by exact ⟨rfl, rfl, rfl, trivial⟩) (J104 N2 (by rw [he2]; exact hP_N2) hq_N2 hs_N2)
        exact at_sub _ (by exact ⟨rfl, rfl, trivial⟩) (J46 _ F1 0 0 (Nat.lt_succ_self _) (by first | omega | assumption | rfl) (by first | omega | assumption | rfl) hP_F1 (fun _ => ⟨rfl, hat_F1, fun i hi => absurd hi (Nat.not_lt_zero i)⟩) (fun q hq => (hq_F1 q (by omega)).trans (hq_E0 q (by omega))) (fun k hk => (hs_F1 k (by omega)).trans (hs_E0 k (by omega))) ⟨(hs_F1 0 (by omega)).trans hO_E0.2.2.1, h1_F1⟩)
      · exact absurd h34 (by decide)
    · refine at_iconst 25 X (by decide) dX12_book_24 rfl ?_
      refine at_goto 29 X dX12_book_25 (by decide) ?_
      refine at_iconst 30 X (by decide) dX12_book_29 rfl ?_
      refine at_iconst 31 X (by decide) dX12_book_30 rfl ?_
      refine at_callV 34 X _ 12 (ct_bad1 hG E0 1 2 (by decide) hO_E0.2.2.1 (by decide)) clX12 rfl k_125 mo_X12_bad w_1960 vo_X12_bad.1 vo_X12_bad.2 rfl rfl (crm Rt (by decide)) (Nat.le_of_ble_eq_true rfl) dX12_book_31 rfl ?_
      rintro _ _ ⟨rfl, rfl⟩
      have hb : ¬ (0 ≤ x0 ∧ x0 ≤ 100 ∧ x0 ≤ (sz : Int)) := by omega
      refine at_if_eq 37 39 X dX12_book_34 rfl (by decide) (fun h34 => ?_) (fun h34 => ?_)
      · exact absurd h34 (by decide)
      · refine at_iconst 38 X (by decide) dX12_book_37 rfl ?_
        refine at_iret X Rt ?_ (Nat.le_refl _) (Nat.le_refl _) dX12_book_38
        exact Or.inr (⟨hb, rfl, congrArg ov (badR_of hE0)⟩)
