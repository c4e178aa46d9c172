theorem dX11_fault_0 : decode cX11_fault 0 = .ok (.aload_n 0, 1) := by decide +kernel
theorem dX11_fault_1 : decode cX11_fault 1 = .ok (.getfield 12, 3) := by decide +kernel
theorem dX11_fault_4 : decode cX11_fault 4 = .ok (.getfield 161, 3) := by decide +kernel
theorem dX11_fault_7 : decode cX11_fault 7 = .ok (.ireturn, 1) := by decide +kernel
theorem ct_X11_fault {g : Gw} (hG : GF g) {z : Bool} (E : Mm)  : CT g yX11_fault cX11_fault 1 (some .int) 0 0 0 0 K2 z [mR 0] (ov (E)) K2 z (fun r D' => r = some (mI (E 1 6)) ∧ D' = ov E) := by
  refine CT.mk hG (by decide +kernel) (Nat.le_of_ble_eq_true rfl) (fun κ X Rt _ ok => ?_)
  refine at_aload_n 1 X rfl rfl dX11_fault_0 rfl ?_
  refine m_getR 4 X f_X11_12 k_0 r_0_0 dX11_fault_1 rfl ?_
  refine m_getI 7 X f_X11_161 k_1 rn_1_6 dX11_fault_4 rfl ?_
  refine at_iret X Rt ⟨rfl, rfl⟩ (Nat.le_refl _) (Nat.le_refl _) dX11_fault_7
theorem dX12_fault_0 : decode cX12_fault 0 = .ok (.aload_n 0, 1) := by decide +kernel
theorem dX12_fault_1 : decode cX12_fault 1 = .ok (.iconst 0, 1) := by decide +kernel
theorem dX12_fault_2 : decode cX12_fault 2 = .ok (.putfield 152, 3) := by decide +kernel
theorem dX12_fault_5 : decode cX12_fault 5 = .ok (.aload_n 0, 1) := by decide +kernel
theorem dX12_fault_6 : decode cX12_fault 6 = .ok (.getfield 9, 3) := by decide +kernel
theorem dX12_fault_9 : decode cX12_fault 9 = .ok (.ireturn, 1) := by decide +kernel
theorem ct_X12_fault {g : Gw} (hG : GF g) {z : Bool} (E : Mm)  : CT g yX12_fault cX12_fault 1 (some .int) 0 0 0 0 K2 z [mR 125] (ov (E)) K2 z (fun r D' => r = some (mI (E 125 3)) ∧ D' = ov (wr E 125 0 0)) := by
  refine CT.mk hG (by decide +kernel) (Nat.le_of_ble_eq_true rfl) (fun κ X Rt _ ok => ?_)
  refine at_aload_n 1 X rfl rfl dX12_fault_0 rfl ?_
  refine at_iconst 2 X (by decide) dX12_fault_1 rfl ?_
  refine m_putI 5 X f_X12_152 fw_12_0 k_125 rn_125_0 dX12_fault_2 rfl ?_
  refine at_aload_n 6 X rfl rfl dX12_fault_5 rfl ?_
  refine m_getI 9 X f_X12_9 k_125 rn_125_3 dX12_fault_6 rfl ?_
  rw [wr_o (Or.inr (by decide))]
  refine at_iret X Rt ⟨rfl, rfl⟩ (Nat.le_refl _) (Nat.le_refl _) dX12_fault_9
theorem dX12_in_0 : decode cX12_in 0 = .ok (.iload_n 0, 1) := by decide +kernel
theorem dX12_in_1 : decode cX12_in 1 = .ok (.iload_n 1, 1) := by decide +kernel
theorem dX12_in_2 : decode cX12_in 2 = .ok (.if_icmp .lt 12, 3) := by decide +kernel
theorem dX12_in_5 : decode cX12_in 5 = .ok (.iload_n 0, 1) := by decide +kernel
theorem dX12_in_6 : decode cX12_in 6 = .ok (.iload_n 2, 1) := by decide +kernel
theorem dX12_in_7 : decode cX12_in 7 = .ok (.if_icmp .gt 7, 3) := by decide +kernel
theorem dX12_in_10 : decode cX12_in 10 = .ok (.iconst 1, 1) := by decide +kernel
theorem dX12_in_11 : decode cX12_in 11 = .ok (.goto 4, 3) := by decide +kernel
theorem dX12_in_14 : decode cX12_in 14 = .ok (.iconst 0, 1) := by decide +kernel
theorem dX12_in_15 : decode cX12_in 15 = .ok (.ireturn, 1) := by decide +kernel
theorem ct_X12_in {g : Gw} (hG : GF g) {K : Shp} {z : Bool} {E : Mm} (v lo hi : Int) : CT g yX12_in cX12_in 3 (some .boolean) 0 0 0 0 K z [mI v, mI lo, mI hi] E K z (fun r D' => r = some (mI (if lo ≤ v ∧ v ≤ hi then 1 else 0)) ∧ D' = E) := by
  refine CT.mk hG (by decide +kernel) (Nat.le_of_ble_eq_true rfl) (fun κ X Rt _ ok => ?_)
  refine at_iload_n 1 X rfl rfl dX12_in_0 rfl ?_
  refine at_iload_n 2 X rfl rfl dX12_in_1 rfl ?_
  refine at_icmp_lt 5 14 X dX12_in_2 rfl (by decide) (fun h1 => ?_) (fun h1 => ?_)
  · refine at_iconst 15 X (by decide) dX12_in_14 rfl ?_
    exact at_zret X Rt ⟨by rw [if_neg (by omega)], rfl⟩ (by decide) (Nat.le_refl _) (Nat.le_refl _) dX12_in_15
  · refine at_iload_n 6 X rfl rfl dX12_in_5 rfl ?_
    refine at_iload_n 7 X rfl rfl dX12_in_6 rfl ?_
    refine at_icmp_gt 10 14 X dX12_in_7 rfl (by decide) (fun h2 => ?_) (fun h2 => ?_)
    · refine at_iconst 15 X (by decide) dX12_in_14 rfl ?_
      exact at_zret X Rt ⟨by rw [if_neg (by omega)], rfl⟩ (by decide) (Nat.le_refl _) (Nat.le_refl _) dX12_in_15
    · refine at_iconst 11 X (by decide) dX12_in_10 rfl ?_
      refine at_goto 15 X dX12_in_11 (by decide) ?_
      exact at_zret X Rt ⟨by rw [if_pos (by omega)], rfl⟩ (by decide) (Nat.le_refl _) (Nat.le_refl _) dX12_in_15
theorem dX11_status_0 : decode cX11_status 0 = .ok (.iload_n 1, 1) := by decide +kernel
theorem dX11_status_1 : decode cX11_status 1 = .ok (.ifCond .lt 21, 3) := by decide +kernel
theorem dX11_status_4 : decode cX11_status 4 = .ok (.iload_n 1, 1) := by decide +kernel
theorem dX11_status_5 : decode cX11_status 5 = .ok (.aload_n 0, 1) := by decide +kernel
theorem dX11_status_6 : decode cX11_status 6 = .ok (.getfield 16, 3) := by decide +kernel
theorem dX11_status_9 : decode cX11_status 9 = .ok (.arraylength, 1) := by decide +kernel
theorem dX11_status_10 : decode cX11_status 10 = .ok (.if_icmp .ge 12, 3) := by decide +kernel
theorem dX11_status_13 : decode cX11_status 13 = .ok (.aload_n 0, 1) := by decide +kernel
theorem dX11_status_14 : decode cX11_status 14 = .ok (.getfield 16, 3) := by decide +kernel
theorem dX11_status_17 : decode cX11_status 17 = .ok (.iload_n 1, 1) := by decide +kernel
theorem dX11_status_18 : decode cX11_status 18 = .ok (.iaload, 1) := by decide +kernel
theorem dX11_status_19 : decode cX11_status 19 = .ok (.goto 4, 3) := by decide +kernel
theorem dX11_status_22 : decode cX11_status 22 = .ok (.iconst (-1), 1) := by decide +kernel
theorem dX11_status_23 : decode cX11_status 23 = .ok (.ireturn, 1) := by decide +kernel
theorem ct_X11_status {g : Gw} (hG : GF g) {z : Bool} (E : Mm) (x : Int) : CT g yX11_status cX11_status 2 (some .int) 0 0 0 0 K2 z [mR 0, mI x] (ov (E)) K2 z (fun r D' => r = some (mI (if 0 ≤ x ∧ x ≤ 2 then E 3 x.toNat else -1)) ∧ D' = ov E) := by
  refine CT.mk hG (by decide +kernel) (Nat.le_of_ble_eq_true rfl) (fun κ X Rt _ ok => ?_)
  refine at_iload_n 1 X rfl rfl dX11_status_0 rfl ?_
  refine at_if_lt 4 22 X dX11_status_1 rfl (by decide) (fun h1 => ?_) (fun h1 => ?_)
  · refine at_iconst 23 X (by decide) dX11_status_22 rfl ?_
    refine at_iret X Rt ⟨by first | rw [if_pos (by omega)] | rw [if_neg (by omega)], rfl⟩ (Nat.le_refl _) (Nat.le_refl _) dX11_status_23
  · refine at_iload_n 5 X rfl rfl dX11_status_4 rfl ?_
    refine at_aload_n 6 X rfl rfl dX11_status_5 rfl ?_
    refine m_getR 9 X f_X11_16 k_0 r_0_1 dX11_status_6 rfl ?_
    refine at_alen 10 X _ k_3 (by decide) (by decide) dX11_status_9 rfl ?_
    refine at_icmp_ge 13 22 X dX11_status_10 rfl (by decide) (fun h10 => ?_) (fun h10 => ?_)
    · refine at_iconst 23 X (by decide) dX11_status_22 rfl ?_
      refine at_iret X Rt ⟨by first | rw [if_pos (by omega)] | rw [if_neg (by omega)], rfl⟩ (Nat.le_refl _) (Nat.le_refl _) dX11_status_23
    · refine at_aload_n 14 X rfl rfl dX11_status_13 rfl ?_
      refine m_getR 17 X f_X11_16 k_0 r_0_1 dX11_status_14 rfl ?_
      refine at_iload_n 18 X rfl rfl dX11_status_17 rfl ?_
      refine m_iaload 19 X k_3 e_3 (by omega) (by omega) dX11_status_18 rfl ?_
      refine at_goto 23 X dX11_status_19 (by decide) ?_
      refine at_iret X Rt ⟨by first | rw [if_pos (by omega)] | rw [if_neg (by omega)], rfl⟩ (Nat.le_refl _) (Nat.le_refl _) dX11_status_23
theorem dX12_status_0 : decode cX12_status 0 = .ok (.aload_n 0, 1) := by decide +kernel
theorem dX12_status_1 : decode cX12_status 1 = .ok (.iconst 0, 1) := by decide +kernel
theorem dX12_status_2 : decode cX12_status 2 = .ok (.putfield 152, 3) := by decide +kernel
theorem dX12_status_5 : decode cX12_status 5 = .ok (.iload_n 1, 1) := by decide +kernel
theorem dX12_status_6 : decode cX12_status 6 = .ok (.iconst 0, 1) := by decide +kernel
theorem dX12_status_7 : decode cX12_status 7 = .ok (.iconst 2, 1) := by decide +kernel
theorem dX12_status_8 : decode cX12_status 8 = .ok (.invokestatic 186, 3) := by decide +kernel
theorem dX12_status_11 : decode cX12_status 11 = .ok (.ifCond .eq 12, 3) := by decide +kernel
theorem dX12_status_14 : decode cX12_status 14 = .ok (.aload_n 0, 1) := by decide +kernel
theorem dX12_status_15 : decode cX12_status 15 = .ok (.getfield 17, 3) := by decide +kernel
theorem dX12_status_18 : decode cX12_status 18 = .ok (.iload_n 1, 1) := by decide +kernel
theorem dX12_status_19 : decode cX12_status 19 = .ok (.iaload, 1) := by decide +kernel
theorem dX12_status_20 : decode cX12_status 20 = .ok (.goto 4, 3) := by decide +kernel
theorem dX12_status_23 : decode cX12_status 23 = .ok (.iconst (-1), 1) := by decide +kernel
theorem dX12_status_24 : decode cX12_status 24 = .ok (.ireturn, 1) := by decide +kernel
theorem ct_X12_status {g : Gw} (hG : GF g) {z : Bool} (E : Mm) (x : Int) : CT g yX12_status cX12_status 2 (some .int) 1 22 0 0 K2 z [mR 125, mI x] (ov (E)) K2 z (fun r D' => r = some (mI (if 0 ≤ x ∧ x ≤ 2 then E 127 x.toNat else -1)) ∧ D' = ov (wr E 125 0 0)) := by
  refine CT.mk hG (by decide +kernel) (Nat.le_of_ble_eq_true rfl) (fun κ X Rt _ ok => ?_)
  refine at_aload_n 1 X rfl rfl dX12_status_0 rfl ?_
  refine at_iconst 2 X (by decide) dX12_status_1 rfl ?_
  refine m_putI 5 X f_X12_152 fw_12_0 k_125 rn_125_0 dX12_status_2 rfl ?_
  refine at_iload_n 6 X rfl rfl dX12_status_5 rfl ?_
  refine at_iconst 7 X (by decide) dX12_status_6 rfl ?_
  refine at_iconst 8 X (by decide) dX12_status_7 rfl ?_
  refine at_callS 11 X (ct_X12_in hG _ _ _) mo_X12_in w_1957 so_X12_in rfl rfl (crm Rt (by decide)) (Nat.le_of_ble_eq_true rfl) dX12_status_8 rfl ?_
  rintro _ _ ⟨rfl, rfl⟩
  refine at_if_eq 14 23 X dX12_status_11 rfl (by decide) (fun h11 => ?_) (fun h11 => ?_)
  · have h11 := ite_no.mp h11
    refine at_iconst 24 X (by decide) dX12_status_23 rfl ?_
    refine at_iret X Rt ⟨by first | rw [if_pos (by omega)] | rw [if_neg (by omega)], rfl⟩ (Nat.le_refl _) (Nat.le_refl _) dX12_status_24
  · have h11 := ite_yes.mp h11
    refine at_aload_n 15 X rfl rfl dX12_status_14 rfl ?_
    refine m_getR 18 X f_X12_17 k_125 r_125_10 dX12_status_15 rfl ?_
    refine at_iload_n 19 X rfl rfl dX12_status_18 rfl ?_
    refine m_iaload 20 X k_127 e_127 (by omega) (by omega) dX12_status_19 rfl ?_
    rw [wr_o (Or.inl (by decide))]
    refine at_goto 24 X dX12_status_20 (by decide) ?_
    refine at_iret X Rt ⟨by first | rw [if_pos (by omega)] | rw [if_neg (by omega)], rfl⟩ (Nat.le_refl _) (Nat.le_refl _) dX12_status_24
theorem dX11_count_0 : decode cX11_count 0 = .ok (.iload_n 1, 1) := by decide +kernel
theorem dX11_count_1 : decode cX11_count 1 = .ok (.tableswitch 48 0 2 #[27, 32, 40], 27) := by decide +kernel
theorem dX11_count_28 : decode cX11_count 28 = .ok (.aload_n 0, 1) := by decide +kernel
theorem dX11_count_29 : decode cX11_count 29 = .ok (.getfield 178, 3) := by decide +kernel
theorem dX11_count_32 : decode cX11_count 32 = .ok (.ireturn, 1) := by decide +kernel
theorem dX11_count_33 : decode cX11_count 33 = .ok (.aload_n 0, 1) := by decide +kernel
theorem dX11_count_34 : decode cX11_count 34 = .ok (.getfield 12, 3) := by decide +kernel
theorem dX11_count_37 : decode cX11_count 37 = .ok (.getfield 113, 3) := by decide +kernel
theorem dX11_count_40 : decode cX11_count 40 = .ok (.ireturn, 1) := by decide +kernel
theorem dX11_count_41 : decode cX11_count 41 = .ok (.aload_n 0, 1) := by decide +kernel
theorem dX11_count_42 : decode cX11_count 42 = .ok (.getfield 46, 3) := by decide +kernel
theorem dX11_count_45 : decode cX11_count 45 = .ok (.getfield 177, 3) := by decide +kernel
theorem dX11_count_48 : decode cX11_count 48 = .ok (.ireturn, 1) := by decide +kernel
theorem dX11_count_49 : decode cX11_count 49 = .ok (.iconst (-1), 1) := by decide +kernel
theorem dX11_count_50 : decode cX11_count 50 = .ok (.ireturn, 1) := by decide +kernel
theorem ct_X11_count {g : Gw} (hG : GF g) {z : Bool} (E : Mm) (x : Int) : CT g yX11_count cX11_count 2 (some .int) 0 0 0 0 K2 z [mR 0, mI x] (ov (E)) K2 z (fun r D' => r = some (mI (if x = 0 then E 0 18 else if x = 1 then E 1 1 else if x = 2 then E 24 4 else -1)) ∧ D' = ov E) := by
  refine CT.mk hG (by decide +kernel) (Nat.le_of_ble_eq_true rfl) (fun κ X Rt _ ok => ?_)
  refine at_iload_n 1 X rfl rfl dX11_count_0 rfl ?_
  rcases (show x = 0 ∨ x = 1 ∨ x = 2 ∨ (x < 0 ∨ 2 < x) by omega) with h1 | h1 | h1 | h1
  · refine at_tswIn 28 X dX11_count_1 (by omega) (by rw [h1]; rfl) (by decide) ?_
    refine at_aload_n 29 X rfl rfl dX11_count_28 rfl ?_
    refine m_getI 32 X f_X11_178 k_0 rn_0_18 dX11_count_29 rfl ?_
    refine at_iret X Rt ⟨by subst_vars; repeat (first | rfl | rw [if_pos (by omega)] | rw [if_neg (by omega)]), rfl⟩ (Nat.le_refl _) (Nat.le_refl _) dX11_count_32
  · refine at_tswIn 33 X dX11_count_1 (by omega) (by rw [h1]; rfl) (by decide) ?_
    refine at_aload_n 34 X rfl rfl dX11_count_33 rfl ?_
    refine m_getR 37 X f_X11_12 k_0 r_0_0 dX11_count_34 rfl ?_
    refine m_getI 40 X f_X11_113 k_1 rn_1_1 dX11_count_37 rfl ?_
    refine at_iret X Rt ⟨by subst_vars; repeat (first | rfl | rw [if_pos (by omega)] | rw [if_neg (by omega)]), rfl⟩ (Nat.le_refl _) (Nat.le_refl _) dX11_count_40
  · refine at_tswIn 41 X dX11_count_1 (by omega) (by rw [h1]; rfl) (by decide) ?_
    refine at_aload_n 42 X rfl rfl dX11_count_41 rfl ?_
    refine m_getR 45 X f_X11_46 k_0 r_0_7 dX11_count_42 rfl ?_
    refine m_getI 48 X f_X11_177 k_24 rn_24_4 dX11_count_45 rfl ?_
    refine at_iret X Rt ⟨by subst_vars; repeat (first | rfl | rw [if_pos (by omega)] | rw [if_neg (by omega)]), rfl⟩ (Nat.le_refl _) (Nat.le_refl _) dX11_count_48
  · refine at_tswOut 49 X dX11_count_1 h1 (by decide) ?_
    refine at_iconst 50 X (by decide) dX11_count_49 rfl ?_
    refine at_iret X Rt ⟨by subst_vars; repeat (first | rfl | rw [if_pos (by omega)] | rw [if_neg (by omega)]), rfl⟩ (Nat.le_refl _) (Nat.le_refl _) dX11_count_50
theorem dX12_count_0 : decode cX12_count 0 = .ok (.aload_n 0, 1) := by decide +kernel
theorem dX12_count_1 : decode cX12_count 1 = .ok (.iconst 0, 1) := by decide +kernel
theorem dX12_count_2 : decode cX12_count 2 = .ok (.putfield 152, 3) := by decide +kernel
theorem dX12_count_5 : decode cX12_count 5 = .ok (.iload_n 1, 1) := by decide +kernel
theorem dX12_count_6 : decode cX12_count 6 = .ok (.ifCond .ne 10, 3) := by decide +kernel
theorem dX12_count_9 : decode cX12_count 9 = .ok (.aload_n 0, 1) := by decide +kernel
theorem dX12_count_10 : decode cX12_count 10 = .ok (.getfield 273, 3) := by decide +kernel
theorem dX12_count_13 : decode cX12_count 13 = .ok (.goto 28, 3) := by decide +kernel
theorem dX12_count_16 : decode cX12_count 16 = .ok (.iload_n 1, 1) := by decide +kernel
theorem dX12_count_17 : decode cX12_count 17 = .ok (.iconst 1, 1) := by decide +kernel
theorem dX12_count_18 : decode cX12_count 18 = .ok (.if_icmp .ne 10, 3) := by decide +kernel
theorem dX12_count_21 : decode cX12_count 21 = .ok (.aload_n 0, 1) := by decide +kernel
theorem dX12_count_22 : decode cX12_count 22 = .ok (.getfield 155, 3) := by decide +kernel
theorem dX12_count_25 : decode cX12_count 25 = .ok (.goto 16, 3) := by decide +kernel
theorem dX12_count_28 : decode cX12_count 28 = .ok (.iload_n 1, 1) := by decide +kernel
theorem dX12_count_29 : decode cX12_count 29 = .ok (.iconst 2, 1) := by decide +kernel
theorem dX12_count_30 : decode cX12_count 30 = .ok (.if_icmp .ne 10, 3) := by decide +kernel
theorem dX12_count_33 : decode cX12_count 33 = .ok (.aload_n 0, 1) := by decide +kernel
theorem dX12_count_34 : decode cX12_count 34 = .ok (.getfield 270, 3) := by decide +kernel
theorem dX12_count_37 : decode cX12_count 37 = .ok (.goto 4, 3) := by decide +kernel
theorem dX12_count_40 : decode cX12_count 40 = .ok (.iconst (-1), 1) := by decide +kernel
theorem dX12_count_41 : decode cX12_count 41 = .ok (.ireturn, 1) := by decide +kernel
theorem ct_X12_count {g : Gw} (hG : GF g) {z : Bool} (E : Mm) (x : Int) : CT g yX12_count cX12_count 2 (some .int) 0 0 0 0 K2 z [mR 125, mI x] (ov (E)) K2 z (fun r D' => r = some (mI (if x = 0 then E 125 47 else if x = 1 then E 125 1 else if x = 2 then E 125 46 else -1)) ∧ D' = ov (wr E 125 0 0)) := by
  refine CT.mk hG (by decide +kernel) (Nat.le_of_ble_eq_true rfl) (fun κ X Rt _ ok => ?_)
  refine at_aload_n 1 X rfl rfl dX12_count_0 rfl ?_
  refine at_iconst 2 X (by decide) dX12_count_1 rfl ?_
  refine m_putI 5 X f_X12_152 fw_12_0 k_125 rn_125_0 dX12_count_2 rfl ?_
  refine at_iload_n 6 X rfl rfl dX12_count_5 rfl ?_
  refine at_if_ne 9 16 X dX12_count_6 rfl (by decide) (fun h6 => ?_) (fun h6 => ?_)
  · refine at_iload_n 17 X rfl rfl dX12_count_16 rfl ?_
    refine at_iconst 18 X (by decide) dX12_count_17 rfl ?_
    refine at_icmp_ne 21 28 X dX12_count_18 rfl (by decide) (fun h18 => ?_) (fun h18 => ?_)
    · refine at_iload_n 29 X rfl rfl dX12_count_28 rfl ?_
      refine at_iconst 30 X (by decide) dX12_count_29 rfl ?_
      refine at_icmp_ne 33 40 X dX12_count_30 rfl (by decide) (fun h30 => ?_) (fun h30 => ?_)
      · refine at_iconst 41 X (by decide) dX12_count_40 rfl ?_
        refine at_iret X Rt ⟨by repeat (first | rfl | rw [if_pos (by omega)] | rw [if_neg (by omega)]), rfl⟩ (Nat.le_refl _) (Nat.le_refl _) dX12_count_41
      · refine at_aload_n 34 X rfl rfl dX12_count_33 rfl ?_
        refine m_getI 37 X f_X12_270 k_125 rn_125_46 dX12_count_34 rfl ?_
        rw [wr_o (Or.inr (by decide))]
        refine at_goto 41 X dX12_count_37 (by decide) ?_
        refine at_iret X Rt ⟨by repeat (first | rfl | rw [if_pos (by omega)] | rw [if_neg (by omega)]), rfl⟩ (Nat.le_refl _) (Nat.le_refl _) dX12_count_41
    · refine at_aload_n 22 X rfl rfl dX12_count_21 rfl ?_
      refine m_getI 25 X f_X12_155 k_125 rn_125_1 dX12_count_22 rfl ?_
      rw [wr_o (Or.inr (by decide))]
      refine at_goto 41 X dX12_count_25 (by decide) ?_
      refine at_iret X Rt ⟨by repeat (first | rfl | rw [if_pos (by omega)] | rw [if_neg (by omega)]), rfl⟩ (Nat.le_refl _) (Nat.le_refl _) dX12_count_41
  · refine at_aload_n 10 X rfl rfl dX12_count_9 rfl ?_
    refine m_getI 13 X f_X12_273 k_125 rn_125_47 dX12_count_10 rfl ?_
    rw [wr_o (Or.inr (by decide))]
    refine at_goto 41 X dX12_count_13 (by decide) ?_
    refine at_iret X Rt ⟨by repeat (first | rfl | rw [if_pos (by omega)] | rw [if_neg (by omega)]), rfl⟩ (Nat.le_refl _) (Nat.le_refl _) dX12_count_41
/-- a refusal, as the reference notes it -/
def badE (E : Mm) (is w : Int) (k : Nat) : Mm := if ¬ is = 0 ∧ E 125 0 = 0 then wr (wr E 125 0 w) 127 k (w32 (E 127 k + 1)) else E
