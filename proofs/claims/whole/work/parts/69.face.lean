theorem dX11_order_0 : decode cX11_order 0 = .ok (.aload_n 0, 1) := by decide +kernel
theorem dX11_order_1 : decode cX11_order 1 = .ok (.invokevirtual 227, 3) := by decide +kernel
theorem dX11_order_4 : decode cX11_order 4 = .ok (.iload_n 1, 1) := by decide +kernel
theorem dX11_order_5 : decode cX11_order 5 = .ok (.ifCond .lt 26, 3) := by decide +kernel
theorem dX11_order_8 : decode cX11_order 8 = .ok (.iload_n 1, 1) := by decide +kernel
theorem dX11_order_9 : decode cX11_order 9 = .ok (.aload_n 0, 1) := by decide +kernel
theorem dX11_order_10 : decode cX11_order 10 = .ok (.getfield 69, 3) := by decide +kernel
theorem dX11_order_13 : decode cX11_order 13 = .ok (.getfield 287, 3) := by decide +kernel
theorem dX11_order_16 : decode cX11_order 16 = .ok (.if_icmp .ge 15, 3) := by decide +kernel
theorem dX11_order_19 : decode cX11_order 19 = .ok (.aload_n 0, 1) := by decide +kernel
theorem dX11_order_20 : decode cX11_order 20 = .ok (.getfield 69, 3) := by decide +kernel
theorem dX11_order_23 : decode cX11_order 23 = .ok (.getfield 290, 3) := by decide +kernel
theorem dX11_order_26 : decode cX11_order 26 = .ok (.iload_n 1, 1) := by decide +kernel
theorem dX11_order_27 : decode cX11_order 27 = .ok (.iaload, 1) := by decide +kernel
theorem dX11_order_28 : decode cX11_order 28 = .ok (.goto 4, 3) := by decide +kernel
theorem dX11_order_31 : decode cX11_order 31 = .ok (.iconst (-1), 1) := by decide +kernel
theorem dX11_order_32 : decode cX11_order 32 = .ok (.ireturn, 1) := by decide +kernel
theorem ct_X11_order {g : Gw} (hG : GF g) {z : Bool} (E : Mm) (s : Nat) (P : SP) (L : LW) (T K : LN) (d : Nat) (hI_E : CXI E s P L T K d) (x0 : Int) : CT g yX11_order cX11_order 2 (some .int) 6 146 0 0 K2 z [mR 0, mI x0] (ov E) K2 z (fun r' D' => r' = some (mI (if 0 ≤ x0 ∧ x0 < (dN (dyP (gNow P L d) (sB P) T 24) : Int) then (dO (dyP (gNow P L d) (sB P) T 24) x0.toNat : Int) else -1)) ∧ ∃ E1, D' = ov E1 ∧ CXI E1 s P L T K d ∧ CXF E E1) := by
  refine CT.mk hG (by decide +kernel) (Nat.le_of_ble_eq_true rfl) (fun κ X Rt _ ok => ?_)
  have hs := hI_E.sa
  have hP := hI_E.WS
  have hW40 := hP.W
  have hN10 := hP.N
  have hN8 := hP.B.N
  have hX_E : CXF E E := CXF.rf
  have hwG := gNow_WG hI_E
  have hgw : gW (gNow P L d) = sW P := rfl
  have hgn : gN (gNow P L d) = sN P := rfl
  refine at_aload_n 1 X rfl rfl dX11_order_0 rfl ?_
  refine at_callV 4 X _ 11 (ct_X11_refresh hG E s P L T K d hI_E) clX11 rfl k_0 mo_X11_refresh w_665 vo_X11_refresh.1 vo_X11_refresh.2 rfl rfl (crm Rt (by decide)) (Nat.le_of_ble_eq_true rfl) dX11_order_1 rfl ?_
  rintro _ _ ⟨rfl, F1, rfl, hI_F1, hF_F1, hXn_F1⟩
  have hX_F1 := hX_E.tr hXn_F1
  refine at_iload_n 5 X rfl rfl dX11_order_4 rfl ?_
  refine at_if_lt 8 31 X dX11_order_5 rfl (by decide) (fun h5 => ?_) (fun h5 => ?_)
  · refine at_iconst 32 X (by decide) dX11_order_31 rfl ?_
    refine at_iret X Rt ?_ (by decide) (by decide) dX11_order_32
    exact ⟨(by first | rw [if_pos (by omega)] | rw [if_neg (by omega)]), _, rfl, hI_F1, hX_F1⟩
  · refine at_iload_n 9 X rfl rfl dX11_order_8 rfl ?_
    refine at_aload_n 10 X rfl rfl dX11_order_9 rfl ?_
    refine m_getR 13 X f_X11_69 k_0 r_0_11 dX11_order_10 rfl ?_
    refine m_getIV 16 X ((dN (dyP (gNow P L d) (sB P) T 24) : Nat) : Int) hF_F1.2.2.1.2.2.2.1 f_X11_287 k_48 rn_48_5 dX11_order_13 rfl ?_
    have hDI24 := dyP_DI (G := (gNow P L d)) hP.B hI_F1.WT (Nat.le_refl 24)
    refine at_icmp_ge 19 31 X dX11_order_16 rfl (by decide) (fun h16 => ?_) (fun h16 => ?_)
    · refine at_iconst 32 X (by decide) dX11_order_31 rfl ?_
      refine at_iret X Rt ?_ (by decide) (by decide) dX11_order_32
      exact ⟨(by first | rw [if_pos (by omega)] | rw [if_neg (by omega)]), _, rfl, hI_F1, hX_F1⟩
    · refine at_aload_n 20 X rfl rfl dX11_order_19 rfl ?_
      refine m_getR 23 X f_X11_69 k_0 r_0_11 dX11_order_20 rfl ?_
      refine m_getR 26 X f_X11_290 k_48 r_48_2 dX11_order_23 rfl ?_
      refine at_iload_n 27 X rfl rfl dX11_order_26 rfl ?_
      have hDI24 := dyP_DI (G := (gNow P L d)) hP.B hI_F1.WT (Nat.le_refl 24)
      have hdn8 : dN (dyP (gNow P L d) (sB P) T 24) ≤ 8 := by rw [hDI24.2.1]; exact Nat.le_trans (cntp_le _ _) hN8
      refine m_ialoadV 28 X x0.toNat (by omega) ((dO (dyP (gNow P L d) (sB P) T 24) x0.toNat : Nat) : Int) (hF_F1.2.2.1.2.2.1 x0.toNat (by omega)) k_51 e_51 (by omega) dX11_order_27 rfl ?_
      have hDI24 := dyP_DI (G := (gNow P L d)) hP.B hI_F1.WT (Nat.le_refl 24)
      refine at_goto 32 X dX11_order_28 (by decide) ?_
      refine at_iret X Rt ?_ (by decide) (by decide) dX11_order_32
      exact ⟨(by first | rw [if_pos (by omega)] | rw [if_neg (by omega)]), _, rfl, hI_F1, hX_F1⟩
theorem dX11_lasts_0 : decode cX11_lasts 0 = .ok (.aload_n 0, 1) := by decide +kernel
theorem dX11_lasts_1 : decode cX11_lasts 1 = .ok (.iload_n 1, 1) := by decide +kernel
theorem dX11_lasts_2 : decode cX11_lasts 2 = .ok (.invokevirtual 208, 3) := by decide +kernel
theorem dX11_lasts_5 : decode cX11_lasts 5 = .ok (.aload_n 0, 1) := by decide +kernel
theorem dX11_lasts_6 : decode cX11_lasts 6 = .ok (.invokevirtual 227, 3) := by decide +kernel
theorem dX11_lasts_9 : decode cX11_lasts 9 = .ok (.aload_n 0, 1) := by decide +kernel
theorem dX11_lasts_10 : decode cX11_lasts 10 = .ok (.getfield 69, 3) := by decide +kernel
theorem dX11_lasts_13 : decode cX11_lasts 13 = .ok (.getfield 278, 3) := by decide +kernel
theorem dX11_lasts_16 : decode cX11_lasts 16 = .ok (.iload_n 1, 1) := by decide +kernel
theorem dX11_lasts_17 : decode cX11_lasts 17 = .ok (.iaload, 1) := by decide +kernel
theorem dX11_lasts_18 : decode cX11_lasts 18 = .ok (.iconst (-1), 1) := by decide +kernel
theorem dX11_lasts_19 : decode cX11_lasts 19 = .ok (.if_icmp .ne 8, 3) := by decide +kernel
theorem dX11_lasts_22 : decode cX11_lasts 22 = .ok (.bipush 24, 2) := by decide +kernel
theorem dX11_lasts_24 : decode cX11_lasts 24 = .ok (.goto 12, 3) := by decide +kernel
theorem dX11_lasts_27 : decode cX11_lasts 27 = .ok (.aload_n 0, 1) := by decide +kernel
theorem dX11_lasts_28 : decode cX11_lasts 28 = .ok (.getfield 69, 3) := by decide +kernel
theorem dX11_lasts_31 : decode cX11_lasts 31 = .ok (.getfield 278, 3) := by decide +kernel
theorem dX11_lasts_34 : decode cX11_lasts 34 = .ok (.iload_n 1, 1) := by decide +kernel
theorem dX11_lasts_35 : decode cX11_lasts 35 = .ok (.iaload, 1) := by decide +kernel
theorem dX11_lasts_36 : decode cX11_lasts 36 = .ok (.ireturn, 1) := by decide +kernel
theorem ct_X11_lasts {g : Gw} (hG : GF g) {z : Bool} (E : Mm) (s : Nat) (P : SP) (L : LW) (T K : LN) (d : Nat) (hI_E : CXI E s P L T K d) (x0 : Int) : CTX g yX11_lasts cX11_lasts 2 (some .int) 7 146 1 6 K2 z [mR 0, mI x0] (ov E) K2 z (fun r' D' => (0 ≤ x0 ∧ x0 ≤ (bN (sB P) : Int) - 1) ∧ r' = some (mI (if dF (dyP (gNow P L d) (sB P) T 24) x0.toNat = -1 then 24 else dF (dyP (gNow P L d) (sB P) T 24) x0.toNat)) ∧ ∃ E1, D' = ov E1 ∧ CXI E1 s P L T K d ∧ CXF E E1) (fun X D' => (¬ (0 ≤ x0 ∧ x0 ≤ (bN (sB P) : Int) - 1) ∧ X = "java/util/NoSuchElementException" ∧ D' = ov (bumpE E 1))) := by
  refine CTX.mk hG (by decide +kernel) (Nat.le_of_ble_eq_true rfl) (fun κ X Rt Rx ok => ?_)
  have hs := hI_E.sa
  have hP := hI_E.WS
  have hW40 := hP.W
  have hN10 := hP.N
  have hN8 := hP.B.N
  have hX_E : CXF E E := CXF.rf
  have hwG := gNow_WG hI_E
  have hgw : gW (gNow P L d) = sW P := rfl
  have hgn : gN (gNow P L d) = sN P := rfl
  refine at_aload_n 1 X rfl rfl dX11_lasts_0 rfl ?_
  refine at_iload_n 2 X rfl rfl dX11_lasts_1 rfl ?_
  refine at_callVX 5 X Rt Rx _ 11 (ct_X11_needBeamP hG E s P L T K d hI_E x0) clX11 rfl k_0 mo_X11_needBeam w_1239 vo_X11_needBeam.1 vo_X11_needBeam.2 rfl rfl (by decide) (Nat.le_of_ble_eq_true rfl) dX11_lasts_2 rfl (fun _ _ h => ⟨h.1, h.2.1, h.2.2⟩) ?_
  rintro _ _ ⟨hc0, rfl, rfl⟩
  obtain ⟨b, rfl⟩ : ∃ b : Nat, x0 = (b : Int) := ⟨x0.toNat, by omega⟩
  refine at_aload_n 6 X rfl rfl dX11_lasts_5 rfl ?_
  refine at_callV 9 X _ 11 (ct_X11_refresh hG E s P L T K d hI_E) clX11 rfl k_0 mo_X11_refresh w_665 vo_X11_refresh.1 vo_X11_refresh.2 rfl rfl (crm Rt (by decide)) (Nat.le_of_ble_eq_true rfl) dX11_lasts_6 rfl ?_
  rintro _ _ ⟨rfl, F1, rfl, hI_F1, hF_F1, hXn_F1⟩
  have hX_F1 := hX_E.tr hXn_F1
  refine at_aload_n 10 X rfl rfl dX11_lasts_9 rfl ?_
  refine m_getR 13 X f_X11_69 k_0 r_0_11 dX11_lasts_10 rfl ?_
  refine m_getR 16 X f_X11_278 k_48 r_48_1 dX11_lasts_13 rfl ?_
  refine at_iload_n 17 X rfl rfl dX11_lasts_16 rfl ?_
  refine m_ialoadV 18 X b (by omega) (dF (dyP (gNow P L d) (sB P) T 24) b) (hF_F1.2.2.1.2.1 b (by omega)) k_50 e_50 (by omega) dX11_lasts_17 rfl ?_
  have hDI24 := dyP_DI (G := (gNow P L d)) hP.B hI_F1.WT (Nat.le_refl 24)
  refine at_iconst 19 X (by decide) dX11_lasts_18 rfl ?_
  refine at_icmp_ne 22 27 X dX11_lasts_19 rfl (by decide) (fun h19 => ?_) (fun h19 => ?_)
  · refine at_aload_n 28 X rfl rfl dX11_lasts_27 rfl ?_
    refine m_getR 31 X f_X11_69 k_0 r_0_11 dX11_lasts_28 rfl ?_
    refine m_getR 34 X f_X11_278 k_48 r_48_1 dX11_lasts_31 rfl ?_
    refine at_iload_n 35 X rfl rfl dX11_lasts_34 rfl ?_
    refine m_ialoadV 36 X b (by omega) (dF (dyP (gNow P L d) (sB P) T 24) b) (hF_F1.2.2.1.2.1 b (by omega)) k_50 e_50 (by omega) dX11_lasts_35 rfl ?_
    have hDI24 := dyP_DI (G := (gNow P L d)) hP.B hI_F1.WT (Nat.le_refl 24)
    refine at_iret X Rt ?_ (by decide) (by decide) dX11_lasts_36
    exact ⟨hc0, (by (try simp only [Int.toNat_natCast]); first | rw [if_pos (by assumption)] | rw [if_neg (by assumption)]), _, rfl, hI_F1, hX_F1⟩
  · refine at_bipush 24 X (by decide) (by decide) dX11_lasts_22 rfl ?_
    refine at_goto 36 X dX11_lasts_24 (by decide) ?_
    refine at_iret X Rt ?_ (by decide) (by decide) dX11_lasts_36
    exact ⟨hc0, (by (try simp only [Int.toNat_natCast]); first | rw [if_pos (by assumption)] | rw [if_neg (by assumption)]), _, rfl, hI_F1, hX_F1⟩
theorem dX11_light_0 : decode cX11_light 0 = .ok (.aload_n 0, 1) := by decide +kernel
theorem dX11_light_1 : decode cX11_light 1 = .ok (.iload_n 1, 1) := by decide +kernel
theorem dX11_light_2 : decode cX11_light 2 = .ok (.invokevirtual 224, 3) := by decide +kernel
theorem dX11_light_5 : decode cX11_light 5 = .ok (.aload_n 0, 1) := by decide +kernel
theorem dX11_light_6 : decode cX11_light 6 = .ok (.iload_n 2, 1) := by decide +kernel
theorem dX11_light_7 : decode cX11_light 7 = .ok (.iconst 2, 1) := by decide +kernel
theorem dX11_light_8 : decode cX11_light 8 = .ok (.invokevirtual 199, 3) := by decide +kernel
theorem dX11_light_11 : decode cX11_light 11 = .ok (.aload_n 0, 1) := by decide +kernel
theorem dX11_light_12 : decode cX11_light 12 = .ok (.invokevirtual 227, 3) := by decide +kernel
theorem dX11_light_15 : decode cX11_light 15 = .ok (.aload_n 0, 1) := by decide +kernel
theorem dX11_light_16 : decode cX11_light 16 = .ok (.getfield 59, 3) := by decide +kernel
theorem dX11_light_19 : decode cX11_light 19 = .ok (.iload_n 1, 1) := by decide +kernel
theorem dX11_light_20 : decode cX11_light 20 = .ok (.invokevirtual 230, 3) := by decide +kernel
theorem dX11_light_23 : decode cX11_light 23 = .ok (.ifCond .eq 5, 3) := by decide +kernel
theorem dX11_light_26 : decode cX11_light 26 = .ok (.iconst 0, 1) := by decide +kernel
theorem dX11_light_27 : decode cX11_light 27 = .ok (.ireturn, 1) := by decide +kernel
theorem dX11_light_28 : decode cX11_light 28 = .ok (.iload_n 2, 1) := by decide +kernel
theorem dX11_light_29 : decode cX11_light 29 = .ok (.lookupswitch 47 #[(0, 27), (1, 37)], 27) := by decide +kernel
theorem dX11_light_56 : decode cX11_light 56 = .ok (.aload_n 0, 1) := by decide +kernel
theorem dX11_light_57 : decode cX11_light 57 = .ok (.getfield 59, 3) := by decide +kernel
theorem dX11_light_60 : decode cX11_light 60 = .ok (.getfield 234, 3) := by decide +kernel
theorem dX11_light_63 : decode cX11_light 63 = .ok (.iload_n 1, 1) := by decide +kernel
theorem dX11_light_64 : decode cX11_light 64 = .ok (.iaload, 1) := by decide +kernel
theorem dX11_light_65 : decode cX11_light 65 = .ok (.ireturn, 1) := by decide +kernel
theorem dX11_light_66 : decode cX11_light 66 = .ok (.aload_n 0, 1) := by decide +kernel
theorem dX11_light_67 : decode cX11_light 67 = .ok (.getfield 59, 3) := by decide +kernel
theorem dX11_light_70 : decode cX11_light 70 = .ok (.getfield 237, 3) := by decide +kernel
theorem dX11_light_73 : decode cX11_light 73 = .ok (.iload_n 1, 1) := by decide +kernel
theorem dX11_light_74 : decode cX11_light 74 = .ok (.iaload, 1) := by decide +kernel
theorem dX11_light_75 : decode cX11_light 75 = .ok (.ireturn, 1) := by decide +kernel
theorem dX11_light_76 : decode cX11_light 76 = .ok (.aload_n 0, 1) := by decide +kernel
theorem dX11_light_77 : decode cX11_light 77 = .ok (.getfield 59, 3) := by decide +kernel
theorem dX11_light_80 : decode cX11_light 80 = .ok (.getfield 240, 3) := by decide +kernel
theorem dX11_light_83 : decode cX11_light 83 = .ok (.iload_n 1, 1) := by decide +kernel
theorem dX11_light_84 : decode cX11_light 84 = .ok (.iaload, 1) := by decide +kernel
theorem dX11_light_85 : decode cX11_light 85 = .ok (.ireturn, 1) := by decide +kernel
theorem ct_X11_light {g : Gw} (hG : GF g) {z : Bool} (E : Mm) (s : Nat) (P : SP) (L : LW) (T K : LN) (d : Nat) (hI_E : CXI E s P L T K d) (x0 x1 : Int) : CTX g yX11_light cX11_light 3 (some .int) 8 146 2 12 K2 z [mR 0, mI x0, mI x1] (ov E) K2 z (fun r' D' => (0 ≤ x0 ∧ x0 ≤ 23) ∧ (0 ≤ x1 ∧ x1 ≤ 2) ∧ r' = some (mI (if sC P x0.toNat then 0 else if x1 = 0 then (lkP P (moonP P d) x0.toNat : Int) else if x1 = 1 then (ltP P (moonP P d) x0.toNat : Int) else if lrP P (moonP P d) x0.toNat then 1 else 0)) ∧ ∃ E1, D' = ov E1 ∧ CXI E1 s P L T K d ∧ CXF E E1) (fun X D' => (¬ (0 ≤ x0 ∧ x0 ≤ 23) ∧ X = "java/lang/IllegalArgumentException" ∧ D' = ov (bumpE E 2)) ∨ ((0 ≤ x0 ∧ x0 ≤ 23) ∧ ¬ (0 ≤ x1 ∧ x1 ≤ 2) ∧ X = "java/lang/IllegalArgumentException" ∧ D' = ov (bumpE E 2))) := by
  refine CTX.mk hG (by decide +kernel) (Nat.le_of_ble_eq_true rfl) (fun κ X Rt Rx ok => ?_)
  have hs := hI_E.sa
  have hP := hI_E.WS
  have hW40 := hP.W
  have hN10 := hP.N
  have hN8 := hP.B.N
  have hX_E : CXF E E := CXF.rf
  have hwG := gNow_WG hI_E
  have hgw : gW (gNow P L d) = sW P := rfl
  have hgn : gN (gNow P L d) = sN P := rfl
  refine at_aload_n 1 X rfl rfl dX11_light_0 rfl ?_
  refine at_iload_n 2 X rfl rfl dX11_light_1 rfl ?_
  refine at_callVX 5 X Rt Rx _ 11 (ct_X11_needHour hG E x0) clX11 rfl k_0 mo_X11_needHour w_1259 vo_X11_needHour.1 vo_X11_needHour.2 rfl rfl (by decide) (Nat.le_of_ble_eq_true rfl) dX11_light_2 rfl (fun _ _ h => Or.inl ⟨h.1, h.2.1, h.2.2⟩) ?_
  rintro _ _ ⟨hc0, rfl, rfl⟩
  refine at_aload_n 6 X rfl rfl dX11_light_5 rfl ?_
  refine at_iload_n 7 X rfl rfl dX11_light_6 rfl ?_
  refine at_iconst 8 X (by decide) dX11_light_7 rfl ?_
  refine at_callVX 11 X Rt Rx _ 11 (ct_X11_needWhat hG E x1 2) clX11 rfl k_0 mo_X11_needWhat w_1228 vo_X11_needWhat.1 vo_X11_needWhat.2 rfl rfl (by decide) (Nat.le_of_ble_eq_true rfl) dX11_light_8 rfl (fun _ _ h => Or.inr (⟨hc0, h.1, h.2.1, h.2.2⟩)) ?_
  rintro _ _ ⟨hc1, rfl, rfl⟩
  obtain ⟨h, rfl⟩ : ∃ h : Nat, x0 = (h : Int) := ⟨x0.toNat, by omega⟩
  refine at_aload_n 12 X rfl rfl dX11_light_11 rfl ?_
  refine at_callV 15 X _ 11 (ct_X11_refresh hG E s P L T K d hI_E) clX11 rfl k_0 mo_X11_refresh w_665 vo_X11_refresh.1 vo_X11_refresh.2 rfl rfl (crm Rt (by decide)) (Nat.le_of_ble_eq_true rfl) dX11_light_12 rfl ?_
  rintro _ _ ⟨rfl, F1, rfl, hI_F1, hF_F1, hXn_F1⟩
  have hX_F1 := hX_E.tr hXn_F1
  refine at_aload_n 16 X rfl rfl dX11_light_15 rfl ?_
  refine m_getR 19 X f_X11_59 k_0 r_0_9 dX11_light_16 rfl ?_
  refine at_iload_n 20 X rfl rfl dX11_light_19 rfl ?_
  refine at_callV 23 X _ 4 (ct_X4_isCloudy hG F1 30 (Or.inl rfl) (sC P) h (by omega) hF_F1.1.2.1.1) clX4 rfl k_30 mo_X4_isCloudy w_1263 vo_X4_isCloudy.1 vo_X4_isCloudy.2 rfl rfl (crm Rt (by decide)) (Nat.le_of_ble_eq_true rfl) dX11_light_20 rfl ?_
  rintro _ _ ⟨rfl, rfl⟩
  refine at_if_eq 26 28 X dX11_light_23 rfl (by decide) (fun h23 => ?_) (fun h23 => ?_)
  · have h23 : ¬ (sC P h = true) := ite_no.mp h23
    refine at_iload_n 29 X rfl rfl dX11_light_28 rfl ?_
    rcases (show x1 = 0 ∨ x1 = 1 ∨ x1 = 2 by omega) with h29 | h29 | h29
    · refine at_lsw (off := 27) 56 X dX11_light_29 (by decide) (by rw [h29]; rfl) (by decide) ?_
      refine at_aload_n 57 X rfl rfl dX11_light_56 rfl ?_
      refine m_getR 60 X f_X11_59 k_0 r_0_9 dX11_light_57 rfl ?_
      refine m_getR 63 X f_X11_234 k_30 r_30_2 dX11_light_60 rfl ?_
      refine at_iload_n 64 X rfl rfl dX11_light_63 rfl ?_
      refine m_ialoadV 65 X h (by omega) ((lkP P (moonP P d) h : Nat) : Int) (hF_F1.2.1 h (by omega)) k_33 e_33 (by omega) dX11_light_64 rfl ?_
      refine at_iret X Rt ?_ (by decide) (by decide) dX11_light_65
      exact ⟨hc0, hc1, (by (try simp only [Int.toNat_natCast]); first | (rw [if_pos (show sC P h = true by assumption)]; done) | (rw [if_neg (show ¬ sC P h = true by assumption), if_pos (show x1 = 0 by omega)]; try rfl; done) | (rw [if_neg (show ¬ sC P h = true by assumption), if_neg (show ¬ x1 = 0 by omega), if_pos (show x1 = 1 by omega)]; try rfl; done) | (rw [if_neg (show ¬ sC P h = true by assumption), if_neg (show ¬ x1 = 0 by omega), if_neg (show ¬ x1 = 1 by omega)]; try rfl; done)), _, rfl, hI_F1, hX_F1⟩
    · refine at_lsw (off := 37) 66 X dX11_light_29 (by decide) (by rw [h29]; rfl) (by decide) ?_
      refine at_aload_n 67 X rfl rfl dX11_light_66 rfl ?_
      refine m_getR 70 X f_X11_59 k_0 r_0_9 dX11_light_67 rfl ?_
      refine m_getR 73 X f_X11_237 k_30 r_30_3 dX11_light_70 rfl ?_
      refine at_iload_n 74 X rfl rfl dX11_light_73 rfl ?_
      refine m_ialoadV 75 X h (by omega) ((gT' (gNow P L d) h : Nat) : Int) (hF_F1.1.1.T (t := h) (by omega)) k_34 e_34 (by omega) dX11_light_74 rfl ?_
      have := hwG.T (t := h) (by omega)
      refine at_iret X Rt ?_ (by decide) (by decide) dX11_light_75
      exact ⟨hc0, hc1, (by (try simp only [Int.toNat_natCast]); first | (rw [if_pos (show sC P h = true by assumption)]; done) | (rw [if_neg (show ¬ sC P h = true by assumption), if_pos (show x1 = 0 by omega)]; try rfl; done) | (rw [if_neg (show ¬ sC P h = true by assumption), if_neg (show ¬ x1 = 0 by omega), if_pos (show x1 = 1 by omega)]; try rfl; done) | (rw [if_neg (show ¬ sC P h = true by assumption), if_neg (show ¬ x1 = 0 by omega), if_neg (show ¬ x1 = 1 by omega)]; try rfl; done)), _, rfl, hI_F1, hX_F1⟩
    · refine at_lsw (off := 47) 76 X dX11_light_29 (by decide) (by rw [h29]; rfl) (by decide) ?_
      refine at_aload_n 77 X rfl rfl dX11_light_76 rfl ?_
      refine m_getR 80 X f_X11_59 k_0 r_0_9 dX11_light_77 rfl ?_
      refine m_getR 83 X f_X11_240 k_30 r_30_4 dX11_light_80 rfl ?_
      refine at_iload_n 84 X rfl rfl dX11_light_83 rfl ?_
      refine m_ialoadV 85 X h (by omega) (if gR (gNow P L d) h then 1 else 0) (hF_F1.1.1.R (t := h) (by omega)) k_35 e_35 (by omega) dX11_light_84 rfl ?_
      refine at_iret X Rt ?_ (by decide) (by decide) dX11_light_85
      exact ⟨hc0, hc1, (by (try simp only [Int.toNat_natCast]); first | (rw [if_pos (show sC P h = true by assumption)]; done) | (rw [if_neg (show ¬ sC P h = true by assumption), if_pos (show x1 = 0 by omega)]; try rfl; done) | (rw [if_neg (show ¬ sC P h = true by assumption), if_neg (show ¬ x1 = 0 by omega), if_pos (show x1 = 1 by omega)]; try rfl; done) | (rw [if_neg (show ¬ sC P h = true by assumption), if_neg (show ¬ x1 = 0 by omega), if_neg (show ¬ x1 = 1 by omega)]; try rfl; done)), _, rfl, hI_F1, hX_F1⟩
  · have h23 : (sC P h = true) := ite_yes.mp h23
    refine at_iconst 27 X (by decide) dX11_light_26 rfl ?_
    refine at_iret X Rt ?_ (by decide) (by decide) dX11_light_27
    exact ⟨hc0, hc1, (by (try simp only [Int.toNat_natCast]); first | (rw [if_pos (show sC P h = true by assumption)]; done) | (rw [if_neg (show ¬ sC P h = true by assumption), if_pos (show x1 = 0 by omega)]; try rfl; done) | (rw [if_neg (show ¬ sC P h = true by assumption), if_neg (show ¬ x1 = 0 by omega), if_pos (show x1 = 1 by omega)]; try rfl; done) | (rw [if_neg (show ¬ sC P h = true by assumption), if_neg (show ¬ x1 = 0 by omega), if_neg (show ¬ x1 = 1 by omega)]; try rfl; done)), _, rfl, hI_F1, hX_F1⟩
theorem dX11_slack_0 : decode cX11_slack 0 = .ok (.aload_n 0, 1) := by decide +kernel
theorem dX11_slack_1 : decode cX11_slack 1 = .ok (.iload_n 1, 1) := by decide +kernel
theorem dX11_slack_2 : decode cX11_slack 2 = .ok (.invokevirtual 243, 3) := by decide +kernel
theorem dX11_slack_5 : decode cX11_slack 5 = .ok (.aload_n 0, 1) := by decide +kernel
theorem dX11_slack_6 : decode cX11_slack 6 = .ok (.iload_n 2, 1) := by decide +kernel
theorem dX11_slack_7 : decode cX11_slack 7 = .ok (.invokevirtual 224, 3) := by decide +kernel
theorem dX11_slack_10 : decode cX11_slack 10 = .ok (.aload_n 0, 1) := by decide +kernel
theorem dX11_slack_11 : decode cX11_slack 11 = .ok (.iload_n 3, 1) := by decide +kernel
theorem dX11_slack_12 : decode cX11_slack 12 = .ok (.iconst 1, 1) := by decide +kernel
theorem dX11_slack_13 : decode cX11_slack 13 = .ok (.invokevirtual 199, 3) := by decide +kernel
theorem dX11_slack_16 : decode cX11_slack 16 = .ok (.aload_n 0, 1) := by decide +kernel
theorem dX11_slack_17 : decode cX11_slack 17 = .ok (.invokevirtual 227, 3) := by decide +kernel
theorem dX11_slack_20 : decode cX11_slack 20 = .ok (.aload_n 0, 1) := by decide +kernel
theorem dX11_slack_21 : decode cX11_slack 21 = .ok (.getfield 59, 3) := by decide +kernel
theorem dX11_slack_24 : decode cX11_slack 24 = .ok (.iload_n 1, 1) := by decide +kernel
theorem dX11_slack_25 : decode cX11_slack 25 = .ok (.iload_n 2, 1) := by decide +kernel
theorem dX11_slack_26 : decode cX11_slack 26 = .ok (.invokevirtual 250, 3) := by decide +kernel
theorem dX11_slack_29 : decode cX11_slack 29 = .ok (.i2l, 1) := by decide +kernel
theorem dX11_slack_30 : decode cX11_slack 30 = .ok (.ldc2_w 265, 3) := by decide +kernel
theorem dX11_slack_33 : decode cX11_slack 33 = .ok (.lmul, 1) := by decide +kernel
theorem dX11_slack_34 : decode cX11_slack 34 = .ok (.aload_n 0, 1) := by decide +kernel
theorem dX11_slack_35 : decode cX11_slack 35 = .ok (.getfield 69, 3) := by decide +kernel
theorem dX11_slack_38 : decode cX11_slack 38 = .ok (.aload_n 0, 1) := by decide +kernel
theorem dX11_slack_39 : decode cX11_slack 39 = .ok (.getfield 93, 3) := by decide +kernel
theorem dX11_slack_42 : decode cX11_slack 42 = .ok (.getfield 135, 3) := by decide +kernel
theorem dX11_slack_45 : decode cX11_slack 45 = .ok (.iload_n 1, 1) := by decide +kernel
theorem dX11_slack_46 : decode cX11_slack 46 = .ok (.iload_n 2, 1) := by decide +kernel
theorem dX11_slack_47 : decode cX11_slack 47 = .ok (.invokevirtual 261, 3) := by decide +kernel
theorem dX11_slack_50 : decode cX11_slack 50 = .ok (.lsub, 1) := by decide +kernel
theorem dX11_slack_51 : decode cX11_slack 51 = .ok (.ldc2_w 265, 3) := by decide +kernel
theorem dX11_slack_54 : decode cX11_slack 54 = .ok (.iload_n 3, 1) := by decide +kernel
theorem dX11_slack_55 : decode cX11_slack 55 = .ok (.invokestatic 267, 3) := by decide +kernel
theorem dX11_slack_58 : decode cX11_slack 58 = .ok (.lreturn, 1) := by decide +kernel
theorem ct_X11_slack {g : Gw} (hG : GF g) {z : Bool} (E : Mm) (s : Nat) (P : SP) (L : LW) (T K : LN) (d : Nat) (hI_E : CXI E s P L T K d) (x0 x1 x2 : Int) : CTX g yX11_slack cX11_slack 4 (some .long) 8 146 3 18 K2 z [mR 0, mI x0, mI x1, mI x2] (ov E) K2 z (fun r' D' => (0 ≤ x0 ∧ x0 ≤ (sW P : Int) - 1) ∧ (0 ≤ x1 ∧ x1 ≤ 23) ∧ (0 ≤ x2 ∧ x2 ≤ 1) ∧ r' = some (mL (ltmP (bOn (gNow P L d) x1.toNat x0.toNat * 232792560 - wtN (sB P) (dP (dyP (gNow P L d) (sB P) T (x1.toNat + 1))) x0.toNat (bN (sB P))) 232792560 x2)) ∧ ∃ E1, D' = ov E1 ∧ CXI E1 s P L T K d ∧ CXF E E1) (fun X D' => (¬ (0 ≤ x0 ∧ x0 ≤ (sW P : Int) - 1) ∧ X = "java/lang/IndexOutOfBoundsException" ∧ D' = ov (bumpE E 0)) ∨ ((0 ≤ x0 ∧ x0 ≤ (sW P : Int) - 1) ∧ ¬ (0 ≤ x1 ∧ x1 ≤ 23) ∧ X = "java/lang/IllegalArgumentException" ∧ D' = ov (bumpE E 2)) ∨ ((0 ≤ x0 ∧ x0 ≤ (sW P : Int) - 1) ∧ (0 ≤ x1 ∧ x1 ≤ 23) ∧ ¬ (0 ≤ x2 ∧ x2 ≤ 1) ∧ X = "java/lang/IllegalArgumentException" ∧ D' = ov (bumpE E 2))) := by
  refine CTX.mk hG (by decide +kernel) (Nat.le_of_ble_eq_true rfl) (fun κ X Rt Rx ok => ?_)
  have hs := hI_E.sa
  have hP := hI_E.WS
  have hW40 := hP.W
  have hN10 := hP.N
  have hN8 := hP.B.N
  have hX_E : CXF E E := CXF.rf
  have hwG := gNow_WG hI_E
  have hgw : gW (gNow P L d) = sW P := rfl
  have hgn : gN (gNow P L d) = sN P := rfl
  refine at_aload_n 1 X rfl rfl dX11_slack_0 rfl ?_
  refine at_iload_n 2 X rfl rfl dX11_slack_1 rfl ?_
  refine at_callVX 5 X Rt Rx _ 11 (ct_X11_needCellP hG E s P L T K d hI_E x0) clX11 rfl k_0 mo_X11_needCell w_1272 vo_X11_needCell.1 vo_X11_needCell.2 rfl rfl (by decide) (Nat.le_of_ble_eq_true rfl) dX11_slack_2 rfl (fun _ _ h => Or.inl ⟨h.1, h.2.1, h.2.2⟩) ?_
  rintro _ _ ⟨hc0, rfl, rfl⟩
  refine at_aload_n 6 X rfl rfl dX11_slack_5 rfl ?_
  refine at_iload_n 7 X rfl rfl dX11_slack_6 rfl ?_
  refine at_callVX 10 X Rt Rx _ 11 (ct_X11_needHour hG E x1) clX11 rfl k_0 mo_X11_needHour w_1259 vo_X11_needHour.1 vo_X11_needHour.2 rfl rfl (by decide) (Nat.le_of_ble_eq_true rfl) dX11_slack_7 rfl (fun _ _ h => Or.inr (Or.inl ⟨hc0, h.1, h.2.1, h.2.2⟩)) ?_
  rintro _ _ ⟨hc1, rfl, rfl⟩
  refine at_aload_n 11 X rfl rfl dX11_slack_10 rfl ?_
  refine at_iload_n 12 X rfl rfl dX11_slack_11 rfl ?_
  refine at_iconst 13 X (by decide) dX11_slack_12 rfl ?_
  refine at_callVX 16 X Rt Rx _ 11 (ct_X11_needWhat hG E x2 1) clX11 rfl k_0 mo_X11_needWhat w_1228 vo_X11_needWhat.1 vo_X11_needWhat.2 rfl rfl (by decide) (Nat.le_of_ble_eq_true rfl) dX11_slack_13 rfl (fun _ _ h => Or.inr (Or.inr (⟨hc0, hc1, h.1, h.2.1, h.2.2⟩))) ?_
  rintro _ _ ⟨hc2, rfl, rfl⟩
  obtain ⟨c, rfl⟩ : ∃ c : Nat, x0 = (c : Int) := ⟨x0.toNat, by omega⟩
  obtain ⟨h, rfl⟩ : ∃ h : Nat, x1 = (h : Int) := ⟨x1.toNat, by omega⟩
  refine at_aload_n 17 X rfl rfl dX11_slack_16 rfl ?_
  refine at_callV 20 X _ 11 (ct_X11_refresh hG E s P L T K d hI_E) clX11 rfl k_0 mo_X11_refresh w_665 vo_X11_refresh.1 vo_X11_refresh.2 rfl rfl (crm Rt (by decide)) (Nat.le_of_ble_eq_true rfl) dX11_slack_17 rfl ?_
  rintro _ _ ⟨rfl, F1, rfl, hI_F1, hF_F1, hXn_F1⟩
  have hX_F1 := hX_E.tr hXn_F1
  refine at_aload_n 21 X rfl rfl dX11_slack_20 rfl ?_
  refine m_getR 24 X f_X11_59 k_0 r_0_9 dX11_slack_21 rfl ?_
  refine at_iload_n 25 X rfl rfl dX11_slack_24 rfl ?_
  refine at_iload_n 26 X rfl rfl dX11_slack_25 rfl ?_
  refine at_callV 29 X _ 4 (ct_X4_borneOn hG F1 30 (Or.inl rfl) (gNow P L d) hwG hF_F1.1 hI_F1.Lw h c (by omega) (by first | omega | (have := hP.W; omega))) clX4 rfl k_30 mo_X4_borneOn w_1303 vo_X4_borneOn.1 vo_X4_borneOn.2 rfl rfl (crm Rt (by decide)) (Nat.le_of_ble_eq_true rfl) dX11_slack_26 rfl ?_
  rintro _ _ ⟨rfl, F2, rfl, hg_F2, hq_F2⟩
  have hK3 := hI_F1.known hF_F1 hg_F2 hq_F2
  have hI_F2 := hK3.1
  have hF_F2 := hK3.2.1
  have hX_F2 : CXF E F2 := hX_F1.tr hK3.2.2
  have := bOn_in (gNow P L d) h c
  refine at_i2l 30 X dX11_slack_29 rfl ?_
  refine at_ldc2 33 X (n := 232792560) w_1327 (by decide) (by decide) dX11_slack_30 rfl ?_
  refine at_lmulV 34 X ((bOn (gNow P L d) h c) * 232792560) (w64_v rfl (by omega) (by omega)) dX11_slack_33 rfl ?_
  refine at_aload_n 35 X rfl rfl dX11_slack_34 rfl ?_
  refine m_getR 38 X f_X11_69 k_0 r_0_11 dX11_slack_35 rfl ?_
  refine at_aload_n 39 X rfl rfl dX11_slack_38 rfl ?_
  refine m_getM 42 X (s) f_X11_93 k_0 rn_0_15 hI_F2.now dX11_slack_39 rfl ?_
  refine m_getR 45 X f_X11_135 (kX9 hs) (rX9_7 hs) dX11_slack_42 rfl ?_
  refine at_iload_n 46 X rfl rfl dX11_slack_45 rfl ?_
  refine at_iload_n 47 X rfl rfl dX11_slack_46 rfl ?_
  refine at_callV 50 X _ 3 (ct_X3_restOn hG F2 48 (Or.inl rfl) (sB P) (s + 8) (sW P) (iB_8 hs) hI_F2.B hP.B hP.W.2 (dP (dyP (gNow P L d) (sB P) T (h + 1))) (dyP_DI hP.B hI_F2.WT (by omega)).1 c h (by omega) (fun k hk => hF_F2.2.2.2 h k (by omega) hk)) clX3 rfl k_48 mo_X3_restOn w_1319 vo_X3_restOn.1 vo_X3_restOn.2 rfl rfl (crm Rt (by decide)) (Nat.le_of_ble_eq_true rfl) dX11_slack_47 rfl ?_
  rintro _ _ ⟨rfl, rfl⟩
  have hwt := wtN_in hP.B (dP (dyP (gNow P L d) (sB P) T (h + 1))) c (Nat.le_refl (bN (sB P)))
  refine at_lsubV 51 X (((bOn (gNow P L d) h c) * 232792560) - (wtN (sB P) (dP (dyP (gNow P L d) (sB P) T (h + 1))) c (bN (sB P)))) (w64_v rfl (by omega) (by omega)) dX11_slack_50 rfl ?_
  refine at_ldc2 54 X (n := 232792560) w_1327 (by decide) (by decide) dX11_slack_51 rfl ?_
  refine at_iload_n 55 X rfl rfl dX11_slack_54 rfl ?_
  refine at_callS 58 X (ct_X11_inLeastTerms hG F2 (((bOn (gNow P L d) h c) * 232792560) - (wtN (sB P) (dP (dyP (gNow P L d) (sB P) T (h + 1))) c (bN (sB P)))) 232792560 x2 (by omega) (by omega) (by omega)) mo_X11_inLeastTerms w_1328 so_X11_inLeastTerms rfl rfl (crm Rt (by decide)) (Nat.le_of_ble_eq_true rfl) dX11_slack_55 rfl ?_
  rintro _ _ ⟨rfl, rfl⟩
  refine at_lret X Rt ?_ (by decide) (by decide) dX11_slack_58
  exact ⟨hc0, hc1, hc2, (by rfl), _, rfl, hI_F2, hX_F2⟩
/-- the beam that puts most on one end, so far, and what it puts -/
def hvP (B : BM) : Nat → Int × Int := itr (fun b q => if q.2 < (if (onR B b : Int) < (onL B b : Int) then (onL B b : Int) else (onR B b : Int)) then ((b : Int), if (onR B b : Int) < (onL B b : Int) then (onL B b : Int) else (onR B b : Int)) else q) (-1, 0)
theorem hvP_s (B : BM) (b : Nat) : hvP B (b + 1) = if (hvP B b).2 < (if (onR B b : Int) < (onL B b : Int) then (onL B b : Int) else (onR B b : Int)) then ((b : Int), if (onR B b : Int) < (onL B b : Int) then (onL B b : Int) else (onR B b : Int)) else hvP B b := rfl
theorem dX11_heaviest_0 : decode cX11_heaviest 0 = .ok (.iconst (-1), 1) := by decide +kernel
theorem dX11_heaviest_1 : decode cX11_heaviest 1 = .ok (.istore_n 1, 1) := by decide +kernel
theorem dX11_heaviest_2 : decode cX11_heaviest 2 = .ok (.lconst 0, 1) := by decide +kernel
theorem dX11_heaviest_3 : decode cX11_heaviest 3 = .ok (.lstore_n 2, 1) := by decide +kernel
theorem dX11_heaviest_4 : decode cX11_heaviest 4 = .ok (.iconst 0, 1) := by decide +kernel
theorem dX11_heaviest_5 : decode cX11_heaviest 5 = .ok (.istore 4, 2) := by decide +kernel
theorem dX11_heaviest_7 : decode cX11_heaviest 7 = .ok (.iload 4, 2) := by decide +kernel
theorem dX11_heaviest_9 : decode cX11_heaviest 9 = .ok (.aload_n 0, 1) := by decide +kernel
theorem dX11_heaviest_10 : decode cX11_heaviest 10 = .ok (.getfield 93, 3) := by decide +kernel
theorem dX11_heaviest_13 : decode cX11_heaviest 13 = .ok (.getfield 135, 3) := by decide +kernel
theorem dX11_heaviest_16 : decode cX11_heaviest 16 = .ok (.getfield 139, 3) := by decide +kernel
theorem dX11_heaviest_19 : decode cX11_heaviest 19 = .ok (.if_icmp .ge 53, 3) := by decide +kernel
theorem dX11_heaviest_22 : decode cX11_heaviest 22 = .ok (.aload_n 0, 1) := by decide +kernel
theorem dX11_heaviest_23 : decode cX11_heaviest 23 = .ok (.getfield 93, 3) := by decide +kernel
theorem dX11_heaviest_26 : decode cX11_heaviest 26 = .ok (.getfield 135, 3) := by decide +kernel
theorem dX11_heaviest_29 : decode cX11_heaviest 29 = .ok (.getfield 271, 3) := by decide +kernel
theorem dX11_heaviest_32 : decode cX11_heaviest 32 = .ok (.iload 4, 2) := by decide +kernel
theorem dX11_heaviest_34 : decode cX11_heaviest 34 = .ok (.laload, 1) := by decide +kernel
theorem dX11_heaviest_35 : decode cX11_heaviest 35 = .ok (.aload_n 0, 1) := by decide +kernel
theorem dX11_heaviest_36 : decode cX11_heaviest 36 = .ok (.getfield 93, 3) := by decide +kernel
theorem dX11_heaviest_39 : decode cX11_heaviest 39 = .ok (.getfield 135, 3) := by decide +kernel
theorem dX11_heaviest_42 : decode cX11_heaviest 42 = .ok (.getfield 275, 3) := by decide +kernel
theorem dX11_heaviest_45 : decode cX11_heaviest 45 = .ok (.iload 4, 2) := by decide +kernel
theorem dX11_heaviest_47 : decode cX11_heaviest 47 = .ok (.laload, 1) := by decide +kernel
theorem dX11_heaviest_48 : decode cX11_heaviest 48 = .ok (.invokestatic 453, 3) := by decide +kernel
theorem dX11_heaviest_51 : decode cX11_heaviest 51 = .ok (.lstore 5, 2) := by decide +kernel
theorem dX11_heaviest_53 : decode cX11_heaviest 53 = .ok (.lload 5, 2) := by decide +kernel
theorem dX11_heaviest_55 : decode cX11_heaviest 55 = .ok (.lload_n 2, 1) := by decide +kernel
theorem dX11_heaviest_56 : decode cX11_heaviest 56 = .ok (.lcmp, 1) := by decide +kernel
theorem dX11_heaviest_57 : decode cX11_heaviest 57 = .ok (.ifCond .le 9, 3) := by decide +kernel
theorem dX11_heaviest_60 : decode cX11_heaviest 60 = .ok (.lload 5, 2) := by decide +kernel
theorem dX11_heaviest_62 : decode cX11_heaviest 62 = .ok (.lstore_n 2, 1) := by decide +kernel
theorem dX11_heaviest_63 : decode cX11_heaviest 63 = .ok (.iload 4, 2) := by decide +kernel
theorem dX11_heaviest_65 : decode cX11_heaviest 65 = .ok (.istore_n 1, 1) := by decide +kernel
theorem dX11_heaviest_66 : decode cX11_heaviest 66 = .ok (.iinc 4 1, 3) := by decide +kernel
theorem dX11_heaviest_69 : decode cX11_heaviest 69 = .ok (.goto (-62), 3) := by decide +kernel
theorem dX11_heaviest_72 : decode cX11_heaviest 72 = .ok (.iload_n 1, 1) := by decide +kernel
theorem dX11_heaviest_73 : decode cX11_heaviest 73 = .ok (.ireturn, 1) := by decide +kernel
theorem ct_X11_heaviest {g : Gw} (hG : GF g) {z : Bool} (E : Mm) (s : Nat) (P : SP) (L : LW) (T K : LN) (d : Nat) (hI_E : CXI E s P L T K d) : CT g yX11_heaviest cX11_heaviest 7 (some .int) 1 23 0 0 K2 z [mR 0] (ov E) K2 z (fun r' D' => r' = some (mI ((hvP (sB P) (bN (sB P))).1)) ∧ ∃ E1, D' = ov E1 ∧ CXI E1 s P L T K d ∧ CXF E E1) := by
  refine CT.mk hG (by decide +kernel) (Nat.le_of_ble_eq_true rfl) (fun κ X Rt _ ok => ?_)
  have hs := hI_E.sa
  have hP := hI_E.WS
  have hW40 := hP.W
  have hN10 := hP.N
  have hN8 := hP.B.N
  have hX_E : CXF E E := CXF.rf
  have hwG := gNow_WG hI_E
  have hgw : gW (gNow P L d) = sW P := rfl
  have hgn : gN (gNow P L d) = sN P := rfl
  refine at_iconst 1 X (by decide) dX11_heaviest_0 rfl ?_
  refine at_istore_n 2 X rfl dX11_heaviest_1 rfl (by decide) ?_
  refine at_lconst 3 X (v := 0) (by decide) (by decide) dX11_heaviest_2 rfl ?_
  refine at_lstore_n 4 X rfl dX11_heaviest_3 rfl (by decide) ?_
  refine at_iconst 5 X (by decide) dX11_heaviest_4 rfl ?_
  refine at_istore 7 X dX11_heaviest_5 rfl (by decide) ?_
  have J7 : ∀ (f7 : Nat) (b : Nat) (v : Int) (m : Int), 8 - b < f7 → (b ≤ bN (sB P)) → (v = (hvP (sB P) b).1) → (m = (hvP (sB P) b).2) → AT g κ K2 z 0 0 7 [(0, mR 0), (1, mI v), (2, mL m), (4, mI ((b : Nat) : Int))] [] (ov E) := by
    intro f7
    induction f7 with
    | zero => intro b v m hf7; omega
    | succ f7 ih7 =>
    intro b v m hf7 hb hv hm
    refine at_iload 9 X rfl dX11_heaviest_7 rfl ?_
    refine at_aload_n 10 X rfl rfl dX11_heaviest_9 rfl ?_
    refine m_getM 13 X (s) f_X11_93 k_0 rn_0_15 hI_E.now dX11_heaviest_10 rfl ?_
    refine m_getR 16 X f_X11_135 (kX9 hs) (rX9_7 hs) dX11_heaviest_13 rfl ?_
    refine m_getIV 19 X ((bN (sB P) : Nat) : Int) hI_E.B.N f_X11_139 (kX0 (iB_8 hs)) (nX0_6 (iB_8 hs)) dX11_heaviest_16 rfl ?_
    have := hP.B.N
    refine at_icmp_ge 22 72 X dX11_heaviest_19 rfl (by decide) (fun h19 => ?_) (fun h19 => ?_)
    · refine at_iload_n 73 X rfl rfl dX11_heaviest_72 rfl ?_
      refine at_iret X Rt ?_ (by decide) (by decide) dX11_heaviest_73
      exact ⟨(by rw [hv, show b = bN (sB P) by omega]), _, rfl, hI_E, hX_E⟩
    · refine at_aload_n 23 X rfl rfl dX11_heaviest_22 rfl ?_
      refine m_getM 26 X (s) f_X11_93 k_0 rn_0_15 hI_E.now dX11_heaviest_23 rfl ?_
      refine m_getR 29 X f_X11_135 (kX9 hs) (rX9_7 hs) dX11_heaviest_26 rfl ?_
      refine m_getR 32 X f_X11_271 (kX0 (iB_8 hs)) (rX0_4 (iB_8 hs)) dX11_heaviest_29 rfl ?_
      refine at_iload 34 X rfl dX11_heaviest_32 rfl ?_
      refine m_laloadV 35 X b (by omega) ((onL (sB P) b : Nat) : Int) (hI_E.B.l (b := b) (by omega)) (kX0_4 (iB_8 hs)) (eX0_4 (iB_8 hs)) (by omega) dX11_heaviest_34 rfl ?_
      have := onL_le hP.B (b := b) (by omega)
      refine at_aload_n 36 X rfl rfl dX11_heaviest_35 rfl ?_
      refine m_getM 39 X (s) f_X11_93 k_0 rn_0_15 hI_E.now dX11_heaviest_36 rfl ?_
      refine m_getR 42 X f_X11_135 (kX9 hs) (rX9_7 hs) dX11_heaviest_39 rfl ?_
      refine m_getR 45 X f_X11_275 (kX0 (iB_8 hs)) (rX0_5 (iB_8 hs)) dX11_heaviest_42 rfl ?_
      refine at_iload 47 X rfl dX11_heaviest_45 rfl ?_
      refine m_laloadV 48 X b (by omega) ((onR (sB P) b : Nat) : Int) (hI_E.B.r (b := b) (by omega)) (kX0_5 (iB_8 hs)) (eX0_5 (iB_8 hs)) (by omega) dX11_heaviest_47 rfl ?_
      have := onR_le hP.B (b := b) (by omega)
      refine at_maxJV 51 X (if (onR (sB P) b : Int) < (onL (sB P) b : Int) then (onL (sB P) b : Int) else (onR (sB P) b : Int)) rfl w_796 (by rw [Rt.1]; exact ⟨by decide, by decide, by decide, by decide⟩) dX11_heaviest_48 rfl ?_
      refine at_lstore 53 X dX11_heaviest_51 rfl (by decide) ?_
      refine at_lload 55 X rfl dX11_heaviest_53 rfl ?_
      refine at_lload_n 56 X rfl rfl dX11_heaviest_55 rfl ?_
      refine at_lif_le 57 60 66 X dX11_heaviest_56 rfl dX11_heaviest_57 rfl (by decide) (fun h56 => ?_) (fun h56 => ?_)
      · refine at_iincV 69 X ((b + 1 : Nat) : Int) (w32_v (by omega) (by omega) (by omega)) rfl dX11_heaviest_66 rfl (by decide) ?_
        refine at_goto 7 X dX11_heaviest_69 (by decide) ?_
        exact at_sub _ (by exact ⟨rfl, rfl, rfl, rfl, trivial⟩) (ih7 (b + 1) v m (by first | omega | (simp only [] at *; omega)) (by first | omega | assumption) (by rw [hvP_s, ← hm]; first | rw [if_pos (show m < (if (onR (sB P) b : Int) < (onL (sB P) b : Int) then (onL (sB P) b : Int) else (onR (sB P) b : Int)) by assumption)] | (rw [if_neg (show ¬ m < (if (onR (sB P) b : Int) < (onL (sB P) b : Int) then (onL (sB P) b : Int) else (onR (sB P) b : Int)) by omega)]; assumption)) (by rw [hvP_s, ← hm]; first | rw [if_pos (show m < (if (onR (sB P) b : Int) < (onL (sB P) b : Int) then (onL (sB P) b : Int) else (onR (sB P) b : Int)) by assumption)] | (rw [if_neg (show ¬ m < (if (onR (sB P) b : Int) < (onL (sB P) b : Int) then (onL (sB P) b : Int) else (onR (sB P) b : Int)) by omega)]; assumption)))
      · refine at_lload 62 X rfl dX11_heaviest_60 rfl ?_
        refine at_lstore_n 63 X rfl dX11_heaviest_62 rfl (by decide) ?_
        refine at_iload 65 X rfl dX11_heaviest_63 rfl ?_
        refine at_istore_n 66 X rfl dX11_heaviest_65 rfl (by decide) ?_
        refine at_iincV 69 X ((b + 1 : Nat) : Int) (w32_v (by omega) (by omega) (by omega)) rfl dX11_heaviest_66 rfl (by decide) ?_
        refine at_goto 7 X dX11_heaviest_69 (by decide) ?_
        exact at_sub _ (by exact ⟨rfl, rfl, rfl, rfl, trivial⟩) (ih7 (b + 1) ((b : Nat) : Int) (if (onR (sB P) b : Int) < (onL (sB P) b : Int) then (onL (sB P) b : Int) else (onR (sB P) b : Int)) (by first | omega | (simp only [] at *; omega)) (by first | omega | assumption) (by rw [hvP_s, ← hm]; first | rw [if_pos (show m < (if (onR (sB P) b : Int) < (onL (sB P) b : Int) then (onL (sB P) b : Int) else (onR (sB P) b : Int)) by assumption)] | (rw [if_neg (show ¬ m < (if (onR (sB P) b : Int) < (onL (sB P) b : Int) then (onL (sB P) b : Int) else (onR (sB P) b : Int)) by omega)]; assumption)) (by rw [hvP_s, ← hm]; first | rw [if_pos (show m < (if (onR (sB P) b : Int) < (onL (sB P) b : Int) then (onL (sB P) b : Int) else (onR (sB P) b : Int)) by assumption)] | (rw [if_neg (show ¬ m < (if (onR (sB P) b : Int) < (onL (sB P) b : Int) then (onL (sB P) b : Int) else (onR (sB P) b : Int)) by omega)]; assumption)))
  exact at_sub _ (by exact ⟨rfl, rfl, rfl, rfl, trivial⟩) (J7 _ 0 (-1) 0 (Nat.lt_succ_self _) (by first | omega | assumption | rfl) rfl rfl)
theorem dX11_held_0 : decode cX11_held 0 = .ok (.aload_n 0, 1) := by decide +kernel
theorem dX11_held_1 : decode cX11_held 1 = .ok (.iload_n 1, 1) := by decide +kernel
theorem dX11_held_2 : decode cX11_held 2 = .ok (.invokevirtual 208, 3) := by decide +kernel
theorem dX11_held_5 : decode cX11_held 5 = .ok (.aload_n 0, 1) := by decide +kernel
theorem dX11_held_6 : decode cX11_held 6 = .ok (.invokevirtual 227, 3) := by decide +kernel
theorem dX11_held_9 : decode cX11_held 9 = .ok (.iconst 0, 1) := by decide +kernel
theorem dX11_held_10 : decode cX11_held 10 = .ok (.istore_n 2, 1) := by decide +kernel
theorem dX11_held_11 : decode cX11_held 11 = .ok (.iconst 0, 1) := by decide +kernel
theorem dX11_held_12 : decode cX11_held 12 = .ok (.istore_n 3, 1) := by decide +kernel
theorem dX11_held_13 : decode cX11_held 13 = .ok (.iload_n 3, 1) := by decide +kernel
theorem dX11_held_14 : decode cX11_held 14 = .ok (.bipush 24, 2) := by decide +kernel
theorem dX11_held_16 : decode cX11_held 16 = .ok (.if_icmp .ge 46, 3) := by decide +kernel
theorem dX11_held_19 : decode cX11_held 19 = .ok (.aload_n 0, 1) := by decide +kernel
theorem dX11_held_20 : decode cX11_held 20 = .ok (.getfield 59, 3) := by decide +kernel
theorem dX11_held_23 : decode cX11_held 23 = .ok (.aload_n 0, 1) := by decide +kernel
theorem dX11_held_24 : decode cX11_held 24 = .ok (.getfield 93, 3) := by decide +kernel
theorem dX11_held_27 : decode cX11_held 27 = .ok (.getfield 135, 3) := by decide +kernel
theorem dX11_held_30 : decode cX11_held 30 = .ok (.iload_n 1, 1) := by decide +kernel
theorem dX11_held_31 : decode cX11_held 31 = .ok (.aload_n 0, 1) := by decide +kernel
theorem dX11_held_32 : decode cX11_held 32 = .ok (.getfield 93, 3) := by decide +kernel
theorem dX11_held_35 : decode cX11_held 35 = .ok (.getfield 135, 3) := by decide +kernel
theorem dX11_held_38 : decode cX11_held 38 = .ok (.getfield 211, 3) := by decide +kernel
theorem dX11_held_41 : decode cX11_held 41 = .ok (.iload_n 1, 1) := by decide +kernel
theorem dX11_held_42 : decode cX11_held 42 = .ok (.iaload, 1) := by decide +kernel
theorem dX11_held_43 : decode cX11_held 43 = .ok (.iload_n 3, 1) := by decide +kernel
theorem dX11_held_44 : decode cX11_held 44 = .ok (.invokevirtual 409, 3) := by decide +kernel
theorem dX11_held_47 : decode cX11_held 47 = .ok (.ifCond .eq 9, 3) := by decide +kernel
theorem dX11_held_50 : decode cX11_held 50 = .ok (.iload_n 2, 1) := by decide +kernel
theorem dX11_held_51 : decode cX11_held 51 = .ok (.iconst 1, 1) := by decide +kernel
theorem dX11_held_52 : decode cX11_held 52 = .ok (.iload_n 3, 1) := by decide +kernel
theorem dX11_held_53 : decode cX11_held 53 = .ok (.ishl, 1) := by decide +kernel
theorem dX11_held_54 : decode cX11_held 54 = .ok (.ior, 1) := by decide +kernel
theorem dX11_held_55 : decode cX11_held 55 = .ok (.istore_n 2, 1) := by decide +kernel
theorem dX11_held_56 : decode cX11_held 56 = .ok (.iinc 3 1, 3) := by decide +kernel
theorem dX11_held_59 : decode cX11_held 59 = .ok (.goto (-46), 3) := by decide +kernel
theorem dX11_held_62 : decode cX11_held 62 = .ok (.iload_n 2, 1) := by decide +kernel
theorem dX11_held_63 : decode cX11_held 63 = .ok (.ireturn, 1) := by decide +kernel
theorem ct_X11_held {g : Gw} (hG : GF g) {z : Bool} (E : Mm) (s : Nat) (P : SP) (L : LW) (T K : LN) (d : Nat) (hI_E : CXI E s P L T K d) (x0 : Int) : CTX g yX11_held cX11_held 4 (some .int) 7 146 1 6 K2 z [mR 0, mI x0] (ov E) K2 z (fun r' D' => (0 ≤ x0 ∧ x0 ≤ (bN (sB P) : Int) - 1) ∧ r' = some (mI (mk (fun h => stP (gNow P L d) (sB P) x0.toNat (bX (sB P) x0.toNat) h) 24 : Nat)) ∧ ∃ E1, D' = ov E1 ∧ CXI E1 s P L T K d ∧ CXF E E1) (fun X D' => (¬ (0 ≤ x0 ∧ x0 ≤ (bN (sB P) : Int) - 1) ∧ X = "java/util/NoSuchElementException" ∧ D' = ov (bumpE E 1))) := by
  refine CTX.mk hG (by decide +kernel) (Nat.le_of_ble_eq_true rfl) (fun κ X Rt Rx ok => ?_)
  have hs := hI_E.sa
  have hP := hI_E.WS
  have hW40 := hP.W
  have hN10 := hP.N
  have hN8 := hP.B.N
  have hX_E : CXF E E := CXF.rf
  have hwG := gNow_WG hI_E
  have hgw : gW (gNow P L d) = sW P := rfl
  have hgn : gN (gNow P L d) = sN P := rfl
  refine at_aload_n 1 X rfl rfl dX11_held_0 rfl ?_
  refine at_iload_n 2 X rfl rfl dX11_held_1 rfl ?_
  refine at_callVX 5 X Rt Rx _ 11 (ct_X11_needBeamP hG E s P L T K d hI_E x0) clX11 rfl k_0 mo_X11_needBeam w_1239 vo_X11_needBeam.1 vo_X11_needBeam.2 rfl rfl (by decide) (Nat.le_of_ble_eq_true rfl) dX11_held_2 rfl (fun _ _ h => ⟨h.1, h.2.1, h.2.2⟩) ?_
  rintro _ _ ⟨hc0, rfl, rfl⟩
  obtain ⟨b, rfl⟩ : ∃ b : Nat, x0 = (b : Int) := ⟨x0.toNat, by omega⟩
  refine at_aload_n 6 X rfl rfl dX11_held_5 rfl ?_
  refine at_callV 9 X _ 11 (ct_X11_refresh hG E s P L T K d hI_E) clX11 rfl k_0 mo_X11_refresh w_665 vo_X11_refresh.1 vo_X11_refresh.2 rfl rfl (crm Rt (by decide)) (Nat.le_of_ble_eq_true rfl) dX11_held_6 rfl ?_
  rintro _ _ ⟨rfl, F1, rfl, hI_F1, hF_F1, hXn_F1⟩
  have hX_F1 := hX_E.tr hXn_F1
  refine at_iconst 10 X (by decide) dX11_held_9 rfl ?_
  refine at_istore_n 11 X rfl dX11_held_10 rfl (by decide) ?_
  refine at_iconst 12 X (by decide) dX11_held_11 rfl ?_
  refine at_istore_n 13 X rfl dX11_held_12 rfl (by decide) ?_
  have J13 : ∀ (f13 : Nat) (F : Mm) (h : Nat) (v : Nat), 24 - h < f13 → (h ≤ 24) → (CXI F s P L T K d) → (FRS F P L T d) → (CXF E F) → (v = mk (fun h => stP (gNow P L d) (sB P) b (bX (sB P) b) h) h) → AT g κ K2 z 1 6 13 [(0, mR 0), (1, mI ((b : Nat) : Int)), (2, mI ((v : Nat) : Int)), (3, mI ((h : Nat) : Int))] [] (ov F) := by
    intro f13
    induction f13 with
    | zero => intro F h v hf13; omega
    | succ f13 ih13 =>
    intro F h v hf13 hh hI_F hF_F hX_F hv
    refine at_iload_n 14 X rfl rfl dX11_held_13 rfl ?_
    refine at_bipush 16 X (by decide) (by decide) dX11_held_14 rfl ?_
    refine at_icmp_ge 19 62 X dX11_held_16 rfl (by decide) (fun h16 => ?_) (fun h16 => ?_)
    · refine at_iload_n 63 X rfl rfl dX11_held_62 rfl ?_
      refine at_iret X Rt ?_ (by decide) (by decide) dX11_held_63
      exact ⟨hc0, (by rw [hv, show h = 24 by omega]; rfl), _, rfl, hI_F, hX_F⟩
    · refine at_aload_n 20 X rfl rfl dX11_held_19 rfl ?_
      refine m_getR 23 X f_X11_59 k_0 r_0_9 dX11_held_20 rfl ?_
      refine at_aload_n 24 X rfl rfl dX11_held_23 rfl ?_
      refine m_getM 27 X (s) f_X11_93 k_0 rn_0_15 hI_F.now dX11_held_24 rfl ?_
      refine m_getR 30 X f_X11_135 (kX9 hs) (rX9_7 hs) dX11_held_27 rfl ?_
      refine at_iload_n 31 X rfl rfl dX11_held_30 rfl ?_
      refine at_aload_n 32 X rfl rfl dX11_held_31 rfl ?_
      refine m_getM 35 X (s) f_X11_93 k_0 rn_0_15 hI_F.now dX11_held_32 rfl ?_
      refine m_getR 38 X f_X11_135 (kX9 hs) (rX9_7 hs) dX11_held_35 rfl ?_
      refine m_getR 41 X f_X11_211 (kX0 (iB_8 hs)) (rX0_0 (iB_8 hs)) dX11_held_38 rfl ?_
      have := hP.B.X (b := b) (by omega)
      refine at_iload_n 42 X rfl rfl dX11_held_41 rfl ?_
      refine m_ialoadV 43 X b (by omega) ((bX (sB P) b : Nat) : Int) (hI_F.B.X (b := b) (by omega)) (kX0_0 (iB_8 hs)) (eX0_0 (iB_8 hs)) (by omega) dX11_held_42 rfl ?_
      have := hP.B.X (b := b) (by omega)
      refine at_iload_n 44 X rfl rfl dX11_held_43 rfl ?_
      refine at_callV 47 X _ 4 (ct_X4_holdsUp hG F 30 (Or.inl rfl) (gNow P L d) hwG hF_F.1 hI_F.Lw (sB P) (s + 8) (iB_8 hs) hI_F.B hP.B b (bX (sB P) b) h (by omega) (by omega) (by omega)) clX4 rfl k_30 mo_X4_holdsUp w_1578 vo_X4_holdsUp.1 vo_X4_holdsUp.2 rfl rfl (crm Rt (by decide)) (Nat.le_of_ble_eq_true rfl) dX11_held_44 rfl ?_
      rintro _ _ ⟨rfl, F2, rfl, hg_F2, hq_F2⟩
      have hK3 := hI_F.known hF_F hg_F2 hq_F2
      have hI_F2 := hK3.1
      have hF_F2 := hK3.2.1
      have hX_F2 : CXF E F2 := hX_F.tr hK3.2.2
      refine at_if_eq 50 56 X dX11_held_47 rfl (by decide) (fun h47 => ?_) (fun h47 => ?_)
      · have h47 : ¬ (stP (gNow P L d) (sB P) b (bX (sB P) b) h = true) := ite_no.mp h47
        refine at_iincV 59 X ((h + 1 : Nat) : Int) (w32_v (by omega) (by omega) (by omega)) rfl dX11_held_56 rfl (by decide) ?_
        refine at_goto 13 X dX11_held_59 (by decide) ?_
        exact at_sub _ (by exact ⟨rfl, rfl, rfl, rfl, trivial⟩) (ih13 F2 (h + 1) v (by first | omega | (simp only [] at *; omega)) (by first | omega | assumption) hI_F2 hF_F2 hX_F2 (by first | rfl | (rw [hv]; exact (mk_f (p := fun h => stP (gNow P L d) (sB P) b (bX (sB P) b) h) h47).symm)))
      · have h47 : (stP (gNow P L d) (sB P) b (bX (sB P) b) h = true) := ite_yes.mp h47
        refine at_iload_n 51 X rfl rfl dX11_held_50 rfl ?_
        refine at_iconst 52 X (by decide) dX11_held_51 rfl ?_
        refine at_iload_n 53 X rfl rfl dX11_held_52 rfl ?_
        refine at_ishlV 54 X ((2 ^ h : Nat) : Int) (ishl1 (by omega)) dX11_held_53 rfl ?_
        refine at_iorV 55 X ((mk (fun h => stP (gNow P L d) (sB P) b (bX (sB P) b) h) (h + 1) : Nat) : Int) (by rw [hv]; have h1 := mk24 (p := fun h => stP (gNow P L d) (sB P) b (bX (sB P) b) h) (n := h) (by omega); rw [ior_nat (by omega) (p2_31 (by omega)), mk_t h47]) dX11_held_54 rfl ?_
        refine at_istore_n 56 X rfl dX11_held_55 rfl (by decide) ?_
        refine at_iincV 59 X ((h + 1 : Nat) : Int) (w32_v (by omega) (by omega) (by omega)) rfl dX11_held_56 rfl (by decide) ?_
        refine at_goto 13 X dX11_held_59 (by decide) ?_
        exact at_sub _ (by exact ⟨rfl, rfl, rfl, rfl, trivial⟩) (ih13 F2 (h + 1) (mk (fun h => stP (gNow P L d) (sB P) b (bX (sB P) b) h) (h + 1)) (by first | omega | (simp only [] at *; omega)) (by first | omega | assumption) hI_F2 hF_F2 hX_F2 (by first | rfl | (rw [hv]; exact (mk_f (p := fun h => stP (gNow P L d) (sB P) b (bX (sB P) b) h) h47).symm)))
  exact at_sub _ (by exact ⟨rfl, rfl, rfl, rfl, trivial⟩) (J13 _ F1 0 0 (Nat.lt_succ_self _) (by first | omega | assumption | rfl) hI_F1 hF_F1 hX_F1 rfl)
/-- whether a line of the book is right -/
def okL (K : LN) (f : Nat → Int) (i : Nat) : Bool := decide ((if f (K.2.1 i) = -1 then 24 else f (K.2.1 i)) = (K.2.2.1 i : Int))
/-- how many lines are right, from the first on -/
def rlP (K : LN) (f : Nat → Int) : Nat → Nat := itr (fun i v => if v = i ∧ okL K f i = true then i + 1 else v) 0
theorem rlP_all {K : LN} {f : Nat → Int} : ∀ {n : Nat}, (∀ i, i < n → okL K f i = true) → rlP K f n = n
  | 0, _ => rfl
  | n + 1, h => by
    show (if rlP K f n = n ∧ okL K f n = true then n + 1 else rlP K f n) = n + 1
    rw [if_pos ⟨rlP_all (fun i hi => h i (by omega)), h n (by omega)⟩]
theorem rlP_stop {K : LN} {f : Nat → Int} {i : Nat} (h : ∀ j, j < i → okL K f j = true) (hi : ¬ okL K f i = true) : ∀ {n : Nat}, i ≤ n → rlP K f n = i
  | 0, hn => by rw [show i = 0 by omega]; rfl
  | n + 1, hn => by
    show (if rlP K f n = n ∧ okL K f n = true then n + 1 else rlP K f n) = i
    by_cases c : i = n + 1
    · subst c
      rw [rlP_all (fun j hj => h j (by omega)), if_pos ⟨rfl, h n (by omega)⟩]
    · rw [rlP_stop h hi (n := n) (by omega), if_neg]
      rintro ⟨q1, q2⟩
      subst q1
      exact hi q2
theorem dX11_isRight_0 : decode cX11_isRight 0 = .ok (.aload_n 1, 1) := by decide +kernel
theorem dX11_isRight_1 : decode cX11_isRight 1 = .ok (.getfield 278, 3) := by decide +kernel
theorem dX11_isRight_4 : decode cX11_isRight 4 = .ok (.aload_n 0, 1) := by decide +kernel
theorem dX11_isRight_5 : decode cX11_isRight 5 = .ok (.getfield 37, 3) := by decide +kernel
theorem dX11_isRight_8 : decode cX11_isRight 8 = .ok (.getfield 394, 3) := by decide +kernel
theorem dX11_isRight_11 : decode cX11_isRight 11 = .ok (.iload_n 2, 1) := by decide +kernel
theorem dX11_isRight_12 : decode cX11_isRight 12 = .ok (.iaload, 1) := by decide +kernel
theorem dX11_isRight_13 : decode cX11_isRight 13 = .ok (.iaload, 1) := by decide +kernel
theorem dX11_isRight_14 : decode cX11_isRight 14 = .ok (.istore_n 3, 1) := by decide +kernel
theorem dX11_isRight_15 : decode cX11_isRight 15 = .ok (.iload_n 3, 1) := by decide +kernel
theorem dX11_isRight_16 : decode cX11_isRight 16 = .ok (.iconst (-1), 1) := by decide +kernel
theorem dX11_isRight_17 : decode cX11_isRight 17 = .ok (.if_icmp .ne 8, 3) := by decide +kernel
theorem dX11_isRight_20 : decode cX11_isRight 20 = .ok (.bipush 24, 2) := by decide +kernel
theorem dX11_isRight_22 : decode cX11_isRight 22 = .ok (.goto 4, 3) := by decide +kernel
theorem dX11_isRight_25 : decode cX11_isRight 25 = .ok (.iload_n 3, 1) := by decide +kernel
theorem dX11_isRight_26 : decode cX11_isRight 26 = .ok (.aload_n 0, 1) := by decide +kernel
theorem dX11_isRight_27 : decode cX11_isRight 27 = .ok (.getfield 37, 3) := by decide +kernel
theorem dX11_isRight_30 : decode cX11_isRight 30 = .ok (.getfield 397, 3) := by decide +kernel
theorem dX11_isRight_33 : decode cX11_isRight 33 = .ok (.iload_n 2, 1) := by decide +kernel
theorem dX11_isRight_34 : decode cX11_isRight 34 = .ok (.iaload, 1) := by decide +kernel
theorem dX11_isRight_35 : decode cX11_isRight 35 = .ok (.if_icmp .ne 7, 3) := by decide +kernel
theorem dX11_isRight_38 : decode cX11_isRight 38 = .ok (.iconst 1, 1) := by decide +kernel
theorem dX11_isRight_39 : decode cX11_isRight 39 = .ok (.goto 4, 3) := by decide +kernel
theorem dX11_isRight_42 : decode cX11_isRight 42 = .ok (.iconst 0, 1) := by decide +kernel
theorem dX11_isRight_43 : decode cX11_isRight 43 = .ok (.ireturn, 1) := by decide +kernel
theorem ct_X11_isRight {g : Gw} (hG : GF g) {z : Bool} (E : Mm) (s : Nat) (P : SP) (L : LW) (T K : LN) (d : Nat) (hI_E : CXI E s P L T K d) (r : Nat) (hr : r = 48 ∨ r = 54) (f : Nat → Int) (hf : ∀ k, k < 8 → E (r + 2) k = f k) (hff : ∀ k, k < 8 → -1 ≤ f k ∧ f k < 24) (i : Nat) (hi : i < K.1) : CT g yX11_isRight cX11_isRight 4 (some .boolean) 0 0 0 0 K2 z [mR 0, mR r, mI ((i : Nat) : Int)] (ov E) K2 z (fun r' D' => r' = some (mI (if okL K f i = true then 1 else 0)) ∧ D' = ov E) := by
  refine CT.mk hG (by decide +kernel) (Nat.le_of_ble_eq_true rfl) (fun κ X Rt _ ok => ?_)
  have hs := hI_E.sa
  have hP := hI_E.WS
  have hW40 := hP.W
  have hN10 := hP.N
  have hN8 := hP.B.N
  have hX_E : CXF E E := CXF.rf
  have hK8 := hI_E.WK.1
  refine at_aload_n 1 X rfl rfl dX11_isRight_0 rfl ?_
  refine m_getR 4 X f_X11_278 (kX3 hr) (rX3_1 hr) dX11_isRight_1 rfl ?_
  refine at_aload_n 5 X rfl rfl dX11_isRight_4 rfl ?_
  refine m_getR 8 X f_X11_37 k_0 r_0_5 dX11_isRight_5 rfl ?_
  refine m_getR 11 X f_X11_394 k_16 r_16_0 dX11_isRight_8 rfl ?_
  refine at_iload_n 12 X rfl rfl dX11_isRight_11 rfl ?_
  refine m_ialoadV 13 X i (by omega) ((K.2.1 i : Nat) : Int) (hI_E.Kn.a (i := i) (by omega)) k_17 e_17 (by omega) dX11_isRight_12 rfl ?_
  have hKi := hI_E.WK.2 i (by omega)
  refine m_ialoadV 14 X (K.2.1 i) (by omega) (f (K.2.1 i)) (hf (K.2.1 i) (by omega)) (kX3_1 hr) (eX3_1 hr) (by omega) dX11_isRight_13 rfl ?_
  refine at_istore_n 15 X rfl dX11_isRight_14 rfl (by decide) ?_
  have hfk := hff (K.2.1 i) (by omega)
  refine at_iload_n 16 X rfl rfl dX11_isRight_15 rfl ?_
  refine at_iconst 17 X (by decide) dX11_isRight_16 rfl ?_
  refine at_icmp_ne 20 25 X dX11_isRight_17 rfl (by decide) (fun h17 => ?_) (fun h17 => ?_)
  · refine at_iload_n 26 X rfl rfl dX11_isRight_25 rfl ?_
    refine at_aload_n 27 X rfl rfl dX11_isRight_26 rfl ?_
    refine m_getR 30 X f_X11_37 k_0 r_0_5 dX11_isRight_27 rfl ?_
    refine m_getR 33 X f_X11_397 k_16 r_16_1 dX11_isRight_30 rfl ?_
    refine at_iload_n 34 X rfl rfl dX11_isRight_33 rfl ?_
    refine m_ialoadV 35 X i (by omega) ((K.2.2.1 i : Nat) : Int) (hI_E.Kn.b (i := i) (by omega)) k_18 e_18 (by omega) dX11_isRight_34 rfl ?_
    have hKi := hI_E.WK.2 i (by omega)
    refine at_icmp_ne 38 42 X dX11_isRight_35 rfl (by decide) (fun h35 => ?_) (fun h35 => ?_)
    · refine at_iconst 43 X (by decide) dX11_isRight_42 rfl ?_
      refine at_zret X Rt ?_ (by first | decide | (split <;> decide)) (Nat.le_refl _) (Nat.le_refl _) dX11_isRight_43
      refine ⟨?_, rfl⟩
      unfold okL
      first
        | (rw [if_pos (decide_eq_true (by first | (rw [if_pos (by omega)]; omega) | (rw [if_neg (by omega)]; omega)))])
        | (rw [if_neg (by rw [decide_eq_true_eq]; first | (rw [if_pos (by omega)]; omega) | (rw [if_neg (by omega)]; omega))])
    · refine at_iconst 39 X (by decide) dX11_isRight_38 rfl ?_
      refine at_goto 43 X dX11_isRight_39 (by decide) ?_
      refine at_zret X Rt ?_ (by first | decide | (split <;> decide)) (Nat.le_refl _) (Nat.le_refl _) dX11_isRight_43
      refine ⟨?_, rfl⟩
      unfold okL
      first
        | (rw [if_pos (decide_eq_true (by first | (rw [if_pos (by omega)]; omega) | (rw [if_neg (by omega)]; omega)))])
        | (rw [if_neg (by rw [decide_eq_true_eq]; first | (rw [if_pos (by omega)]; omega) | (rw [if_neg (by omega)]; omega))])
  · refine at_bipush 22 X (by decide) (by decide) dX11_isRight_20 rfl ?_
    refine at_goto 26 X dX11_isRight_22 (by decide) ?_
    refine at_aload_n 27 X rfl rfl dX11_isRight_26 rfl ?_
    refine m_getR 30 X f_X11_37 k_0 r_0_5 dX11_isRight_27 rfl ?_
    refine m_getR 33 X f_X11_397 k_16 r_16_1 dX11_isRight_30 rfl ?_
    refine at_iload_n 34 X rfl rfl dX11_isRight_33 rfl ?_
    refine m_ialoadV 35 X i (by omega) ((K.2.2.1 i : Nat) : Int) (hI_E.Kn.b (i := i) (by omega)) k_18 e_18 (by omega) dX11_isRight_34 rfl ?_
    have hKi := hI_E.WK.2 i (by omega)
    refine at_icmp_ne 38 42 X dX11_isRight_35 rfl (by decide) (fun h35 => ?_) (fun h35 => ?_)
    · refine at_iconst 43 X (by decide) dX11_isRight_42 rfl ?_
      refine at_zret X Rt ?_ (by first | decide | (split <;> decide)) (Nat.le_refl _) (Nat.le_refl _) dX11_isRight_43
      refine ⟨?_, rfl⟩
      unfold okL
      first
        | (rw [if_pos (decide_eq_true (by first | (rw [if_pos (by omega)]; omega) | (rw [if_neg (by omega)]; omega)))])
        | (rw [if_neg (by rw [decide_eq_true_eq]; first | (rw [if_pos (by omega)]; omega) | (rw [if_neg (by omega)]; omega))])
    · refine at_iconst 39 X (by decide) dX11_isRight_38 rfl ?_
      refine at_goto 43 X dX11_isRight_39 (by decide) ?_
      refine at_zret X Rt ?_ (by first | decide | (split <;> decide)) (Nat.le_refl _) (Nat.le_refl _) dX11_isRight_43
      refine ⟨?_, rfl⟩
      unfold okL
      first
        | (rw [if_pos (decide_eq_true (by first | (rw [if_pos (by omega)]; omega) | (rw [if_neg (by omega)]; omega)))])
        | (rw [if_neg (by rw [decide_eq_true_eq]; first | (rw [if_pos (by omega)]; omega) | (rw [if_neg (by omega)]; omega))])
theorem dX11_rightLines_0 : decode cX11_rightLines 0 = .ok (.iconst 0, 1) := by decide +kernel
theorem dX11_rightLines_1 : decode cX11_rightLines 1 = .ok (.istore_n 2, 1) := by decide +kernel
theorem dX11_rightLines_2 : decode cX11_rightLines 2 = .ok (.iload_n 2, 1) := by decide +kernel
theorem dX11_rightLines_3 : decode cX11_rightLines 3 = .ok (.aload_n 0, 1) := by decide +kernel
theorem dX11_rightLines_4 : decode cX11_rightLines 4 = .ok (.getfield 37, 3) := by decide +kernel
theorem dX11_rightLines_7 : decode cX11_rightLines 7 = .ok (.getfield 156, 3) := by decide +kernel
theorem dX11_rightLines_10 : decode cX11_rightLines 10 = .ok (.if_icmp .ge 18, 3) := by decide +kernel
theorem dX11_rightLines_13 : decode cX11_rightLines 13 = .ok (.aload_n 0, 1) := by decide +kernel
theorem dX11_rightLines_14 : decode cX11_rightLines 14 = .ok (.aload_n 1, 1) := by decide +kernel
theorem dX11_rightLines_15 : decode cX11_rightLines 15 = .ok (.iload_n 2, 1) := by decide +kernel
theorem dX11_rightLines_16 : decode cX11_rightLines 16 = .ok (.invokevirtual 390, 3) := by decide +kernel
theorem dX11_rightLines_19 : decode cX11_rightLines 19 = .ok (.ifCond .eq 9, 3) := by decide +kernel
theorem dX11_rightLines_22 : decode cX11_rightLines 22 = .ok (.iinc 2 1, 3) := by decide +kernel
theorem dX11_rightLines_25 : decode cX11_rightLines 25 = .ok (.goto (-23), 3) := by decide +kernel
theorem dX11_rightLines_28 : decode cX11_rightLines 28 = .ok (.iload_n 2, 1) := by decide +kernel
theorem dX11_rightLines_29 : decode cX11_rightLines 29 = .ok (.ireturn, 1) := by decide +kernel
theorem ct_X11_rightLines {g : Gw} (hG : GF g) {z : Bool} (E : Mm) (s : Nat) (P : SP) (L : LW) (T K : LN) (d : Nat) (hI_E : CXI E s P L T K d) (r : Nat) (hr : r = 48 ∨ r = 54) (f : Nat → Int) (hf : ∀ k, k < 8 → E (r + 2) k = f k) (hff : ∀ k, k < 8 → -1 ≤ f k ∧ f k < 24) : CT g yX11_rightLines cX11_rightLines 3 (some .int) 1 23 0 0 K2 z [mR 0, mR r] (ov E) K2 z (fun r' D' => r' = some (mI (rlP K f K.1 : Nat)) ∧ D' = ov E) := by
  refine CT.mk hG (by decide +kernel) (Nat.le_of_ble_eq_true rfl) (fun κ X Rt _ ok => ?_)
  have hs := hI_E.sa
  have hP := hI_E.WS
  have hW40 := hP.W
  have hN10 := hP.N
  have hN8 := hP.B.N
  have hX_E : CXF E E := CXF.rf
  have hK8 := hI_E.WK.1
  refine at_iconst 1 X (by decide) dX11_rightLines_0 rfl ?_
  refine at_istore_n 2 X rfl dX11_rightLines_1 rfl (by decide) ?_
  have J2 : ∀ (f2 : Nat) (i : Nat), 8 - i < f2 → (i ≤ K.1) → ((∀ j, j < i → okL K f j = true)) → AT g κ K2 z 0 0 2 [(0, mR 0), (1, mR r), (2, mI ((i : Nat) : Int))] [] (ov E) := by
    intro f2
    induction f2 with
    | zero => intro i hf2; omega
    | succ f2 ih2 =>
    intro i hf2 hi ho
    refine at_iload_n 3 X rfl rfl dX11_rightLines_2 rfl ?_
    refine at_aload_n 4 X rfl rfl dX11_rightLines_3 rfl ?_
    refine m_getR 7 X f_X11_37 k_0 r_0_5 dX11_rightLines_4 rfl ?_
    refine m_getIV 10 X ((K.1 : Nat) : Int) hI_E.Kn.n f_X11_156 k_16 rn_16_3 dX11_rightLines_7 rfl ?_
    have hK8 := hI_E.WK.1
    refine at_icmp_ge 13 28 X dX11_rightLines_10 rfl (by decide) (fun h10 => ?_) (fun h10 => ?_)
    · refine at_iload_n 29 X rfl rfl dX11_rightLines_28 rfl ?_
      refine at_iret X Rt ?_ (Nat.le_refl _) (Nat.le_refl _) dX11_rightLines_29
      first
        | exact ⟨by rw [show K.1 = i by omega, rlP_all ho], rfl⟩
        | exact ⟨by rw [rlP_stop ho h19 (by omega)], rfl⟩
    · refine at_aload_n 14 X rfl rfl dX11_rightLines_13 rfl ?_
      refine at_aload_n 15 X rfl rfl dX11_rightLines_14 rfl ?_
      refine at_iload_n 16 X rfl rfl dX11_rightLines_15 rfl ?_
      refine at_callV 19 X _ 11 (ct_X11_isRight hG E s P L T K d hI_E r hr f hf hff i (by omega)) clX11 rfl k_0 mo_X11_isRight w_788 vo_X11_isRight.1 vo_X11_isRight.2 rfl rfl (crm Rt (by decide)) (Nat.le_of_ble_eq_true rfl) dX11_rightLines_16 rfl ?_
      rintro _ _ ⟨rfl, rfl⟩
      refine at_if_eq 22 28 X dX11_rightLines_19 rfl (by decide) (fun h19 => ?_) (fun h19 => ?_)
      · have h19 : ¬ (okL K f i = true) := ite_no.mp h19
        refine at_iload_n 29 X rfl rfl dX11_rightLines_28 rfl ?_
        refine at_iret X Rt ?_ (Nat.le_refl _) (Nat.le_refl _) dX11_rightLines_29
        first
          | exact ⟨by rw [show K.1 = i by omega, rlP_all ho], rfl⟩
          | exact ⟨by rw [rlP_stop ho h19 (by omega)], rfl⟩
      · have h19 : (okL K f i = true) := ite_yes.mp h19
        refine at_iincV 25 X ((i + 1 : Nat) : Int) (w32_v (by omega) (by omega) (by omega)) rfl dX11_rightLines_22 rfl (by decide) ?_
        refine at_goto 2 X dX11_rightLines_25 (by decide) ?_
        exact at_sub _ (by exact ⟨rfl, rfl, rfl, trivial⟩) (ih2 (i + 1) (by first | omega | (simp only [] at *; omega)) (by first | omega | assumption) (fun j hj => if c : j = i then by rw [c]; exact h19 else ho j (by omega)))
  exact at_sub _ (by exact ⟨rfl, rfl, rfl, trivial⟩) (J2 _ 0 (Nat.lt_succ_self _) (by first | omega | assumption | rfl) (fun j hj => absurd hj (Nat.not_lt_zero j)))
theorem DI_f {W : Nat} {B : BM} {d : DS} (h : DI W B d) (k : Nat) : -1 ≤ dF d k ∧ dF d k < 24 := by
  by_cases c : k < bN B
  · exact h.2.2.2.2.1 k c
  · rw [(h.2.2.2.1 k (by omega)).2]; decide
theorem dX11_right_0 : decode cX11_right 0 = .ok (.aload_n 0, 1) := by decide +kernel
theorem dX11_right_1 : decode cX11_right 1 = .ok (.invokevirtual 227, 3) := by decide +kernel
theorem dX11_right_4 : decode cX11_right 4 = .ok (.aload_n 0, 1) := by decide +kernel
theorem dX11_right_5 : decode cX11_right 5 = .ok (.aload_n 0, 1) := by decide +kernel
theorem dX11_right_6 : decode cX11_right 6 = .ok (.getfield 69, 3) := by decide +kernel
theorem dX11_right_9 : decode cX11_right 9 = .ok (.invokevirtual 383, 3) := by decide +kernel
theorem dX11_right_12 : decode cX11_right 12 = .ok (.ireturn, 1) := by decide +kernel
theorem ct_X11_right {g : Gw} (hG : GF g) {z : Bool} (E : Mm) (s : Nat) (P : SP) (L : LW) (T K : LN) (d : Nat) (hI_E : CXI E s P L T K d) : CT g yX11_right cX11_right 1 (some .int) 6 146 0 0 K2 z [mR 0] (ov E) K2 z (fun r' D' => r' = some (mI (rlP K (dF (dyP (gNow P L d) (sB P) T 24)) K.1 : Nat)) ∧ ∃ E1, D' = ov E1 ∧ CXI E1 s P L T K d ∧ CXF E E1) := by
  refine CT.mk hG (by decide +kernel) (Nat.le_of_ble_eq_true rfl) (fun κ X Rt _ ok => ?_)
  have hs := hI_E.sa
  have hP := hI_E.WS
  have hW40 := hP.W
  have hN10 := hP.N
  have hN8 := hP.B.N
  have hX_E : CXF E E := CXF.rf
  have hwG := gNow_WG hI_E
  have hgw : gW (gNow P L d) = sW P := rfl
  have hgn : gN (gNow P L d) = sN P := rfl
  refine at_aload_n 1 X rfl rfl dX11_right_0 rfl ?_
  refine at_callV 4 X _ 11 (ct_X11_refresh hG E s P L T K d hI_E) clX11 rfl k_0 mo_X11_refresh w_665 vo_X11_refresh.1 vo_X11_refresh.2 rfl rfl (crm Rt (by decide)) (Nat.le_of_ble_eq_true rfl) dX11_right_1 rfl ?_
  rintro _ _ ⟨rfl, F1, rfl, hI_F1, hF_F1, hXn_F1⟩
  have hX_F1 := hX_E.tr hXn_F1
  refine at_aload_n 5 X rfl rfl dX11_right_4 rfl ?_
  refine at_aload_n 6 X rfl rfl dX11_right_5 rfl ?_
  refine m_getR 9 X f_X11_69 k_0 r_0_11 dX11_right_6 rfl ?_
  refine at_callV 12 X _ 11 (ct_X11_rightLines hG F1 s P L T K d hI_F1 48 (Or.inl rfl) (dF (dyP (gNow P L d) (sB P) T 24)) hF_F1.2.2.1.2.1 (fun k hk => DI_f (dyP_DI (G := (gNow P L d)) hP.B hI_F1.WT (Nat.le_refl 24)) k)) clX11 rfl k_0 mo_X11_rightLines w_784 vo_X11_rightLines.1 vo_X11_rightLines.2 rfl rfl (crm Rt (by decide)) (Nat.le_of_ble_eq_true rfl) dX11_right_9 rfl ?_
  rintro _ _ ⟨rfl, rfl⟩
  refine at_iret X Rt ?_ (by decide) (by decide) dX11_right_12
  exact ⟨(by rfl), _, rfl, hI_F1, hX_F1⟩
