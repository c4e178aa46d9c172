/-- the reference on another day -/
theorem RXI.dy {E : Mm} {Q : RX} {P : SP} {L : LW} {T K : LN} {d st : Nat} (h : RXI E Q P L T K d st) (hWf : WF P L T K d st) (x : Nat) : RXI (wr E 125 45 (x : Int)) Q P L T K x st := by
  have hT := hWf.2.2.2.1.1
  have hKb := hWf.2.2.2.2.1.1
  have hq : ∀ q, q ≠ 125 → wr E 125 45 (x : Int) q = E q := fun q h => wr_row h
  have hk : ∀ k, k ≠ 45 → wr E 125 45 (x : Int) 125 k = E 125 k := fun k h => wr_o (Or.inr h)
  obtain ⟨h1, h2, h3, h4, h5, h6⟩ := h
  refine ⟨h1.fr (fun q a => hq q (by omega)) hWf.1, h2.fr hWf.2.2.1.2.1 (hk 28 (by decide)) (fun q a b => hq q (by omega)), h3.fr (hk 30 (by decide)) (hq 578 (by decide)) (hq 579 (by decide)), ⟨(hk 43 (by decide)).trans h4.1, fun i hi => ?_⟩, ⟨(hk 44 (by decide)).trans h5.1, fun i hi => ?_⟩, wr_s _ _ _ _⟩
  · rw [hq (581 + i) (by omega)]; exact h4.2 i hi
  · rw [hq (615 + i) (by omega)]; exact h5.2 i hi
theorem dX12_day_0 : decode cX12_day 0 = .ok (.aload_n 0, 1) := by decide +kernel
theorem dX12_day_1 : decode cX12_day 1 = .ok (.iconst 0, 1) := by decide +kernel
theorem dX12_day_2 : decode cX12_day 2 = .ok (.putfield 152, 3) := by decide +kernel
theorem dX12_day_5 : decode cX12_day 5 = .ok (.aload_n 0, 1) := by decide +kernel
theorem dX12_day_6 : decode cX12_day 6 = .ok (.iload_n 1, 1) := by decide +kernel
theorem dX12_day_7 : decode cX12_day 7 = .ok (.iconst 0, 1) := by decide +kernel
theorem dX12_day_8 : decode cX12_day 8 = .ok (.sipush 399, 3) := by decide +kernel
theorem dX12_day_11 : decode cX12_day 11 = .ok (.invokestatic 186, 3) := by decide +kernel
theorem dX12_day_14 : decode cX12_day 14 = .ok (.ifCond .ne 7, 3) := by decide +kernel
theorem dX12_day_17 : decode cX12_day 17 = .ok (.iconst 1, 1) := by decide +kernel
theorem dX12_day_18 : decode cX12_day 18 = .ok (.goto 4, 3) := by decide +kernel
theorem dX12_day_21 : decode cX12_day 21 = .ok (.iconst 0, 1) := by decide +kernel
theorem dX12_day_22 : decode cX12_day 22 = .ok (.iconst 1, 1) := by decide +kernel
theorem dX12_day_23 : decode cX12_day 23 = .ok (.iconst 2, 1) := by decide +kernel
theorem dX12_day_24 : decode cX12_day 24 = .ok (.invokevirtual 244, 3) := by decide +kernel
theorem dX12_day_27 : decode cX12_day 27 = .ok (.ifCond .eq 5, 3) := by decide +kernel
theorem dX12_day_30 : decode cX12_day 30 = .ok (.iconst 0, 1) := by decide +kernel
theorem dX12_day_31 : decode cX12_day 31 = .ok (.ireturn, 1) := by decide +kernel
theorem dX12_day_32 : decode cX12_day 32 = .ok (.aload_n 0, 1) := by decide +kernel
theorem dX12_day_33 : decode cX12_day 33 = .ok (.getfield 267, 3) := by decide +kernel
theorem dX12_day_36 : decode cX12_day 36 = .ok (.istore_n 2, 1) := by decide +kernel
theorem dX12_day_37 : decode cX12_day 37 = .ok (.aload_n 0, 1) := by decide +kernel
theorem dX12_day_38 : decode cX12_day 38 = .ok (.iload_n 1, 1) := by decide +kernel
theorem dX12_day_39 : decode cX12_day 39 = .ok (.putfield 267, 3) := by decide +kernel
theorem dX12_day_42 : decode cX12_day 42 = .ok (.iload_n 2, 1) := by decide +kernel
theorem dX12_day_43 : decode cX12_day 43 = .ok (.ireturn, 1) := by decide +kernel
theorem ct_X12_day {g : Gw} (hG : GF g) {z : Bool} (E : Mm) (Q : RX) (P : SP) (L : LW) (T K : LN) (d st : Nat) (hWf : WF P L T K d st) (hI_E : RXI E Q P L T K d st) (x0 : Int) : CT g yX12_day cX12_day 3 (some .int) 1 23 0 0 K2 z [mR 125, mI x0] (ov E) K2 z (fun r' D' => ((0 ≤ x0 ∧ x0 ≤ 399) ∧ r' = some (mI (d : Int)) ∧ ∃ E1, D' = ov (wr E1 125 45 x0) ∧ RXO E E1 Q P L T K d st) ∨ (¬ (0 ≤ x0 ∧ x0 ≤ 399) ∧ r' = some (mI 0) ∧ D' = ov (badR E 1 2))) := by
  refine CT.mk hG (by decide +kernel) (Nat.le_of_ble_eq_true rfl) (fun κ X Rt _ ok => ?_)
  have hP := hWf.1
  have hN8 := hP.B.N
  have hW40 := hP.W
  have hN11 := hP.N
  have hwN : gN (gDay P L d) ≤ 11 := Nat.le_trans hP.N (by decide)
  have hgw : gW (gDay P L d) = sW P := rfl
  have hDI24 := dyP_DI (G := (gDay P L d)) hP.B hWf.2.2.2.1 (Nat.le_refl 24)
  refine at_aload_n 1 X rfl rfl dX12_day_0 rfl ?_
  refine at_iconst 2 X (by decide) dX12_day_1 rfl ?_
  refine m_putI 5 X f_X12_152 fw_12_0 k_125 rn_125_0 dX12_day_2 rfl ?_
  have hO_E0 := RXO.z hWf hI_E
  generalize hE0 : wr E 125 0 0 = E0 at hO_E0 ⊢
  have hR_E0 := hO_E0.1.1
  refine at_aload_n 6 X rfl rfl dX12_day_5 rfl ?_
  refine at_iload_n 7 X rfl rfl dX12_day_6 rfl ?_
  refine at_iconst 8 X (by decide) dX12_day_7 rfl ?_
  refine at_sipush 11 X (by decide) (by decide) dX12_day_8 rfl ?_
  refine at_callS 14 X (ct_X12_in hG _ _ _) mo_X12_in w_1957 so_X12_in rfl rfl (crm Rt (by decide)) (Nat.le_of_ble_eq_true rfl) dX12_day_11 rfl ?_
  rintro _ _ ⟨rfl, rfl⟩
  refine at_if_ne 17 21 X dX12_day_14 rfl (by decide) (fun h14 => ?_) (fun h14 => ?_)
  · have h14 : (0 ≤ x0 ∧ x0 ≤ 399) := ite_yes.mp h14
    refine at_iconst 22 X (by decide) dX12_day_21 rfl ?_
    refine at_iconst 23 X (by decide) dX12_day_22 rfl ?_
    refine at_iconst 24 X (by decide) dX12_day_23 rfl ?_
    refine at_callV 27 X _ 12 (ct_bad0 hG E0 1 2 (by decide) hO_E0.2.2.1) clX12 rfl k_125 mo_X12_bad w_1960 vo_X12_bad.1 vo_X12_bad.2 rfl rfl (crm Rt (by decide)) (Nat.le_of_ble_eq_true rfl) dX12_day_24 rfl ?_
    rintro _ _ ⟨rfl, rfl⟩
    have hc0 : 0 ≤ x0 ∧ x0 ≤ 399 := by omega
    refine at_if_eq 30 32 X dX12_day_27 rfl (by decide) (fun h27 => ?_) (fun h27 => ?_)
    · refine at_aload_n 33 X rfl rfl dX12_day_32 rfl ?_
      refine m_getIV 36 X ((d : Nat) : Int) hO_E0.1.2.2.2.2.2 f_X12_267 k_125 rn_125_45 dX12_day_33 rfl ?_
      refine at_istore_n 37 X rfl dX12_day_36 rfl (by decide) ?_
      refine at_aload_n 38 X rfl rfl dX12_day_37 rfl ?_
      refine at_iload_n 39 X rfl rfl dX12_day_38 rfl ?_
      refine m_putI 42 X f_X12_267 fw_12_45 k_125 rn_125_45 dX12_day_39 rfl ?_
      refine at_iload_n 43 X rfl rfl dX12_day_42 rfl ?_
      refine at_iret X Rt ?_ (Nat.le_refl _) (Nat.le_refl _) dX12_day_43
      exact Or.inl ⟨hc0, rfl, _, rfl, hO_E0⟩
    · exact absurd h27 (by decide)
  · have h14 : ¬ (0 ≤ x0 ∧ x0 ≤ 399) := ite_no.mp h14
    refine at_iconst 18 X (by decide) dX12_day_17 rfl ?_
    refine at_goto 22 X dX12_day_18 (by decide) ?_
    refine at_iconst 23 X (by decide) dX12_day_22 rfl ?_
    refine at_iconst 24 X (by decide) dX12_day_23 rfl ?_
    refine at_callV 27 X _ 12 (ct_bad1 hG E0 1 2 (by decide) hO_E0.2.2.1 (by decide)) clX12 rfl k_125 mo_X12_bad w_1960 vo_X12_bad.1 vo_X12_bad.2 rfl rfl (crm Rt (by decide)) (Nat.le_of_ble_eq_true rfl) dX12_day_24 rfl ?_
    rintro _ _ ⟨rfl, rfl⟩
    have hb : ¬ (0 ≤ x0 ∧ x0 ≤ 399) := by omega
    refine at_if_eq 30 32 X dX12_day_27 rfl (by decide) (fun h27 => ?_) (fun h27 => ?_)
    · exact absurd h27 (by decide)
    · refine at_iconst 31 X (by decide) dX12_day_30 rfl ?_
      refine at_iret X Rt ?_ (Nat.le_refl _) (Nat.le_refl _) dX12_day_31
      exact Or.inr (⟨hb, rfl, congrArg ov (badR_of hE0)⟩)
