theorem snI_congr {E E1 : Mm} (h : ∀ q, (142 ≤ q ∧ q ≤ 151) ∨ (228 ≤ q ∧ q ≤ 235) ∨ (246 ≤ q ∧ q ≤ 253) → E1 q = E q) {i : Nat} (hi : i < 178) : snI E1 i = snI E i := by
  unfold snI
  by_cases c : i < 10
  · rw [if_pos c, if_pos c, h (142 + i) (by omega)]
  · rw [if_neg c, if_neg c, h (228 + (i - 10) / 21) (by omega), h (246 + (i - 10) / 21) (by omega)]
theorem dX12_changes_0 : decode cX12_changes 0 = .ok (.aload_n 0, 1) := by decide +kernel
theorem dX12_changes_1 : decode cX12_changes 1 = .ok (.iconst 0, 1) := by decide +kernel
theorem dX12_changes_2 : decode cX12_changes 2 = .ok (.putfield 460, 3) := by decide +kernel
theorem dX12_changes_5 : decode cX12_changes 5 = .ok (.aload_n 0, 1) := by decide +kernel
theorem dX12_changes_6 : decode cX12_changes 6 = .ok (.aload_n 0, 1) := by decide +kernel
theorem dX12_changes_7 : decode cX12_changes 7 = .ok (.getfield 104, 3) := by decide +kernel
theorem dX12_changes_10 : decode cX12_changes 10 = .ok (.aload_n 0, 1) := by decide +kernel
theorem dX12_changes_11 : decode cX12_changes 11 = .ok (.getfield 270, 3) := by decide +kernel
theorem dX12_changes_14 : decode cX12_changes 14 = .ok (.aaload, 1) := by decide +kernel
theorem dX12_changes_15 : decode cX12_changes 15 = .ok (.iconst 0, 1) := by decide +kernel
theorem dX12_changes_16 : decode cX12_changes 16 = .ok (.invokevirtual 467, 3) := by decide +kernel
theorem dX12_changes_19 : decode cX12_changes 19 = .ok (.aload_n 0, 1) := by decide +kernel
theorem dX12_changes_20 : decode cX12_changes 20 = .ok (.dup, 1) := by decide +kernel
theorem dX12_changes_21 : decode cX12_changes 21 = .ok (.getfield 270, 3) := by decide +kernel
theorem dX12_changes_24 : decode cX12_changes 24 = .ok (.iconst 1, 1) := by decide +kernel
theorem dX12_changes_25 : decode cX12_changes 25 = .ok (.iadd, 1) := by decide +kernel
theorem dX12_changes_26 : decode cX12_changes 26 = .ok (.putfield 270, 3) := by decide +kernel
theorem dX12_changes_29 : decode cX12_changes 29 = .ok (.return_, 1) := by decide +kernel
theorem ct_X12_changes {g : Gw} (hG : GF g) {z : Bool} (E : Mm) (c : Nat) (hc20 : c < 20) (hc : E 125 46 = (c : Int)) : CT g yX12_changes cX12_changes 1 none 2 47 0 0 K2 z [mR 125] (ov E) K2 z (fun r D' => r = none ∧ ∃ E1, D' = ov E1 ∧ (∀ i, i < 178 → E1 (633 + c) i = snI E i) ∧ E1 125 46 = ((c + 1 : Nat) : Int) ∧ (∀ q, q ≠ 633 + c → q ≠ 125 → E1 q = E q) ∧ ∀ k, k ≠ 46 → k ≠ 48 → E1 125 k = E 125 k) := by
  refine CT.mk hG (by decide +kernel) (Nat.le_of_ble_eq_true rfl) (fun κ X Rt _ ok => ?_)
  refine at_aload_n 1 X rfl rfl dX12_changes_0 rfl ?_
  refine at_iconst 2 X (by decide) dX12_changes_1 rfl ?_
  refine m_putI 5 X f_X12_460 fw_12_48 k_125 rn_125_48 dX12_changes_2 rfl ?_
  refine at_aload_n 6 X rfl rfl dX12_changes_5 rfl ?_
  refine at_aload_n 7 X rfl rfl dX12_changes_6 rfl ?_
  refine m_getR 10 X f_X12_104 k_125 r_125_41 dX12_changes_7 rfl ?_
  refine at_aload_n 11 X rfl rfl dX12_changes_10 rfl ?_
  refine m_getIV 14 X ((c : Nat) : Int) ((wr_o (by omega)).trans hc) f_X12_270 k_125 rn_125_46 dX12_changes_11 rfl ?_
  refine m_aaloadV 15 X c (by omega) k_632 (by decide) (by omega) (rr_632 _ (by omega)) dX12_changes_14 rfl ?_
  refine at_iconst 16 X (by decide) dX12_changes_15 rfl ?_
  refine at_callV 19 X _ 12 (ct_puts0 hG (wr E 125 48 0) (633 + c) 178 (kr_632 c hc20) (er_632 c hc20) (by omega) (by omega) (wr_s _ _ _ _)) clX12 rfl k_125 mo_X12_putsChanged w_2410 vo_X12_putsChanged.1 vo_X12_putsChanged.2 rfl rfl (crm Rt (by decide)) (Nat.le_of_ble_eq_true rfl) dX12_changes_16 rfl ?_
  rintro _ _ ⟨rfl, F, rfl, g1, g2, g3, g4, g5⟩
  have h46 : F 125 46 = (c : Int) := (g4 46 (by decide)).trans ((wr_o (by omega)).trans hc)
  refine at_aload_n 20 X rfl rfl dX12_changes_19 rfl ?_
  refine at_dup 21 X (show ¬ (2 : Nat) = 1 by decide) dX12_changes_20 rfl ?_
  refine m_getIV 24 X ((c : Nat) : Int) h46 f_X12_270 k_125 rn_125_46 dX12_changes_21 rfl ?_
  refine at_iconst 25 X (by decide) dX12_changes_24 rfl ?_
  refine at_iaddV 26 X ((c + 1 : Nat) : Int) (w32_v (by omega) (by omega) (by omega)) dX12_changes_25 rfl ?_
  refine m_putI 29 X f_X12_270 fw_12_46 k_125 rn_125_46 dX12_changes_26 rfl ?_
  refine at_vret X Rt ?_ (Nat.le_refl _) (Nat.le_refl _) dX12_changes_29
  exact ⟨rfl, _, rfl, fun i hi => by rw [wr_row (by omega), g1 i hi]; exact snI_congr (fun q hq => wr_row (by omega)) hi, wr_s _ _ _ _, fun q h1 h2 => by rw [wr_row h2, g3 q h1 h2, wr_row h2], fun k h1 h2 => by rw [wr_o (Or.inr h1), g4 k h2, wr_o (Or.inr h2)]⟩
