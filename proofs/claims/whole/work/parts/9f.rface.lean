/-- the reference where a change has been taken back (m: how many are left) -/
def UNO (E E1 : Mm) (m : Nat) : Prop := (∀ i, i < 10 → E1 (142 + i) 1 = E (633 + m) i) ∧ (∀ i, i < 8 → E1 (228 + i) 0 = E (633 + m) (10 + 21 * i)) ∧ (∀ i j, i < 8 → j < 20 → E1 (246 + i) j = E (633 + m) (10 + 21 * i + 1 + j)) ∧ (∀ q k, ¬ (142 ≤ q ∧ q ≤ 151 ∧ k = 1) → ¬ (228 ≤ q ∧ q < 228 + 8 ∧ k = 0) → ¬ (246 ≤ q ∧ q < 246 + 8 ∧ k < 20) → q ≠ 125 → E1 q k = E q k) ∧ (∀ k, k ≠ 0 → k ≠ 46 → k ≠ 48 → E1 125 k = E 125 k) ∧ E1 125 0 = 0 ∧ E1 125 46 = (m : Int)
theorem dX12_undo_0 : decode cX12_undo 0 = .ok (.aload_n 0, 1) := by decide +kernel
theorem dX12_undo_1 : decode cX12_undo 1 = .ok (.iconst 0, 1) := by decide +kernel
theorem dX12_undo_2 : decode cX12_undo 2 = .ok (.putfield 152, 3) := by decide +kernel
theorem dX12_undo_5 : decode cX12_undo 5 = .ok (.aload_n 0, 1) := by decide +kernel
theorem dX12_undo_6 : decode cX12_undo 6 = .ok (.getfield 270, 3) := by decide +kernel
theorem dX12_undo_9 : decode cX12_undo 9 = .ok (.ifCond .ne 5, 3) := by decide +kernel
theorem dX12_undo_12 : decode cX12_undo 12 = .ok (.iconst (-1), 1) := by decide +kernel
theorem dX12_undo_13 : decode cX12_undo 13 = .ok (.ireturn, 1) := by decide +kernel
theorem dX12_undo_14 : decode cX12_undo 14 = .ok (.aload_n 0, 1) := by decide +kernel
theorem dX12_undo_15 : decode cX12_undo 15 = .ok (.dup, 1) := by decide +kernel
theorem dX12_undo_16 : decode cX12_undo 16 = .ok (.getfield 270, 3) := by decide +kernel
theorem dX12_undo_19 : decode cX12_undo 19 = .ok (.iconst 1, 1) := by decide +kernel
theorem dX12_undo_20 : decode cX12_undo 20 = .ok (.isub, 1) := by decide +kernel
theorem dX12_undo_21 : decode cX12_undo 21 = .ok (.putfield 270, 3) := by decide +kernel
theorem dX12_undo_24 : decode cX12_undo 24 = .ok (.aload_n 0, 1) := by decide +kernel
theorem dX12_undo_25 : decode cX12_undo 25 = .ok (.iconst 0, 1) := by decide +kernel
theorem dX12_undo_26 : decode cX12_undo 26 = .ok (.putfield 460, 3) := by decide +kernel
theorem dX12_undo_29 : decode cX12_undo 29 = .ok (.aload_n 0, 1) := by decide +kernel
theorem dX12_undo_30 : decode cX12_undo 30 = .ok (.aload_n 0, 1) := by decide +kernel
theorem dX12_undo_31 : decode cX12_undo 31 = .ok (.getfield 104, 3) := by decide +kernel
theorem dX12_undo_34 : decode cX12_undo 34 = .ok (.aload_n 0, 1) := by decide +kernel
theorem dX12_undo_35 : decode cX12_undo 35 = .ok (.getfield 270, 3) := by decide +kernel
theorem dX12_undo_38 : decode cX12_undo 38 = .ok (.aaload, 1) := by decide +kernel
theorem dX12_undo_39 : decode cX12_undo 39 = .ok (.iconst 1, 1) := by decide +kernel
theorem dX12_undo_40 : decode cX12_undo 40 = .ok (.invokevirtual 467, 3) := by decide +kernel
theorem dX12_undo_43 : decode cX12_undo 43 = .ok (.aload_n 0, 1) := by decide +kernel
theorem dX12_undo_44 : decode cX12_undo 44 = .ok (.getfield 270, 3) := by decide +kernel
theorem dX12_undo_47 : decode cX12_undo 47 = .ok (.ireturn, 1) := by decide +kernel
theorem ct_X12_undo {g : Gw} (hG : GF g) {z : Bool} (E : Mm) (Q : RX) (P : SP) (L : LW) (T K : LN) (d st : Nat) (hWf : WF P L T K d st) (hI_E : RXI E Q P L T K d st) (c : Nat) (hc20 : c ≤ 20) (hc : E 125 46 = (c : Int)) : CT g yX12_undo cX12_undo 1 (some .int) 2 47 0 0 K2 z [mR 125] (ov E) K2 z (fun r' D' => (c = 0 ∧ r' = some (mI (-1)) ∧ ∃ E1, D' = ov E1 ∧ RXO E E1 Q P L T K d st) ∨ (0 < c ∧ r' = some (mI ((c - 1 : Nat) : Int)) ∧ ∃ E1, D' = ov E1 ∧ UNO E E1 (c - 1))) := by
  refine CT.mk hG (by decide +kernel) (Nat.le_of_ble_eq_true rfl) (fun κ X Rt _ ok => ?_)
  have hP := hWf.1
  have hN8 := hP.B.N
  have hW40 := hP.W
  have hN11 := hP.N
  have hwN : gN (gDay P L d) ≤ 11 := Nat.le_trans hP.N (by decide)
  have hgw : gW (gDay P L d) = sW P := rfl
  have hDI24 := dyP_DI (G := (gDay P L d)) hP.B hWf.2.2.2.1 (Nat.le_refl 24)
  refine at_aload_n 1 X rfl rfl dX12_undo_0 rfl ?_
  refine at_iconst 2 X (by decide) dX12_undo_1 rfl ?_
  refine m_putI 5 X f_X12_152 fw_12_0 k_125 rn_125_0 dX12_undo_2 rfl ?_
  have hO_E0 := RXO.z hWf hI_E
  generalize hE0 : wr E 125 0 0 = E0 at hO_E0 ⊢
  have hR_E0 := hO_E0.1.1
  have hcc : E0 125 46 = (c : Int) := (hO_E0.2.1.2 46 (by omega)).trans hc
  refine at_aload_n 6 X rfl rfl dX12_undo_5 rfl ?_
  refine m_getIV 9 X ((c : Nat) : Int) hcc f_X12_270 k_125 rn_125_46 dX12_undo_6 rfl ?_
  refine at_if_ne 12 14 X dX12_undo_9 rfl (by decide) (fun h9 => ?_) (fun h9 => ?_)
  · have hc1 : 0 < c := by omega
    refine at_aload_n 15 X rfl rfl dX12_undo_14 rfl ?_
    refine at_dup 16 X (show ¬ (2 : Nat) = 1 by decide) dX12_undo_15 rfl ?_
    refine m_getIV 19 X ((c : Nat) : Int) hcc f_X12_270 k_125 rn_125_46 dX12_undo_16 rfl ?_
    refine at_iconst 20 X (by decide) dX12_undo_19 rfl ?_
    refine at_isubV 21 X ((c - 1 : Nat) : Int) (w32_v (by omega) (by omega) (by omega)) dX12_undo_20 rfl ?_
    refine m_putI 24 X f_X12_270 fw_12_46 k_125 rn_125_46 dX12_undo_21 rfl ?_
    refine at_aload_n 25 X rfl rfl dX12_undo_24 rfl ?_
    refine at_iconst 26 X (by decide) dX12_undo_25 rfl ?_
    refine m_putI 29 X f_X12_460 fw_12_48 k_125 rn_125_48 dX12_undo_26 rfl ?_
    refine at_aload_n 30 X rfl rfl dX12_undo_29 rfl ?_
    refine at_aload_n 31 X rfl rfl dX12_undo_30 rfl ?_
    refine m_getR 34 X f_X12_104 k_125 r_125_41 dX12_undo_31 rfl ?_
    refine at_aload_n 35 X rfl rfl dX12_undo_34 rfl ?_
    refine m_getIV 38 X ((c - 1 : Nat) : Int) ((wr_o (by omega)).trans (wr_s _ _ _ _)) f_X12_270 k_125 rn_125_46 dX12_undo_35 rfl ?_
    refine m_aaloadV 39 X (c - 1) (by omega) k_632 (by decide) (by omega) (rr_632 _ (by omega)) dX12_undo_38 rfl ?_
    refine at_iconst 40 X (by decide) dX12_undo_39 rfl ?_
    have hq0 : ∀ q, q ≠ 125 → E0 q = E q := fun q h => by rw [← hE0]; exact wr_row h
    have hk0 : ∀ k, k ≠ 0 → E0 125 k = E 125 k := fun k h => by rw [← hE0]; exact wr_o (Or.inr h)
    refine at_callV 43 X _ 12 (ct_puts1 hG (wr (wr E0 125 46 ((c - 1 : Nat) : Int)) 125 48 0) (633 + (c - 1)) 178 (kr_632 (c - 1) (by omega)) (er_632 (c - 1) (by omega)) (by omega) (by omega) (wr_s _ _ _ _)) clX12 rfl k_125 mo_X12_putsChanged w_2410 vo_X12_putsChanged.1 vo_X12_putsChanged.2 rfl rfl (crm Rt (by decide)) (Nat.le_of_ble_eq_true rfl) dX12_undo_40 rfl ?_
    rintro _ _ ⟨rfl, F, rfl, g1, g2, g3, g4, g5⟩
    have h46 : F 125 46 = ((c - 1 : Nat) : Int) := by rw [g5 125 46 (by omega) (by omega) (by omega) (by omega), wr_o (by omega), wr_s]
    have hrw : ∀ i, (wr (wr E0 125 46 ((c - 1 : Nat) : Int)) 125 48 0) (633 + (c - 1)) i = E (633 + (c - 1)) i := fun i => by rw [wr_row (by omega), wr_row (by omega), hq0 _ (by omega)]
    have hun : UNO E F (c - 1) := ⟨fun i hi => (g1 i hi).trans (hrw _), fun i hi => (g2 i hi).trans (hrw _), fun i j hi hj => (g3 i j hi hj).trans (hrw _), fun q k k1 k2 k3 k4 => by rw [g5 q k k1 k2 k3 (by omega), wr_row k4, wr_row k4, hq0 q k4], fun k k1 k2 k3 => by rw [g5 125 k (by omega) (by omega) (by omega) (by omega), wr_o (by omega), wr_o (by omega), hk0 k k1], by rw [g5 125 0 (by omega) (by omega) (by omega) (by omega), wr_o (by omega), wr_o (by omega)]; exact hO_E0.2.2.1, h46⟩
    refine at_aload_n 44 X rfl rfl dX12_undo_43 rfl ?_
    refine m_getIV 47 X ((c - 1 : Nat) : Int) h46 f_X12_270 k_125 rn_125_46 dX12_undo_44 rfl ?_
    refine at_iret X Rt ?_ (Nat.le_refl _) (Nat.le_refl _) dX12_undo_47
    exact Or.inr ⟨hc1, rfl, F, rfl, hun⟩
  · refine at_iconst 13 X (by decide) dX12_undo_12 rfl ?_
    refine at_iret X Rt ?_ (Nat.le_refl _) (Nat.le_refl _) dX12_undo_13
    exact Or.inl ⟨by omega, rfl, _, rfl, hO_E0⟩
