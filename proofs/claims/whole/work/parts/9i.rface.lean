/-- an image kept in row a -/
def IMO (E E1 : Mm) (m : Nat) : Prop := (∀ i, i < 178 → E1 (654 + m) i = snI E i) ∧ E1 (654 + m) 178 = E 125 45 ∧ E1 (654 + m) 179 = E 125 46 ∧ (∀ j i, j < 20 → i < 178 → E1 (654 + m) (180 + 178 * j + i) = E (633 + j) i) ∧ (∀ q, q ≠ 654 + m → q ≠ 125 → E1 q = E q) ∧ (∀ k, k ≠ 0 → k ≠ 47 → k ≠ 48 → E1 125 k = E 125 k) ∧ E1 125 0 = 0 ∧ E1 125 47 = ((m + 1 : Nat) : Int)
/-- an image put back from row a -/
def RSO (E E1 : Mm) (m : Nat) : Prop := ((∀ i, i < 10 → E1 (142 + i) 1 = E (654 + m) i) ∧ (∀ i, i < 8 → E1 (228 + i) 0 = E (654 + m) (10 + 21 * i)) ∧ ∀ i j, i < 8 → j < 20 → E1 (246 + i) j = E (654 + m) (10 + 21 * i + 1 + j)) ∧ (E1 125 45 = E (654 + m) 178 ∧ E1 125 46 = E (654 + m) 179) ∧ (∀ k i, k < 20 → i < 178 → E1 (633 + k) i = E (654 + m) (180 + 178 * k + i)) ∧ (∀ q k, ¬ (142 ≤ q ∧ q ≤ 151 ∧ k = 1) → ¬ (228 ≤ q ∧ q < 228 + 8 ∧ k = 0) → ¬ (246 ≤ q ∧ q < 246 + 8 ∧ k < 20) → q ≠ 125 → ¬ (633 ≤ q ∧ q ≤ 652) → E1 q k = E q k) ∧ (∀ k, k ≠ 0 → k ≠ 45 → k ≠ 46 → k ≠ 47 → k ≠ 48 → E1 125 k = E 125 k) ∧ E1 125 0 = 0 ∧ E1 125 47 = (m : Int)
theorem dX12_image_0 : decode cX12_image 0 = .ok (.aload_n 0, 1) := by decide +kernel
theorem dX12_image_1 : decode cX12_image 1 = .ok (.iconst 0, 1) := by decide +kernel
theorem dX12_image_2 : decode cX12_image 2 = .ok (.putfield 152, 3) := by decide +kernel
theorem dX12_image_5 : decode cX12_image 5 = .ok (.aload_n 0, 1) := by decide +kernel
theorem dX12_image_6 : decode cX12_image 6 = .ok (.getfield 273, 3) := by decide +kernel
theorem dX12_image_9 : decode cX12_image 9 = .ok (.iconst 3, 1) := by decide +kernel
theorem dX12_image_10 : decode cX12_image 10 = .ok (.if_icmp .ne 5, 3) := by decide +kernel
theorem dX12_image_13 : decode cX12_image 13 = .ok (.iconst (-1), 1) := by decide +kernel
theorem dX12_image_14 : decode cX12_image 14 = .ok (.ireturn, 1) := by decide +kernel
theorem dX12_image_15 : decode cX12_image 15 = .ok (.aload_n 0, 1) := by decide +kernel
theorem dX12_image_16 : decode cX12_image 16 = .ok (.aload_n 0, 1) := by decide +kernel
theorem dX12_image_17 : decode cX12_image 17 = .ok (.getfield 107, 3) := by decide +kernel
theorem dX12_image_20 : decode cX12_image 20 = .ok (.aload_n 0, 1) := by decide +kernel
theorem dX12_image_21 : decode cX12_image 21 = .ok (.getfield 273, 3) := by decide +kernel
theorem dX12_image_24 : decode cX12_image 24 = .ok (.aaload, 1) := by decide +kernel
theorem dX12_image_25 : decode cX12_image 25 = .ok (.iconst 0, 1) := by decide +kernel
theorem dX12_image_26 : decode cX12_image 26 = .ok (.invokevirtual 473, 3) := by decide +kernel
theorem dX12_image_29 : decode cX12_image 29 = .ok (.aload_n 0, 1) := by decide +kernel
theorem dX12_image_30 : decode cX12_image 30 = .ok (.dup, 1) := by decide +kernel
theorem dX12_image_31 : decode cX12_image 31 = .ok (.getfield 273, 3) := by decide +kernel
theorem dX12_image_34 : decode cX12_image 34 = .ok (.iconst 1, 1) := by decide +kernel
theorem dX12_image_35 : decode cX12_image 35 = .ok (.iadd, 1) := by decide +kernel
theorem dX12_image_36 : decode cX12_image 36 = .ok (.putfield 273, 3) := by decide +kernel
theorem dX12_image_39 : decode cX12_image 39 = .ok (.aload_n 0, 1) := by decide +kernel
theorem dX12_image_40 : decode cX12_image 40 = .ok (.getfield 273, 3) := by decide +kernel
theorem dX12_image_43 : decode cX12_image 43 = .ok (.ireturn, 1) := by decide +kernel
theorem ct_X12_image {g : Gw} (hG : GF g) {z : Bool} (E : Mm) (Q : RX) (P : SP) (L : LW) (T K : LN) (d st : Nat) (hWf : WF P L T K d st) (hI_E : RXI E Q P L T K d st) (c : Nat) (hc20 : c ≤ 3) (hc : E 125 47 = (c : Int)) : CT g yX12_image cX12_image 1 (some .int) 3 71 0 0 K2 z [mR 125] (ov E) K2 z (fun r' D' => (c = 3 ∧ r' = some (mI (-1)) ∧ ∃ E1, D' = ov E1 ∧ RXO E E1 Q P L T K d st) ∨ (c < 3 ∧ r' = some (mI ((c + 1 : Nat) : Int)) ∧ ∃ E1, D' = ov E1 ∧ IMO E E1 c)) := by
  refine CT.mk hG (by decide +kernel) (Nat.le_of_ble_eq_true rfl) (fun κ X Rt _ ok => ?_)
  have hP := hWf.1
  have hN8 := hP.B.N
  have hW40 := hP.W
  have hN11 := hP.N
  have hwN : gN (gDay P L d) ≤ 11 := Nat.le_trans hP.N (by decide)
  have hgw : gW (gDay P L d) = sW P := rfl
  have hDI24 := dyP_DI (G := (gDay P L d)) hP.B hWf.2.2.2.1 (Nat.le_refl 24)
  refine at_aload_n 1 X rfl rfl dX12_image_0 rfl ?_
  refine at_iconst 2 X (by decide) dX12_image_1 rfl ?_
  refine m_putI 5 X f_X12_152 fw_12_0 k_125 rn_125_0 dX12_image_2 rfl ?_
  have hO_E0 := RXO.z hWf hI_E
  generalize hE0 : wr E 125 0 0 = E0 at hO_E0 ⊢
  have hR_E0 := hO_E0.1.1
  have hcc : E0 125 47 = (c : Int) := (hO_E0.2.1.2 47 (by omega)).trans hc
  refine at_aload_n 6 X rfl rfl dX12_image_5 rfl ?_
  refine m_getIV 9 X ((c : Nat) : Int) hcc f_X12_273 k_125 rn_125_47 dX12_image_6 rfl ?_
  refine at_iconst 10 X (by decide) dX12_image_9 rfl ?_
  refine at_icmp_ne 13 15 X dX12_image_10 rfl (by decide) (fun h10 => ?_) (fun h10 => ?_)
  · refine at_aload_n 16 X rfl rfl dX12_image_15 rfl ?_
    refine at_aload_n 17 X rfl rfl dX12_image_16 rfl ?_
    refine m_getR 20 X f_X12_107 k_125 r_125_42 dX12_image_17 rfl ?_
    refine at_aload_n 21 X rfl rfl dX12_image_20 rfl ?_
    refine m_getIV 24 X ((c : Nat) : Int) hcc f_X12_273 k_125 rn_125_47 dX12_image_21 rfl ?_
    refine m_aaloadV 25 X c (by omega) k_653 (by decide) (by omega) (rr_653 _ (by omega)) dX12_image_24 rfl ?_
    refine at_iconst 26 X (by decide) dX12_image_25 rfl ?_
    have hq0 : ∀ q, q ≠ 125 → E0 q = E q := fun q h => by rw [← hE0]; exact wr_row h
    have hk0 : ∀ k, k ≠ 0 → E0 125 k = E 125 k := fun k h => by rw [← hE0]; exact wr_o (Or.inr h)
    refine at_callV 29 X _ 12 (ct_all0 hG E0 (654 + c) 3740 (kr_653 c (by omega)) (er_653 c (by omega)) (by omega) (by omega)) clX12 rfl k_125 mo_X12_putsAll w_2434 vo_X12_putsAll.1 vo_X12_putsAll.2 rfl rfl (crm Rt (by decide)) (Nat.le_of_ble_eq_true rfl) dX12_image_26 rfl ?_
    rintro _ _ ⟨rfl, F, rfl, g1, g2, g3, g4, g5, g6⟩
    have h47 : F 125 47 = (c : Int) := (g6 47 (by decide)).trans hcc
    refine at_aload_n 30 X rfl rfl dX12_image_29 rfl ?_
    refine at_dup 31 X (show ¬ (2 : Nat) = 1 by decide) dX12_image_30 rfl ?_
    refine m_getIV 34 X ((c : Nat) : Int) h47 f_X12_273 k_125 rn_125_47 dX12_image_31 rfl ?_
    refine at_iconst 35 X (by decide) dX12_image_34 rfl ?_
    refine at_iaddV 36 X ((c + 1 : Nat) : Int) (w32_v (by omega) (by omega) (by omega)) dX12_image_35 rfl ?_
    refine m_putI 39 X f_X12_273 fw_12_47 k_125 rn_125_47 dX12_image_36 rfl ?_
    refine at_aload_n 40 X rfl rfl dX12_image_39 rfl ?_
    refine m_getIV 43 X ((c + 1 : Nat) : Int) (wr_s _ _ _ _) f_X12_273 k_125 rn_125_47 dX12_image_40 rfl ?_
    refine at_iret X Rt ?_ (Nat.le_refl _) (Nat.le_refl _) dX12_image_43
    exact Or.inr ⟨by omega, rfl, _, rfl, fun i hi => by rw [wr_row (by omega), g1 i hi]; exact snI_congr (fun q hq => hq0 q (by omega)) hi, by rw [wr_row (by omega), g2]; exact hk0 45 (by decide), by rw [wr_row (by omega), g3]; exact hk0 46 (by decide), fun j i hj hi => by rw [wr_row (by omega), g4 j i hj hi, hq0 _ (by omega)], fun q h1 h2 => by rw [wr_row h2, g5 q h1 h2, hq0 q h2], fun k h1 h2 h3 => by rw [wr_o (Or.inr h2), g6 k h3, hk0 k h1], by rw [wr_o (by omega), g6 0 (by decide)]; exact hO_E0.2.2.1, wr_s _ _ _ _⟩
  · refine at_iconst 14 X (by decide) dX12_image_13 rfl ?_
    refine at_iret X Rt ?_ (Nat.le_refl _) (Nat.le_refl _) dX12_image_14
    exact Or.inl ⟨by omega, rfl, _, rfl, hO_E0⟩
theorem dX12_restore_0 : decode cX12_restore 0 = .ok (.aload_n 0, 1) := by decide +kernel
theorem dX12_restore_1 : decode cX12_restore 1 = .ok (.iconst 0, 1) := by decide +kernel
theorem dX12_restore_2 : decode cX12_restore 2 = .ok (.putfield 152, 3) := by decide +kernel
theorem dX12_restore_5 : decode cX12_restore 5 = .ok (.aload_n 0, 1) := by decide +kernel
theorem dX12_restore_6 : decode cX12_restore 6 = .ok (.getfield 273, 3) := by decide +kernel
theorem dX12_restore_9 : decode cX12_restore 9 = .ok (.ifCond .ne 5, 3) := by decide +kernel
theorem dX12_restore_12 : decode cX12_restore 12 = .ok (.iconst (-1), 1) := by decide +kernel
theorem dX12_restore_13 : decode cX12_restore 13 = .ok (.ireturn, 1) := by decide +kernel
theorem dX12_restore_14 : decode cX12_restore 14 = .ok (.aload_n 0, 1) := by decide +kernel
theorem dX12_restore_15 : decode cX12_restore 15 = .ok (.dup, 1) := by decide +kernel
theorem dX12_restore_16 : decode cX12_restore 16 = .ok (.getfield 273, 3) := by decide +kernel
theorem dX12_restore_19 : decode cX12_restore 19 = .ok (.iconst 1, 1) := by decide +kernel
theorem dX12_restore_20 : decode cX12_restore 20 = .ok (.isub, 1) := by decide +kernel
theorem dX12_restore_21 : decode cX12_restore 21 = .ok (.putfield 273, 3) := by decide +kernel
theorem dX12_restore_24 : decode cX12_restore 24 = .ok (.aload_n 0, 1) := by decide +kernel
theorem dX12_restore_25 : decode cX12_restore 25 = .ok (.aload_n 0, 1) := by decide +kernel
theorem dX12_restore_26 : decode cX12_restore 26 = .ok (.getfield 107, 3) := by decide +kernel
theorem dX12_restore_29 : decode cX12_restore 29 = .ok (.aload_n 0, 1) := by decide +kernel
theorem dX12_restore_30 : decode cX12_restore 30 = .ok (.getfield 273, 3) := by decide +kernel
theorem dX12_restore_33 : decode cX12_restore 33 = .ok (.aaload, 1) := by decide +kernel
theorem dX12_restore_34 : decode cX12_restore 34 = .ok (.iconst 1, 1) := by decide +kernel
theorem dX12_restore_35 : decode cX12_restore 35 = .ok (.invokevirtual 473, 3) := by decide +kernel
theorem dX12_restore_38 : decode cX12_restore 38 = .ok (.aload_n 0, 1) := by decide +kernel
theorem dX12_restore_39 : decode cX12_restore 39 = .ok (.getfield 273, 3) := by decide +kernel
theorem dX12_restore_42 : decode cX12_restore 42 = .ok (.ireturn, 1) := by decide +kernel
theorem ct_X12_restore {g : Gw} (hG : GF g) {z : Bool} (E : Mm) (Q : RX) (P : SP) (L : LW) (T K : LN) (d st : Nat) (hWf : WF P L T K d st) (hI_E : RXI E Q P L T K d st) (c : Nat) (hc20 : c ≤ 3) (hc : E 125 47 = (c : Int)) : CT g yX12_restore cX12_restore 1 (some .int) 3 71 0 0 K2 z [mR 125] (ov E) K2 z (fun r' D' => (c = 0 ∧ r' = some (mI (-1)) ∧ ∃ E1, D' = ov E1 ∧ RXO E E1 Q P L T K d st) ∨ (0 < c ∧ r' = some (mI ((c - 1 : Nat) : Int)) ∧ ∃ E1, D' = ov E1 ∧ RSO E E1 (c - 1))) := by
  refine CT.mk hG (by decide +kernel) (Nat.le_of_ble_eq_true rfl) (fun κ X Rt _ ok => ?_)
  have hP := hWf.1
  have hN8 := hP.B.N
  have hW40 := hP.W
  have hN11 := hP.N
  have hwN : gN (gDay P L d) ≤ 11 := Nat.le_trans hP.N (by decide)
  have hgw : gW (gDay P L d) = sW P := rfl
  have hDI24 := dyP_DI (G := (gDay P L d)) hP.B hWf.2.2.2.1 (Nat.le_refl 24)
  refine at_aload_n 1 X rfl rfl dX12_restore_0 rfl ?_
  refine at_iconst 2 X (by decide) dX12_restore_1 rfl ?_
  refine m_putI 5 X f_X12_152 fw_12_0 k_125 rn_125_0 dX12_restore_2 rfl ?_
  have hO_E0 := RXO.z hWf hI_E
  generalize hE0 : wr E 125 0 0 = E0 at hO_E0 ⊢
  have hR_E0 := hO_E0.1.1
  have hcc : E0 125 47 = (c : Int) := (hO_E0.2.1.2 47 (by omega)).trans hc
  refine at_aload_n 6 X rfl rfl dX12_restore_5 rfl ?_
  refine m_getIV 9 X ((c : Nat) : Int) hcc f_X12_273 k_125 rn_125_47 dX12_restore_6 rfl ?_
  refine at_if_ne 12 14 X dX12_restore_9 rfl (by decide) (fun h9 => ?_) (fun h9 => ?_)
  · have hc1 : 0 < c := by omega
    refine at_aload_n 15 X rfl rfl dX12_restore_14 rfl ?_
    refine at_dup 16 X (show ¬ (2 : Nat) = 1 by decide) dX12_restore_15 rfl ?_
    refine m_getIV 19 X ((c : Nat) : Int) hcc f_X12_273 k_125 rn_125_47 dX12_restore_16 rfl ?_
    refine at_iconst 20 X (by decide) dX12_restore_19 rfl ?_
    refine at_isubV 21 X ((c - 1 : Nat) : Int) (w32_v (by omega) (by omega) (by omega)) dX12_restore_20 rfl ?_
    refine m_putI 24 X f_X12_273 fw_12_47 k_125 rn_125_47 dX12_restore_21 rfl ?_
    refine at_aload_n 25 X rfl rfl dX12_restore_24 rfl ?_
    refine at_aload_n 26 X rfl rfl dX12_restore_25 rfl ?_
    refine m_getR 29 X f_X12_107 k_125 r_125_42 dX12_restore_26 rfl ?_
    refine at_aload_n 30 X rfl rfl dX12_restore_29 rfl ?_
    refine m_getIV 33 X ((c - 1 : Nat) : Int) (wr_s _ _ _ _) f_X12_273 k_125 rn_125_47 dX12_restore_30 rfl ?_
    refine m_aaloadV 34 X (c - 1) (by omega) k_653 (by decide) (by omega) (rr_653 _ (by omega)) dX12_restore_33 rfl ?_
    refine at_iconst 35 X (by decide) dX12_restore_34 rfl ?_
    have hq0 : ∀ q, q ≠ 125 → E0 q = E q := fun q h => by rw [← hE0]; exact wr_row h
    have hk0 : ∀ k, k ≠ 0 → E0 125 k = E 125 k := fun k h => by rw [← hE0]; exact wr_o (Or.inr h)
    refine at_callV 38 X _ 12 (ct_all1 hG (wr E0 125 47 ((c - 1 : Nat) : Int)) (654 + (c - 1)) 3740 (kr_653 (c - 1) (by omega)) (er_653 (c - 1) (by omega)) (by omega) (by omega)) clX12 rfl k_125 mo_X12_putsAll w_2434 vo_X12_putsAll.1 vo_X12_putsAll.2 rfl rfl (crm Rt (by decide)) (Nat.le_of_ble_eq_true rfl) dX12_restore_35 rfl ?_
    rintro _ _ ⟨rfl, F, rfl, g1, g2, g3, g4⟩
    have h47 : F 125 47 = ((c - 1 : Nat) : Int) := by rw [g4 125 47 (by omega) (by omega) (by omega) (by omega) (by omega), wr_s]
    have hrw : ∀ i, (wr E0 125 47 ((c - 1 : Nat) : Int)) (654 + (c - 1)) i = E (654 + (c - 1)) i := fun i => by rw [wr_row (by omega), hq0 _ (by omega)]
    have hrs : RSO E F (c - 1) := ⟨⟨fun i hi => (g1.1 i hi).trans (hrw _), fun i hi => (g1.2.1 i hi).trans (hrw _), fun i j hi hj => (g1.2.2 i j hi hj).trans (hrw _)⟩, ⟨g2.1.trans (hrw _), g2.2.trans (hrw _)⟩, fun k i hk hi => (g3 k i hk hi).trans (hrw _), fun q k k1 k2 k3 k4 k5 => by rw [g4 q k k1 k2 k3 (by omega) k5, wr_row k4, hq0 q k4], fun k k1 k2 k3 k4 k5 => by rw [g4 125 k (by omega) (by omega) (by omega) (by omega) (by omega), wr_o (by omega), hk0 k k1], by rw [g4 125 0 (by omega) (by omega) (by omega) (by omega) (by omega), wr_o (by omega)]; exact hO_E0.2.2.1, h47⟩
    refine at_aload_n 39 X rfl rfl dX12_restore_38 rfl ?_
    refine m_getIV 42 X ((c - 1 : Nat) : Int) h47 f_X12_273 k_125 rn_125_47 dX12_restore_39 rfl ?_
    refine at_iret X Rt ?_ (Nat.le_refl _) (Nat.le_refl _) dX12_restore_42
    exact Or.inr ⟨hc1, rfl, F, rfl, hrs⟩
  · refine at_iconst 13 X (by decide) dX12_restore_12 rfl ?_
    refine at_iret X Rt ?_ (Nat.le_refl _) (Nat.le_refl _) dX12_restore_13
    exact Or.inl ⟨by omega, rfl, _, rfl, hO_E0⟩
