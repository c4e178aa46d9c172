theorem dX12_less_0 : decode cX12_less 0 = .ok (.iload_n 0, 1) := by decide +kernel
theorem dX12_less_1 : decode cX12_less 1 = .ok (.iload_n 1, 1) := by decide +kernel
theorem dX12_less_2 : decode cX12_less 2 = .ok (.if_icmp .ge 7, 3) := by decide +kernel
theorem dX12_less_5 : decode cX12_less 5 = .ok (.iload_n 0, 1) := by decide +kernel
theorem dX12_less_6 : decode cX12_less 6 = .ok (.goto 4, 3) := by decide +kernel
theorem dX12_less_9 : decode cX12_less 9 = .ok (.iload_n 1, 1) := by decide +kernel
theorem dX12_less_10 : decode cX12_less 10 = .ok (.ireturn, 1) := by decide +kernel
theorem ct_X12_less {g : Gw} (hG : GF g) {z : Bool} (E : Mm) (a b : Int) : CT g yX12_less cX12_less 2 (some .int) 0 0 0 0 K2 z [mI a, mI b] (ov E) K2 z (fun r D' => r = some (mI (if a < b then a else b)) ∧ D' = ov E) := by
  refine CT.mk hG (by decide +kernel) (Nat.le_of_ble_eq_true rfl) (fun κ X Rt _ ok => ?_)
  refine at_iload_n 1 X rfl rfl dX12_less_0 rfl ?_
  refine at_iload_n 2 X rfl rfl dX12_less_1 rfl ?_
  refine at_icmp_ge 5 9 X dX12_less_2 rfl (by decide) (fun h2 => ?_) (fun h2 => ?_)
  · refine at_iload_n 10 X rfl rfl dX12_less_9 rfl ?_
    refine at_iret X Rt ?_ (Nat.le_refl _) (Nat.le_refl _) dX12_less_10
    first | exact ⟨by rw [if_pos (by omega)], rfl⟩ | exact ⟨by rw [if_neg (by omega)], rfl⟩
  · refine at_iload_n 6 X rfl rfl dX12_less_5 rfl ?_
    refine at_goto 10 X dX12_less_6 (by decide) ?_
    refine at_iret X Rt ?_ (Nat.le_refl _) (Nat.le_refl _) dX12_less_10
    first | exact ⟨by rw [if_pos (by omega)], rfl⟩ | exact ⟨by rw [if_neg (by omega)], rfl⟩
theorem dX12_more_0 : decode cX12_more 0 = .ok (.iload_n 0, 1) := by decide +kernel
theorem dX12_more_1 : decode cX12_more 1 = .ok (.iload_n 1, 1) := by decide +kernel
theorem dX12_more_2 : decode cX12_more 2 = .ok (.if_icmp .le 7, 3) := by decide +kernel
theorem dX12_more_5 : decode cX12_more 5 = .ok (.iload_n 0, 1) := by decide +kernel
theorem dX12_more_6 : decode cX12_more 6 = .ok (.goto 4, 3) := by decide +kernel
theorem dX12_more_9 : decode cX12_more 9 = .ok (.iload_n 1, 1) := by decide +kernel
theorem dX12_more_10 : decode cX12_more 10 = .ok (.ireturn, 1) := by decide +kernel
theorem ct_X12_more {g : Gw} (hG : GF g) {z : Bool} (E : Mm) (a b : Int) : CT g yX12_more cX12_more 2 (some .int) 0 0 0 0 K2 z [mI a, mI b] (ov E) K2 z (fun r D' => r = some (mI (if b < a then a else b)) ∧ D' = ov E) := by
  refine CT.mk hG (by decide +kernel) (Nat.le_of_ble_eq_true rfl) (fun κ X Rt _ ok => ?_)
  refine at_iload_n 1 X rfl rfl dX12_more_0 rfl ?_
  refine at_iload_n 2 X rfl rfl dX12_more_1 rfl ?_
  refine at_icmp_le 5 9 X dX12_more_2 rfl (by decide) (fun h2 => ?_) (fun h2 => ?_)
  · refine at_iload_n 10 X rfl rfl dX12_more_9 rfl ?_
    refine at_iret X Rt ?_ (Nat.le_refl _) (Nat.le_refl _) dX12_more_10
    first | exact ⟨by rw [if_pos (by omega)], rfl⟩ | exact ⟨by rw [if_neg (by omega)], rfl⟩
  · refine at_iload_n 6 X rfl rfl dX12_more_5 rfl ?_
    refine at_goto 10 X dX12_more_6 (by decide) ?_
    refine at_iret X Rt ?_ (Nat.le_refl _) (Nat.le_refl _) dX12_more_10
    first | exact ⟨by rw [if_pos (by omega)], rfl⟩ | exact ⟨by rw [if_neg (by omega)], rfl⟩
theorem dX12_isPost_0 : decode cX12_isPost 0 = .ok (.iload_n 1, 1) := by decide +kernel
theorem dX12_isPost_1 : decode cX12_isPost 1 = .ok (.iconst 0, 1) := by decide +kernel
theorem dX12_isPost_2 : decode cX12_isPost 2 = .ok (.aload_n 0, 1) := by decide +kernel
theorem dX12_isPost_3 : decode cX12_isPost 3 = .ok (.getfield 23, 3) := by decide +kernel
theorem dX12_isPost_6 : decode cX12_isPost 6 = .ok (.iconst 1, 1) := by decide +kernel
theorem dX12_isPost_7 : decode cX12_isPost 7 = .ok (.iaload, 1) := by decide +kernel
theorem dX12_isPost_8 : decode cX12_isPost 8 = .ok (.iconst 1, 1) := by decide +kernel
theorem dX12_isPost_9 : decode cX12_isPost 9 = .ok (.isub, 1) := by decide +kernel
theorem dX12_isPost_10 : decode cX12_isPost 10 = .ok (.invokestatic 186, 3) := by decide +kernel
theorem dX12_isPost_13 : decode cX12_isPost 13 = .ok (.ireturn, 1) := by decide +kernel
theorem ct_X12_isPost {g : Gw} (hG : GF g) {z : Bool} (E : Mm) (P : SP) (Q : RX) (hP : WS P) (hR_E : RTS E P Q) (x : Int) : CT g yX12_isPost cX12_isPost 2 (some .boolean) 1 22 0 0 K2 z [mR 125, mI x] (ov E) K2 z (fun r D' => r = some (mI (if 0 ≤ x ∧ x ≤ (sN P : Int) - 1 then 1 else 0)) ∧ D' = ov E) := by
  refine CT.mk hG (by decide +kernel) (Nat.le_of_ble_eq_true rfl) (fun κ X Rt _ ok => ?_)
  refine at_iload_n 1 X rfl rfl dX12_isPost_0 rfl ?_
  refine at_iconst 2 X (by decide) dX12_isPost_1 rfl ?_
  refine at_aload_n 3 X rfl rfl dX12_isPost_2 rfl ?_
  refine m_getR 6 X f_X12_23 k_125 r_125_12 dX12_isPost_3 rfl ?_
  refine at_iconst 7 X (by decide) dX12_isPost_6 rfl ?_
  refine m_ialoadV 8 X 1 (by omega) ((sN P : Nat) : Int) hR_E.1.2.1 k_129 e_129 (by omega) dX12_isPost_7 rfl ?_
  have := hP.N
  refine at_iconst 9 X (by decide) dX12_isPost_8 rfl ?_
  refine at_isubV 10 X (((sN P : Nat) : Int) - 1) (w32_v rfl (by omega) (by omega)) dX12_isPost_9 rfl ?_
  refine at_callS 13 X (ct_X12_in hG _ _ _) mo_X12_in w_1957 so_X12_in rfl rfl (crm Rt (by decide)) (Nat.le_of_ble_eq_true rfl) dX12_isPost_10 rfl ?_
  rintro _ _ ⟨rfl, rfl⟩
  refine at_zret X Rt ?_ (by first | decide | (split <;> decide)) (Nat.le_refl _) (Nat.le_refl _) dX12_isPost_13
  exact ⟨rfl, rfl⟩
theorem dX12_isBeam_0 : decode cX12_isBeam 0 = .ok (.iload_n 1, 1) := by decide +kernel
theorem dX12_isBeam_1 : decode cX12_isBeam 1 = .ok (.iconst 0, 1) := by decide +kernel
theorem dX12_isBeam_2 : decode cX12_isBeam 2 = .ok (.aload_n 0, 1) := by decide +kernel
theorem dX12_isBeam_3 : decode cX12_isBeam 3 = .ok (.getfield 23, 3) := by decide +kernel
theorem dX12_isBeam_6 : decode cX12_isBeam 6 = .ok (.bipush 6, 2) := by decide +kernel
theorem dX12_isBeam_8 : decode cX12_isBeam 8 = .ok (.iaload, 1) := by decide +kernel
theorem dX12_isBeam_9 : decode cX12_isBeam 9 = .ok (.iconst 1, 1) := by decide +kernel
theorem dX12_isBeam_10 : decode cX12_isBeam 10 = .ok (.isub, 1) := by decide +kernel
theorem dX12_isBeam_11 : decode cX12_isBeam 11 = .ok (.invokestatic 186, 3) := by decide +kernel
theorem dX12_isBeam_14 : decode cX12_isBeam 14 = .ok (.ireturn, 1) := by decide +kernel
theorem ct_X12_isBeam {g : Gw} (hG : GF g) {z : Bool} (E : Mm) (P : SP) (Q : RX) (hP : WS P) (hR_E : RTS E P Q) (x : Int) : CT g yX12_isBeam cX12_isBeam 2 (some .boolean) 1 22 0 0 K2 z [mR 125, mI x] (ov E) K2 z (fun r D' => r = some (mI (if 0 ≤ x ∧ x ≤ (bN (sB P) : Int) - 1 then 1 else 0)) ∧ D' = ov E) := by
  refine CT.mk hG (by decide +kernel) (Nat.le_of_ble_eq_true rfl) (fun κ X Rt _ ok => ?_)
  refine at_iload_n 1 X rfl rfl dX12_isBeam_0 rfl ?_
  refine at_iconst 2 X (by decide) dX12_isBeam_1 rfl ?_
  refine at_aload_n 3 X rfl rfl dX12_isBeam_2 rfl ?_
  refine m_getR 6 X f_X12_23 k_125 r_125_12 dX12_isBeam_3 rfl ?_
  refine at_bipush 8 X (by decide) (by decide) dX12_isBeam_6 rfl ?_
  refine m_ialoadV 9 X 6 (by omega) ((bN (sB P) : Nat) : Int) hR_E.1.2.2.2.2.2.2.1 k_129 e_129 (by omega) dX12_isBeam_8 rfl ?_
  have := hP.B.N
  refine at_iconst 10 X (by decide) dX12_isBeam_9 rfl ?_
  refine at_isubV 11 X (((bN (sB P) : Nat) : Int) - 1) (w32_v rfl (by omega) (by omega)) dX12_isBeam_10 rfl ?_
  refine at_callS 14 X (ct_X12_in hG _ _ _) mo_X12_in w_1957 so_X12_in rfl rfl (crm Rt (by decide)) (Nat.le_of_ble_eq_true rfl) dX12_isBeam_11 rfl ?_
  rintro _ _ ⟨rfl, rfl⟩
  refine at_zret X Rt ?_ (by first | decide | (split <;> decide)) (Nat.le_refl _) (Nat.le_refl _) dX12_isBeam_14
  exact ⟨rfl, rfl⟩
theorem dX12_isCell_0 : decode cX12_isCell 0 = .ok (.iload_n 1, 1) := by decide +kernel
theorem dX12_isCell_1 : decode cX12_isCell 1 = .ok (.iconst 0, 1) := by decide +kernel
theorem dX12_isCell_2 : decode cX12_isCell 2 = .ok (.aload_n 0, 1) := by decide +kernel
theorem dX12_isCell_3 : decode cX12_isCell 3 = .ok (.getfield 23, 3) := by decide +kernel
theorem dX12_isCell_6 : decode cX12_isCell 6 = .ok (.iconst 0, 1) := by decide +kernel
theorem dX12_isCell_7 : decode cX12_isCell 7 = .ok (.iaload, 1) := by decide +kernel
theorem dX12_isCell_8 : decode cX12_isCell 8 = .ok (.iconst 1, 1) := by decide +kernel
theorem dX12_isCell_9 : decode cX12_isCell 9 = .ok (.isub, 1) := by decide +kernel
theorem dX12_isCell_10 : decode cX12_isCell 10 = .ok (.invokestatic 186, 3) := by decide +kernel
theorem dX12_isCell_13 : decode cX12_isCell 13 = .ok (.ireturn, 1) := by decide +kernel
theorem ct_X12_isCell {g : Gw} (hG : GF g) {z : Bool} (E : Mm) (P : SP) (Q : RX) (hP : WS P) (hR_E : RTS E P Q) (x : Int) : CT g yX12_isCell cX12_isCell 2 (some .boolean) 1 22 0 0 K2 z [mR 125, mI x] (ov E) K2 z (fun r D' => r = some (mI (if 0 ≤ x ∧ x ≤ (sW P : Int) - 1 then 1 else 0)) ∧ D' = ov E) := by
  refine CT.mk hG (by decide +kernel) (Nat.le_of_ble_eq_true rfl) (fun κ X Rt _ ok => ?_)
  refine at_iload_n 1 X rfl rfl dX12_isCell_0 rfl ?_
  refine at_iconst 2 X (by decide) dX12_isCell_1 rfl ?_
  refine at_aload_n 3 X rfl rfl dX12_isCell_2 rfl ?_
  refine m_getR 6 X f_X12_23 k_125 r_125_12 dX12_isCell_3 rfl ?_
  refine at_iconst 7 X (by decide) dX12_isCell_6 rfl ?_
  refine m_ialoadV 8 X 0 (by omega) ((sW P : Nat) : Int) hR_E.1.1 k_129 e_129 (by omega) dX12_isCell_7 rfl ?_
  have := hP.W
  refine at_iconst 9 X (by decide) dX12_isCell_8 rfl ?_
  refine at_isubV 10 X (((sW P : Nat) : Int) - 1) (w32_v rfl (by omega) (by omega)) dX12_isCell_9 rfl ?_
  refine at_callS 13 X (ct_X12_in hG _ _ _) mo_X12_in w_1957 so_X12_in rfl rfl (crm Rt (by decide)) (Nat.le_of_ble_eq_true rfl) dX12_isCell_10 rfl ?_
  rintro _ _ ⟨rfl, rfl⟩
  refine at_zret X Rt ?_ (by first | decide | (split <;> decide)) (Nat.le_refl _) (Nat.le_refl _) dX12_isCell_13
  exact ⟨rfl, rfl⟩
theorem dX12_isHour_0 : decode cX12_isHour 0 = .ok (.iload_n 0, 1) := by decide +kernel
theorem dX12_isHour_1 : decode cX12_isHour 1 = .ok (.iconst 0, 1) := by decide +kernel
theorem dX12_isHour_2 : decode cX12_isHour 2 = .ok (.bipush 23, 2) := by decide +kernel
theorem dX12_isHour_4 : decode cX12_isHour 4 = .ok (.invokestatic 186, 3) := by decide +kernel
theorem dX12_isHour_7 : decode cX12_isHour 7 = .ok (.ireturn, 1) := by decide +kernel
theorem ct_X12_isHour {g : Gw} (hG : GF g) {z : Bool} (E : Mm) (x : Int) : CT g yX12_isHour cX12_isHour 1 (some .boolean) 1 22 0 0 K2 z [mI x] (ov E) K2 z (fun r D' => r = some (mI (if 0 ≤ x ∧ x ≤ 23 then 1 else 0)) ∧ D' = ov E) := by
  refine CT.mk hG (by decide +kernel) (Nat.le_of_ble_eq_true rfl) (fun κ X Rt _ ok => ?_)
  refine at_iload_n 1 X rfl rfl dX12_isHour_0 rfl ?_
  refine at_iconst 2 X (by decide) dX12_isHour_1 rfl ?_
  refine at_bipush 4 X (by decide) (by decide) dX12_isHour_2 rfl ?_
  refine at_callS 7 X (ct_X12_in hG _ _ _) mo_X12_in w_1957 so_X12_in rfl rfl (crm Rt (by decide)) (Nat.le_of_ble_eq_true rfl) dX12_isHour_4 rfl ?_
  rintro _ _ ⟨rfl, rfl⟩
  refine at_zret X Rt ?_ (by first | decide | (split <;> decide)) (Nat.le_refl _) (Nat.le_refl _) dX12_isHour_7
  exact ⟨rfl, rfl⟩
theorem dX12_isDay_0 : decode cX12_isDay 0 = .ok (.iload_n 0, 1) := by decide +kernel
theorem dX12_isDay_1 : decode cX12_isDay 1 = .ok (.iconst 0, 1) := by decide +kernel
theorem dX12_isDay_2 : decode cX12_isDay 2 = .ok (.sipush 399, 3) := by decide +kernel
theorem dX12_isDay_5 : decode cX12_isDay 5 = .ok (.invokestatic 186, 3) := by decide +kernel
theorem dX12_isDay_8 : decode cX12_isDay 8 = .ok (.ireturn, 1) := by decide +kernel
theorem ct_X12_isDay {g : Gw} (hG : GF g) {z : Bool} (E : Mm) (x : Int) : CT g yX12_isDay cX12_isDay 1 (some .boolean) 1 22 0 0 K2 z [mI x] (ov E) K2 z (fun r D' => r = some (mI (if 0 ≤ x ∧ x ≤ 399 then 1 else 0)) ∧ D' = ov E) := by
  refine CT.mk hG (by decide +kernel) (Nat.le_of_ble_eq_true rfl) (fun κ X Rt _ ok => ?_)
  refine at_iload_n 1 X rfl rfl dX12_isDay_0 rfl ?_
  refine at_iconst 2 X (by decide) dX12_isDay_1 rfl ?_
  refine at_sipush 5 X (by decide) (by decide) dX12_isDay_2 rfl ?_
  refine at_callS 8 X (ct_X12_in hG _ _ _) mo_X12_in w_1957 so_X12_in rfl rfl (crm Rt (by decide)) (Nat.le_of_ble_eq_true rfl) dX12_isDay_5 rfl ?_
  rintro _ _ ⟨rfl, rfl⟩
  refine at_zret X Rt ?_ (by first | decide | (split <;> decide)) (Nat.le_refl _) (Nat.le_refl _) dX12_isDay_8
  exact ⟨rfl, rfl⟩
theorem dX12_ones_0 : decode cX12_ones 0 = .ok (.iconst 0, 1) := by decide +kernel
theorem dX12_ones_1 : decode cX12_ones 1 = .ok (.istore_n 1, 1) := by decide +kernel
theorem dX12_ones_2 : decode cX12_ones 2 = .ok (.iconst 0, 1) := by decide +kernel
theorem dX12_ones_3 : decode cX12_ones 3 = .ok (.istore_n 2, 1) := by decide +kernel
theorem dX12_ones_4 : decode cX12_ones 4 = .ok (.iload_n 2, 1) := by decide +kernel
theorem dX12_ones_5 : decode cX12_ones 5 = .ok (.bipush 24, 2) := by decide +kernel
theorem dX12_ones_7 : decode cX12_ones 7 = .ok (.if_icmp .ge 17, 3) := by decide +kernel
theorem dX12_ones_10 : decode cX12_ones 10 = .ok (.iload_n 1, 1) := by decide +kernel
theorem dX12_ones_11 : decode cX12_ones 11 = .ok (.iload_n 0, 1) := by decide +kernel
theorem dX12_ones_12 : decode cX12_ones 12 = .ok (.iload_n 2, 1) := by decide +kernel
theorem dX12_ones_13 : decode cX12_ones 13 = .ok (.ishr, 1) := by decide +kernel
theorem dX12_ones_14 : decode cX12_ones 14 = .ok (.iconst 1, 1) := by decide +kernel
theorem dX12_ones_15 : decode cX12_ones 15 = .ok (.iand, 1) := by decide +kernel
theorem dX12_ones_16 : decode cX12_ones 16 = .ok (.iadd, 1) := by decide +kernel
theorem dX12_ones_17 : decode cX12_ones 17 = .ok (.istore_n 1, 1) := by decide +kernel
theorem dX12_ones_18 : decode cX12_ones 18 = .ok (.iinc 2 1, 3) := by decide +kernel
theorem dX12_ones_21 : decode cX12_ones 21 = .ok (.goto (-17), 3) := by decide +kernel
theorem dX12_ones_24 : decode cX12_ones 24 = .ok (.iload_n 1, 1) := by decide +kernel
theorem dX12_ones_25 : decode cX12_ones 25 = .ok (.ireturn, 1) := by decide +kernel
theorem ct_X12_ones {g : Gw} (hG : GF g) {z : Bool} (E : Mm) (b : Nat) (hb : b < 2147483648) : CT g yX12_ones cX12_ones 3 (some .int) 0 0 0 0 K2 z [mI ((b : Nat) : Int)] (ov E) K2 z (fun r D' => r = some (mI (cntp (fun j => b.testBit j) 24 : Nat)) ∧ D' = ov E) := by
  refine CT.mk hG (by decide +kernel) (Nat.le_of_ble_eq_true rfl) (fun κ X Rt _ ok => ?_)
  refine at_iconst 1 X (by decide) dX12_ones_0 rfl ?_
  refine at_istore_n 2 X rfl dX12_ones_1 rfl (by decide) ?_
  refine at_iconst 3 X (by decide) dX12_ones_2 rfl ?_
  refine at_istore_n 4 X rfl dX12_ones_3 rfl (by decide) ?_
  have J4 : ∀ (f4 : Nat) (k : Nat) (v : Int), 24 - k < f4 → (k ≤ 24) → (v = (cntp (fun j => b.testBit j) k : Nat)) → AT g κ K2 z 0 0 4 [(0, mI ((b : Nat) : Int)), (1, mI v), (2, mI ((k : Nat) : Int))] [] (ov E) := by
    intro f4
    induction f4 with
    | zero => intro k v hf4; omega
    | succ f4 ih4 =>
    intro k v hf4 hk hv
    refine at_iload_n 5 X rfl rfl dX12_ones_4 rfl ?_
    refine at_bipush 7 X (by decide) (by decide) dX12_ones_5 rfl ?_
    refine at_icmp_ge 10 24 X dX12_ones_7 rfl (by decide) (fun h7 => ?_) (fun h7 => ?_)
    · refine at_iload_n 25 X rfl rfl dX12_ones_24 rfl ?_
      refine at_iret X Rt ?_ (Nat.le_refl _) (Nat.le_refl _) dX12_ones_25
      exact ⟨by rw [hv, show k = 24 by omega], rfl⟩
    · have := cntp_le (fun j => b.testBit j) k
      refine at_iload_n 11 X rfl rfl dX12_ones_10 rfl ?_
      refine at_iload_n 12 X rfl rfl dX12_ones_11 rfl ?_
      refine at_iload_n 13 X rfl rfl dX12_ones_12 rfl ?_
      refine at_ishrV 14 X (ishr ((b : Nat) : Int) ((k : Nat) : Int)) rfl dX12_ones_13 rfl ?_
      refine at_iconst 15 X (by decide) dX12_ones_14 rfl ?_
      refine at_iandV 16 X (if b.testBit k = true then 1 else 0) (ibit (by omega) (by omega)) dX12_ones_15 rfl ?_
      refine at_iaddV 17 X (v + (if b.testBit k = true then 1 else 0)) (w32_v rfl (by omega) (by omega)) dX12_ones_16 rfl ?_
      refine at_istore_n 18 X rfl dX12_ones_17 rfl (by decide) ?_
      refine at_iincV 21 X ((k + 1 : Nat) : Int) (w32_v (by omega) (by omega) (by omega)) rfl dX12_ones_18 rfl (by decide) ?_
      refine at_goto 4 X dX12_ones_21 (by decide) ?_
      exact at_sub _ (by exact ⟨rfl, rfl, rfl, trivial⟩) (ih4 (k + 1) (v + (if b.testBit k = true then 1 else 0)) (by first | omega | (simp only [] at *; omega)) (by first | omega | assumption) (by rw [cntp_s, hv]; split <;> omega))
  exact at_sub _ (by exact ⟨rfl, rfl, rfl, trivial⟩) (J4 _ 0 0 (Nat.lt_succ_self _) (by first | omega | assumption | rfl) rfl)
theorem dec_step {F j t : Nat} (h : F ≤ t) : (decide (F ≤ j) && decide (j < t + 1)) = ((decide (F ≤ j) && decide (j < t)) || decide (j = t)) := by
  rw [Bool.eq_iff_iff]
  simp only [Bool.and_eq_true, Bool.or_eq_true, decide_eq_true_eq]
  omega
theorem clB_s (Q : RX) (h k : Nat) : clB Q h (k + 1) = (clB Q h k || (decide (xCf Q k ≤ h) && decide (h ≤ xCt Q k))) := rfl
theorem dX12_cloudsTold_0 : decode cX12_cloudsTold 0 = .ok (.iconst 0, 1) := by decide +kernel
theorem dX12_cloudsTold_1 : decode cX12_cloudsTold 1 = .ok (.istore_n 1, 1) := by decide +kernel
theorem dX12_cloudsTold_2 : decode cX12_cloudsTold 2 = .ok (.iconst 0, 1) := by decide +kernel
theorem dX12_cloudsTold_3 : decode cX12_cloudsTold 3 = .ok (.istore_n 2, 1) := by decide +kernel
theorem dX12_cloudsTold_4 : decode cX12_cloudsTold 4 = .ok (.iload_n 2, 1) := by decide +kernel
theorem dX12_cloudsTold_5 : decode cX12_cloudsTold 5 = .ok (.aload_n 0, 1) := by decide +kernel
theorem dX12_cloudsTold_6 : decode cX12_cloudsTold 6 = .ok (.getfield 23, 3) := by decide +kernel
theorem dX12_cloudsTold_9 : decode cX12_cloudsTold 9 = .ok (.iconst 4, 1) := by decide +kernel
theorem dX12_cloudsTold_10 : decode cX12_cloudsTold 10 = .ok (.iaload, 1) := by decide +kernel
theorem dX12_cloudsTold_11 : decode cX12_cloudsTold 11 = .ok (.if_icmp .ge 42, 3) := by decide +kernel
theorem dX12_cloudsTold_14 : decode cX12_cloudsTold 14 = .ok (.aload_n 0, 1) := by decide +kernel
theorem dX12_cloudsTold_15 : decode cX12_cloudsTold 15 = .ok (.getfield 49, 3) := by decide +kernel
theorem dX12_cloudsTold_18 : decode cX12_cloudsTold 18 = .ok (.iload_n 2, 1) := by decide +kernel
theorem dX12_cloudsTold_19 : decode cX12_cloudsTold 19 = .ok (.aaload, 1) := by decide +kernel
theorem dX12_cloudsTold_20 : decode cX12_cloudsTold 20 = .ok (.iconst 0, 1) := by decide +kernel
theorem dX12_cloudsTold_21 : decode cX12_cloudsTold 21 = .ok (.iaload, 1) := by decide +kernel
theorem dX12_cloudsTold_22 : decode cX12_cloudsTold 22 = .ok (.istore_n 3, 1) := by decide +kernel
theorem dX12_cloudsTold_23 : decode cX12_cloudsTold 23 = .ok (.iload_n 3, 1) := by decide +kernel
theorem dX12_cloudsTold_24 : decode cX12_cloudsTold 24 = .ok (.aload_n 0, 1) := by decide +kernel
theorem dX12_cloudsTold_25 : decode cX12_cloudsTold 25 = .ok (.getfield 49, 3) := by decide +kernel
theorem dX12_cloudsTold_28 : decode cX12_cloudsTold 28 = .ok (.iload_n 2, 1) := by decide +kernel
theorem dX12_cloudsTold_29 : decode cX12_cloudsTold 29 = .ok (.aaload, 1) := by decide +kernel
theorem dX12_cloudsTold_30 : decode cX12_cloudsTold 30 = .ok (.iconst 1, 1) := by decide +kernel
theorem dX12_cloudsTold_31 : decode cX12_cloudsTold 31 = .ok (.iaload, 1) := by decide +kernel
theorem dX12_cloudsTold_32 : decode cX12_cloudsTold 32 = .ok (.if_icmp .gt 15, 3) := by decide +kernel
theorem dX12_cloudsTold_35 : decode cX12_cloudsTold 35 = .ok (.iload_n 1, 1) := by decide +kernel
theorem dX12_cloudsTold_36 : decode cX12_cloudsTold 36 = .ok (.iconst 1, 1) := by decide +kernel
theorem dX12_cloudsTold_37 : decode cX12_cloudsTold 37 = .ok (.iload_n 3, 1) := by decide +kernel
theorem dX12_cloudsTold_38 : decode cX12_cloudsTold 38 = .ok (.ishl, 1) := by decide +kernel
theorem dX12_cloudsTold_39 : decode cX12_cloudsTold 39 = .ok (.ior, 1) := by decide +kernel
theorem dX12_cloudsTold_40 : decode cX12_cloudsTold 40 = .ok (.istore_n 1, 1) := by decide +kernel
theorem dX12_cloudsTold_41 : decode cX12_cloudsTold 41 = .ok (.iinc 3 1, 3) := by decide +kernel
theorem dX12_cloudsTold_44 : decode cX12_cloudsTold 44 = .ok (.goto (-21), 3) := by decide +kernel
theorem dX12_cloudsTold_47 : decode cX12_cloudsTold 47 = .ok (.iinc 2 1, 3) := by decide +kernel
theorem dX12_cloudsTold_50 : decode cX12_cloudsTold 50 = .ok (.goto (-46), 3) := by decide +kernel
theorem dX12_cloudsTold_53 : decode cX12_cloudsTold 53 = .ok (.iload_n 1, 1) := by decide +kernel
theorem dX12_cloudsTold_54 : decode cX12_cloudsTold 54 = .ok (.ireturn, 1) := by decide +kernel
theorem ct_X12_cloudsTold {g : Gw} (hG : GF g) {z : Bool} (E : Mm) (P : SP) (Q : RX) (hP : WS P) (hR_E : RTS E P Q) : CT g yX12_cloudsTold cX12_cloudsTold 4 (some .int) 0 0 0 0 K2 z [mR 125] (ov E) K2 z (fun r D' => r = some (mI (mk (sC P) 24 : Nat)) ∧ D' = ov E) := by
  refine CT.mk hG (by decide +kernel) (Nat.le_of_ble_eq_true rfl) (fun κ X Rt _ ok => ?_)
  refine at_iconst 1 X (by decide) dX12_cloudsTold_0 rfl ?_
  refine at_istore_n 2 X rfl dX12_cloudsTold_1 rfl (by decide) ?_
  refine at_iconst 3 X (by decide) dX12_cloudsTold_2 rfl ?_
  refine at_istore_n 4 X rfl dX12_cloudsTold_3 rfl (by decide) ?_
  have J4 : ∀ (f4 : Nat) (k : Nat) (v : Nat), 6 - k < f4 → (k ≤ sCn P) → (v = mk (fun h => clB Q h k) 24) → AT g κ K2 z 0 0 4 [(0, mR 125), (1, mI ((v : Nat) : Int)), (2, mI ((k : Nat) : Int))] [] (ov E) := by
    intro f4
    induction f4 with
    | zero => intro k v hf4; omega
    | succ f4 ih4 =>
    intro k v hf4 hk hv
    refine at_iload_n 5 X rfl rfl dX12_cloudsTold_4 rfl ?_
    refine at_aload_n 6 X rfl rfl dX12_cloudsTold_5 rfl ?_
    refine m_getR 9 X f_X12_23 k_125 r_125_12 dX12_cloudsTold_6 rfl ?_
    refine at_iconst 10 X (by decide) dX12_cloudsTold_9 rfl ?_
    refine m_ialoadV 11 X 4 (by omega) ((sCn P : Nat) : Int) hR_E.1.2.2.2.2.1 k_129 e_129 (by omega) dX12_cloudsTold_10 rfl ?_
    have := hP.Cn
    refine at_icmp_ge 14 53 X dX12_cloudsTold_11 rfl (by decide) (fun h11 => ?_) (fun h11 => ?_)
    · refine at_iload_n 54 X rfl rfl dX12_cloudsTold_53 rfl ?_
      refine at_iret X Rt ?_ (Nat.le_refl _) (Nat.le_refl _) dX12_cloudsTold_54
      exact ⟨by rw [hv, show k = sCn P by omega, mk_congr (p := fun h => clB Q h (sCn P)) (q := sC P) (fun j hj => (hR_E.2.2.2.2.1.2 j hj).symm)], rfl⟩
    · refine at_aload_n 15 X rfl rfl dX12_cloudsTold_14 rfl ?_
      refine m_getR 18 X f_X12_49 k_125 r_125_20 dX12_cloudsTold_15 rfl ?_
      refine at_iload_n 19 X rfl rfl dX12_cloudsTold_18 rfl ?_
      refine m_aaloadV 20 X k (by omega) k_194 (by decide) (by omega) (rr_194 _ (by omega)) dX12_cloudsTold_19 rfl ?_
      refine at_iconst 21 X (by decide) dX12_cloudsTold_20 rfl ?_
      refine m_ialoadV 22 X 0 (by omega) ((xCf Q k : Nat) : Int) (hR_E.2.2.2.2.1.1 k (by omega)).1 (kr_194 _ (by omega)) (er_194 _ (by omega)) (by omega) dX12_cloudsTold_21 rfl ?_
      have := (hR_E.2.2.2.2.1.1 k (by omega)).2.2
      refine at_istore_n 23 X rfl dX12_cloudsTold_22 rfl (by decide) ?_
      have J23 : ∀ (f23 : Nat) (t : Nat) (u : Nat), 24 - t < f23 → (xCf Q k ≤ t ∧ t ≤ 24) → (t ≤ xCt Q k + 1 ∨ t = xCf Q k) → (u = mk (fun h => clB Q h k || (decide (xCf Q k ≤ h) && decide (h < t))) 24) → AT g κ K2 z 0 0 23 [(0, mR 125), (1, mI ((u : Nat) : Int)), (2, mI ((k : Nat) : Int)), (3, mI ((t : Nat) : Int))] [] (ov E) := by
        intro f23
        induction f23 with
        | zero => intro t u hf23; omega
        | succ f23 ih23 =>
        intro t u hf23 ht ht2 hu
        refine at_iload_n 24 X rfl rfl dX12_cloudsTold_23 rfl ?_
        refine at_aload_n 25 X rfl rfl dX12_cloudsTold_24 rfl ?_
        refine m_getR 28 X f_X12_49 k_125 r_125_20 dX12_cloudsTold_25 rfl ?_
        refine at_iload_n 29 X rfl rfl dX12_cloudsTold_28 rfl ?_
        refine m_aaloadV 30 X k (by omega) k_194 (by decide) (by omega) (rr_194 _ (by omega)) dX12_cloudsTold_29 rfl ?_
        refine at_iconst 31 X (by decide) dX12_cloudsTold_30 rfl ?_
        refine m_ialoadV 32 X 1 (by omega) ((xCt Q k : Nat) : Int) (hR_E.2.2.2.2.1.1 k (by omega)).2.1 (kr_194 _ (by omega)) (er_194 _ (by omega)) (by omega) dX12_cloudsTold_31 rfl ?_
        have := (hR_E.2.2.2.2.1.1 k (by omega)).2.2
        refine at_icmp_gt 35 47 X dX12_cloudsTold_32 rfl (by decide) (fun h32 => ?_) (fun h32 => ?_)
        · refine at_iincV 50 X ((k + 1 : Nat) : Int) (w32_v (by omega) (by omega) (by omega)) rfl dX12_cloudsTold_47 rfl (by decide) ?_
          refine at_goto 4 X dX12_cloudsTold_50 (by decide) ?_
          exact at_sub _ (by exact ⟨rfl, rfl, rfl, trivial⟩) (ih4 (k + 1) u (by first | omega | (simp only [] at *; omega)) (by first | omega | assumption) (by rw [hu]; exact mk_congr (fun j hj => by rw [clB_s]; congr 1; rw [show decide (j < t) = decide (j ≤ xCt Q k) from decide_eq_decide.mpr (by omega)] <;> rfl)))
        · refine at_iload_n 36 X rfl rfl dX12_cloudsTold_35 rfl ?_
          refine at_iconst 37 X (by decide) dX12_cloudsTold_36 rfl ?_
          refine at_iload_n 38 X rfl rfl dX12_cloudsTold_37 rfl ?_
          refine at_ishlV 39 X ((2 ^ t : Nat) : Int) (ishl1 (by omega)) dX12_cloudsTold_38 rfl ?_
          refine at_iorV 40 X ((mk (fun h => clB Q h k || (decide (xCf Q k ≤ h) && decide (h < t))) 24 ||| 2 ^ t : Nat) : Int) (by rw [hu]; exact ior_nat (by have := mk24 (p := (fun h => clB Q h k || (decide (xCf Q k ≤ h) && decide (h < t)))) (Nat.le_refl 24); omega) (p2_31 (by omega))) dX12_cloudsTold_39 rfl ?_
          refine at_istore_n 41 X rfl dX12_cloudsTold_40 rfl (by decide) ?_
          refine at_iincV 44 X ((t + 1 : Nat) : Int) (w32_v (by omega) (by omega) (by omega)) rfl dX12_cloudsTold_41 rfl (by decide) ?_
          refine at_goto 23 X dX12_cloudsTold_44 (by decide) ?_
          exact at_sub _ (by exact ⟨rfl, rfl, rfl, rfl, trivial⟩) (ih23 (t + 1) (mk (fun h => clB Q h k || (decide (xCf Q k ≤ h) && decide (h < t))) 24 ||| 2 ^ t) (by first | omega | (simp only [] at *; omega)) (by omega) (Or.inl (by omega)) (or_mk (by omega) (fun j hj => by rw [Bool.or_assoc]; congr 1; exact dec_step (by omega))))
      exact at_sub _ (by exact ⟨rfl, rfl, rfl, rfl, trivial⟩) (J23 _ (xCf Q k) v (Nat.lt_succ_self _) (by omega) (by first | omega | assumption | rfl) (by rw [hv]; exact mk_congr (fun j hj => by rw [show (decide (xCf Q k ≤ j) && decide (j < xCf Q k)) = false from by rw [Bool.and_eq_false_iff, decide_eq_false_iff_not, decide_eq_false_iff_not]; omega, Bool.or_false])))
  exact at_sub _ (by exact ⟨rfl, rfl, rfl, trivial⟩) (J4 _ 0 0 (Nat.lt_succ_self _) (by first | omega | assumption | rfl) ((mk_none (fun j _ => rfl)).symm))
theorem dX12_moonOf_0 : decode cX12_moonOf 0 = .ok (.iconst 0, 1) := by decide +kernel
theorem dX12_moonOf_1 : decode cX12_moonOf 1 = .ok (.istore_n 2, 1) := by decide +kernel
theorem dX12_moonOf_2 : decode cX12_moonOf 2 = .ok (.iload_n 2, 1) := by decide +kernel
theorem dX12_moonOf_3 : decode cX12_moonOf 3 = .ok (.aload_n 0, 1) := by decide +kernel
theorem dX12_moonOf_4 : decode cX12_moonOf 4 = .ok (.getfield 23, 3) := by decide +kernel
theorem dX12_moonOf_7 : decode cX12_moonOf 7 = .ok (.iconst 3, 1) := by decide +kernel
theorem dX12_moonOf_8 : decode cX12_moonOf 8 = .ok (.iaload, 1) := by decide +kernel
theorem dX12_moonOf_9 : decode cX12_moonOf 9 = .ok (.if_icmp .ge 32, 3) := by decide +kernel
theorem dX12_moonOf_12 : decode cX12_moonOf 12 = .ok (.iload_n 1, 1) := by decide +kernel
theorem dX12_moonOf_13 : decode cX12_moonOf 13 = .ok (.aload_n 0, 1) := by decide +kernel
theorem dX12_moonOf_14 : decode cX12_moonOf 14 = .ok (.getfield 43, 3) := by decide +kernel
theorem dX12_moonOf_17 : decode cX12_moonOf 17 = .ok (.iload_n 2, 1) := by decide +kernel
theorem dX12_moonOf_18 : decode cX12_moonOf 18 = .ok (.aaload, 1) := by decide +kernel
theorem dX12_moonOf_19 : decode cX12_moonOf 19 = .ok (.iconst 0, 1) := by decide +kernel
theorem dX12_moonOf_20 : decode cX12_moonOf 20 = .ok (.iaload, 1) := by decide +kernel
theorem dX12_moonOf_21 : decode cX12_moonOf 21 = .ok (.irem, 1) := by decide +kernel
theorem dX12_moonOf_22 : decode cX12_moonOf 22 = .ok (.aload_n 0, 1) := by decide +kernel
theorem dX12_moonOf_23 : decode cX12_moonOf 23 = .ok (.getfield 43, 3) := by decide +kernel
theorem dX12_moonOf_26 : decode cX12_moonOf 26 = .ok (.iload_n 2, 1) := by decide +kernel
theorem dX12_moonOf_27 : decode cX12_moonOf 27 = .ok (.aaload, 1) := by decide +kernel
theorem dX12_moonOf_28 : decode cX12_moonOf 28 = .ok (.iconst 1, 1) := by decide +kernel
theorem dX12_moonOf_29 : decode cX12_moonOf 29 = .ok (.iaload, 1) := by decide +kernel
theorem dX12_moonOf_30 : decode cX12_moonOf 30 = .ok (.if_icmp .ne 5, 3) := by decide +kernel
theorem dX12_moonOf_33 : decode cX12_moonOf 33 = .ok (.iload_n 2, 1) := by decide +kernel
theorem dX12_moonOf_34 : decode cX12_moonOf 34 = .ok (.ireturn, 1) := by decide +kernel
theorem dX12_moonOf_35 : decode cX12_moonOf 35 = .ok (.iinc 2 1, 3) := by decide +kernel
theorem dX12_moonOf_38 : decode cX12_moonOf 38 = .ok (.goto (-36), 3) := by decide +kernel
theorem dX12_moonOf_41 : decode cX12_moonOf 41 = .ok (.iconst (-1), 1) := by decide +kernel
theorem dX12_moonOf_42 : decode cX12_moonOf 42 = .ok (.ireturn, 1) := by decide +kernel
theorem ct_X12_moonOf {g : Gw} (hG : GF g) {z : Bool} (E : Mm) (P : SP) (Q : RX) (hP : WS P) (hR_E : RTS E P Q) (d : Nat) (hd : d < 400) : CT g yX12_moonOf cX12_moonOf 3 (some .int) 0 0 0 0 K2 z [mR 125, mI ((d : Nat) : Int)] (ov E) K2 z (fun r D' => r = some (mI (moonP P d)) ∧ D' = ov E) := by
  refine CT.mk hG (by decide +kernel) (Nat.le_of_ble_eq_true rfl) (fun κ X Rt _ ok => ?_)
  refine at_iconst 1 X (by decide) dX12_moonOf_0 rfl ?_
  refine at_istore_n 2 X rfl dX12_moonOf_1 rfl (by decide) ?_
  have J2 : ∀ (f2 : Nat) (m : Nat), 3 - m < f2 → (m ≤ sM P) → (itr (fun m v => if v = -1 ∧ d % sMb P m = sMl P m then (m : Int) else v) (-1) m = -1) → AT g κ K2 z 0 0 2 [(0, mR 125), (1, mI ((d : Nat) : Int)), (2, mI ((m : Nat) : Int))] [] (ov E) := by
    intro f2
    induction f2 with
    | zero => intro m hf2; omega
    | succ f2 ih2 =>
    intro m hf2 hm hv
    refine at_iload_n 3 X rfl rfl dX12_moonOf_2 rfl ?_
    refine at_aload_n 4 X rfl rfl dX12_moonOf_3 rfl ?_
    refine m_getR 7 X f_X12_23 k_125 r_125_12 dX12_moonOf_4 rfl ?_
    refine at_iconst 8 X (by decide) dX12_moonOf_7 rfl ?_
    refine m_ialoadV 9 X 3 (by omega) ((sM P : Nat) : Int) hR_E.1.2.2.2.1 k_129 e_129 (by omega) dX12_moonOf_8 rfl ?_
    have := hP.M
    refine at_icmp_ge 12 41 X dX12_moonOf_9 rfl (by decide) (fun h9 => ?_) (fun h9 => ?_)
    · refine at_iconst 42 X (by decide) dX12_moonOf_41 rfl ?_
      refine at_iret X Rt ?_ (Nat.le_refl _) (Nat.le_refl _) dX12_moonOf_42
      exact ⟨by rw [moonP, show sM P = m by omega, hv], rfl⟩
    · refine at_iload_n 13 X rfl rfl dX12_moonOf_12 rfl ?_
      refine at_aload_n 14 X rfl rfl dX12_moonOf_13 rfl ?_
      refine m_getR 17 X f_X12_43 k_125 r_125_18 dX12_moonOf_14 rfl ?_
      refine at_iload_n 18 X rfl rfl dX12_moonOf_17 rfl ?_
      refine m_aaloadV 19 X m (by omega) k_183 (by decide) (by omega) (rr_183 _ (by omega)) dX12_moonOf_18 rfl ?_
      refine at_iconst 20 X (by decide) dX12_moonOf_19 rfl ?_
      refine m_ialoadV 21 X 0 (by omega) ((sMb P m : Nat) : Int) (hR_E.2.2.2.1 m (by omega)).1 (kr_183 _ (by omega)) (er_183 _ (by omega)) (by omega) dX12_moonOf_20 rfl ?_
      have := hP.Mb (m := m) (by omega)
      have hmod := Nat.mod_lt d (show 0 < sMb P m by omega)
      refine at_iremV 22 X (by omega) ((d % sMb P m : Nat) : Int) (w32_v (Int.ofNat_tmod _ _).symm (by omega) (by omega)) dX12_moonOf_21 rfl ?_
      refine at_aload_n 23 X rfl rfl dX12_moonOf_22 rfl ?_
      refine m_getR 26 X f_X12_43 k_125 r_125_18 dX12_moonOf_23 rfl ?_
      refine at_iload_n 27 X rfl rfl dX12_moonOf_26 rfl ?_
      refine m_aaloadV 28 X m (by omega) k_183 (by decide) (by omega) (rr_183 _ (by omega)) dX12_moonOf_27 rfl ?_
      refine at_iconst 29 X (by decide) dX12_moonOf_28 rfl ?_
      refine m_ialoadV 30 X 1 (by omega) ((sMl P m : Nat) : Int) (hR_E.2.2.2.1 m (by omega)).2.1 (kr_183 _ (by omega)) (er_183 _ (by omega)) (by omega) dX12_moonOf_29 rfl ?_
      have := hP.Ml (m := m) (by omega)
      refine at_icmp_ne 33 35 X dX12_moonOf_30 rfl (by decide) (fun h30 => ?_) (fun h30 => ?_)
      · refine at_iincV 38 X ((m + 1 : Nat) : Int) (w32_v (by omega) (by omega) (by omega)) rfl dX12_moonOf_35 rfl (by decide) ?_
        refine at_goto 2 X dX12_moonOf_38 (by decide) ?_
        exact at_sub _ (by exact ⟨rfl, rfl, rfl, trivial⟩) (ih2 (m + 1) (by first | omega | (simp only [] at *; omega)) (by omega) (by rw [itr_s, if_neg (by omega)]; exact hv))
      · refine at_iload_n 34 X rfl rfl dX12_moonOf_33 rfl ?_
        refine at_iret X Rt ?_ (Nat.le_refl _) (Nat.le_refl _) dX12_moonOf_34
        have e : itr (fun m v => if v = -1 ∧ d % sMb P m = sMl P m then (m : Int) else v) (-1) (m + 1) = m := by rw [itr_s, if_pos ⟨hv, by omega⟩]
        exact ⟨by rw [moonP, moon_fix e (by omega)], rfl⟩
  exact at_sub _ (by exact ⟨rfl, rfl, rfl, trivial⟩) (J2 _ 0 (Nat.lt_succ_self _) (by omega) rfl)
