theorem ite_no {p : Prop} [Decidable p] : (if p then (1 : Int) else 0) = 0 ↔ ¬ p := by
  by_cases h : p <;> simp [h]
theorem ite_yes {p : Prop} [Decidable p] : ¬ (if p then (1 : Int) else 0) = 0 ↔ p := by
  by_cases h : p <;> simp [h]
/-- one refusal more of this kind -/
def bumpE (E : Mm) (k : Nat) : Mm := wr E 3 k (w32 (E 3 k + 1))
theorem dX11_isWithin_0 : decode cX11_isWithin 0 = .ok (.iload_n 0, 1) := by decide +kernel
theorem dX11_isWithin_1 : decode cX11_isWithin 1 = .ok (.iload_n 1, 1) := by decide +kernel
theorem dX11_isWithin_2 : decode cX11_isWithin 2 = .ok (.if_icmp .lt 12, 3) := by decide +kernel
theorem dX11_isWithin_5 : decode cX11_isWithin 5 = .ok (.iload_n 0, 1) := by decide +kernel
theorem dX11_isWithin_6 : decode cX11_isWithin 6 = .ok (.iload_n 2, 1) := by decide +kernel
theorem dX11_isWithin_7 : decode cX11_isWithin 7 = .ok (.if_icmp .gt 7, 3) := by decide +kernel
theorem dX11_isWithin_10 : decode cX11_isWithin 10 = .ok (.iconst 1, 1) := by decide +kernel
theorem dX11_isWithin_11 : decode cX11_isWithin 11 = .ok (.goto 4, 3) := by decide +kernel
theorem dX11_isWithin_14 : decode cX11_isWithin 14 = .ok (.iconst 0, 1) := by decide +kernel
theorem dX11_isWithin_15 : decode cX11_isWithin 15 = .ok (.ireturn, 1) := by decide +kernel
theorem ct_X11_isWithin {g : Gw} (hG : GF g) {K : Shp} {z : Bool} {E : Mm} (v lo hi : Int) : CT g yX11_isWithin cX11_isWithin 3 (some .boolean) 0 0 0 0 K z [mI v, mI lo, mI hi] E K z (fun r D' => r = some (mI (if lo ≤ v ∧ v ≤ hi then 1 else 0)) ∧ D' = E) := by
  refine CT.mk hG (by decide +kernel) (Nat.le_of_ble_eq_true rfl) (fun κ X Rt _ ok => ?_)
  refine at_iload_n 1 X rfl rfl dX11_isWithin_0 rfl ?_
  refine at_iload_n 2 X rfl rfl dX11_isWithin_1 rfl ?_
  refine at_icmp_lt 5 14 X dX11_isWithin_2 rfl (by decide) (fun h1 => ?_) (fun h1 => ?_)
  · refine at_iconst 15 X (by decide) dX11_isWithin_14 rfl ?_
    exact at_zret X Rt ⟨by rw [if_neg (by omega)], rfl⟩ (by decide) (Nat.le_refl _) (Nat.le_refl _) dX11_isWithin_15
  · refine at_iload_n 6 X rfl rfl dX11_isWithin_5 rfl ?_
    refine at_iload_n 7 X rfl rfl dX11_isWithin_6 rfl ?_
    refine at_icmp_gt 10 14 X dX11_isWithin_7 rfl (by decide) (fun h2 => ?_) (fun h2 => ?_)
    · refine at_iconst 15 X (by decide) dX11_isWithin_14 rfl ?_
      exact at_zret X Rt ⟨by rw [if_neg (by omega)], rfl⟩ (by decide) (Nat.le_refl _) (Nat.le_refl _) dX11_isWithin_15
    · refine at_iconst 11 X (by decide) dX11_isWithin_10 rfl ?_
      refine at_goto 15 X dX11_isWithin_11 (by decide) ?_
      exact at_zret X Rt ⟨by rw [if_pos (by omega)], rfl⟩ (by decide) (Nat.le_refl _) (Nat.le_refl _) dX11_isWithin_15
theorem dX11_need_0 : decode cX11_need 0 = .ok (.iload_n 1, 1) := by decide +kernel
theorem dX11_need_1 : decode cX11_need 1 = .ok (.ifCond .ne 24, 3) := by decide +kernel
theorem dX11_need_4 : decode cX11_need 4 = .ok (.aload_n 0, 1) := by decide +kernel
theorem dX11_need_5 : decode cX11_need 5 = .ok (.getfield 16, 3) := by decide +kernel
theorem dX11_need_8 : decode cX11_need 8 = .ok (.iconst 2, 1) := by decide +kernel
theorem dX11_need_9 : decode cX11_need 9 = .ok (.dup2, 1) := by decide +kernel
theorem dX11_need_10 : decode cX11_need 10 = .ok (.iaload, 1) := by decide +kernel
theorem dX11_need_11 : decode cX11_need 11 = .ok (.iconst 1, 1) := by decide +kernel
theorem dX11_need_12 : decode cX11_need 12 = .ok (.iadd, 1) := by decide +kernel
theorem dX11_need_13 : decode cX11_need 13 = .ok (.iastore, 1) := by decide +kernel
theorem dX11_need_14 : decode cX11_need 14 = .ok (.new 489, 3) := by decide +kernel
theorem dX11_need_17 : decode cX11_need 17 = .ok (.dup, 1) := by decide +kernel
theorem dX11_need_18 : decode cX11_need 18 = .ok (.ldc_w 491, 3) := by decide +kernel
theorem dX11_need_21 : decode cX11_need 21 = .ok (.invokespecial 493, 3) := by decide +kernel
theorem dX11_need_24 : decode cX11_need 24 = .ok (.athrow, 1) := by decide +kernel
theorem dX11_need_25 : decode cX11_need 25 = .ok (.return_, 1) := by decide +kernel
theorem ct_X11_need {g : Gw} (hG : GF g) {z : Bool} (E : Mm) (f : Int) : CTX g yX11_need cX11_need 2 none 6 90 1 6 K2 z [mR 0, mI f] (ov (E)) K2 z (fun r D' => ¬ f = 0 ∧ r = none ∧ D' = ov E) (fun X D' => f = 0 ∧ X = "java/lang/IllegalArgumentException" ∧ D' = ov (bumpE E 2)) := by
  refine CTX.mk hG (by decide +kernel) (Nat.le_of_ble_eq_true rfl) (fun κ X Rt Rx ok => ?_)
  refine at_iload_n 1 X rfl rfl dX11_need_0 rfl ?_
  refine at_if_ne 4 25 X dX11_need_1 rfl (by decide) (fun h1 => ?_) (fun h1 => ?_)
  · refine at_vret X Rt ⟨by omega, rfl, rfl⟩ (by decide) (by decide) dX11_need_25
  · refine at_aload_n 5 X rfl rfl dX11_need_4 rfl ?_
    refine m_getR 8 X f_X11_16 k_0 r_0_1 dX11_need_5 rfl ?_
    refine at_iconst 9 X (by decide) dX11_need_8 rfl ?_
    refine at_dup2 10 X (by decide) (by decide) dX11_need_9 rfl ?_
    refine m_iaload 11 X k_3 e_3 (by omega) (by omega) dX11_need_10 rfl ?_
    refine at_iconst 12 X (by decide) dX11_need_11 rfl ?_
    refine at_iadd 13 X dX11_need_12 rfl ?_
    refine m_iastore 14 X k_3 e_3 (by omega) (by omega) dX11_need_13 rfl ?_
    exact at_throw X Rt Rx 15 rfl (by decide +kernel) (by decide +kernel) (by decide +kernel) (bytes := Bundle.six) (by decide +kernel) (by decide +kernel) (by decide +kernel) (by decide +kernel) w_867 w_138 hat_ia w_868 dX11_need_14 dX11_need_17 dX11_need_18 dX11_need_21 dX11_need_24 (by decide) ⟨by omega, rfl, rfl⟩
theorem dX11_needWhat_0 : decode cX11_needWhat 0 = .ok (.aload_n 0, 1) := by decide +kernel
theorem dX11_needWhat_1 : decode cX11_needWhat 1 = .ok (.iload_n 1, 1) := by decide +kernel
theorem dX11_needWhat_2 : decode cX11_needWhat 2 = .ok (.iconst 0, 1) := by decide +kernel
theorem dX11_needWhat_3 : decode cX11_needWhat 3 = .ok (.iload_n 2, 1) := by decide +kernel
theorem dX11_needWhat_4 : decode cX11_needWhat 4 = .ok (.invokestatic 253, 3) := by decide +kernel
theorem dX11_needWhat_7 : decode cX11_needWhat 7 = .ok (.invokevirtual 164, 3) := by decide +kernel
theorem dX11_needWhat_10 : decode cX11_needWhat 10 = .ok (.return_, 1) := by decide +kernel
theorem ct_X11_needWhat {g : Gw} (hG : GF g) {z : Bool} (E : Mm) (x y : Int) : CTX g yX11_needWhat cX11_needWhat 3 none 7 111 1 6 K2 z [mR 0, mI x, mI y] (ov (E)) K2 z (fun r D' => (0 ≤ x ∧ x ≤ y) ∧ r = none ∧ D' = ov E) (fun X D' => ¬ (0 ≤ x ∧ x ≤ y) ∧ X = "java/lang/IllegalArgumentException" ∧ D' = ov (bumpE E 2)) := by
  refine CTX.mk hG (by decide +kernel) (Nat.le_of_ble_eq_true rfl) (fun κ X Rt Rx ok => ?_)
  refine at_aload_n 1 X rfl rfl dX11_needWhat_0 rfl ?_
  refine at_iload_n 2 X rfl rfl dX11_needWhat_1 rfl ?_
  refine at_iconst 3 X (by decide) dX11_needWhat_2 rfl ?_
  refine at_iload_n 4 X rfl rfl dX11_needWhat_3 rfl ?_
  refine at_callS 7 X (ct_X11_isWithin hG _ _ _) mo_X11_isWithin w_1211 so_X11_isWithin rfl rfl (crm Rt (by decide)) (Nat.le_of_ble_eq_true rfl) dX11_needWhat_4 rfl ?_
  rintro _ _ ⟨rfl, rfl⟩
  refine at_callVX 10 X Rt Rx _ 11 (ct_X11_need hG E _) clX11 rfl k_0 mo_X11_need w_863 vo_X11_need.1 vo_X11_need.2 rfl rfl (by decide) (Nat.le_of_ble_eq_true rfl) dX11_needWhat_7 rfl (fun _ _ h => ⟨ite_no.mp h.1, h.2⟩) ?_
  rintro _ _ ⟨hq, rfl, rfl⟩
  refine at_vret X Rt ⟨ite_yes.mp hq, rfl, rfl⟩ (by decide) (by decide) dX11_needWhat_10
theorem dX11_needHour_0 : decode cX11_needHour 0 = .ok (.aload_n 0, 1) := by decide +kernel
theorem dX11_needHour_1 : decode cX11_needHour 1 = .ok (.iload_n 1, 1) := by decide +kernel
theorem dX11_needHour_2 : decode cX11_needHour 2 = .ok (.iconst 0, 1) := by decide +kernel
theorem dX11_needHour_3 : decode cX11_needHour 3 = .ok (.bipush 23, 2) := by decide +kernel
theorem dX11_needHour_5 : decode cX11_needHour 5 = .ok (.invokestatic 253, 3) := by decide +kernel
theorem dX11_needHour_8 : decode cX11_needHour 8 = .ok (.invokevirtual 164, 3) := by decide +kernel
theorem dX11_needHour_11 : decode cX11_needHour 11 = .ok (.return_, 1) := by decide +kernel
theorem ct_X11_needHour {g : Gw} (hG : GF g) {z : Bool} (E : Mm) (x : Int) : CTX g yX11_needHour cX11_needHour 2 none 7 111 1 6 K2 z [mR 0, mI x] (ov (E)) K2 z (fun r D' => (0 ≤ x ∧ x ≤ 23) ∧ r = none ∧ D' = ov E) (fun X D' => ¬ (0 ≤ x ∧ x ≤ 23) ∧ X = "java/lang/IllegalArgumentException" ∧ D' = ov (bumpE E 2)) := by
  refine CTX.mk hG (by decide +kernel) (Nat.le_of_ble_eq_true rfl) (fun κ X Rt Rx ok => ?_)
  refine at_aload_n 1 X rfl rfl dX11_needHour_0 rfl ?_
  refine at_iload_n 2 X rfl rfl dX11_needHour_1 rfl ?_
  refine at_iconst 3 X (by decide) dX11_needHour_2 rfl ?_
  refine at_bipush 5 X (by decide) (by decide) dX11_needHour_3 rfl ?_
  refine at_callS 8 X (ct_X11_isWithin hG _ _ _) mo_X11_isWithin w_1211 so_X11_isWithin rfl rfl (crm Rt (by decide)) (Nat.le_of_ble_eq_true rfl) dX11_needHour_5 rfl ?_
  rintro _ _ ⟨rfl, rfl⟩
  refine at_callVX 11 X Rt Rx _ 11 (ct_X11_need hG E _) clX11 rfl k_0 mo_X11_need w_863 vo_X11_need.1 vo_X11_need.2 rfl rfl (by decide) (Nat.le_of_ble_eq_true rfl) dX11_needHour_8 rfl (fun _ _ h => ⟨ite_no.mp h.1, h.2⟩) ?_
  rintro _ _ ⟨hq, rfl, rfl⟩
  refine at_vret X Rt ⟨ite_yes.mp hq, rfl, rfl⟩ (by decide) (by decide) dX11_needHour_11
theorem dX11_needDay_0 : decode cX11_needDay 0 = .ok (.aload_n 0, 1) := by decide +kernel
theorem dX11_needDay_1 : decode cX11_needDay 1 = .ok (.iload_n 1, 1) := by decide +kernel
theorem dX11_needDay_2 : decode cX11_needDay 2 = .ok (.iconst 0, 1) := by decide +kernel
theorem dX11_needDay_3 : decode cX11_needDay 3 = .ok (.sipush 399, 3) := by decide +kernel
theorem dX11_needDay_6 : decode cX11_needDay 6 = .ok (.invokestatic 253, 3) := by decide +kernel
theorem dX11_needDay_9 : decode cX11_needDay 9 = .ok (.invokevirtual 164, 3) := by decide +kernel
theorem dX11_needDay_12 : decode cX11_needDay 12 = .ok (.return_, 1) := by decide +kernel
theorem ct_X11_needDay {g : Gw} (hG : GF g) {z : Bool} (E : Mm) (x : Int) : CTX g yX11_needDay cX11_needDay 2 none 7 111 1 6 K2 z [mR 0, mI x] (ov (E)) K2 z (fun r D' => (0 ≤ x ∧ x ≤ 399) ∧ r = none ∧ D' = ov E) (fun X D' => ¬ (0 ≤ x ∧ x ≤ 399) ∧ X = "java/lang/IllegalArgumentException" ∧ D' = ov (bumpE E 2)) := by
  refine CTX.mk hG (by decide +kernel) (Nat.le_of_ble_eq_true rfl) (fun κ X Rt Rx ok => ?_)
  refine at_aload_n 1 X rfl rfl dX11_needDay_0 rfl ?_
  refine at_iload_n 2 X rfl rfl dX11_needDay_1 rfl ?_
  refine at_iconst 3 X (by decide) dX11_needDay_2 rfl ?_
  refine at_sipush 6 X (by decide) (by decide) dX11_needDay_3 rfl ?_
  refine at_callS 9 X (ct_X11_isWithin hG _ _ _) mo_X11_isWithin w_1211 so_X11_isWithin rfl rfl (crm Rt (by decide)) (Nat.le_of_ble_eq_true rfl) dX11_needDay_6 rfl ?_
  rintro _ _ ⟨rfl, rfl⟩
  refine at_callVX 12 X Rt Rx _ 11 (ct_X11_need hG E _) clX11 rfl k_0 mo_X11_need w_863 vo_X11_need.1 vo_X11_need.2 rfl rfl (by decide) (Nat.le_of_ble_eq_true rfl) dX11_needDay_9 rfl (fun _ _ h => ⟨ite_no.mp h.1, h.2⟩) ?_
  rintro _ _ ⟨hq, rfl, rfl⟩
  refine at_vret X Rt ⟨ite_yes.mp hq, rfl, rfl⟩ (by decide) (by decide) dX11_needDay_12
theorem dX11_needCell_0 : decode cX11_needCell 0 = .ok (.iload_n 1, 1) := by decide +kernel
theorem dX11_needCell_1 : decode cX11_needCell 1 = .ok (.iconst 0, 1) := by decide +kernel
theorem dX11_needCell_2 : decode cX11_needCell 2 = .ok (.aload_n 0, 1) := by decide +kernel
theorem dX11_needCell_3 : decode cX11_needCell 3 = .ok (.getfield 93, 3) := by decide +kernel
theorem dX11_needCell_6 : decode cX11_needCell 6 = .ok (.getfield 181, 3) := by decide +kernel
theorem dX11_needCell_9 : decode cX11_needCell 9 = .ok (.iconst 1, 1) := by decide +kernel
theorem dX11_needCell_10 : decode cX11_needCell 10 = .ok (.isub, 1) := by decide +kernel
theorem dX11_needCell_11 : decode cX11_needCell 11 = .ok (.invokestatic 253, 3) := by decide +kernel
theorem dX11_needCell_14 : decode cX11_needCell 14 = .ok (.ifCond .ne 24, 3) := by decide +kernel
theorem dX11_needCell_17 : decode cX11_needCell 17 = .ok (.aload_n 0, 1) := by decide +kernel
theorem dX11_needCell_18 : decode cX11_needCell 18 = .ok (.getfield 16, 3) := by decide +kernel
theorem dX11_needCell_21 : decode cX11_needCell 21 = .ok (.iconst 0, 1) := by decide +kernel
theorem dX11_needCell_22 : decode cX11_needCell 22 = .ok (.dup2, 1) := by decide +kernel
theorem dX11_needCell_23 : decode cX11_needCell 23 = .ok (.iaload, 1) := by decide +kernel
theorem dX11_needCell_24 : decode cX11_needCell 24 = .ok (.iconst 1, 1) := by decide +kernel
theorem dX11_needCell_25 : decode cX11_needCell 25 = .ok (.iadd, 1) := by decide +kernel
theorem dX11_needCell_26 : decode cX11_needCell 26 = .ok (.iastore, 1) := by decide +kernel
theorem dX11_needCell_27 : decode cX11_needCell 27 = .ok (.new 475, 3) := by decide +kernel
theorem dX11_needCell_30 : decode cX11_needCell 30 = .ok (.dup, 1) := by decide +kernel
theorem dX11_needCell_31 : decode cX11_needCell 31 = .ok (.ldc_w 477, 3) := by decide +kernel
theorem dX11_needCell_34 : decode cX11_needCell 34 = .ok (.invokespecial 479, 3) := by decide +kernel
theorem dX11_needCell_37 : decode cX11_needCell 37 = .ok (.athrow, 1) := by decide +kernel
theorem dX11_needCell_38 : decode cX11_needCell 38 = .ok (.return_, 1) := by decide +kernel
theorem ct_X11_needCell {g : Gw} (hG : GF g) {z : Bool} (E : Mm) (x : Int) (a : Nat) (ha : a = 68 ∨ a = 83) (hnow : E 0 15 = (a : Int)) (hw : 0 ≤ E a 8 ∧ E a 8 ≤ 1000) : CTX g yX11_needCell cX11_needCell 2 none 6 95 1 6 K2 z [mR 0, mI x] (ov (E)) K2 z (fun r D' => (0 ≤ x ∧ x ≤ E a 8 - 1) ∧ r = none ∧ D' = ov E) (fun X D' => ¬ (0 ≤ x ∧ x ≤ E a 8 - 1) ∧ X = "java/lang/IndexOutOfBoundsException" ∧ D' = ov (bumpE E 0)) := by
  refine CTX.mk hG (by decide +kernel) (Nat.le_of_ble_eq_true rfl) (fun κ X Rt Rx ok => ?_)
  refine at_iload_n 1 X rfl rfl dX11_needCell_0 rfl ?_
  refine at_iconst 2 X (by decide) dX11_needCell_1 rfl ?_
  refine at_aload_n 3 X rfl rfl dX11_needCell_2 rfl ?_
  refine m_getM 6 X (a) f_X11_93 k_0 rn_0_15 hnow dX11_needCell_3 rfl ?_
  refine m_getI 9 X f_X11_181 (kX9 ha) (nX9_8 ha) dX11_needCell_6 rfl ?_
  refine at_iconst 10 X (by decide) dX11_needCell_9 rfl ?_
  refine at_isub 11 X dX11_needCell_10 rfl ?_
  rw [w32_id (by omega) (by omega)]
  refine at_callS 14 X (ct_X11_isWithin hG _ _ _) mo_X11_isWithin w_1211 so_X11_isWithin rfl rfl (crm Rt (by decide)) (Nat.le_of_ble_eq_true rfl) dX11_needCell_11 rfl ?_
  rintro _ _ ⟨rfl, rfl⟩
  refine at_if_ne 17 38 X dX11_needCell_14 rfl (by decide) (fun h14 => ?_) (fun h14 => ?_)
  · refine at_vret X Rt ⟨ite_yes.mp (by assumption), rfl, rfl⟩ (by decide) (by decide) dX11_needCell_38
  · refine at_aload_n 18 X rfl rfl dX11_needCell_17 rfl ?_
    refine m_getR 21 X f_X11_16 k_0 r_0_1 dX11_needCell_18 rfl ?_
    refine at_iconst 22 X (by decide) dX11_needCell_21 rfl ?_
    refine at_dup2 23 X (by decide) (by decide) dX11_needCell_22 rfl ?_
    refine m_iaload 24 X k_3 e_3 (by omega) (by omega) dX11_needCell_23 rfl ?_
    refine at_iconst 25 X (by decide) dX11_needCell_24 rfl ?_
    refine at_iadd 26 X dX11_needCell_25 rfl ?_
    refine m_iastore 27 X k_3 e_3 (by omega) (by omega) dX11_needCell_26 rfl ?_
    exact at_throw X Rt Rx 18 rfl (by decide +kernel) (by decide +kernel) (by decide +kernel) (bytes := Bundle.six) (by decide +kernel) (by decide +kernel) (by decide +kernel) (by decide +kernel) w_1276 w_148 hat_ib w_1277 dX11_needCell_27 dX11_needCell_30 dX11_needCell_31 dX11_needCell_34 dX11_needCell_37 (by decide) ⟨ite_no.mp (by assumption), rfl, rfl⟩
theorem dX11_needPost_0 : decode cX11_needPost 0 = .ok (.iload_n 1, 1) := by decide +kernel
theorem dX11_needPost_1 : decode cX11_needPost 1 = .ok (.iconst 0, 1) := by decide +kernel
theorem dX11_needPost_2 : decode cX11_needPost 2 = .ok (.aload_n 0, 1) := by decide +kernel
theorem dX11_needPost_3 : decode cX11_needPost 3 = .ok (.getfield 93, 3) := by decide +kernel
theorem dX11_needPost_6 : decode cX11_needPost 6 = .ok (.getfield 184, 3) := by decide +kernel
theorem dX11_needPost_9 : decode cX11_needPost 9 = .ok (.iconst 1, 1) := by decide +kernel
theorem dX11_needPost_10 : decode cX11_needPost 10 = .ok (.isub, 1) := by decide +kernel
theorem dX11_needPost_11 : decode cX11_needPost 11 = .ok (.invokestatic 253, 3) := by decide +kernel
theorem dX11_needPost_14 : decode cX11_needPost 14 = .ok (.ifCond .ne 24, 3) := by decide +kernel
theorem dX11_needPost_17 : decode cX11_needPost 17 = .ok (.aload_n 0, 1) := by decide +kernel
theorem dX11_needPost_18 : decode cX11_needPost 18 = .ok (.getfield 16, 3) := by decide +kernel
theorem dX11_needPost_21 : decode cX11_needPost 21 = .ok (.iconst 1, 1) := by decide +kernel
theorem dX11_needPost_22 : decode cX11_needPost 22 = .ok (.dup2, 1) := by decide +kernel
theorem dX11_needPost_23 : decode cX11_needPost 23 = .ok (.iaload, 1) := by decide +kernel
theorem dX11_needPost_24 : decode cX11_needPost 24 = .ok (.iconst 1, 1) := by decide +kernel
theorem dX11_needPost_25 : decode cX11_needPost 25 = .ok (.iadd, 1) := by decide +kernel
theorem dX11_needPost_26 : decode cX11_needPost 26 = .ok (.iastore, 1) := by decide +kernel
theorem dX11_needPost_27 : decode cX11_needPost 27 = .ok (.new 482, 3) := by decide +kernel
theorem dX11_needPost_30 : decode cX11_needPost 30 = .ok (.dup, 1) := by decide +kernel
theorem dX11_needPost_31 : decode cX11_needPost 31 = .ok (.ldc_w 484, 3) := by decide +kernel
theorem dX11_needPost_34 : decode cX11_needPost 34 = .ok (.invokespecial 486, 3) := by decide +kernel
theorem dX11_needPost_37 : decode cX11_needPost 37 = .ok (.athrow, 1) := by decide +kernel
theorem dX11_needPost_38 : decode cX11_needPost 38 = .ok (.return_, 1) := by decide +kernel
theorem ct_X11_needPost {g : Gw} (hG : GF g) {z : Bool} (E : Mm) (x : Int) (a : Nat) (ha : a = 68 ∨ a = 83) (hnow : E 0 15 = (a : Int)) (hw : 0 ≤ E a 10 ∧ E a 10 ≤ 1000) : CTX g yX11_needPost cX11_needPost 2 none 6 95 1 6 K2 z [mR 0, mI x] (ov (E)) K2 z (fun r D' => (0 ≤ x ∧ x ≤ E a 10 - 1) ∧ r = none ∧ D' = ov E) (fun X D' => ¬ (0 ≤ x ∧ x ≤ E a 10 - 1) ∧ X = "java/util/NoSuchElementException" ∧ D' = ov (bumpE E 1)) := by
  refine CTX.mk hG (by decide +kernel) (Nat.le_of_ble_eq_true rfl) (fun κ X Rt Rx ok => ?_)
  refine at_iload_n 1 X rfl rfl dX11_needPost_0 rfl ?_
  refine at_iconst 2 X (by decide) dX11_needPost_1 rfl ?_
  refine at_aload_n 3 X rfl rfl dX11_needPost_2 rfl ?_
  refine m_getM 6 X (a) f_X11_93 k_0 rn_0_15 hnow dX11_needPost_3 rfl ?_
  refine m_getI 9 X f_X11_184 (kX9 ha) (nX9_10 ha) dX11_needPost_6 rfl ?_
  refine at_iconst 10 X (by decide) dX11_needPost_9 rfl ?_
  refine at_isub 11 X dX11_needPost_10 rfl ?_
  rw [w32_id (by omega) (by omega)]
  refine at_callS 14 X (ct_X11_isWithin hG _ _ _) mo_X11_isWithin w_1211 so_X11_isWithin rfl rfl (crm Rt (by decide)) (Nat.le_of_ble_eq_true rfl) dX11_needPost_11 rfl ?_
  rintro _ _ ⟨rfl, rfl⟩
  refine at_if_ne 17 38 X dX11_needPost_14 rfl (by decide) (fun h14 => ?_) (fun h14 => ?_)
  · refine at_vret X Rt ⟨ite_yes.mp (by assumption), rfl, rfl⟩ (by decide) (by decide) dX11_needPost_38
  · refine at_aload_n 18 X rfl rfl dX11_needPost_17 rfl ?_
    refine m_getR 21 X f_X11_16 k_0 r_0_1 dX11_needPost_18 rfl ?_
    refine at_iconst 22 X (by decide) dX11_needPost_21 rfl ?_
    refine at_dup2 23 X (by decide) (by decide) dX11_needPost_22 rfl ?_
    refine m_iaload 24 X k_3 e_3 (by omega) (by omega) dX11_needPost_23 rfl ?_
    refine at_iconst 25 X (by decide) dX11_needPost_24 rfl ?_
    refine at_iadd 26 X dX11_needPost_25 rfl ?_
    refine m_iastore 27 X k_3 e_3 (by omega) (by omega) dX11_needPost_26 rfl ?_
    exact at_throw X Rt Rx 16 rfl (by decide +kernel) (by decide +kernel) (by decide +kernel) (bytes := ⟨#[0x2a, 0x2b, 0xb7, 0x00, 0x0d, 0xb1]⟩) (by decide +kernel) (by decide +kernel) (by decide +kernel) (by decide +kernel) w_1212 w_145 hat_ne w_1213 dX11_needPost_27 dX11_needPost_30 dX11_needPost_31 dX11_needPost_34 dX11_needPost_37 (by decide) ⟨ite_no.mp (by assumption), rfl, rfl⟩
theorem dX11_needBeam_0 : decode cX11_needBeam 0 = .ok (.iload_n 1, 1) := by decide +kernel
theorem dX11_needBeam_1 : decode cX11_needBeam 1 = .ok (.iconst 0, 1) := by decide +kernel
theorem dX11_needBeam_2 : decode cX11_needBeam 2 = .ok (.aload_n 0, 1) := by decide +kernel
theorem dX11_needBeam_3 : decode cX11_needBeam 3 = .ok (.getfield 93, 3) := by decide +kernel
theorem dX11_needBeam_6 : decode cX11_needBeam 6 = .ok (.getfield 135, 3) := by decide +kernel
theorem dX11_needBeam_9 : decode cX11_needBeam 9 = .ok (.getfield 139, 3) := by decide +kernel
theorem dX11_needBeam_12 : decode cX11_needBeam 12 = .ok (.iconst 1, 1) := by decide +kernel
theorem dX11_needBeam_13 : decode cX11_needBeam 13 = .ok (.isub, 1) := by decide +kernel
theorem dX11_needBeam_14 : decode cX11_needBeam 14 = .ok (.invokestatic 253, 3) := by decide +kernel
theorem dX11_needBeam_17 : decode cX11_needBeam 17 = .ok (.ifCond .ne 24, 3) := by decide +kernel
theorem dX11_needBeam_20 : decode cX11_needBeam 20 = .ok (.aload_n 0, 1) := by decide +kernel
theorem dX11_needBeam_21 : decode cX11_needBeam 21 = .ok (.getfield 16, 3) := by decide +kernel
theorem dX11_needBeam_24 : decode cX11_needBeam 24 = .ok (.iconst 1, 1) := by decide +kernel
theorem dX11_needBeam_25 : decode cX11_needBeam 25 = .ok (.dup2, 1) := by decide +kernel
theorem dX11_needBeam_26 : decode cX11_needBeam 26 = .ok (.iaload, 1) := by decide +kernel
theorem dX11_needBeam_27 : decode cX11_needBeam 27 = .ok (.iconst 1, 1) := by decide +kernel
theorem dX11_needBeam_28 : decode cX11_needBeam 28 = .ok (.iadd, 1) := by decide +kernel
theorem dX11_needBeam_29 : decode cX11_needBeam 29 = .ok (.iastore, 1) := by decide +kernel
theorem dX11_needBeam_30 : decode cX11_needBeam 30 = .ok (.new 482, 3) := by decide +kernel
theorem dX11_needBeam_33 : decode cX11_needBeam 33 = .ok (.dup, 1) := by decide +kernel
theorem dX11_needBeam_34 : decode cX11_needBeam 34 = .ok (.ldc_w 487, 3) := by decide +kernel
theorem dX11_needBeam_37 : decode cX11_needBeam 37 = .ok (.invokespecial 486, 3) := by decide +kernel
theorem dX11_needBeam_40 : decode cX11_needBeam 40 = .ok (.athrow, 1) := by decide +kernel
theorem dX11_needBeam_41 : decode cX11_needBeam 41 = .ok (.return_, 1) := by decide +kernel
theorem ct_X11_needBeam {g : Gw} (hG : GF g) {z : Bool} (E : Mm) (x : Int) (a : Nat) (ha : a = 68 ∨ a = 83) (hnow : E 0 15 = (a : Int)) (hw : 0 ≤ E (a + 8) 6 ∧ E (a + 8) 6 ≤ 1000) : CTX g yX11_needBeam cX11_needBeam 2 none 6 95 1 6 K2 z [mR 0, mI x] (ov (E)) K2 z (fun r D' => (0 ≤ x ∧ x ≤ E (a + 8) 6 - 1) ∧ r = none ∧ D' = ov E) (fun X D' => ¬ (0 ≤ x ∧ x ≤ E (a + 8) 6 - 1) ∧ X = "java/util/NoSuchElementException" ∧ D' = ov (bumpE E 1)) := by
  refine CTX.mk hG (by decide +kernel) (Nat.le_of_ble_eq_true rfl) (fun κ X Rt Rx ok => ?_)
  refine at_iload_n 1 X rfl rfl dX11_needBeam_0 rfl ?_
  refine at_iconst 2 X (by decide) dX11_needBeam_1 rfl ?_
  refine at_aload_n 3 X rfl rfl dX11_needBeam_2 rfl ?_
  refine m_getM 6 X (a) f_X11_93 k_0 rn_0_15 hnow dX11_needBeam_3 rfl ?_
  refine m_getR 9 X f_X11_135 (kX9 ha) (rX9_7 ha) dX11_needBeam_6 rfl ?_
  refine m_getI 12 X f_X11_139 (kX0 (iB_8 ha)) (nX0_6 (iB_8 ha)) dX11_needBeam_9 rfl ?_
  refine at_iconst 13 X (by decide) dX11_needBeam_12 rfl ?_
  refine at_isub 14 X dX11_needBeam_13 rfl ?_
  rw [w32_id (by omega) (by omega)]
  refine at_callS 17 X (ct_X11_isWithin hG _ _ _) mo_X11_isWithin w_1211 so_X11_isWithin rfl rfl (crm Rt (by decide)) (Nat.le_of_ble_eq_true rfl) dX11_needBeam_14 rfl ?_
  rintro _ _ ⟨rfl, rfl⟩
  refine at_if_ne 20 41 X dX11_needBeam_17 rfl (by decide) (fun h17 => ?_) (fun h17 => ?_)
  · refine at_vret X Rt ⟨ite_yes.mp (by assumption), rfl, rfl⟩ (by decide) (by decide) dX11_needBeam_41
  · refine at_aload_n 21 X rfl rfl dX11_needBeam_20 rfl ?_
    refine m_getR 24 X f_X11_16 k_0 r_0_1 dX11_needBeam_21 rfl ?_
    refine at_iconst 25 X (by decide) dX11_needBeam_24 rfl ?_
    refine at_dup2 26 X (by decide) (by decide) dX11_needBeam_25 rfl ?_
    refine m_iaload 27 X k_3 e_3 (by omega) (by omega) dX11_needBeam_26 rfl ?_
    refine at_iconst 28 X (by decide) dX11_needBeam_27 rfl ?_
    refine at_iadd 29 X dX11_needBeam_28 rfl ?_
    refine m_iastore 30 X k_3 e_3 (by omega) (by omega) dX11_needBeam_29 rfl ?_
    exact at_throw X Rt Rx 17 rfl (by decide +kernel) (by decide +kernel) (by decide +kernel) (bytes := ⟨#[0x2a, 0x2b, 0xb7, 0x00, 0x0d, 0xb1]⟩) (by decide +kernel) (by decide +kernel) (by decide +kernel) (by decide +kernel) w_1212 w_145 hat_ne w_1213 dX11_needBeam_30 dX11_needBeam_33 dX11_needBeam_34 dX11_needBeam_37 dX11_needBeam_40 (by decide) ⟨ite_no.mp (by assumption), rfl, rfl⟩
