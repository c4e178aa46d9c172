theorem dX12_keeps_0 : decode cX12_keeps 0 = .ok (.iload_n 3, 1) := by decide +kernel
theorem dX12_keeps_1 : decode cX12_keeps 1 = .ok (.ifCond .ne 10, 3) := by decide +kernel
theorem dX12_keeps_4 : decode cX12_keeps 4 = .ok (.aload_n 1, 1) := by decide +kernel
theorem dX12_keeps_5 : decode cX12_keeps 5 = .ok (.aload_n 0, 1) := by decide +kernel
theorem dX12_keeps_6 : decode cX12_keeps 6 = .ok (.getfield 460, 3) := by decide +kernel
theorem dX12_keeps_9 : decode cX12_keeps 9 = .ok (.iload_n 2, 1) := by decide +kernel
theorem dX12_keeps_10 : decode cX12_keeps 10 = .ok (.iastore, 1) := by decide +kernel
theorem dX12_keeps_11 : decode cX12_keeps 11 = .ok (.aload_n 0, 1) := by decide +kernel
theorem dX12_keeps_12 : decode cX12_keeps 12 = .ok (.dup, 1) := by decide +kernel
theorem dX12_keeps_13 : decode cX12_keeps 13 = .ok (.getfield 460, 3) := by decide +kernel
theorem dX12_keeps_16 : decode cX12_keeps 16 = .ok (.iconst 1, 1) := by decide +kernel
theorem dX12_keeps_17 : decode cX12_keeps 17 = .ok (.iadd, 1) := by decide +kernel
theorem dX12_keeps_18 : decode cX12_keeps 18 = .ok (.putfield 460, 3) := by decide +kernel
theorem dX12_keeps_21 : decode cX12_keeps 21 = .ok (.aload_n 1, 1) := by decide +kernel
theorem dX12_keeps_22 : decode cX12_keeps 22 = .ok (.aload_n 0, 1) := by decide +kernel
theorem dX12_keeps_23 : decode cX12_keeps 23 = .ok (.getfield 460, 3) := by decide +kernel
theorem dX12_keeps_26 : decode cX12_keeps 26 = .ok (.iconst 1, 1) := by decide +kernel
theorem dX12_keeps_27 : decode cX12_keeps 27 = .ok (.isub, 1) := by decide +kernel
theorem dX12_keeps_28 : decode cX12_keeps 28 = .ok (.iaload, 1) := by decide +kernel
theorem dX12_keeps_29 : decode cX12_keeps 29 = .ok (.ireturn, 1) := by decide +kernel
theorem ct_keeps0 {g : Gw} (hG : GF g) {z : Bool} (E : Mm) (a n s : Nat) (hK : K2[a]? = some (0, n)) (he : rtab.getD a [] = []) (ha : a ≠ 125) (hsn : s < n) (hn : n < 10000) (hs : E 125 48 = (s : Int)) (v : Int) : CT g yX12_keeps cX12_keeps 4 (some .int) 0 0 0 0 K2 z [mR 125, mR a, mI v, mI 0] (ov E) K2 z (fun r D' => r = some (mI v) ∧ D' = ov (wr (wr E a s v) 125 48 ((s + 1 : Nat) : Int))) := by
  refine CT.mk hG (by decide +kernel) (Nat.le_of_ble_eq_true rfl) (fun κ X Rt _ ok => ?_)
  refine at_iload_n 1 X rfl rfl dX12_keeps_0 rfl ?_
  refine at_if_ne 4 11 X dX12_keeps_1 rfl (by decide) (fun h1 => ?_) (fun h1 => ?_)
  · exact absurd h1 (by decide)
  · refine at_aload_n 5 X rfl rfl dX12_keeps_4 rfl ?_
    refine at_aload_n 6 X rfl rfl dX12_keeps_5 rfl ?_
    refine m_getIV 9 X ((s : Nat) : Int) hs f_X12_460 k_125 rn_125_48 dX12_keeps_6 rfl ?_
    refine at_iload_n 10 X rfl rfl dX12_keeps_9 rfl ?_
    refine m_iastoreV 11 X s (by omega) hK he (by omega) dX12_keeps_10 rfl ?_
    refine at_aload_n 12 X rfl rfl dX12_keeps_11 rfl ?_
    refine at_dup 13 X (show ¬ (2 : Nat) = 1 by decide) dX12_keeps_12 rfl ?_
    refine m_getIV 16 X ((s : Nat) : Int) ((wr_o (by omega)).trans hs) f_X12_460 k_125 rn_125_48 dX12_keeps_13 rfl ?_
    refine at_iconst 17 X (by decide) dX12_keeps_16 rfl ?_
    refine at_iaddV 18 X ((s + 1 : Nat) : Int) (w32_v (by omega) (by omega) (by omega)) dX12_keeps_17 rfl ?_
    refine m_putI 21 X f_X12_460 fw_12_48 k_125 rn_125_48 dX12_keeps_18 rfl ?_
    refine at_aload_n 22 X rfl rfl dX12_keeps_21 rfl ?_
    refine at_aload_n 23 X rfl rfl dX12_keeps_22 rfl ?_
    refine m_getIV 26 X ((s + 1 : Nat) : Int) (wr_s _ _ _ _) f_X12_460 k_125 rn_125_48 dX12_keeps_23 rfl ?_
    refine at_iconst 27 X (by decide) dX12_keeps_26 rfl ?_
    refine at_isubV 28 X ((s : Nat) : Int) (w32_v (by omega) (by omega) (by omega)) dX12_keeps_27 rfl ?_
    refine m_ialoadV 29 X s (by omega) v ((wr_o (by omega)).trans (wr_s _ _ _ _)) hK he (by omega) dX12_keeps_28 rfl ?_
    refine at_iret X Rt ?_ (Nat.le_refl _) (Nat.le_refl _) dX12_keeps_29
    exact ⟨rfl, rfl⟩
theorem ct_keeps1 {g : Gw} (hG : GF g) {z : Bool} (E : Mm) (a n s : Nat) (hK : K2[a]? = some (0, n)) (he : rtab.getD a [] = []) (ha : a ≠ 125) (hsn : s < n) (hn : n < 10000) (hs : E 125 48 = (s : Int)) (v : Int) : CT g yX12_keeps cX12_keeps 4 (some .int) 0 0 0 0 K2 z [mR 125, mR a, mI v, mI 1] (ov E) K2 z (fun r D' => r = some (mI (E a s)) ∧ D' = ov (wr E 125 48 ((s + 1 : Nat) : Int))) := by
  refine CT.mk hG (by decide +kernel) (Nat.le_of_ble_eq_true rfl) (fun κ X Rt _ ok => ?_)
  refine at_iload_n 1 X rfl rfl dX12_keeps_0 rfl ?_
  refine at_if_ne 4 11 X dX12_keeps_1 rfl (by decide) (fun h1 => ?_) (fun h1 => ?_)
  · refine at_aload_n 12 X rfl rfl dX12_keeps_11 rfl ?_
    refine at_dup 13 X (show ¬ (2 : Nat) = 1 by decide) dX12_keeps_12 rfl ?_
    refine m_getIV 16 X ((s : Nat) : Int) hs f_X12_460 k_125 rn_125_48 dX12_keeps_13 rfl ?_
    refine at_iconst 17 X (by decide) dX12_keeps_16 rfl ?_
    refine at_iaddV 18 X ((s + 1 : Nat) : Int) (w32_v (by omega) (by omega) (by omega)) dX12_keeps_17 rfl ?_
    refine m_putI 21 X f_X12_460 fw_12_48 k_125 rn_125_48 dX12_keeps_18 rfl ?_
    refine at_aload_n 22 X rfl rfl dX12_keeps_21 rfl ?_
    refine at_aload_n 23 X rfl rfl dX12_keeps_22 rfl ?_
    refine m_getIV 26 X ((s + 1 : Nat) : Int) (wr_s _ _ _ _) f_X12_460 k_125 rn_125_48 dX12_keeps_23 rfl ?_
    refine at_iconst 27 X (by decide) dX12_keeps_26 rfl ?_
    refine at_isubV 28 X ((s : Nat) : Int) (w32_v (by omega) (by omega) (by omega)) dX12_keeps_27 rfl ?_
    refine m_ialoadV 29 X s (by omega) (E a s) ((wr_o (by omega)).trans rfl) hK he (by omega) dX12_keeps_28 rfl ?_
    refine at_iret X Rt ?_ (Nat.le_refl _) (Nat.le_refl _) dX12_keeps_29
    exact ⟨rfl, rfl⟩
  · exact absurd h1 (by decide)
