theorem dX12_byteAt_0 : decode cX12_byteAt 0 = .ok (.iload_n 1, 1) := by decide +kernel
theorem dX12_byteAt_1 : decode cX12_byteAt 1 = .ok (.aload_n 0, 1) := by decide +kernel
theorem dX12_byteAt_2 : decode cX12_byteAt 2 = .ok (.getfield 158, 3) := by decide +kernel
theorem dX12_byteAt_5 : decode cX12_byteAt 5 = .ok (.if_icmp .lt 7, 3) := by decide +kernel
theorem dX12_byteAt_8 : decode cX12_byteAt 8 = .ok (.iconst (-1), 1) := by decide +kernel
theorem dX12_byteAt_9 : decode cX12_byteAt 9 = .ok (.goto 9, 3) := by decide +kernel
theorem dX12_byteAt_12 : decode cX12_byteAt 12 = .ok (.aload_n 0, 1) := by decide +kernel
theorem dX12_byteAt_13 : decode cX12_byteAt 13 = .ok (.getfield 13, 3) := by decide +kernel
theorem dX12_byteAt_16 : decode cX12_byteAt 16 = .ok (.iload_n 1, 1) := by decide +kernel
theorem dX12_byteAt_17 : decode cX12_byteAt 17 = .ok (.iaload, 1) := by decide +kernel
theorem dX12_byteAt_18 : decode cX12_byteAt 18 = .ok (.ireturn, 1) := by decide +kernel
theorem ct_X12_byteAt {g : Gw} (hG : GF g) {z : Bool} (E : Mm) (k : Int) (n : Nat) (hn : E 125 2 = (n : Int)) (hn2 : n ≤ 600) (hk : 0 ≤ k) : CT g yX12_byteAt cX12_byteAt 2 (some .int) 0 0 0 0 K2 z [mR 125, mI k] (ov (E)) K2 z (fun r D' => r = some (mI (if (n : Int) ≤ k then -1 else E 126 k.toNat)) ∧ D' = ov E) := by
  refine CT.mk hG (by decide +kernel) (Nat.le_of_ble_eq_true rfl) (fun κ X Rt _ ok => ?_)
  refine at_iload_n 1 X rfl rfl dX12_byteAt_0 rfl ?_
  refine at_aload_n 2 X rfl rfl dX12_byteAt_1 rfl ?_
  refine m_getI 5 X f_X12_158 k_125 rn_125_2 dX12_byteAt_2 rfl ?_
  refine at_icmp_lt 8 12 X dX12_byteAt_5 rfl (by decide) (fun h5 => ?_) (fun h5 => ?_)
  · refine at_aload_n 13 X rfl rfl dX12_byteAt_12 rfl ?_
    refine m_getR 16 X f_X12_13 k_125 r_125_9 dX12_byteAt_13 rfl ?_
    refine at_iload_n 17 X rfl rfl dX12_byteAt_16 rfl ?_
    refine m_iaload 18 X k_126 e_126 (by omega) (by omega) dX12_byteAt_17 rfl ?_
    refine at_iret X Rt ⟨by first | rw [if_pos (by omega)] | rw [if_neg (by omega)], rfl⟩ (Nat.le_refl _) (Nat.le_refl _) dX12_byteAt_18
  · refine at_iconst 9 X (by decide) dX12_byteAt_8 rfl ?_
    refine at_goto 18 X dX12_byteAt_9 (by decide) ?_
    refine at_iret X Rt ⟨by first | rw [if_pos (by omega)] | rw [if_neg (by omega)], rfl⟩ (Nat.le_refl _) (Nat.le_refl _) dX12_byteAt_18
theorem dX12_blanks_0 : decode cX12_blanks 0 = .ok (.aload_n 0, 1) := by decide +kernel
theorem dX12_blanks_1 : decode cX12_blanks 1 = .ok (.aload_n 0, 1) := by decide +kernel
theorem dX12_blanks_2 : decode cX12_blanks 2 = .ok (.getfield 161, 3) := by decide +kernel
theorem dX12_blanks_5 : decode cX12_blanks 5 = .ok (.invokevirtual 164, 3) := by decide +kernel
theorem dX12_blanks_8 : decode cX12_blanks 8 = .ok (.bipush 32, 2) := by decide +kernel
theorem dX12_blanks_10 : decode cX12_blanks 10 = .ok (.if_icmp .ne 16, 3) := by decide +kernel
theorem dX12_blanks_13 : decode cX12_blanks 13 = .ok (.aload_n 0, 1) := by decide +kernel
theorem dX12_blanks_14 : decode cX12_blanks 14 = .ok (.dup, 1) := by decide +kernel
theorem dX12_blanks_15 : decode cX12_blanks 15 = .ok (.getfield 161, 3) := by decide +kernel
theorem dX12_blanks_18 : decode cX12_blanks 18 = .ok (.iconst 1, 1) := by decide +kernel
theorem dX12_blanks_19 : decode cX12_blanks 19 = .ok (.iadd, 1) := by decide +kernel
theorem dX12_blanks_20 : decode cX12_blanks 20 = .ok (.putfield 161, 3) := by decide +kernel
theorem dX12_blanks_23 : decode cX12_blanks 23 = .ok (.goto (-23), 3) := by decide +kernel
theorem dX12_blanks_26 : decode cX12_blanks 26 = .ok (.return_, 1) := by decide +kernel
theorem ct_X12_blanks {g : Gw} (hG : GF g) {z : Bool} (E : Mm) (a0 n : Nat) (hn : E 125 2 = (n : Int)) (hn2 : n ≤ 600) (ha : E 125 4 = (a0 : Int)) : CT g yX12_blanks cX12_blanks 1 none 1 21 0 0 K2 z [mR 125] (ov (E)) K2 z (fun r D' => r = none ∧ D' = ov (wr E 125 4 (sk (E 126) n a0 : Int))) := by
  refine CT.mk hG (by decide +kernel) (Nat.le_of_ble_eq_true rfl) (fun κ X Rt _ ok => ?_)
  have L0 : ∀ (f a : Nat), n - a < f → sk (E 126) n a = sk (E 126) n a0 → AT g κ K2 z 0 0 0 [(0, mR 125)] [] (ov (wr E 125 4 (a : Int))) := by
    intro f
    induction f with
    | zero => intro a h; omega
    | succ f ih =>
    intro a hf hs
    refine at_aload_n 1 X rfl rfl dX12_blanks_0 rfl ?_
    refine at_aload_n 2 X rfl rfl dX12_blanks_1 rfl ?_
    refine m_getI 5 X f_X12_161 k_125 rn_125_4 dX12_blanks_2 rfl ?_
    rw [wr_s]
    refine at_callV 8 X _ 12 (ct_X12_byteAt hG (wr E 125 4 (a : Int)) _ n ((wr_o (Or.inr (by decide))).trans hn) hn2 (by omega)) clX12 rfl k_125 mo_X12_byteAt w_1972 vo_X12_byteAt.1 vo_X12_byteAt.2 rfl rfl (crm Rt (by decide)) (Nat.le_of_ble_eq_true rfl) dX12_blanks_5 rfl ?_
    rintro _ _ ⟨rfl, rfl⟩
    refine at_bipush 10 X (by decide) (by decide) dX12_blanks_8 rfl ?_
    rw [wr_o (Or.inl (by decide)), Int.toNat_natCast]
    refine at_icmp_ne 13 26 X dX12_blanks_10 rfl (by decide) (fun h10 => ?_) (fun h10 => ?_)
    · have hc : ¬ (a < n ∧ E 126 a = 32) := fun q => h10 (by rw [if_neg (by omega)]; exact q.2)
      refine at_vret X Rt ⟨rfl, by rw [← hs, sk, if_neg hc]⟩ (Nat.le_refl _) (Nat.le_refl _) dX12_blanks_26
    · have hc : a < n ∧ E 126 a = 32 := by
        by_cases c : (n : Int) ≤ (a : Int)
        · rw [if_pos c] at h10; omega
        · rw [if_neg c] at h10; exact ⟨by omega, by omega⟩
      refine at_aload_n 14 X rfl rfl dX12_blanks_13 rfl ?_
      refine at_dup 15 X (show ¬ (2 : Nat) = 1 by decide) dX12_blanks_14 rfl ?_
      refine m_getI 18 X f_X12_161 k_125 rn_125_4 dX12_blanks_15 rfl ?_
      refine at_iconst 19 X (by decide) dX12_blanks_18 rfl ?_
      refine at_iadd 20 X dX12_blanks_19 rfl ?_
      rw [wr_s, w32_id (by omega) (by omega), show (a : Int) + 1 = ((a + 1 : Nat) : Int) from rfl]
      refine m_putI 23 X f_X12_161 fw_12_4 k_125 rn_125_4 dX12_blanks_20 rfl ?_
      refine at_goto 0 X dX12_blanks_23 (by decide) ?_
      rw [wr_wr]
      exact ih (a + 1) (by omega) (by rw [← hs]; conv => rhs; rw [sk, if_pos hc])
  have h0 := L0 (n - a0 + 1) a0 (by omega) rfl
  rw [wr_id ha] at h0
  exact h0
