theorem dX10_skipBlanks_0 : decode cX10_skipBlanks 0 = .ok (.aload_n 0, 1) := by decide +kernel
theorem dX10_skipBlanks_1 : decode cX10_skipBlanks 1 = .ok (.getfield 31, 3) := by decide +kernel
theorem dX10_skipBlanks_4 : decode cX10_skipBlanks 4 = .ok (.aload_n 0, 1) := by decide +kernel
theorem dX10_skipBlanks_5 : decode cX10_skipBlanks 5 = .ok (.getfield 28, 3) := by decide +kernel
theorem dX10_skipBlanks_8 : decode cX10_skipBlanks 8 = .ok (.if_icmp .ge 30, 3) := by decide +kernel
theorem dX10_skipBlanks_11 : decode cX10_skipBlanks 11 = .ok (.aload_n 0, 1) := by decide +kernel
theorem dX10_skipBlanks_12 : decode cX10_skipBlanks 12 = .ok (.getfield 9, 3) := by decide +kernel
theorem dX10_skipBlanks_15 : decode cX10_skipBlanks 15 = .ok (.aload_n 0, 1) := by decide +kernel
theorem dX10_skipBlanks_16 : decode cX10_skipBlanks 16 = .ok (.getfield 31, 3) := by decide +kernel
theorem dX10_skipBlanks_19 : decode cX10_skipBlanks 19 = .ok (.baload, 1) := by decide +kernel
theorem dX10_skipBlanks_20 : decode cX10_skipBlanks 20 = .ok (.bipush 32, 2) := by decide +kernel
theorem dX10_skipBlanks_22 : decode cX10_skipBlanks 22 = .ok (.if_icmp .ne 16, 3) := by decide +kernel
theorem dX10_skipBlanks_25 : decode cX10_skipBlanks 25 = .ok (.aload_n 0, 1) := by decide +kernel
theorem dX10_skipBlanks_26 : decode cX10_skipBlanks 26 = .ok (.dup, 1) := by decide +kernel
theorem dX10_skipBlanks_27 : decode cX10_skipBlanks 27 = .ok (.getfield 31, 3) := by decide +kernel
theorem dX10_skipBlanks_30 : decode cX10_skipBlanks 30 = .ok (.iconst 1, 1) := by decide +kernel
theorem dX10_skipBlanks_31 : decode cX10_skipBlanks 31 = .ok (.iadd, 1) := by decide +kernel
theorem dX10_skipBlanks_32 : decode cX10_skipBlanks 32 = .ok (.putfield 31, 3) := by decide +kernel
theorem dX10_skipBlanks_35 : decode cX10_skipBlanks 35 = .ok (.goto (-35), 3) := by decide +kernel
theorem dX10_skipBlanks_38 : decode cX10_skipBlanks 38 = .ok (.aload_n 0, 1) := by decide +kernel
theorem dX10_skipBlanks_39 : decode cX10_skipBlanks 39 = .ok (.aload_n 0, 1) := by decide +kernel
theorem dX10_skipBlanks_40 : decode cX10_skipBlanks 40 = .ok (.getfield 31, 3) := by decide +kernel
theorem dX10_skipBlanks_43 : decode cX10_skipBlanks 43 = .ok (.putfield 34, 3) := by decide +kernel
theorem dX10_skipBlanks_46 : decode cX10_skipBlanks 46 = .ok (.return_, 1) := by decide +kernel
/-- the first place from a on that is no blank -/
def sk (B : Nat → Int) (n a : Nat) : Nat := if a < n ∧ B a = 32 then sk B n (a + 1) else a
termination_by n - a
decreasing_by omega
theorem ct_X10_skipBlanks {g : Gw} (hG : GF g) {z : Bool} (E : Mm) (n a0 : Nat) (hn : E 1 2 = n) (hn2 : n ≤ 600) (ha : E 1 3 = a0) : CT g yX10_skipBlanks cX10_skipBlanks 1 none 0 0 0 0 K2 z [mR 1] (ov (E)) K2 z (fun r D' => r = none ∧ D' = ov (wr (wr E 1 3 (sk (E 2) n a0)) 1 4 (sk (E 2) n a0))) := by
  refine CT.mk hG (by decide +kernel) (by decide) (fun κ X Rt _ ok => ?_)
  have L0 : ∀ (f a : Nat), n - a < f → sk (E 2) n a = sk (E 2) n a0 → AT g κ K2 z 0 0 0 [(0, mR 1)] [] (ov (wr E 1 3 a)) := by
    intro f
    induction f with
    | zero => intro a h; omega
    | succ f ih =>
    intro a hf hs
    refine at_aload_n 1 X rfl rfl dX10_skipBlanks_0 rfl ?_
    refine m_getI 4 X f_X10_31 k_1 rn_1_3 dX10_skipBlanks_1 rfl ?_
    refine at_aload_n 5 X rfl rfl dX10_skipBlanks_4 rfl ?_
    refine m_getI 8 X f_X10_28 k_1 rn_1_2 dX10_skipBlanks_5 rfl ?_
    simp (disch := omega) only [wr_s, wr_o, hn]
    refine at_icmp_ge 11 38 X dX10_skipBlanks_8 rfl (by decide) (fun h8 => ?_) (fun h8 => ?_)
    · refine at_aload_n 39 X rfl rfl dX10_skipBlanks_38 rfl ?_
      refine at_aload_n 40 X rfl rfl dX10_skipBlanks_39 rfl ?_
      refine m_getI 43 X f_X10_31 k_1 rn_1_3 dX10_skipBlanks_40 rfl ?_
      refine m_putI 46 X f_X10_34 fw_10_4 k_1 rn_1_4 dX10_skipBlanks_43 rfl ?_
      refine at_vret X Rt ?_ (Nat.le_refl _) (Nat.le_refl _) dX10_skipBlanks_46
      refine ⟨rfl, ?_⟩
      rw [← hs, sk, if_neg (by omega), wr_s]
    · refine at_aload_n 12 X rfl rfl dX10_skipBlanks_11 rfl ?_
      refine m_getR 15 X f_X10_9 k_1 r_1_0 dX10_skipBlanks_12 rfl ?_
      refine at_aload_n 16 X rfl rfl dX10_skipBlanks_15 rfl ?_
      refine m_getI 19 X f_X10_31 k_1 rn_1_3 dX10_skipBlanks_16 rfl ?_
      simp (disch := omega) only [wr_s, wr_o]
      refine m_baload 20 X k_2 e_2 (by omega) (by omega) dX10_skipBlanks_19 rfl ?_
      refine at_bipush 22 X (by decide) (by decide) dX10_skipBlanks_20 rfl ?_
      simp (disch := omega) only [wr_s, wr_o, Int.toNat_natCast]
      refine at_icmp_ne 25 38 X dX10_skipBlanks_22 rfl (by decide) (fun h22 => ?_) (fun h22 => ?_)
      · refine at_aload_n 39 X rfl rfl dX10_skipBlanks_38 rfl ?_
        refine at_aload_n 40 X rfl rfl dX10_skipBlanks_39 rfl ?_
        refine m_getI 43 X f_X10_31 k_1 rn_1_3 dX10_skipBlanks_40 rfl ?_
        refine m_putI 46 X f_X10_34 fw_10_4 k_1 rn_1_4 dX10_skipBlanks_43 rfl ?_
        refine at_vret X Rt ?_ (Nat.le_refl _) (Nat.le_refl _) dX10_skipBlanks_46
        refine ⟨rfl, ?_⟩
        rw [← hs, sk, if_neg (by omega), wr_s]
      · refine at_aload_n 26 X rfl rfl dX10_skipBlanks_25 rfl ?_
        refine at_dup 27 X (by decide) dX10_skipBlanks_26 rfl ?_
        refine m_getI 30 X f_X10_31 k_1 rn_1_3 dX10_skipBlanks_27 rfl ?_
        refine at_iconst 31 X (by decide) dX10_skipBlanks_30 rfl ?_
        refine at_iadd 32 X dX10_skipBlanks_31 rfl ?_
        refine m_putI 35 X f_X10_31 fw_10_3 k_1 rn_1_3 dX10_skipBlanks_32 rfl ?_
        refine at_goto 0 X dX10_skipBlanks_35 (by decide) ?_
        rw [wr_s, wr_wr, w32_id (by omega) (by omega), show (a : Int) + 1 = ((a + 1 : Nat) : Int) from rfl]
        exact ih (a + 1) (by omega) (by rw [← hs]; conv => rhs; rw [sk, if_pos ⟨by omega, h22⟩])
  have h0 := L0 (n - a0 + 1) a0 (by omega) rfl
  rw [wr_id ha] at h0
  exact h0
