theorem dX12_feed_0 : decode cX12_feed 0 = .ok (.aload_n 0, 1) := by decide +kernel
theorem dX12_feed_1 : decode cX12_feed 1 = .ok (.iconst 0, 1) := by decide +kernel
theorem dX12_feed_2 : decode cX12_feed 2 = .ok (.putfield 152, 3) := by decide +kernel
theorem dX12_feed_5 : decode cX12_feed 5 = .ok (.aload_n 0, 1) := by decide +kernel
theorem dX12_feed_6 : decode cX12_feed 6 = .ok (.getfield 155, 3) := by decide +kernel
theorem dX12_feed_9 : decode cX12_feed 9 = .ok (.bipush 20, 2) := by decide +kernel
theorem dX12_feed_11 : decode cX12_feed 11 = .ok (.iadd, 1) := by decide +kernel
theorem dX12_feed_12 : decode cX12_feed 12 = .ok (.sipush 600, 3) := by decide +kernel
theorem dX12_feed_15 : decode cX12_feed 15 = .ok (.if_icmp .le 5, 3) := by decide +kernel
theorem dX12_feed_18 : decode cX12_feed 18 = .ok (.iconst (-1), 1) := by decide +kernel
theorem dX12_feed_19 : decode cX12_feed 19 = .ok (.ireturn, 1) := by decide +kernel
theorem dX12_feed_20 : decode cX12_feed 20 = .ok (.iconst 0, 1) := by decide +kernel
theorem dX12_feed_21 : decode cX12_feed 21 = .ok (.istore 6, 2) := by decide +kernel
theorem dX12_feed_23 : decode cX12_feed 23 = .ok (.iload 6, 2) := by decide +kernel
theorem dX12_feed_25 : decode cX12_feed 25 = .ok (.bipush 20, 2) := by decide +kernel
theorem dX12_feed_27 : decode cX12_feed 27 = .ok (.if_icmp .ge 93, 3) := by decide +kernel
theorem dX12_feed_30 : decode cX12_feed 30 = .ok (.iload 6, 2) := by decide +kernel
theorem dX12_feed_32 : decode cX12_feed 32 = .ok (.iconst 4, 1) := by decide +kernel
theorem dX12_feed_33 : decode cX12_feed 33 = .ok (.if_icmp .ge 7, 3) := by decide +kernel
theorem dX12_feed_36 : decode cX12_feed 36 = .ok (.iload_n 1, 1) := by decide +kernel
theorem dX12_feed_37 : decode cX12_feed 37 = .ok (.goto 39, 3) := by decide +kernel
theorem dX12_feed_40 : decode cX12_feed 40 = .ok (.iload 6, 2) := by decide +kernel
theorem dX12_feed_42 : decode cX12_feed 42 = .ok (.bipush 8, 2) := by decide +kernel
theorem dX12_feed_44 : decode cX12_feed 44 = .ok (.if_icmp .ge 7, 3) := by decide +kernel
theorem dX12_feed_47 : decode cX12_feed 47 = .ok (.iload_n 2, 1) := by decide +kernel
theorem dX12_feed_48 : decode cX12_feed 48 = .ok (.goto 28, 3) := by decide +kernel
theorem dX12_feed_51 : decode cX12_feed 51 = .ok (.iload 6, 2) := by decide +kernel
theorem dX12_feed_53 : decode cX12_feed 53 = .ok (.bipush 12, 2) := by decide +kernel
theorem dX12_feed_55 : decode cX12_feed 55 = .ok (.if_icmp .ge 7, 3) := by decide +kernel
theorem dX12_feed_58 : decode cX12_feed 58 = .ok (.iload_n 3, 1) := by decide +kernel
theorem dX12_feed_59 : decode cX12_feed 59 = .ok (.goto 17, 3) := by decide +kernel
theorem dX12_feed_62 : decode cX12_feed 62 = .ok (.iload 6, 2) := by decide +kernel
theorem dX12_feed_64 : decode cX12_feed 64 = .ok (.bipush 16, 2) := by decide +kernel
theorem dX12_feed_66 : decode cX12_feed 66 = .ok (.if_icmp .ge 8, 3) := by decide +kernel
theorem dX12_feed_69 : decode cX12_feed 69 = .ok (.iload 4, 2) := by decide +kernel
theorem dX12_feed_71 : decode cX12_feed 71 = .ok (.goto 5, 3) := by decide +kernel
theorem dX12_feed_74 : decode cX12_feed 74 = .ok (.iload 5, 2) := by decide +kernel
theorem dX12_feed_76 : decode cX12_feed 76 = .ok (.istore 7, 2) := by decide +kernel
theorem dX12_feed_78 : decode cX12_feed 78 = .ok (.aload_n 0, 1) := by decide +kernel
theorem dX12_feed_79 : decode cX12_feed 79 = .ok (.getfield 13, 3) := by decide +kernel
theorem dX12_feed_82 : decode cX12_feed 82 = .ok (.aload_n 0, 1) := by decide +kernel
theorem dX12_feed_83 : decode cX12_feed 83 = .ok (.getfield 155, 3) := by decide +kernel
theorem dX12_feed_86 : decode cX12_feed 86 = .ok (.iload 7, 2) := by decide +kernel
theorem dX12_feed_88 : decode cX12_feed 88 = .ok (.bipush 24, 2) := by decide +kernel
theorem dX12_feed_90 : decode cX12_feed 90 = .ok (.bipush 8, 2) := by decide +kernel
theorem dX12_feed_92 : decode cX12_feed 92 = .ok (.iload 6, 2) := by decide +kernel
theorem dX12_feed_94 : decode cX12_feed 94 = .ok (.iconst 4, 1) := by decide +kernel
theorem dX12_feed_95 : decode cX12_feed 95 = .ok (.irem, 1) := by decide +kernel
theorem dX12_feed_96 : decode cX12_feed 96 = .ok (.imul, 1) := by decide +kernel
theorem dX12_feed_97 : decode cX12_feed 97 = .ok (.isub, 1) := by decide +kernel
theorem dX12_feed_98 : decode cX12_feed 98 = .ok (.ishr, 1) := by decide +kernel
theorem dX12_feed_99 : decode cX12_feed 99 = .ok (.sipush 255, 3) := by decide +kernel
theorem dX12_feed_102 : decode cX12_feed 102 = .ok (.iand, 1) := by decide +kernel
theorem dX12_feed_103 : decode cX12_feed 103 = .ok (.iastore, 1) := by decide +kernel
theorem dX12_feed_104 : decode cX12_feed 104 = .ok (.aload_n 0, 1) := by decide +kernel
theorem dX12_feed_105 : decode cX12_feed 105 = .ok (.dup, 1) := by decide +kernel
theorem dX12_feed_106 : decode cX12_feed 106 = .ok (.getfield 155, 3) := by decide +kernel
theorem dX12_feed_109 : decode cX12_feed 109 = .ok (.iconst 1, 1) := by decide +kernel
theorem dX12_feed_110 : decode cX12_feed 110 = .ok (.iadd, 1) := by decide +kernel
theorem dX12_feed_111 : decode cX12_feed 111 = .ok (.putfield 155, 3) := by decide +kernel
theorem dX12_feed_114 : decode cX12_feed 114 = .ok (.iinc 6 1, 3) := by decide +kernel
theorem dX12_feed_117 : decode cX12_feed 117 = .ok (.goto (-94), 3) := by decide +kernel
theorem dX12_feed_120 : decode cX12_feed 120 = .ok (.aload_n 0, 1) := by decide +kernel
theorem dX12_feed_121 : decode cX12_feed 121 = .ok (.getfield 155, 3) := by decide +kernel
theorem dX12_feed_124 : decode cX12_feed 124 = .ok (.ireturn, 1) := by decide +kernel
/-- which of five ints the k-th of twenty bytes comes from -/
def w5 (x0 x1 x2 x3 x4 : Int) (k : Nat) : Int := if k < 4 then x0 else if k < 8 then x1 else if k < 12 then x2 else if k < 16 then x3 else x4
theorem tm4 (i : Nat) (h : i < 1000) : w32 ((i : Int).tmod 4) = ((i % 4 : Nat) : Int) := by
  rw [Int.tmod_eq_emod_of_nonneg (by omega), w32_id (by omega) (by omega)]
  rfl
/-- i bytes laid at the end of the reference's tape -/
def fedS (E : Mm) (s : Nat) (w : Nat → Int) (i : Nat) : Mm := fun q j => if q = 126 ∧ s ≤ j ∧ j < s + i then iand (ishr (w (j - s)) (24 - 8 * (((j - s) % 4 : Nat) : Int))) 255 else if q = 125 ∧ j = 1 then ((s + i : Nat) : Int) else if q = 125 ∧ j = 0 then 0 else E q j
theorem fedS_tp (E : Mm) (s : Nat) (w : Nat → Int) (i : Nat) : fedS E s w i 125 1 = ((s + i : Nat) : Int) := by
  unfold fedS
  rw [if_neg (by omega), if_pos ⟨rfl, rfl⟩]
theorem fedS_step (E : Mm) (s : Nat) (w : Nat → Int) (i : Nat) : wr (wr (fedS E s w i) 126 (s + i) (iand (ishr (w i) (24 - 8 * ((i % 4 : Nat) : Int))) 255)) 125 1 ((s + (i + 1) : Nat) : Int) = fedS E s w (i + 1) := by
  funext q j
  unfold wr fedS
  by_cases c1 : q = 125 ∧ j = 1
  · rw [if_pos c1, if_neg (by omega), if_pos c1]
  · rw [if_neg c1]
    by_cases c2 : q = 126 ∧ j = s + i
    · rw [if_pos c2, if_pos ⟨c2.1, by omega, by omega⟩, show j - s = i by omega]
    · rw [if_neg c2]
      by_cases c3 : q = 126 ∧ s ≤ j ∧ j < s + i
      · rw [if_pos c3, if_pos ⟨c3.1, by omega, by omega⟩]
      · rw [if_neg c3, if_neg c1, if_neg c1, if_neg (show ¬ (q = 126 ∧ s ≤ j ∧ j < s + (i + 1)) by omega)]
theorem fedS_zero {E : Mm} {s : Nat} {w : Nat → Int} (h : E 125 1 = (s : Int)) : fedS E s w 0 = wr E 125 0 0 := by
  funext q j
  unfold fedS wr
  by_cases c : q = 125 ∧ j = 1
  · rw [if_neg (by omega), if_pos c, if_neg (by omega), c.1, c.2, h]
    rfl
  · rw [if_neg (by omega), if_neg c]
def fedM (E : Mm) (s : Nat) (x0 x1 x2 x3 x4 : Int) : Mm := if s + 20 ≤ 600 then fedS E s (w5 x0 x1 x2 x3 x4) 20 else wr E 125 0 0
theorem ct_X12_feed {g : Gw} (hG : GF g) {z : Bool} (E : Mm) (s : Nat) (x0 x1 x2 x3 x4 : Int) (hs : E 125 1 = (s : Int)) (hs2 : s ≤ 600) : CT g yX12_feed cX12_feed 8 (some .int) 0 0 0 0 K2 z [mR 125, mI x0, mI x1, mI x2, mI x3, mI x4] (ov (E)) K2 z (fun r D' => r = some (mI (if s + 20 ≤ 600 then ((s + 20 : Nat) : Int) else -1)) ∧ D' = ov (fedM E s x0 x1 x2 x3 x4)) := by
  refine CT.mk hG (by decide +kernel) (Nat.le_of_ble_eq_true rfl) (fun κ X Rt _ ok => ?_)
  have L0 : s + 20 ≤ 600 → ∀ (f i : Nat), 20 - i < f → i ≤ 20 → AT g κ K2 z 0 0 23 [(0, mR 125), (1, mI x0), (2, mI x1), (3, mI x2), (4, mI x3), (5, mI x4), (6, mI ((i : Int)))] [] (ov (fedS E s (w5 x0 x1 x2 x3 x4) i)) := by
    intro hr f
    induction f with
    | zero => intro i h; omega
    | succ f ih =>
    intro i hf hi
    have L1 : ∀ v, v = w5 x0 x1 x2 x3 x4 i → i < 20 → AT g κ K2 z 0 0 76 [(0, mR 125), (1, mI x0), (2, mI x1), (3, mI x2), (4, mI x3), (5, mI x4), (6, mI ((i : Int)))] [mI v] (ov (fedS E s (w5 x0 x1 x2 x3 x4) i)) := by
      intro v hv hi2
      refine at_istore 78 X dX12_feed_76 rfl (by decide) ?_
      refine at_aload_n 79 X rfl rfl dX12_feed_78 rfl ?_
      refine m_getR 82 X f_X12_13 k_125 r_125_9 dX12_feed_79 rfl ?_
      refine at_aload_n 83 X rfl rfl dX12_feed_82 rfl ?_
      refine m_getI 86 X f_X12_155 k_125 rn_125_1 dX12_feed_83 rfl ?_
      rw [fedS_tp]
      refine at_iload 88 X rfl dX12_feed_86 rfl ?_
      refine at_bipush 90 X (by decide) (by decide) dX12_feed_88 rfl ?_
      refine at_bipush 92 X (by decide) (by decide) dX12_feed_90 rfl ?_
      refine at_iload 94 X rfl dX12_feed_92 rfl ?_
      refine at_iconst 95 X (by decide) dX12_feed_94 rfl ?_
      refine at_irem 96 X (by omega) dX12_feed_95 rfl ?_
      rw [tm4 _ (by omega)]
      refine at_imul 97 X dX12_feed_96 rfl ?_
      rw [w32_id (by omega) (by omega)]
      refine at_isub 98 X dX12_feed_97 rfl ?_
      rw [w32_id (by omega) (by omega)]
      refine at_ishr 99 X dX12_feed_98 rfl ?_
      refine at_sipush 102 X (by decide) (by decide) dX12_feed_99 rfl ?_
      refine at_iand 103 X dX12_feed_102 rfl ?_
      refine m_iastore 104 X k_126 e_126 (by omega) (by omega) dX12_feed_103 rfl ?_
      refine at_aload_n 105 X rfl rfl dX12_feed_104 rfl ?_
      refine at_dup 106 X (by decide) dX12_feed_105 rfl ?_
      refine m_getI 109 X f_X12_155 k_125 rn_125_1 dX12_feed_106 rfl ?_
      rw [wr_o (Or.inl (by decide)), fedS_tp]
      refine at_iconst 110 X (by decide) dX12_feed_109 rfl ?_
      refine at_iadd 111 X dX12_feed_110 rfl ?_
      rw [w32_id (by omega) (by omega), show ((s + i : Nat) : Int) + 1 = ((s + (i + 1) : Nat) : Int) from rfl]
      refine m_putI 114 X f_X12_155 fw_12_1 k_125 rn_125_1 dX12_feed_111 rfl ?_
      refine at_iinc 117 X rfl dX12_feed_114 rfl (by decide) ?_
      refine at_goto 23 X dX12_feed_117 (by decide) ?_
      rw [Int.toNat_natCast, hv, fedS_step, w32_id (by omega) (by omega), show (i : Int) + 1 = ((i + 1 : Nat) : Int) from rfl]
      exact at_sub _ (by exact ⟨rfl, rfl, rfl, rfl, rfl, rfl, rfl, trivial⟩) (ih (i + 1) (by omega) (by omega))
    refine at_iload 25 X rfl dX12_feed_23 rfl ?_
    refine at_bipush 27 X (by decide) (by decide) dX12_feed_25 rfl ?_
    refine at_icmp_ge 30 120 X dX12_feed_27 rfl (by decide) (fun h27 => ?_) (fun h27 => ?_)
    · refine at_aload_n 121 X rfl rfl dX12_feed_120 rfl ?_
      refine m_getI 124 X f_X12_155 k_125 rn_125_1 dX12_feed_121 rfl ?_
      rw [show i = 20 by omega, fedS_tp]
      refine at_iret X Rt ⟨by rw [if_pos hr], by unfold fedM; rw [if_pos hr]⟩ (Nat.le_refl _) (Nat.le_refl _) dX12_feed_124
    · refine at_iload 32 X rfl dX12_feed_30 rfl ?_
      refine at_iconst 33 X (by decide) dX12_feed_32 rfl ?_
      refine at_icmp_ge 36 40 X dX12_feed_33 rfl (by decide) (fun h33 => ?_) (fun h33 => ?_)
      · refine at_iload 42 X rfl dX12_feed_40 rfl ?_
        refine at_bipush 44 X (by decide) (by decide) dX12_feed_42 rfl ?_
        refine at_icmp_ge 47 51 X dX12_feed_44 rfl (by decide) (fun h44 => ?_) (fun h44 => ?_)
        · refine at_iload 53 X rfl dX12_feed_51 rfl ?_
          refine at_bipush 55 X (by decide) (by decide) dX12_feed_53 rfl ?_
          refine at_icmp_ge 58 62 X dX12_feed_55 rfl (by decide) (fun h55 => ?_) (fun h55 => ?_)
          · refine at_iload 64 X rfl dX12_feed_62 rfl ?_
            refine at_bipush 66 X (by decide) (by decide) dX12_feed_64 rfl ?_
            refine at_icmp_ge 69 74 X dX12_feed_66 rfl (by decide) (fun h66 => ?_) (fun h66 => ?_)
            · refine at_iload 76 X rfl dX12_feed_74 rfl ?_
              exact L1 _ (by unfold w5; repeat (first | rw [if_pos (by omega)] | rw [if_neg (by omega)])) (by omega)
            · refine at_iload 71 X rfl dX12_feed_69 rfl ?_
              refine at_goto 76 X dX12_feed_71 (by decide) ?_
              exact L1 _ (by unfold w5; repeat (first | rw [if_pos (by omega)] | rw [if_neg (by omega)])) (by omega)
          · refine at_iload_n 59 X rfl rfl dX12_feed_58 rfl ?_
            refine at_goto 76 X dX12_feed_59 (by decide) ?_
            exact L1 _ (by unfold w5; repeat (first | rw [if_pos (by omega)] | rw [if_neg (by omega)])) (by omega)
        · refine at_iload_n 48 X rfl rfl dX12_feed_47 rfl ?_
          refine at_goto 76 X dX12_feed_48 (by decide) ?_
          exact L1 _ (by unfold w5; repeat (first | rw [if_pos (by omega)] | rw [if_neg (by omega)])) (by omega)
      · refine at_iload_n 37 X rfl rfl dX12_feed_36 rfl ?_
        refine at_goto 76 X dX12_feed_37 (by decide) ?_
        exact L1 _ (by unfold w5; repeat (first | rw [if_pos (by omega)] | rw [if_neg (by omega)])) (by omega)
  refine at_aload_n 1 X rfl rfl dX12_feed_0 rfl ?_
  refine at_iconst 2 X (by decide) dX12_feed_1 rfl ?_
  refine m_putI 5 X f_X12_152 fw_12_0 k_125 rn_125_0 dX12_feed_2 rfl ?_
  refine at_aload_n 6 X rfl rfl dX12_feed_5 rfl ?_
  refine m_getI 9 X f_X12_155 k_125 rn_125_1 dX12_feed_6 rfl ?_
  refine at_bipush 11 X (by decide) (by decide) dX12_feed_9 rfl ?_
  rw [wr_o (Or.inr (by decide)), hs]
  refine at_iadd 12 X dX12_feed_11 rfl ?_
  rw [w32_id (by omega) (by omega)]
  refine at_sipush 15 X (by decide) (by decide) dX12_feed_12 rfl ?_
  refine at_icmp_le 18 20 X dX12_feed_15 rfl (by decide) (fun h15 => ?_) (fun h15 => ?_)
  · refine at_iconst 21 X (by decide) dX12_feed_20 rfl ?_
    refine at_istore 23 X dX12_feed_21 rfl (by decide) ?_
    have h := L0 (by omega) 21 0 (by omega) (by omega)
    rw [fedS_zero hs] at h
    exact at_sub _ (by exact ⟨rfl, rfl, rfl, rfl, rfl, rfl, rfl, trivial⟩) h
  · refine at_iconst 19 X (by decide) dX12_feed_18 rfl ?_
    refine at_iret X Rt ⟨by rw [if_neg (by omega)], by unfold fedM; rw [if_neg (by omega)]⟩ (Nat.le_refl _) (Nat.le_refl _) dX12_feed_19
