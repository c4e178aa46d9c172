theorem dX3_dropBeams_0 : decode cX3_dropBeams 0 = .ok (.iconst 0, 1) := by decide +kernel
theorem dX3_dropBeams_1 : decode cX3_dropBeams 1 = .ok (.istore 4, 2) := by decide +kernel
theorem dX3_dropBeams_3 : decode cX3_dropBeams 3 = .ok (.iload 4, 2) := by decide +kernel
theorem dX3_dropBeams_5 : decode cX3_dropBeams 5 = .ok (.aload_n 2, 1) := by decide +kernel
theorem dX3_dropBeams_6 : decode cX3_dropBeams 6 = .ok (.getfield 35, 3) := by decide +kernel
theorem dX3_dropBeams_9 : decode cX3_dropBeams 9 = .ok (.if_icmp .ge 144, 3) := by decide +kernel
theorem dX3_dropBeams_12 : decode cX3_dropBeams 12 = .ok (.aload_n 0, 1) := by decide +kernel
theorem dX3_dropBeams_13 : decode cX3_dropBeams 13 = .ok (.getfield 9, 3) := by decide +kernel
theorem dX3_dropBeams_16 : decode cX3_dropBeams 16 = .ok (.iload 4, 2) := by decide +kernel
theorem dX3_dropBeams_18 : decode cX3_dropBeams 18 = .ok (.iaload, 1) := by decide +kernel
theorem dX3_dropBeams_19 : decode cX3_dropBeams 19 = .ok (.istore 5, 2) := by decide +kernel
theorem dX3_dropBeams_21 : decode cX3_dropBeams 21 = .ok (.aload_n 2, 1) := by decide +kernel
theorem dX3_dropBeams_22 : decode cX3_dropBeams 22 = .ok (.iload 4, 2) := by decide +kernel
theorem dX3_dropBeams_24 : decode cX3_dropBeams 24 = .ok (.iload 5, 2) := by decide +kernel
theorem dX3_dropBeams_26 : decode cX3_dropBeams 26 = .ok (.invokevirtual 83, 3) := by decide +kernel
theorem dX3_dropBeams_29 : decode cX3_dropBeams 29 = .ok (.istore 6, 2) := by decide +kernel
theorem dX3_dropBeams_31 : decode cX3_dropBeams 31 = .ok (.iload 5, 2) := by decide +kernel
theorem dX3_dropBeams_33 : decode cX3_dropBeams 33 = .ok (.ifCond .lt 114, 3) := by decide +kernel
theorem dX3_dropBeams_36 : decode cX3_dropBeams 36 = .ok (.iload 6, 2) := by decide +kernel
theorem dX3_dropBeams_38 : decode cX3_dropBeams 38 = .ok (.bipush 40, 2) := by decide +kernel
theorem dX3_dropBeams_40 : decode cX3_dropBeams 40 = .ok (.if_icmp .ge 107, 3) := by decide +kernel
theorem dX3_dropBeams_43 : decode cX3_dropBeams 43 = .ok (.aload_n 0, 1) := by decide +kernel
theorem dX3_dropBeams_44 : decode cX3_dropBeams 44 = .ok (.getfield 24, 3) := by decide +kernel
theorem dX3_dropBeams_47 : decode cX3_dropBeams 47 = .ok (.iload 5, 2) := by decide +kernel
theorem dX3_dropBeams_49 : decode cX3_dropBeams 49 = .ok (.laload, 1) := by decide +kernel
theorem dX3_dropBeams_50 : decode cX3_dropBeams 50 = .ok (.aload_n 1, 1) := by decide +kernel
theorem dX3_dropBeams_51 : decode cX3_dropBeams 51 = .ok (.iload 5, 2) := by decide +kernel
theorem dX3_dropBeams_53 : decode cX3_dropBeams 53 = .ok (.iload_n 3, 1) := by decide +kernel
theorem dX3_dropBeams_54 : decode cX3_dropBeams 54 = .ok (.invokevirtual 93, 3) := by decide +kernel
theorem dX3_dropBeams_57 : decode cX3_dropBeams 57 = .ok (.i2l, 1) := by decide +kernel
theorem dX3_dropBeams_58 : decode cX3_dropBeams 58 = .ok (.ldc2_w 98, 3) := by decide +kernel
theorem dX3_dropBeams_61 : decode cX3_dropBeams 61 = .ok (.lmul, 1) := by decide +kernel
theorem dX3_dropBeams_62 : decode cX3_dropBeams 62 = .ok (.lcmp, 1) := by decide +kernel
theorem dX3_dropBeams_63 : decode cX3_dropBeams 63 = .ok (.ifCond .gt 26, 3) := by decide +kernel
theorem dX3_dropBeams_66 : decode cX3_dropBeams 66 = .ok (.aload_n 0, 1) := by decide +kernel
theorem dX3_dropBeams_67 : decode cX3_dropBeams 67 = .ok (.getfield 24, 3) := by decide +kernel
theorem dX3_dropBeams_70 : decode cX3_dropBeams 70 = .ok (.iload 6, 2) := by decide +kernel
theorem dX3_dropBeams_72 : decode cX3_dropBeams 72 = .ok (.laload, 1) := by decide +kernel
theorem dX3_dropBeams_73 : decode cX3_dropBeams 73 = .ok (.aload_n 1, 1) := by decide +kernel
theorem dX3_dropBeams_74 : decode cX3_dropBeams 74 = .ok (.iload 6, 2) := by decide +kernel
theorem dX3_dropBeams_76 : decode cX3_dropBeams 76 = .ok (.iload_n 3, 1) := by decide +kernel
theorem dX3_dropBeams_77 : decode cX3_dropBeams 77 = .ok (.invokevirtual 93, 3) := by decide +kernel
theorem dX3_dropBeams_80 : decode cX3_dropBeams 80 = .ok (.i2l, 1) := by decide +kernel
theorem dX3_dropBeams_81 : decode cX3_dropBeams 81 = .ok (.ldc2_w 98, 3) := by decide +kernel
theorem dX3_dropBeams_84 : decode cX3_dropBeams 84 = .ok (.lmul, 1) := by decide +kernel
theorem dX3_dropBeams_85 : decode cX3_dropBeams 85 = .ok (.lcmp, 1) := by decide +kernel
theorem dX3_dropBeams_86 : decode cX3_dropBeams 86 = .ok (.ifCond .le 61, 3) := by decide +kernel
theorem dX3_dropBeams_89 : decode cX3_dropBeams 89 = .ok (.aload_n 0, 1) := by decide +kernel
theorem dX3_dropBeams_90 : decode cX3_dropBeams 90 = .ok (.aload_n 2, 1) := by decide +kernel
theorem dX3_dropBeams_91 : decode cX3_dropBeams 91 = .ok (.iload 4, 2) := by decide +kernel
theorem dX3_dropBeams_93 : decode cX3_dropBeams 93 = .ok (.iconst (-1), 1) := by decide +kernel
theorem dX3_dropBeams_94 : decode cX3_dropBeams 94 = .ok (.invokevirtual 79, 3) := by decide +kernel
theorem dX3_dropBeams_97 : decode cX3_dropBeams 97 = .ok (.aload_n 0, 1) := by decide +kernel
theorem dX3_dropBeams_98 : decode cX3_dropBeams 98 = .ok (.getfield 9, 3) := by decide +kernel
theorem dX3_dropBeams_101 : decode cX3_dropBeams 101 = .ok (.iload 4, 2) := by decide +kernel
theorem dX3_dropBeams_103 : decode cX3_dropBeams 103 = .ok (.iconst (-1), 1) := by decide +kernel
theorem dX3_dropBeams_104 : decode cX3_dropBeams 104 = .ok (.iastore, 1) := by decide +kernel
theorem dX3_dropBeams_105 : decode cX3_dropBeams 105 = .ok (.aload_n 0, 1) := by decide +kernel
theorem dX3_dropBeams_106 : decode cX3_dropBeams 106 = .ok (.getfield 15, 3) := by decide +kernel
theorem dX3_dropBeams_109 : decode cX3_dropBeams 109 = .ok (.iload 4, 2) := by decide +kernel
theorem dX3_dropBeams_111 : decode cX3_dropBeams 111 = .ok (.iload_n 3, 1) := by decide +kernel
theorem dX3_dropBeams_112 : decode cX3_dropBeams 112 = .ok (.iastore, 1) := by decide +kernel
theorem dX3_dropBeams_113 : decode cX3_dropBeams 113 = .ok (.aload_n 0, 1) := by decide +kernel
theorem dX3_dropBeams_114 : decode cX3_dropBeams 114 = .ok (.getfield 18, 3) := by decide +kernel
theorem dX3_dropBeams_117 : decode cX3_dropBeams 117 = .ok (.aload_n 0, 1) := by decide +kernel
theorem dX3_dropBeams_118 : decode cX3_dropBeams 118 = .ok (.getfield 28, 3) := by decide +kernel
theorem dX3_dropBeams_121 : decode cX3_dropBeams 121 = .ok (.iload 4, 2) := by decide +kernel
theorem dX3_dropBeams_123 : decode cX3_dropBeams 123 = .ok (.iastore, 1) := by decide +kernel
theorem dX3_dropBeams_124 : decode cX3_dropBeams 124 = .ok (.aload_n 0, 1) := by decide +kernel
theorem dX3_dropBeams_125 : decode cX3_dropBeams 125 = .ok (.dup, 1) := by decide +kernel
theorem dX3_dropBeams_126 : decode cX3_dropBeams 126 = .ok (.getfield 28, 3) := by decide +kernel
theorem dX3_dropBeams_129 : decode cX3_dropBeams 129 = .ok (.iconst 1, 1) := by decide +kernel
theorem dX3_dropBeams_130 : decode cX3_dropBeams 130 = .ok (.iadd, 1) := by decide +kernel
theorem dX3_dropBeams_131 : decode cX3_dropBeams 131 = .ok (.putfield 28, 3) := by decide +kernel
theorem dX3_dropBeams_134 : decode cX3_dropBeams 134 = .ok (.aload_n 0, 1) := by decide +kernel
theorem dX3_dropBeams_135 : decode cX3_dropBeams 135 = .ok (.dup, 1) := by decide +kernel
theorem dX3_dropBeams_136 : decode cX3_dropBeams 136 = .ok (.getfield 32, 3) := by decide +kernel
theorem dX3_dropBeams_139 : decode cX3_dropBeams 139 = .ok (.iconst 1, 1) := by decide +kernel
theorem dX3_dropBeams_140 : decode cX3_dropBeams 140 = .ok (.iload 4, 2) := by decide +kernel
theorem dX3_dropBeams_142 : decode cX3_dropBeams 142 = .ok (.ishl, 1) := by decide +kernel
theorem dX3_dropBeams_143 : decode cX3_dropBeams 143 = .ok (.ior, 1) := by decide +kernel
theorem dX3_dropBeams_144 : decode cX3_dropBeams 144 = .ok (.putfield 32, 3) := by decide +kernel
theorem dX3_dropBeams_147 : decode cX3_dropBeams 147 = .ok (.iinc 4 1, 3) := by decide +kernel
theorem dX3_dropBeams_150 : decode cX3_dropBeams 150 = .ok (.goto (-147), 3) := by decide +kernel
theorem dX3_dropBeams_153 : decode cX3_dropBeams 153 = .ok (.return_, 1) := by decide +kernel
theorem ct_X3_dropBeams {g : Gw} (hG : GF g) {z : Bool} (E : Mm) (r : Nat) (hr : r = 48 ∨ r = 54) (a : Nat) (ha : a = 30 ∨ a = 39) (G : GP) (hw : WG G) (hg_E : CG E a G) (hl_E : CL E 4 (gLw G)) (B : BM) (s : Nat) (hs : s = 76 ∨ s = 91) (hB_E : CB E s B) (hW : WB (gW G) B) (d : DS) (hD : DI (gW G) B d) (hd_E : CD E r d) (hr_E : CW E r B (dP d)) (h : Nat) (hh : h < 24) : CT g yX3_dropBeams cX3_dropBeams 7 none 3 75 0 0 K2 z [mR r, mR a, mR s, mI ((h : Nat) : Int)] (ov E) K2 z (fun r' D' => r' = none ∧ ∃ E1, D' = ov E1 ∧ CD E1 r (drN G B h d (bN B)) ∧ CG E1 a G ∧ ∀ q, q ≠ r → q ≠ r + 1 → q ≠ r + 2 → q ≠ r + 3 → q ≠ r + 5 → q ≠ a + 8 → q ≠ 7 → E1 q = E q) := by
  refine CT.mk hG (by decide +kernel) (Nat.le_of_ble_eq_true rfl) (fun κ X Rt _ ok => ?_)
  have hN8 := hW.N
  have hW40 := hw.W
  refine at_iconst 1 X (by decide) dX3_dropBeams_0 rfl ?_
  refine at_istore 3 X dX3_dropBeams_1 rfl (by decide) ?_
  have J3 : ∀ (f3 : Nat) (F : Mm) (b : Nat), 8 - b < f3 → (b ≤ bN B) → (CG F a G) → (CL F 4 (gLw G)) → (CB F s B) → (CD F r (drN G B h d b)) → (CW F r B (dP (drN G B h d b))) → ((∀ q, q ≠ r → q ≠ r + 1 → q ≠ r + 2 → q ≠ r + 3 → q ≠ r + 5 → q ≠ a + 8 → q ≠ 7 →  F q = E q)) → AT g κ K2 z 0 0 3 [(0, mR r), (1, mR a), (2, mR s), (3, mI ((h : Nat) : Int)), (4, mI ((b : Nat) : Int))] [] (ov F) := by
    intro f3
    induction f3 with
    | zero => intro F b hf3; omega
    | succ f3 ih3 =>
    intro F b hf3 hb hg_F hl_F hB_F hd_F hr_F hf_F
    refine at_iload 5 X rfl dX3_dropBeams_3 rfl ?_
    refine at_aload_n 6 X rfl rfl dX3_dropBeams_5 rfl ?_
    refine m_getIV 9 X ((bN B : Nat) : Int) hB_F.N f_X3_35 (kX0 hs) (nX0_6 hs) dX3_dropBeams_6 rfl ?_
    have := hW.N
    refine at_icmp_ge 12 153 X dX3_dropBeams_9 rfl (by decide) (fun h9 => ?_) (fun h9 => ?_)
    · refine at_vret X Rt ?_ (Nat.le_refl _) (Nat.le_refl _) dX3_dropBeams_153
      exact ⟨rfl, F, rfl, by rw [show bN B = b by omega]; exact hd_F, hg_F, hf_F⟩
    · have hDI := drN_DI (G := G) hh hW hD (n := b) (by omega)
      refine at_aload_n 13 X rfl rfl dX3_dropBeams_12 rfl ?_
      refine m_getR 16 X f_X3_9 (kX3 hr) (rX3_0 hr) dX3_dropBeams_13 rfl ?_
      refine at_iload 18 X rfl dX3_dropBeams_16 rfl ?_
      refine m_ialoadV 19 X b (by omega) (dP (drN G B h d b) b) (hd_F.1 b (by omega)) (kX3_0 hr) (eX3_0 hr) (by omega) dX3_dropBeams_18 rfl ?_
      have hPb := hDI.1 b (by omega)
      have hl2 := hW.L (b := b) (by omega)
      refine at_istore 21 X dX3_dropBeams_19 rfl (by decide) ?_
      refine at_aload_n 22 X rfl rfl dX3_dropBeams_21 rfl ?_
      refine at_iload 24 X rfl dX3_dropBeams_22 rfl ?_
      refine at_iload 26 X rfl dX3_dropBeams_24 rfl ?_
      refine at_callV 29 X _ 0 (ct_X0_rightEnd hG F B s (gW G) hs hB_F hW hW40 b (by omega) _ (by omega)) clX0 rfl (kX0 hs) mo_X0_rightEnd w_734 vo_X0_rightEnd.1 vo_X0_rightEnd.2 rfl rfl (crm Rt (by decide)) (Nat.le_of_ble_eq_true rfl) dX3_dropBeams_26 rfl ?_
      rintro _ _ ⟨rfl, rfl⟩
      refine at_istore 31 X dX3_dropBeams_29 rfl (by decide) ?_
      refine at_iload 33 X rfl dX3_dropBeams_31 rfl ?_
      refine at_if_lt 36 147 X dX3_dropBeams_33 rfl (by decide) (fun h33 => ?_) (fun h33 => ?_)
      · have e1 : drN G B h d (b + 1) = drN G B h d b := by rw [drN_s, drS_no (by intro q; exact q.1 (by omega))]
        refine at_iincV 150 X ((b + 1 : Nat) : Int) (w32_v (by omega) (by omega) (by omega)) rfl dX3_dropBeams_147 rfl (by decide) ?_
        refine at_goto 3 X dX3_dropBeams_150 (by decide) ?_
        exact at_sub _ (by exact ⟨rfl, rfl, rfl, rfl, rfl, trivial⟩) (ih3 F (b + 1) (by first | omega | (simp only [] at *; omega)) (by first | omega | assumption) hg_F hl_F hB_F (by rw [e1]; exact hd_F) (by rw [e1]; exact hr_F) hf_F)
      · refine at_iload 38 X rfl dX3_dropBeams_36 rfl ?_
        refine at_bipush 40 X (by decide) (by decide) dX3_dropBeams_38 rfl ?_
        refine at_icmp_ge 43 147 X dX3_dropBeams_40 rfl (by decide) (fun h40 => ?_) (fun h40 => ?_)
        · exfalso; omega
        · obtain ⟨x, hx⟩ : ∃ x : Nat, dP (drN G B h d b) b = (x : Int) := ⟨(dP (drN G B h d b) b).toNat, by omega⟩
          rw [hx, show ((x : Int) + (bL B b : Int) - 1) = ((x + bL B b - 1 : Nat) : Int) by omega]
          have J89 : ∀ (F9 : Mm), (CG F9 a G) → (CL F9 4 (gLw G)) → (CB F9 s B) → (CD F9 r (drN G B h d b)) → (CW F9 r B (dP (drN G B h d b))) → ((∀ q, q ≠ r → q ≠ r + 1 → q ≠ r + 2 → q ≠ r + 3 → q ≠ r + 5 → q ≠ a + 8 → q ≠ 7 →  F9 q = E q)) → (ovr G B h (dP (drN G B h d b)) b) → AT g κ K2 z 0 0 89 [(0, mR r), (1, mR a), (2, mR s), (3, mI ((h : Nat) : Int)), (4, mI ((b : Nat) : Int))] [] (ov F9) := by
            intro F9 hg_F9 hl_F9 hB_F9 hd_F9 hr_F9 hf_F9 hov
            refine at_aload_n 90 X rfl rfl dX3_dropBeams_89 rfl ?_
            refine at_aload_n 91 X rfl rfl dX3_dropBeams_90 rfl ?_
            refine at_iload 93 X rfl dX3_dropBeams_91 rfl ?_
            refine at_iconst 94 X (by decide) dX3_dropBeams_93 rfl ?_
            have hbd := bd_of hW (Nat.le_refl (bN B)) hr_F9
            refine at_callV 97 X _ 3 (ct_X3_addWeight hG F9 r hr B s (gW G) hs hB_F9 hW hW40 b x (-1) (by omega) ((hd_F9.1 b (by omega)).trans hx) (by omega) (by first | exact Or.inl rfl | exact Or.inr rfl) hbd) clX3 rfl (kX3 hr) mo_X3_addWeight w_730 vo_X3_addWeight.1 vo_X3_addWeight.2 rfl rfl (crm Rt (by decide)) (Nat.le_of_ble_eq_true rfl) dX3_dropBeams_94 rfl ?_
            rintro _ _ ⟨rfl, rfl⟩
            have e1 : drN G B h d (b + 1) = (updf (dP (drN G B h d b)) b (-1), updf (dF (drN G B h d b)) b (h : Int), (fun i => if i = dN (drN G B h d b) then b else dO (drN G B h d b) i), dN (drN G B h d b) + 1) := by rw [drN_s, drS_yes hov]
            have hdn : dN (drN G B h d b) < 8 := by
              have h1 := cntp_lt (p := fun b' => decide (dP (drN G B h d b) b' = -1)) (b := b) (n := bN B) (by omega) (by simp only [decide_eq_true_eq]; omega)
              have h2 := hDI.2.1
              omega
            refine at_aload_n 98 X rfl rfl dX3_dropBeams_97 rfl ?_
            refine m_getR 101 X f_X3_9 (kX3 hr) (rX3_0 hr) dX3_dropBeams_98 rfl ?_
            refine at_iload 103 X rfl dX3_dropBeams_101 rfl ?_
            refine at_iconst 104 X (by decide) dX3_dropBeams_103 rfl ?_
            refine m_iastoreV 105 X b (by omega) (kX3_0 hr) (eX3_0 hr) (by omega) dX3_dropBeams_104 rfl ?_
            refine at_aload_n 106 X rfl rfl dX3_dropBeams_105 rfl ?_
            refine m_getR 109 X f_X3_15 (kX3 hr) (rX3_1 hr) dX3_dropBeams_106 rfl ?_
            refine at_iload 111 X rfl dX3_dropBeams_109 rfl ?_
            refine at_iload_n 112 X rfl rfl dX3_dropBeams_111 rfl ?_
            refine m_iastoreV 113 X b (by omega) (kX3_1 hr) (eX3_1 hr) (by omega) dX3_dropBeams_112 rfl ?_
            refine at_aload_n 114 X rfl rfl dX3_dropBeams_113 rfl ?_
            refine m_getR 117 X f_X3_18 (kX3 hr) (rX3_2 hr) dX3_dropBeams_114 rfl ?_
            refine at_aload_n 118 X rfl rfl dX3_dropBeams_117 rfl ?_
            refine m_getIV 121 X ((dN (drN G B h d b) : Nat) : Int) ((wr_o (by omega)).trans ((wr_o (by omega)).trans ((wr_o (by omega)).trans ((wr_o (by omega)).trans hd_F9.2.2.2.1)))) f_X3_28 (kX3 hr) (nX3_5 hr) dX3_dropBeams_118 rfl ?_
            refine at_iload 123 X rfl dX3_dropBeams_121 rfl ?_
            refine m_iastoreV 124 X (dN (drN G B h d b)) (by omega) (kX3_2 hr) (eX3_2 hr) (by omega) dX3_dropBeams_123 rfl ?_
            refine at_aload_n 125 X rfl rfl dX3_dropBeams_124 rfl ?_
            refine at_dup 126 X (show ¬ (2 : Nat) = 1 by decide) dX3_dropBeams_125 rfl ?_
            refine m_getIV 129 X ((dN (drN G B h d b) : Nat) : Int) ((wr_o (by omega)).trans ((wr_o (by omega)).trans ((wr_o (by omega)).trans ((wr_o (by omega)).trans ((wr_o (by omega)).trans hd_F9.2.2.2.1))))) f_X3_28 (kX3 hr) (nX3_5 hr) dX3_dropBeams_126 rfl ?_
            refine at_iconst 130 X (by decide) dX3_dropBeams_129 rfl ?_
            refine at_iaddV 131 X ((dN (drN G B h d b) + 1 : Nat) : Int) (w32_v (by omega) (by omega) (by omega)) dX3_dropBeams_130 rfl ?_
            refine m_putI 134 X f_X3_28 fw_3_5 (kX3 hr) (nX3_5 hr) dX3_dropBeams_131 rfl ?_
            refine at_aload_n 135 X rfl rfl dX3_dropBeams_134 rfl ?_
            refine at_dup 136 X (show ¬ (2 : Nat) = 1 by decide) dX3_dropBeams_135 rfl ?_
            refine m_getIV 139 X ((mk (fun k => decide (¬ dF (drN G B h d b) k = -1)) 8 : Nat) : Int) ((wr_o (by omega)).trans ((wr_o (by omega)).trans ((wr_o (by omega)).trans ((wr_o (by omega)).trans ((wr_o (by omega)).trans ((wr_o (by omega)).trans hd_F9.2.2.2.2)))))) f_X3_32 (kX3 hr) (nX3_6 hr) dX3_dropBeams_136 rfl ?_
            have := mk_le (p := fun k => decide (¬ dF (drN G B h d b) k = -1)) (n := 8) (k := 8) (Nat.le_refl 8)
            refine at_iconst 140 X (by decide) dX3_dropBeams_139 rfl ?_
            refine at_iload 142 X rfl dX3_dropBeams_140 rfl ?_
            refine at_ishlV 143 X ((2 ^ b : Nat) : Int) (ishl1 (by omega)) dX3_dropBeams_142 rfl ?_
            refine at_iorV 144 X ((mk (fun k => decide (¬ dF (drN G B h d b) k = -1)) 8 ||| 2 ^ b : Nat) : Int) (ior_nat (by omega) (by have := p2_31 (x := b) (by omega); omega)) dX3_dropBeams_143 rfl ?_
            refine m_putI 147 X f_X3_32 fw_3_6 (kX3 hr) (nX3_6 hr) dX3_dropBeams_144 rfl ?_
            refine at_iincV 150 X ((b + 1 : Nat) : Int) (w32_v (by omega) (by omega) (by omega)) rfl dX3_dropBeams_147 rfl (by decide) ?_
            refine at_goto 3 X dX3_dropBeams_150 (by decide) ?_
            exact at_sub _ (by exact ⟨rfl, rfl, rfl, rfl, rfl, trivial⟩) (ih3 (wr (wr (wr (wr (wr (wr (wr F9 (r + 5) x (F9 (r + 5) x + (-1) * (onL B b : Int))) (r + 5) (x + bL B b - 1) (F9 (r + 5) (x + bL B b - 1) + (-1) * (onR B b : Int))) (r + 1) b (-1)) (r + 2) b ((h : Nat) : Int)) (r + 3) (dN (drN G B h d b)) ((b : Nat) : Int)) r 5 ((dN (drN G B h d b) + 1 : Nat) : Int)) r 6 ((mk (fun k => decide (¬ dF (drN G B h d b) k = -1)) 8 ||| 2 ^ b : Nat) : Int)) (b + 1) (by first | omega | (simp only [] at *; omega)) (by first | omega | assumption) (hg_F9.fr (fun q h1 h2 h3 => by simp (disch := omega) only [wr_row])) (hl_F9.fr (fun q h1 h2 => by simp (disch := omega) only [wr_row])) (hB_F9.fr (fun q h1 h2 => by simp (disch := omega) only [wr_row])) (by rw [e1]; exact CD_drop hd_F9 (by omega)) (fun c hc => by rw [e1]; show _ = wtN B (updf (dP (drN G B h d b)) b (-1)) c (bN B); rw [wtN_drop (by omega), wt1_at hl2.1 hx]; simp (disch := omega) only [wr_row]; rw [addw hl2.1, hr_F9 c hc]; omega) (fun q h1 h2 h3 h4 h5 h6 h7 => by simp (disch := omega) only [wr_row]; exact hf_F9 q h1 h2 h3 h4 h5 h6 h7))
          refine at_aload_n 44 X rfl rfl dX3_dropBeams_43 rfl ?_
          refine m_getR 47 X f_X3_24 (kX3 hr) (rX3_4 hr) dX3_dropBeams_44 rfl ?_
          refine at_iload 49 X rfl dX3_dropBeams_47 rfl ?_
          refine m_laloadV 50 X x (by omega) (wtN B (dP (drN G B h d b)) x (bN B)) (hr_F x (by omega)) (kX3_4 hr) (eX3_4 hr) (by omega) dX3_dropBeams_49 rfl ?_
          have := wtN_in hW (dP (drN G B h d b)) x (Nat.le_refl (bN B))
          refine at_aload_n 51 X rfl rfl dX3_dropBeams_50 rfl ?_
          refine at_iload 53 X rfl dX3_dropBeams_51 rfl ?_
          refine at_iload_n 54 X rfl rfl dX3_dropBeams_53 rfl ?_
          refine at_callV 57 X _ 4 (ct_X4_borneOn hG F a ha G hw hg_F hl_F h x (by omega) (by omega)) clX4 rfl (kX4 ha) mo_X4_borneOn w_742 vo_X4_borneOn.1 vo_X4_borneOn.2 rfl rfl (crm Rt (by decide)) (Nat.le_of_ble_eq_true rfl) dX3_dropBeams_54 rfl ?_
          rintro _ _ ⟨rfl, F1, rfl, hg_F1, hq_F1⟩
          have hl_F1 := hl_F.fr (fun q _ _ => hq_F1 q (by omega) (by omega))
          have hB_F1 := hB_F.fr (fun q _ _ => hq_F1 q (by omega) (by omega))
          have hd_F1 := hd_F.fr (fun q _ _ => hq_F1 q (by omega) (by omega))
          have hr_F1 := hr_F.fr (hq_F1 (r + 5) (by omega) (by omega))
          have hf_F1 : ∀ q, q ≠ r → q ≠ r + 1 → q ≠ r + 2 → q ≠ r + 3 → q ≠ r + 5 → q ≠ a + 8 → q ≠ 7 →  F1 q = E q := fun q h1 h2 h3 h4 h5 h6 h7 => (hq_F1 q h6 h7).trans (hf_F q h1 h2 h3 h4 h5 h6 h7)
          have := bOn_in G h x
          refine at_i2l 58 X dX3_dropBeams_57 rfl ?_
          refine at_ldc2 61 X (n := 232792560) w_772 (by decide) (by decide) dX3_dropBeams_58 rfl ?_
          refine at_lmulV 62 X ((bOn G h x) * 232792560) (w64_v rfl (by omega) (by omega)) dX3_dropBeams_61 rfl ?_
          refine at_lif_gt 63 66 89 X dX3_dropBeams_62 rfl dX3_dropBeams_63 rfl (by decide) (fun h62 => ?_) (fun h62 => ?_)
          · exact at_sub _ (by exact ⟨rfl, rfl, rfl, rfl, rfl, trivial⟩) (J89 F1 hg_F1 hl_F1 hB_F1 hd_F1 hr_F1 hf_F1 ⟨by rw [hx]; omega, by rw [hx, Int.toNat_natCast]; omega⟩)
          · refine at_aload_n 67 X rfl rfl dX3_dropBeams_66 rfl ?_
            refine m_getR 70 X f_X3_24 (kX3 hr) (rX3_4 hr) dX3_dropBeams_67 rfl ?_
            refine at_iload 72 X rfl dX3_dropBeams_70 rfl ?_
            refine m_laloadV 73 X (x + bL B b - 1) (by omega) (wtN B (dP (drN G B h d b)) (x + bL B b - 1) (bN B)) (hr_F1 (x + bL B b - 1) (by omega)) (kX3_4 hr) (eX3_4 hr) (by omega) dX3_dropBeams_72 rfl ?_
            have := wtN_in hW (dP (drN G B h d b)) (x + bL B b - 1) (Nat.le_refl (bN B))
            refine at_aload_n 74 X rfl rfl dX3_dropBeams_73 rfl ?_
            refine at_iload 76 X rfl dX3_dropBeams_74 rfl ?_
            refine at_iload_n 77 X rfl rfl dX3_dropBeams_76 rfl ?_
            refine at_callV 80 X _ 4 (ct_X4_borneOn hG F1 a ha G hw hg_F1 hl_F1 h (x + bL B b - 1) (by omega) (by omega)) clX4 rfl (kX4 ha) mo_X4_borneOn w_742 vo_X4_borneOn.1 vo_X4_borneOn.2 rfl rfl (crm Rt (by decide)) (Nat.le_of_ble_eq_true rfl) dX3_dropBeams_77 rfl ?_
            rintro _ _ ⟨rfl, F2, rfl, hg_F2, hq_F2⟩
            have hl_F2 := hl_F1.fr (fun q _ _ => hq_F2 q (by omega) (by omega))
            have hB_F2 := hB_F1.fr (fun q _ _ => hq_F2 q (by omega) (by omega))
            have hd_F2 := hd_F1.fr (fun q _ _ => hq_F2 q (by omega) (by omega))
            have hr_F2 := hr_F1.fr (hq_F2 (r + 5) (by omega) (by omega))
            have hf_F2 : ∀ q, q ≠ r → q ≠ r + 1 → q ≠ r + 2 → q ≠ r + 3 → q ≠ r + 5 → q ≠ a + 8 → q ≠ 7 →  F2 q = E q := fun q h1 h2 h3 h4 h5 h6 h7 => (hq_F2 q h6 h7).trans (hf_F1 q h1 h2 h3 h4 h5 h6 h7)
            have := bOn_in G h (x + bL B b - 1)
            refine at_i2l 81 X dX3_dropBeams_80 rfl ?_
            refine at_ldc2 84 X (n := 232792560) w_772 (by decide) (by decide) dX3_dropBeams_81 rfl ?_
            refine at_lmulV 85 X ((bOn G h (x + bL B b - 1)) * 232792560) (w64_v rfl (by omega) (by omega)) dX3_dropBeams_84 rfl ?_
            refine at_lif_le 86 89 147 X dX3_dropBeams_85 rfl dX3_dropBeams_86 rfl (by decide) (fun h85 => ?_) (fun h85 => ?_)
            · have e1 : drN G B h d (b + 1) = drN G B h d b := by rw [drN_s, drS_no (by intro q; have := q.2; rw [hx, Int.toNat_natCast] at this; omega)]
              refine at_iincV 150 X ((b + 1 : Nat) : Int) (w32_v (by omega) (by omega) (by omega)) rfl dX3_dropBeams_147 rfl (by decide) ?_
              refine at_goto 3 X dX3_dropBeams_150 (by decide) ?_
              exact at_sub _ (by exact ⟨rfl, rfl, rfl, rfl, rfl, trivial⟩) (ih3 F2 (b + 1) (by first | omega | (simp only [] at *; omega)) (by first | omega | assumption) hg_F2 hl_F2 hB_F2 (by rw [e1]; exact hd_F2) (by rw [e1]; exact hr_F2) hf_F2)
            · exact at_sub _ (by exact ⟨rfl, rfl, rfl, rfl, rfl, trivial⟩) (J89 F2 hg_F2 hl_F2 hB_F2 hd_F2 hr_F2 hf_F2 ⟨by rw [hx]; omega, by rw [hx, Int.toNat_natCast]; omega⟩)
  exact at_sub _ (by exact ⟨rfl, rfl, rfl, rfl, rfl, trivial⟩) (J3 _ E 0 (Nat.lt_succ_self _) (by first | omega | assumption | rfl) hg_E hl_E hB_E hd_E hr_E (fun _ _ _ _ _ _ _ _ => rfl))
