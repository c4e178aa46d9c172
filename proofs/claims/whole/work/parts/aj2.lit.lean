theorem dX11_lit_0 : decode cX11_lit 0 = .ok (.aload_n 0, 1) := by decide +kernel
theorem dX11_lit_1 : decode cX11_lit 1 = .ok (.iload_n 1, 1) := by decide +kernel
theorem dX11_lit_2 : decode cX11_lit 2 = .ok (.iconst 0, 1) := by decide +kernel
theorem dX11_lit_3 : decode cX11_lit 3 = .ok (.iconst 1, 1) := by decide +kernel
theorem dX11_lit_4 : decode cX11_lit 4 = .ok (.aload_n 0, 1) := by decide +kernel
theorem dX11_lit_5 : decode cX11_lit 5 = .ok (.getfield 93, 3) := by decide +kernel
theorem dX11_lit_8 : decode cX11_lit 8 = .ok (.getfield 135, 3) := by decide +kernel
theorem dX11_lit_11 : decode cX11_lit 11 = .ok (.getfield 139, 3) := by decide +kernel
theorem dX11_lit_14 : decode cX11_lit 14 = .ok (.ishl, 1) := by decide +kernel
theorem dX11_lit_15 : decode cX11_lit 15 = .ok (.iconst 1, 1) := by decide +kernel
theorem dX11_lit_16 : decode cX11_lit 16 = .ok (.isub, 1) := by decide +kernel
theorem dX11_lit_17 : decode cX11_lit 17 = .ok (.invokestatic 253, 3) := by decide +kernel
theorem dX11_lit_20 : decode cX11_lit 20 = .ok (.invokevirtual 164, 3) := by decide +kernel
theorem dX11_lit_23 : decode cX11_lit 23 = .ok (.aload_n 0, 1) := by decide +kernel
theorem dX11_lit_24 : decode cX11_lit 24 = .ok (.iload_n 2, 1) := by decide +kernel
theorem dX11_lit_25 : decode cX11_lit 25 = .ok (.iconst 0, 1) := by decide +kernel
theorem dX11_lit_26 : decode cX11_lit 26 = .ok (.bipush 9, 2) := by decide +kernel
theorem dX11_lit_28 : decode cX11_lit 28 = .ok (.invokestatic 253, 3) := by decide +kernel
theorem dX11_lit_31 : decode cX11_lit 31 = .ok (.invokevirtual 164, 3) := by decide +kernel
theorem dX11_lit_34 : decode cX11_lit 34 = .ok (.aload_n 0, 1) := by decide +kernel
theorem dX11_lit_35 : decode cX11_lit 35 = .ok (.iload_n 3, 1) := by decide +kernel
theorem dX11_lit_36 : decode cX11_lit 36 = .ok (.iconst 1, 1) := by decide +kernel
theorem dX11_lit_37 : decode cX11_lit 37 = .ok (.invokevirtual 199, 3) := by decide +kernel
theorem dX11_lit_40 : decode cX11_lit 40 = .ok (.aload_n 0, 1) := by decide +kernel
theorem dX11_lit_41 : decode cX11_lit 41 = .ok (.invokevirtual 309, 3) := by decide +kernel
theorem dX11_lit_44 : decode cX11_lit 44 = .ok (.aload_n 0, 1) := by decide +kernel
theorem dX11_lit_45 : decode cX11_lit 45 = .ok (.getfield 86, 3) := by decide +kernel
theorem dX11_lit_48 : decode cX11_lit 48 = .ok (.aload_n 0, 1) := by decide +kernel
theorem dX11_lit_49 : decode cX11_lit 49 = .ok (.getfield 63, 3) := by decide +kernel
theorem dX11_lit_52 : decode cX11_lit 52 = .ok (.aload_n 0, 1) := by decide +kernel
theorem dX11_lit_53 : decode cX11_lit 53 = .ok (.getfield 93, 3) := by decide +kernel
theorem dX11_lit_56 : decode cX11_lit 56 = .ok (.getfield 135, 3) := by decide +kernel
theorem dX11_lit_59 : decode cX11_lit 59 = .ok (.aload_n 0, 1) := by decide +kernel
theorem dX11_lit_60 : decode cX11_lit 60 = .ok (.getfield 33, 3) := by decide +kernel
theorem dX11_lit_63 : decode cX11_lit 63 = .ok (.iload_n 2, 1) := by decide +kernel
theorem dX11_lit_64 : decode cX11_lit 64 = .ok (.invokevirtual 312, 3) := by decide +kernel
theorem dX11_lit_67 : decode cX11_lit 67 = .ok (.aload_n 0, 1) := by decide +kernel
theorem dX11_lit_68 : decode cX11_lit 68 = .ok (.getfield 86, 3) := by decide +kernel
theorem dX11_lit_71 : decode cX11_lit 71 = .ok (.aload_n 0, 1) := by decide +kernel
theorem dX11_lit_72 : decode cX11_lit 72 = .ok (.getfield 63, 3) := by decide +kernel
theorem dX11_lit_75 : decode cX11_lit 75 = .ok (.aload_n 0, 1) := by decide +kernel
theorem dX11_lit_76 : decode cX11_lit 76 = .ok (.getfield 93, 3) := by decide +kernel
theorem dX11_lit_79 : decode cX11_lit 79 = .ok (.getfield 135, 3) := by decide +kernel
theorem dX11_lit_82 : decode cX11_lit 82 = .ok (.aload_n 0, 1) := by decide +kernel
theorem dX11_lit_83 : decode cX11_lit 83 = .ok (.getfield 33, 3) := by decide +kernel
theorem dX11_lit_86 : decode cX11_lit 86 = .ok (.iload_n 1, 1) := by decide +kernel
theorem dX11_lit_87 : decode cX11_lit 87 = .ok (.invokevirtual 316, 3) := by decide +kernel
theorem dX11_lit_90 : decode cX11_lit 90 = .ok (.iconst 0, 1) := by decide +kernel
theorem dX11_lit_91 : decode cX11_lit 91 = .ok (.istore 4, 2) := by decide +kernel
theorem dX11_lit_93 : decode cX11_lit 93 = .ok (.iload 4, 2) := by decide +kernel
theorem dX11_lit_95 : decode cX11_lit 95 = .ok (.iconst 3, 1) := by decide +kernel
theorem dX11_lit_96 : decode cX11_lit 96 = .ok (.if_icmp .gt 38, 3) := by decide +kernel
theorem dX11_lit_99 : decode cX11_lit 99 = .ok (.aload_n 0, 1) := by decide +kernel
theorem dX11_lit_100 : decode cX11_lit 100 = .ok (.iload_n 1, 1) := by decide +kernel
theorem dX11_lit_101 : decode cX11_lit 101 = .ok (.iload 4, 2) := by decide +kernel
theorem dX11_lit_103 : decode cX11_lit 103 = .ok (.invokevirtual 319, 3) := by decide +kernel
theorem dX11_lit_106 : decode cX11_lit 106 = .ok (.ifCond .eq 22, 3) := by decide +kernel
theorem dX11_lit_109 : decode cX11_lit 109 = .ok (.iload_n 3, 1) := by decide +kernel
theorem dX11_lit_110 : decode cX11_lit 110 = .ok (.ifCond .ne 8, 3) := by decide +kernel
theorem dX11_lit_113 : decode cX11_lit 113 = .ok (.iload 4, 2) := by decide +kernel
theorem dX11_lit_115 : decode cX11_lit 115 = .ok (.goto 12, 3) := by decide +kernel
theorem dX11_lit_118 : decode cX11_lit 118 = .ok (.aload_n 0, 1) := by decide +kernel
theorem dX11_lit_119 : decode cX11_lit 119 = .ok (.getfield 86, 3) := by decide +kernel
theorem dX11_lit_122 : decode cX11_lit 122 = .ok (.iload 4, 2) := by decide +kernel
theorem dX11_lit_124 : decode cX11_lit 124 = .ok (.invokevirtual 323, 3) := by decide +kernel
theorem dX11_lit_127 : decode cX11_lit 127 = .ok (.ireturn, 1) := by decide +kernel
theorem dX11_lit_128 : decode cX11_lit 128 = .ok (.iinc 4 1, 3) := by decide +kernel
theorem dX11_lit_131 : decode cX11_lit 131 = .ok (.goto (-38), 3) := by decide +kernel
theorem dX11_lit_134 : decode cX11_lit 134 = .ok (.iconst (-1), 1) := by decide +kernel
theorem dX11_lit_135 : decode cX11_lit 135 = .ok (.ireturn, 1) := by decide +kernel
theorem ct_X11_lit {g : Gw} (hG : GF g) {z : Bool} (E : Mm) (s : Nat) (P : SP) (L : LW) (T K : LN) (d : Nat) (hI_E : CXI E s P L T K d) (x0 x1 x2 : Int) : CTX g yX11_lit cX11_lit 5 (some .int) 9 234 3 18 K2 z [mR 0, mI x0, mI x1, mI x2] (ov E) K2 z (fun r' D' => (0 ≤ x0 ∧ x0 ≤ ((2 ^ bN (sB P) : Nat) : Int) - 1) ∧ (0 ≤ x1 ∧ x1 ≤ 9) ∧ (0 ≤ x2 ∧ x2 ≤ 1) ∧ ∃ v' r0, LITr (sW P) (sLc P) (gnP (gNow P L d) (sB P) T x1.toNat) (GDl P L T d x0.toNat) v' r0 ∧ r' = some (mI (if v' = -1 ∨ x2 = 0 then v' else r0)) ∧ ∃ E1, D' = ov E1 ∧ CXI E1 s P L T K d ∧ CXF E E1) (fun X D' => (¬ (0 ≤ x0 ∧ x0 ≤ ((2 ^ bN (sB P) : Nat) : Int) - 1) ∧ X = "java/lang/IllegalArgumentException" ∧ D' = ov (bumpE E 2)) ∨ ((0 ≤ x0 ∧ x0 ≤ ((2 ^ bN (sB P) : Nat) : Int) - 1) ∧ ¬ (0 ≤ x1 ∧ x1 ≤ 9) ∧ X = "java/lang/IllegalArgumentException" ∧ D' = ov (bumpE E 2)) ∨ ((0 ≤ x0 ∧ x0 ≤ ((2 ^ bN (sB P) : Nat) : Int) - 1) ∧ (0 ≤ x1 ∧ x1 ≤ 9) ∧ ¬ (0 ≤ x2 ∧ x2 ≤ 1) ∧ X = "java/lang/IllegalArgumentException" ∧ D' = ov (bumpE E 2))) := by
  refine CTX.mk hG (by decide +kernel) (Nat.le_of_ble_eq_true rfl) (fun κ X Rt Rx ok => ?_)
  have hs := hI_E.sa
  have hP := hI_E.WS
  have hW40 := hP.W
  have hN10 := hP.N
  have hN8 := hP.B.N
  have hX_E : CXF E E := CXF.rf
  have hwG := gNow_WG hI_E
  have hgw : gW (gNow P L d) = sW P := rfl
  have hgn : gN (gNow P L d) = sN P := rfl
  refine at_aload_n 1 X rfl rfl dX11_lit_0 rfl ?_
  refine at_iload_n 2 X rfl rfl dX11_lit_1 rfl ?_
  refine at_iconst 3 X (by decide) dX11_lit_2 rfl ?_
  refine at_iconst 4 X (by decide) dX11_lit_3 rfl ?_
  refine at_aload_n 5 X rfl rfl dX11_lit_4 rfl ?_
  refine m_getM 8 X (s) f_X11_93 k_0 rn_0_15 hI_E.now dX11_lit_5 rfl ?_
  refine m_getR 11 X f_X11_135 (kX9 hs) (rX9_7 hs) dX11_lit_8 rfl ?_
  refine m_getIV 14 X ((bN (sB P) : Nat) : Int) hI_E.B.N f_X11_139 (kX0 (iB_8 hs)) (nX0_6 (iB_8 hs)) dX11_lit_11 rfl ?_
  have := hP.B.N
  have hp8 := Nat.pow_le_pow_right (show 0 < 2 by decide) hN8
  rw [show (2 : Nat) ^ 8 = 256 by decide] at hp8
  have hp0 := Nat.two_pow_pos (bN (sB P))
  refine at_ishlV 15 X ((2 ^ bN (sB P) : Nat) : Int) (ishl1 (by omega)) dX11_lit_14 rfl ?_
  refine at_iconst 16 X (by decide) dX11_lit_15 rfl ?_
  refine at_isubV 17 X (((2 ^ bN (sB P) : Nat) : Int) - 1) (w32_v rfl (by omega) (by omega)) dX11_lit_16 rfl ?_
  refine at_callS 20 X (ct_X11_isWithin hG _ _ _) mo_X11_isWithin w_1211 so_X11_isWithin rfl rfl (crm Rt (by decide)) (Nat.le_of_ble_eq_true rfl) dX11_lit_17 rfl ?_
  rintro _ _ ⟨rfl, rfl⟩
  refine at_callVX 23 X Rt Rx _ 11 (ct_X11_need hG E (if 0 ≤ x0 ∧ x0 ≤ (((2 ^ bN (sB P) : Nat) : Int) - 1) then 1 else 0)) clX11 rfl k_0 mo_X11_need w_863 vo_X11_need.1 vo_X11_need.2 rfl rfl (by decide) (Nat.le_of_ble_eq_true rfl) dX11_lit_20 rfl (fun _ _ h => Or.inl ⟨(fun q => ite_no.mp h.1 (by omega)), h.2.1, h.2.2⟩) ?_
  rintro _ _ ⟨hq, rfl, rfl⟩
  have hc0 : 0 ≤ x0 ∧ x0 ≤ ((2 ^ bN (sB P) : Nat) : Int) - 1 := by have := ite_yes.mp hq; omega
  refine at_aload_n 24 X rfl rfl dX11_lit_23 rfl ?_
  refine at_iload_n 25 X rfl rfl dX11_lit_24 rfl ?_
  refine at_iconst 26 X (by decide) dX11_lit_25 rfl ?_
  refine at_bipush 28 X (by decide) (by decide) dX11_lit_26 rfl ?_
  refine at_callS 31 X (ct_X11_isWithin hG _ _ _) mo_X11_isWithin w_1211 so_X11_isWithin rfl rfl (crm Rt (by decide)) (Nat.le_of_ble_eq_true rfl) dX11_lit_28 rfl ?_
  rintro _ _ ⟨rfl, rfl⟩
  refine at_callVX 34 X Rt Rx _ 11 (ct_X11_need hG E (if 0 ≤ x1 ∧ x1 ≤ 9 then 1 else 0)) clX11 rfl k_0 mo_X11_need w_863 vo_X11_need.1 vo_X11_need.2 rfl rfl (by decide) (Nat.le_of_ble_eq_true rfl) dX11_lit_31 rfl (fun _ _ h => Or.inr (Or.inl ⟨hc0, (fun q => ite_no.mp h.1 (by omega)), h.2.1, h.2.2⟩)) ?_
  rintro _ _ ⟨hq, rfl, rfl⟩
  have hc1 : 0 ≤ x1 ∧ x1 ≤ 9 := by have := ite_yes.mp hq; omega
  refine at_aload_n 35 X rfl rfl dX11_lit_34 rfl ?_
  refine at_iload_n 36 X rfl rfl dX11_lit_35 rfl ?_
  refine at_iconst 37 X (by decide) dX11_lit_36 rfl ?_
  refine at_callVX 40 X Rt Rx _ 11 (ct_X11_needWhat hG E x2 1) clX11 rfl k_0 mo_X11_needWhat w_1228 vo_X11_needWhat.1 vo_X11_needWhat.2 rfl rfl (by decide) (Nat.le_of_ble_eq_true rfl) dX11_lit_37 rfl (fun _ _ h => Or.inr (Or.inr (⟨hc0, hc1, h.1, h.2.1, h.2.2⟩))) ?_
  rintro _ _ ⟨hc2, rfl, rfl⟩
  obtain ⟨w, rfl⟩ : ∃ w : Nat, x0 = (w : Int) := ⟨x0.toNat, by omega⟩
  obtain ⟨r, rfl⟩ : ∃ r : Nat, x1 = (r : Int) := ⟨x1.toNat, by omega⟩
  refine at_aload_n 41 X rfl rfl dX11_lit_40 rfl ?_
  have hw8 : w < 2 ^ bN (sB P) := by omega
  have hw256 : w < 256 := by omega
  refine at_callV 44 X _ 11 (ct_X11_prepareTrial hG E s P L T K d hI_E) clX11 rfl k_0 mo_X11_prepareTrial w_1433 vo_X11_prepareTrial.1 vo_X11_prepareTrial.2 rfl rfl (crm Rt (by decide)) (Nat.le_of_ble_eq_true rfl) dX11_lit_41 rfl ?_
  rintro _ _ ⟨rfl, F1, rfl, hg_F1, hq_F1⟩
  have hT1 := hI_E.tried (E1 := F1) (fun q h1 h2 h3 => hq_F1 q h1)
  have hI_F1 := hT1.1
  have hX_F1 : CXF E F1 := hT1.2.2
  refine at_aload_n 45 X rfl rfl dX11_lit_44 rfl ?_
  refine m_getR 48 X f_X11_86 k_0 r_0_14 dX11_lit_45 rfl ?_
  refine at_aload_n 49 X rfl rfl dX11_lit_48 rfl ?_
  refine m_getR 52 X f_X11_63 k_0 r_0_10 dX11_lit_49 rfl ?_
  refine at_aload_n 53 X rfl rfl dX11_lit_52 rfl ?_
  refine m_getM 56 X (s) f_X11_93 k_0 rn_0_15 hI_F1.now dX11_lit_53 rfl ?_
  refine m_getR 59 X f_X11_135 (kX9 hs) (rX9_7 hs) dX11_lit_56 rfl ?_
  refine at_aload_n 60 X rfl rfl dX11_lit_59 rfl ?_
  refine m_getR 63 X f_X11_33 k_0 r_0_4 dX11_lit_60 rfl ?_
  refine at_iload_n 64 X rfl rfl dX11_lit_63 rfl ?_
  refine at_callV 67 X _ 6 (ct_X6_gather hG F1 39 (Or.inr rfl) (gNow P L d) hwG hg_F1 hI_F1.Lw (sB P) (s + 8) (iB_8 hs) hI_F1.B hP.B T hI_F1.Tn hI_F1.WT r (by omega)) clX6 rfl k_62 mo_X6_gather w_1437 vo_X6_gather.1 vo_X6_gather.2 rfl rfl (crm Rt (by decide)) (Nat.le_of_ble_eq_true rfl) dX11_lit_64 rfl ?_
  rintro _ _ ⟨rfl, F2, rfl, hg_F2, hgx, hq_F2⟩
  have hT2 := hI_F1.tried (E1 := F2) (fun q h1 h2 h3 => hq_F2 q (by omega) (by omega) (by omega) (by omega) h3)
  have hI_F2 := hT2.1
  have hX_F2 : CXF E F2 := hX_F1.tr hT2.2.2
  refine at_aload_n 68 X rfl rfl dX11_lit_67 rfl ?_
  refine m_getR 71 X f_X11_86 k_0 r_0_14 dX11_lit_68 rfl ?_
  refine at_aload_n 72 X rfl rfl dX11_lit_71 rfl ?_
  refine m_getR 75 X f_X11_63 k_0 r_0_10 dX11_lit_72 rfl ?_
  refine at_aload_n 76 X rfl rfl dX11_lit_75 rfl ?_
  refine m_getM 79 X (s) f_X11_93 k_0 rn_0_15 hI_F2.now dX11_lit_76 rfl ?_
  refine m_getR 82 X f_X11_135 (kX9 hs) (rX9_7 hs) dX11_lit_79 rfl ?_
  refine at_aload_n 83 X rfl rfl dX11_lit_82 rfl ?_
  refine m_getR 86 X f_X11_33 k_0 r_0_4 dX11_lit_83 rfl ?_
  refine at_iload_n 87 X rfl rfl dX11_lit_86 rfl ?_
  refine at_callV 90 X _ 6 (ct_X6_demand hG F2 39 (Or.inr rfl) (gNow P L d) hwG hg_F2 hI_F2.Lw (sB P) (s + 8) (iB_8 hs) hI_F2.B hP.B T hI_F2.Tn hI_F2.WT w hw256) clX6 rfl k_62 mo_X6_demand w_1458 vo_X6_demand.1 vo_X6_demand.2 rfl rfl (crm Rt (by decide)) (Nat.le_of_ble_eq_true rfl) dX11_lit_87 rfl ?_
  rintro _ _ ⟨rfl, F3, rfl, hg_F3, hdm, hf_F3⟩
  have hT3 := hI_F2.tried (E1 := F3) (fun q h1 h2 h3 => hf_F3.1 q (by omega) (by omega) (by omega) (by omega) h3)
  have hI_F3 := hT3.1
  have hX_F3 : CXF E F3 := hX_F2.tr hT3.2.2
  obtain ⟨m, cl, hgi⟩ := hgx
  obtain ⟨nl, nd, h6, h7, hnl, hnd⟩ := hdm
  have hL_F3 : FLI F3 s P L T K d w r m cl nl nd := ⟨hI_F3, ⟨gLm (gNow P L d), hg_F3⟩, hgi.fr (hf_F3.2 5 (by decide) (by decide)) (hf_F3.1 63 (by decide) (by decide) (by decide) (by decide) (by decide)) (hf_F3.1 64 (by decide) (by decide) (by decide) (by decide) (by decide)), h6, h7, hnl, hnd⟩
  refine at_iconst 91 X (by decide) dX11_lit_90 rfl ?_
  refine at_istore 93 X dX11_lit_91 rfl (by decide) ?_
  have J93 : ∀ (f93 : Nat) (F : Mm) (more : Nat), 5 - more < f93 → (more ≤ 4) → (FLI F s P L T K d w r m cl nl nd) → (CXF E F) → ((∀ t, incL m 0 t → t.length < more → ¬ FGd P L T d w r (t.map cl))) → AT g κ K2 z 3 18 93 [(0, mR 0), (1, mI ((w : Nat) : Int)), (3, mI x2), (4, mI ((more : Nat) : Int))] [] (ov F) := by
    intro f93
    induction f93 with
    | zero => intro F more hf93; omega
    | succ f93 ih93 =>
    intro F more hf93 hmo hL_F hX_F hno
    refine at_iload 95 X rfl dX11_lit_93 rfl ?_
    have hI_F := hL_F.1
    refine at_iconst 96 X (by decide) dX11_lit_95 rfl ?_
    refine at_icmp_gt 99 134 X dX11_lit_96 rfl (by decide) (fun h96 => ?_) (fun h96 => ?_)
    · refine at_iconst 135 X (by decide) dX11_lit_134 rfl ?_
      refine at_iret X Rt ?_ (by decide) (by decide) dX11_lit_135
      have hC : LITc m cl (sLc P) (gnP (gNow P L d) (sB P) T r) (GDl P L T d w) (-1) 0 := Or.inl ⟨rfl, fun i a b => hno i a (by omega)⟩
      exact ⟨hc0, hc1, hc2, -1, 0, LITr_of hL_F.2.2.1 hC, by rw [if_pos (Or.inl rfl)], F, rfl, hI_F, hX_F⟩
    · refine at_aload_n 100 X rfl rfl dX11_lit_99 rfl ?_
      refine at_iload_n 101 X rfl rfl dX11_lit_100 rfl ?_
      refine at_iload 103 X rfl dX11_lit_101 rfl ?_
      refine at_callV 106 X _ 11 (ct_X11_findLamps hG F s P L T K d w r m cl nl nd hw8 more (by omega) hL_F) clX11 rfl k_0 mo_X11_findLamps w_1469 vo_X11_findLamps.1 vo_X11_findLamps.2 rfl rfl (crm Rt (by decide)) (Nat.le_of_ble_eq_true rfl) dX11_lit_103 rfl ?_
      rintro _ _ ⟨v, F4, rfl, rfl, hL_F4, hX4, hQ⟩
      have hX_F4 : CXF E F4 := hX_F.tr hX4
      have hI_F4 := hL_F4.1
      refine at_if_eq 109 128 X dX11_lit_106 rfl (by decide) (fun h106 => ?_) (fun h106 => ?_)
      · refine at_iincV 131 X ((more + 1 : Nat) : Int) (w32_v (by omega) (by omega) (by omega)) rfl dX11_lit_128 rfl (by decide) ?_
        refine at_goto 93 X dX11_lit_131 (by decide) ?_
        exact at_sub _ (by exact ⟨rfl, rfl, rfl, rfl, trivial⟩) (ih93 F4 (more + 1) (by first | omega | (simp only [] at *; omega)) (by first | omega | assumption) hL_F4 hX_F4 (fun t a b => if e : t.length < more then hno t a e else (hQ.resolve_left (fun q => by have := q.1; omega)).2 t a (by omega)))
      · obtain ⟨t, t1, t2, t3, t4, t5⟩ := (hQ.resolve_right (fun q => h106 q.1)).2
        refine at_iload_n 110 X rfl rfl dX11_lit_109 rfl ?_
        refine at_if_ne 113 118 X dX11_lit_110 rfl (by decide) (fun h110 => ?_) (fun h110 => ?_)
        · refine at_aload_n 119 X rfl rfl dX11_lit_118 rfl ?_
          refine m_getR 122 X f_X11_86 k_0 r_0_14 dX11_lit_119 rfl ?_
          refine at_iload 124 X rfl dX11_lit_122 rfl ?_
          refine at_callV 127 X _ 6 (ct_X6_digits hG F4 m more (fun i => t.getD i 0) (fun i => cl (t.getD i 0)) (by omega) (fun i hi => ⟨t5 i hi, incL_mem t1 _ (getD_mem (by omega))⟩) hL_F4.2.2.1.1 (by have := hL_F4.2.2.1.2.1; omega) (fun i hi => by have hx := hL_F4.2.2.1.2.2.1 (t.getD i 0) (incL_mem t1 _ (getD_mem (by omega))); exact ⟨hx.1, by have := hx.2.2.1; show cl (t.getD i 0) < 64; omega⟩)) clX6 rfl k_62 mo_X6_digits w_1500 vo_X6_digits.1 vo_X6_digits.2 rfl rfl (crm Rt (by decide)) (Nat.le_of_ble_eq_true rfl) dX11_lit_124 rfl ?_
          rintro _ _ ⟨rfl, rfl⟩
          have hdg := dgN_dgt (cl := cl) t (by omega)
          rw [t2] at hdg
          refine at_iret X Rt ?_ (by decide) (by decide) dX11_lit_127
          have hC : LITc m cl (sLc P) (gnP (gNow P L d) (sB P) T r) (GDl P L T d w) ((more : Nat) : Int) ((dgt (t.map cl) : Nat) : Int) := Or.inr ⟨t, t1, by omega, t3, fun i' a b => hno i' a (by omega), fun i' a b c => t4 i' a (by omega) c, by rw [t2], rfl⟩
          exact ⟨hc0, hc1, hc2, _, _, LITr_of hL_F4.2.2.1 hC, by rw [if_neg (by omega), hdg], F4, rfl, hI_F4, hX_F4⟩
        · refine at_iload 115 X rfl dX11_lit_113 rfl ?_
          refine at_goto 127 X dX11_lit_115 (by decide) ?_
          refine at_iret X Rt ?_ (by decide) (by decide) dX11_lit_127
          have hC : LITc m cl (sLc P) (gnP (gNow P L d) (sB P) T r) (GDl P L T d w) ((more : Nat) : Int) ((dgt (t.map cl) : Nat) : Int) := Or.inr ⟨t, t1, by omega, t3, fun i' a b => hno i' a (by omega), fun i' a b c => t4 i' a (by omega) c, by rw [t2], rfl⟩
          exact ⟨hc0, hc1, hc2, _, _, LITr_of hL_F4.2.2.1 hC, by rw [if_pos (Or.inr (by omega))], F4, rfl, hI_F4, hX_F4⟩
  exact at_sub _ (by exact ⟨rfl, rfl, rfl, rfl, trivial⟩) (J93 _ F3 0 (Nat.lt_succ_self _) (by first | omega | assumption | rfl) (by first | omega | assumption | rfl) (by first | omega | assumption | rfl) (fun t _ h => absurd h (Nat.not_lt_zero _)))
