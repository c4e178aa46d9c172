theorem dX11_refresh_0 : decode cX11_refresh 0 = .ok (.aload_n 0, 1) := by decide +kernel
theorem dX11_refresh_1 : decode cX11_refresh 1 = .ok (.getfield 100, 3) := by decide +kernel
theorem dX11_refresh_4 : decode cX11_refresh 4 = .ok (.ifCond .eq 71, 3) := by decide +kernel
theorem dX11_refresh_7 : decode cX11_refresh 7 = .ok (.aload_n 0, 1) := by decide +kernel
theorem dX11_refresh_8 : decode cX11_refresh 8 = .ok (.getfield 59, 3) := by decide +kernel
theorem dX11_refresh_11 : decode cX11_refresh 11 = .ok (.aload_n 0, 1) := by decide +kernel
theorem dX11_refresh_12 : decode cX11_refresh 12 = .ok (.getfield 93, 3) := by decide +kernel
theorem dX11_refresh_15 : decode cX11_refresh 15 = .ok (.aload_n 0, 1) := by decide +kernel
theorem dX11_refresh_16 : decode cX11_refresh 16 = .ok (.getfield 23, 3) := by decide +kernel
theorem dX11_refresh_19 : decode cX11_refresh 19 = .ok (.aload_n 0, 1) := by decide +kernel
theorem dX11_refresh_20 : decode cX11_refresh 20 = .ok (.getfield 93, 3) := by decide +kernel
theorem dX11_refresh_23 : decode cX11_refresh 23 = .ok (.aload_n 0, 1) := by decide +kernel
theorem dX11_refresh_24 : decode cX11_refresh 24 = .ok (.getfield 171, 3) := by decide +kernel
theorem dX11_refresh_27 : decode cX11_refresh 27 = .ok (.invokevirtual 359, 3) := by decide +kernel
theorem dX11_refresh_30 : decode cX11_refresh 30 = .ok (.invokevirtual 362, 3) := by decide +kernel
theorem dX11_refresh_33 : decode cX11_refresh 33 = .ok (.aload_n 0, 1) := by decide +kernel
theorem dX11_refresh_34 : decode cX11_refresh 34 = .ok (.getfield 59, 3) := by decide +kernel
theorem dX11_refresh_37 : decode cX11_refresh 37 = .ok (.aload_n 0, 1) := by decide +kernel
theorem dX11_refresh_38 : decode cX11_refresh 38 = .ok (.getfield 93, 3) := by decide +kernel
theorem dX11_refresh_41 : decode cX11_refresh 41 = .ok (.getfield 369, 3) := by decide +kernel
theorem dX11_refresh_44 : decode cX11_refresh 44 = .ok (.invokevirtual 372, 3) := by decide +kernel
theorem dX11_refresh_47 : decode cX11_refresh 47 = .ok (.aload_n 0, 1) := by decide +kernel
theorem dX11_refresh_48 : decode cX11_refresh 48 = .ok (.getfield 69, 3) := by decide +kernel
theorem dX11_refresh_51 : decode cX11_refresh 51 = .ok (.aload_n 0, 1) := by decide +kernel
theorem dX11_refresh_52 : decode cX11_refresh 52 = .ok (.getfield 59, 3) := by decide +kernel
theorem dX11_refresh_55 : decode cX11_refresh 55 = .ok (.aload_n 0, 1) := by decide +kernel
theorem dX11_refresh_56 : decode cX11_refresh 56 = .ok (.getfield 93, 3) := by decide +kernel
theorem dX11_refresh_59 : decode cX11_refresh 59 = .ok (.getfield 135, 3) := by decide +kernel
theorem dX11_refresh_62 : decode cX11_refresh 62 = .ok (.aload_n 0, 1) := by decide +kernel
theorem dX11_refresh_63 : decode cX11_refresh 63 = .ok (.getfield 33, 3) := by decide +kernel
theorem dX11_refresh_66 : decode cX11_refresh 66 = .ok (.iconst 0, 1) := by decide +kernel
theorem dX11_refresh_67 : decode cX11_refresh 67 = .ok (.invokevirtual 350, 3) := by decide +kernel
theorem dX11_refresh_70 : decode cX11_refresh 70 = .ok (.aload_n 0, 1) := by decide +kernel
theorem dX11_refresh_71 : decode cX11_refresh 71 = .ok (.iconst 0, 1) := by decide +kernel
theorem dX11_refresh_72 : decode cX11_refresh 72 = .ok (.putfield 100, 3) := by decide +kernel
theorem dX11_refresh_75 : decode cX11_refresh 75 = .ok (.return_, 1) := by decide +kernel
theorem ct_X11_refresh {g : Gw} (hG : GF g) {z : Bool} (E : Mm) (s : Nat) (P : SP) (L : LW) (T K : LN) (d : Nat) (hI_E : CXI E s P L T K d) : CT g yX11_refresh cX11_refresh 1 none 5 126 0 0 K2 z [mR 0] (ov E) K2 z (fun r D' => r = none ∧ ∃ E1, D' = ov E1 ∧ CXI E1 s P L T K d ∧ FRS E1 P L T d ∧ CXF E E1) := by
  refine CT.mk hG (by decide +kernel) (Nat.le_of_ble_eq_true rfl) (fun κ X Rt _ ok => ?_)
  have hs := hI_E.sa
  have hP := hI_E.WS
  have hW40 := hP.W
  have hN10 := hP.N
  have hN8 := hP.B.N
  have hX_E : CXF E E := CXF.rf
  refine at_aload_n 1 X rfl rfl dX11_refresh_0 rfl ?_
  refine m_getIV 4 X (E 0 19) rfl f_X11_100 k_0 rn_0_19 dX11_refresh_1 rfl ?_
  refine at_if_eq 7 75 X dX11_refresh_4 rfl (by decide) (fun h4 => ?_) (fun h4 => ?_)
  · have h0 := hI_E.st.resolve_left (by omega)
    have hFE := h0.2
    refine at_vret X Rt ?_ (Nat.le_refl _) (Nat.le_refl _) dX11_refresh_75
    exact ⟨rfl, E, rfl, hI_E, hFE, hX_E⟩
  · refine at_aload_n 8 X rfl rfl dX11_refresh_7 rfl ?_
    refine m_getR 11 X f_X11_59 k_0 r_0_9 dX11_refresh_8 rfl ?_
    refine at_aload_n 12 X rfl rfl dX11_refresh_11 rfl ?_
    refine m_getM 15 X (s) f_X11_93 k_0 rn_0_15 hI_E.now dX11_refresh_12 rfl ?_
    refine at_aload_n 16 X rfl rfl dX11_refresh_15 rfl ?_
    refine m_getR 19 X f_X11_23 k_0 r_0_2 dX11_refresh_16 rfl ?_
    refine at_aload_n 20 X rfl rfl dX11_refresh_19 rfl ?_
    refine m_getM 23 X (s) f_X11_93 k_0 rn_0_15 hI_E.now dX11_refresh_20 rfl ?_
    refine at_aload_n 24 X rfl rfl dX11_refresh_23 rfl ?_
    refine m_getIV 27 X ((d : Nat) : Int) hI_E.dy f_X11_171 k_0 rn_0_17 dX11_refresh_24 rfl ?_
    have := hI_E.dl
    refine at_callV 30 X _ 9 (ct_X9_moonOf hG E P s hs hI_E.S hP d hI_E.dl) clX9 rfl (kX9 hs) mo_X9_moonOf w_669 vo_X9_moonOf.1 vo_X9_moonOf.2 rfl rfl (crm Rt (by decide)) (Nat.le_of_ble_eq_true rfl) dX11_refresh_27 rfl ?_
    rintro _ _ ⟨rfl, rfl⟩
    have hmo := moonP_in P d
    refine at_callV 33 X _ 4 (ct_X4_takeStreet hG E 30 (Or.inl rfl) P s hs hI_E.S hP L (moonP P d) hmo) clX4 rfl k_30 mo_X4_takeStreet w_673 vo_X4_takeStreet.1 vo_X4_takeStreet.2 rfl rfl (crm Rt (by decide)) (Nat.le_of_ble_eq_true rfl) dX11_refresh_30 rfl ?_
    rintro _ _ ⟨rfl, F1, rfl, hg0_F1, hkd_F1, hq_F1⟩
    have hnow_F1 : F1 0 15 = (s : Int) := by rw [hq_F1 0 (by decide)]; exact hI_E.now
    have hC_F1 : F1 s 15 = (mk (sC P) 24 : Nat) := by rw [hq_F1 s (by omega)]; exact hI_E.S.C
    refine at_aload_n 34 X rfl rfl dX11_refresh_33 rfl ?_
    refine m_getR 37 X f_X11_59 k_0 r_0_9 dX11_refresh_34 rfl ?_
    refine at_aload_n 38 X rfl rfl dX11_refresh_37 rfl ?_
    refine m_getM 41 X (s) f_X11_93 k_0 rn_0_15 hnow_F1 dX11_refresh_38 rfl ?_
    refine m_getIV 44 X ((mk (sC P) 24 : Nat) : Int) hC_F1 f_X11_369 (kX9 hs) (nX9_15 hs) dX11_refresh_41 rfl ?_
    have := mk24 (p := sC P) (Nat.le_refl 24)
    refine at_callV 47 X _ 4 (ct_X4_settle hG F1 30 (Or.inl rfl) (gNow P L d) (gNow_WG hI_E) hg0_F1 (sC P)) clX4 rfl k_30 mo_X4_settle w_692 vo_X4_settle.1 vo_X4_settle.2 rfl rfl (crm Rt (by decide)) (Nat.le_of_ble_eq_true rfl) dX11_refresh_44 rfl ?_
    rintro _ _ ⟨rfl, F2, rfl, hg_F2, hqs_F2⟩
    have hqq_F2 : ∀ q, ¬ (30 ≤ q ∧ q ≤ 38) → F2 q = E q := fun q hq => (hqs_F2 q (by omega) (by omega) (by omega) (by omega)).trans (hq_F1 q hq)
    have hnow_F2 : F2 0 15 = (s : Int) := by rw [hqq_F2 0 (by decide)]; exact hI_E.now
    have hk_F2 : CKd F2 30 P (moonP P d) := by
      unfold CKd at hkd_F1 ⊢
      rw [hqs_F2 (30 + 3) (by decide) (by decide) (by decide) (by decide)]
      exact hkd_F1
    have hl_F2 : CL F2 4 L := hI_E.Lw.fr (fun q h1 h2 => hqq_F2 q (by omega))
    have hB_F2 : CB F2 (s + 8) (sB P) := hI_E.B.fr (fun q h1 h2 => hqq_F2 q (by omega))
    have hN_F2 : CN F2 12 T := hI_E.Tn.fr (fun q h1 h2 => hqq_F2 q (by omega))
    refine at_aload_n 48 X rfl rfl dX11_refresh_47 rfl ?_
    refine m_getR 51 X f_X11_69 k_0 r_0_11 dX11_refresh_48 rfl ?_
    refine at_aload_n 52 X rfl rfl dX11_refresh_51 rfl ?_
    refine m_getR 55 X f_X11_59 k_0 r_0_9 dX11_refresh_52 rfl ?_
    refine at_aload_n 56 X rfl rfl dX11_refresh_55 rfl ?_
    refine m_getM 59 X (s) f_X11_93 k_0 rn_0_15 hnow_F2 dX11_refresh_56 rfl ?_
    refine m_getR 62 X f_X11_135 (kX9 hs) (rX9_7 hs) dX11_refresh_59 rfl ?_
    refine at_aload_n 63 X rfl rfl dX11_refresh_62 rfl ?_
    refine m_getR 66 X f_X11_33 k_0 r_0_4 dX11_refresh_63 rfl ?_
    refine at_iconst 67 X (by decide) dX11_refresh_66 rfl ?_
    refine at_callV 70 X _ 3 (ct_X3_go hG F2 48 (Or.inl rfl) 30 (Or.inl rfl) (gNow P L d) (gNow_WG hI_E) hg_F2 hl_F2 (sB P) (s + 8) (iB_8 hs) hB_F2 hP.B T hN_F2 hI_E.WT 0 (by decide)) clX3 rfl k_48 mo_X3_go w_715 vo_X3_go.1 vo_X3_go.2 rfl rfl (crm Rt (by decide)) (Nat.le_of_ble_eq_true rfl) dX11_refresh_67 rfl ?_
    rintro _ _ ⟨rfl, F3, n, rfl, hn, hn2, hdn, hg_F3, hq_F3⟩
    have hn24 : n = 24 := by
      rcases hn2 with h | h
      · exact h
      · exact absurd (Nat.and_zero _) h
    subst hn24
    have hq3 : ∀ q, ¬ (q = 7 ∨ (30 ≤ q ∧ q ≤ 67)) → F3 q = E q := fun q hq => (hq_F3 q (by omega) (by omega) (by omega) (by omega) (by omega) (by omega) (by omega) (by omega)).trans (hqq_F2 q (by omega))
    have hk3 : CKd F3 30 P (moonP P d) := by
      have h := hk_F2
      unfold CKd at h ⊢
      rw [hq_F3 (30 + 3) (by decide) (by decide) (by decide) (by decide) (by decide) (by decide) (by decide) (by decide)]
      exact h
    refine at_aload_n 71 X rfl rfl dX11_refresh_70 rfl ?_
    refine at_iconst 72 X (by decide) dX11_refresh_71 rfl ?_
    refine m_putZ 75 X (Or.inl rfl) f_X11_100 fz_11_19 k_0 rn_0_19 dX11_refresh_72 rfl ?_
    refine at_vret X Rt ?_ (Nat.le_refl _) (Nat.le_refl _) dX11_refresh_75
    have hF4 : FRS (wr F3 0 19 0) P L T d := FRS.fr (E := F3) ⟨hg_F3, hk3, hdn⟩ (fun q h1 h2 h3 => wr_row (by omega))
    have hX4 : CXF E (wr F3 0 19 0) := ⟨fun q hq => by rw [wr_row (by omega)]; exact hq3 q (by omega), fun k hk => by rw [wr_o (Or.inr hk), hq3 0 (by decide)]⟩
    exact ⟨rfl, _, rfl, hI_E.fr hX4 (Or.inr ⟨wr_s _ _ _ _, hF4⟩), hF4, hX4⟩
theorem dX11_prepareTrial_0 : decode cX11_prepareTrial 0 = .ok (.aload_n 0, 1) := by decide +kernel
theorem dX11_prepareTrial_1 : decode cX11_prepareTrial 1 = .ok (.getfield 63, 3) := by decide +kernel
theorem dX11_prepareTrial_4 : decode cX11_prepareTrial 4 = .ok (.aload_n 0, 1) := by decide +kernel
theorem dX11_prepareTrial_5 : decode cX11_prepareTrial 5 = .ok (.getfield 93, 3) := by decide +kernel
theorem dX11_prepareTrial_8 : decode cX11_prepareTrial 8 = .ok (.aload_n 0, 1) := by decide +kernel
theorem dX11_prepareTrial_9 : decode cX11_prepareTrial 9 = .ok (.getfield 23, 3) := by decide +kernel
theorem dX11_prepareTrial_12 : decode cX11_prepareTrial 12 = .ok (.aload_n 0, 1) := by decide +kernel
theorem dX11_prepareTrial_13 : decode cX11_prepareTrial 13 = .ok (.getfield 93, 3) := by decide +kernel
theorem dX11_prepareTrial_16 : decode cX11_prepareTrial 16 = .ok (.aload_n 0, 1) := by decide +kernel
theorem dX11_prepareTrial_17 : decode cX11_prepareTrial 17 = .ok (.getfield 171, 3) := by decide +kernel
theorem dX11_prepareTrial_20 : decode cX11_prepareTrial 20 = .ok (.invokevirtual 359, 3) := by decide +kernel
theorem dX11_prepareTrial_23 : decode cX11_prepareTrial 23 = .ok (.invokevirtual 362, 3) := by decide +kernel
theorem dX11_prepareTrial_26 : decode cX11_prepareTrial 26 = .ok (.aload_n 0, 1) := by decide +kernel
theorem dX11_prepareTrial_27 : decode cX11_prepareTrial 27 = .ok (.getfield 63, 3) := by decide +kernel
theorem dX11_prepareTrial_30 : decode cX11_prepareTrial 30 = .ok (.aload_n 0, 1) := by decide +kernel
theorem dX11_prepareTrial_31 : decode cX11_prepareTrial 31 = .ok (.getfield 93, 3) := by decide +kernel
theorem dX11_prepareTrial_34 : decode cX11_prepareTrial 34 = .ok (.getfield 369, 3) := by decide +kernel
theorem dX11_prepareTrial_37 : decode cX11_prepareTrial 37 = .ok (.invokevirtual 372, 3) := by decide +kernel
theorem dX11_prepareTrial_40 : decode cX11_prepareTrial 40 = .ok (.return_, 1) := by decide +kernel
theorem ct_X11_prepareTrial {g : Gw} (hG : GF g) {z : Bool} (E : Mm) (s : Nat) (P : SP) (L : LW) (T K : LN) (d : Nat) (hI_E : CXI E s P L T K d) : CT g yX11_prepareTrial cX11_prepareTrial 1 none 3 71 0 0 K2 z [mR 0] (ov E) K2 z (fun r D' => r = none ∧ ∃ E1, D' = ov E1 ∧ CG E1 39 (gNow P L d) ∧ ∀ q, ¬ (39 ≤ q ∧ q ≤ 47) → E1 q = E q) := by
  refine CT.mk hG (by decide +kernel) (Nat.le_of_ble_eq_true rfl) (fun κ X Rt _ ok => ?_)
  have hs := hI_E.sa
  have hP := hI_E.WS
  have hW40 := hP.W
  have hN10 := hP.N
  have hN8 := hP.B.N
  have hX_E : CXF E E := CXF.rf
  refine at_aload_n 1 X rfl rfl dX11_prepareTrial_0 rfl ?_
  refine m_getR 4 X f_X11_63 k_0 r_0_10 dX11_prepareTrial_1 rfl ?_
  refine at_aload_n 5 X rfl rfl dX11_prepareTrial_4 rfl ?_
  refine m_getM 8 X (s) f_X11_93 k_0 rn_0_15 hI_E.now dX11_prepareTrial_5 rfl ?_
  refine at_aload_n 9 X rfl rfl dX11_prepareTrial_8 rfl ?_
  refine m_getR 12 X f_X11_23 k_0 r_0_2 dX11_prepareTrial_9 rfl ?_
  refine at_aload_n 13 X rfl rfl dX11_prepareTrial_12 rfl ?_
  refine m_getM 16 X (s) f_X11_93 k_0 rn_0_15 hI_E.now dX11_prepareTrial_13 rfl ?_
  refine at_aload_n 17 X rfl rfl dX11_prepareTrial_16 rfl ?_
  refine m_getIV 20 X ((d : Nat) : Int) hI_E.dy f_X11_171 k_0 rn_0_17 dX11_prepareTrial_17 rfl ?_
  have := hI_E.dl
  refine at_callV 23 X _ 9 (ct_X9_moonOf hG E P s hs hI_E.S hP d hI_E.dl) clX9 rfl (kX9 hs) mo_X9_moonOf w_669 vo_X9_moonOf.1 vo_X9_moonOf.2 rfl rfl (crm Rt (by decide)) (Nat.le_of_ble_eq_true rfl) dX11_prepareTrial_20 rfl ?_
  rintro _ _ ⟨rfl, rfl⟩
  have hmo := moonP_in P d
  refine at_callV 26 X _ 4 (ct_X4_takeStreet hG E 39 (Or.inr rfl) P s hs hI_E.S hP L (moonP P d) hmo) clX4 rfl k_39 mo_X4_takeStreet w_673 vo_X4_takeStreet.1 vo_X4_takeStreet.2 rfl rfl (crm Rt (by decide)) (Nat.le_of_ble_eq_true rfl) dX11_prepareTrial_23 rfl ?_
  rintro _ _ ⟨rfl, F1, rfl, hg0_F1, hkd_F1, hq_F1⟩
  have hnow_F1 : F1 0 15 = (s : Int) := by rw [hq_F1 0 (by decide)]; exact hI_E.now
  have hC_F1 : F1 s 15 = (mk (sC P) 24 : Nat) := by rw [hq_F1 s (by omega)]; exact hI_E.S.C
  refine at_aload_n 27 X rfl rfl dX11_prepareTrial_26 rfl ?_
  refine m_getR 30 X f_X11_63 k_0 r_0_10 dX11_prepareTrial_27 rfl ?_
  refine at_aload_n 31 X rfl rfl dX11_prepareTrial_30 rfl ?_
  refine m_getM 34 X (s) f_X11_93 k_0 rn_0_15 hnow_F1 dX11_prepareTrial_31 rfl ?_
  refine m_getIV 37 X ((mk (sC P) 24 : Nat) : Int) hC_F1 f_X11_369 (kX9 hs) (nX9_15 hs) dX11_prepareTrial_34 rfl ?_
  have := mk24 (p := sC P) (Nat.le_refl 24)
  refine at_callV 40 X _ 4 (ct_X4_settle hG F1 39 (Or.inr rfl) (gNow P L d) (gNow_WG hI_E) hg0_F1 (sC P)) clX4 rfl k_39 mo_X4_settle w_692 vo_X4_settle.1 vo_X4_settle.2 rfl rfl (crm Rt (by decide)) (Nat.le_of_ble_eq_true rfl) dX11_prepareTrial_37 rfl ?_
  rintro _ _ ⟨rfl, F2, rfl, hg_F2, hqs_F2⟩
  refine at_vret X Rt ?_ (Nat.le_refl _) (Nat.le_refl _) dX11_prepareTrial_40
  have hqq : ∀ q, ¬ (39 ≤ q ∧ q ≤ 47) → F2 q = E q := fun q hq => (hqs_F2 q (by omega) (by omega) (by omega) (by omega)).trans (hq_F1 q hq)
  exact ⟨rfl, F2, rfl, hg_F2, hqq⟩
theorem dX11_goWithPost_0 : decode cX11_goWithPost 0 = .ok (.aload_n 0, 1) := by decide +kernel
theorem dX11_goWithPost_1 : decode cX11_goWithPost 1 = .ok (.getfield 63, 3) := by decide +kernel
theorem dX11_goWithPost_4 : decode cX11_goWithPost 4 = .ok (.aload_n 0, 1) := by decide +kernel
theorem dX11_goWithPost_5 : decode cX11_goWithPost 5 = .ok (.getfield 93, 3) := by decide +kernel
theorem dX11_goWithPost_8 : decode cX11_goWithPost 8 = .ok (.aload_n 0, 1) := by decide +kernel
theorem dX11_goWithPost_9 : decode cX11_goWithPost 9 = .ok (.getfield 23, 3) := by decide +kernel
theorem dX11_goWithPost_12 : decode cX11_goWithPost 12 = .ok (.aload_n 0, 1) := by decide +kernel
theorem dX11_goWithPost_13 : decode cX11_goWithPost 13 = .ok (.getfield 93, 3) := by decide +kernel
theorem dX11_goWithPost_16 : decode cX11_goWithPost 16 = .ok (.aload_n 0, 1) := by decide +kernel
theorem dX11_goWithPost_17 : decode cX11_goWithPost 17 = .ok (.getfield 171, 3) := by decide +kernel
theorem dX11_goWithPost_20 : decode cX11_goWithPost 20 = .ok (.invokevirtual 359, 3) := by decide +kernel
theorem dX11_goWithPost_23 : decode cX11_goWithPost 23 = .ok (.invokevirtual 362, 3) := by decide +kernel
theorem dX11_goWithPost_26 : decode cX11_goWithPost 26 = .ok (.aload_n 0, 1) := by decide +kernel
theorem dX11_goWithPost_27 : decode cX11_goWithPost 27 = .ok (.getfield 63, 3) := by decide +kernel
theorem dX11_goWithPost_30 : decode cX11_goWithPost 30 = .ok (.iload_n 1, 1) := by decide +kernel
theorem dX11_goWithPost_31 : decode cX11_goWithPost 31 = .ok (.iload_n 2, 1) := by decide +kernel
theorem dX11_goWithPost_32 : decode cX11_goWithPost 32 = .ok (.invokevirtual 387, 3) := by decide +kernel
theorem dX11_goWithPost_35 : decode cX11_goWithPost 35 = .ok (.aload_n 0, 1) := by decide +kernel
theorem dX11_goWithPost_36 : decode cX11_goWithPost 36 = .ok (.getfield 63, 3) := by decide +kernel
theorem dX11_goWithPost_39 : decode cX11_goWithPost 39 = .ok (.aload_n 0, 1) := by decide +kernel
theorem dX11_goWithPost_40 : decode cX11_goWithPost 40 = .ok (.getfield 93, 3) := by decide +kernel
theorem dX11_goWithPost_43 : decode cX11_goWithPost 43 = .ok (.getfield 369, 3) := by decide +kernel
theorem dX11_goWithPost_46 : decode cX11_goWithPost 46 = .ok (.invokevirtual 372, 3) := by decide +kernel
theorem dX11_goWithPost_49 : decode cX11_goWithPost 49 = .ok (.aload_n 0, 1) := by decide +kernel
theorem dX11_goWithPost_50 : decode cX11_goWithPost 50 = .ok (.getfield 73, 3) := by decide +kernel
theorem dX11_goWithPost_53 : decode cX11_goWithPost 53 = .ok (.aload_n 0, 1) := by decide +kernel
theorem dX11_goWithPost_54 : decode cX11_goWithPost 54 = .ok (.getfield 63, 3) := by decide +kernel
theorem dX11_goWithPost_57 : decode cX11_goWithPost 57 = .ok (.aload_n 0, 1) := by decide +kernel
theorem dX11_goWithPost_58 : decode cX11_goWithPost 58 = .ok (.getfield 93, 3) := by decide +kernel
theorem dX11_goWithPost_61 : decode cX11_goWithPost 61 = .ok (.getfield 135, 3) := by decide +kernel
theorem dX11_goWithPost_64 : decode cX11_goWithPost 64 = .ok (.aload_n 0, 1) := by decide +kernel
theorem dX11_goWithPost_65 : decode cX11_goWithPost 65 = .ok (.getfield 33, 3) := by decide +kernel
theorem dX11_goWithPost_68 : decode cX11_goWithPost 68 = .ok (.iconst 0, 1) := by decide +kernel
theorem dX11_goWithPost_69 : decode cX11_goWithPost 69 = .ok (.invokevirtual 350, 3) := by decide +kernel
theorem dX11_goWithPost_72 : decode cX11_goWithPost 72 = .ok (.return_, 1) := by decide +kernel
theorem ct_X11_goWithPost {g : Gw} (hG : GF g) {z : Bool} (E : Mm) (s : Nat) (P : SP) (L : LW) (T K : LN) (d : Nat) (hI_E : CXI E s P L T K d) (c hi : Nat) (hc : c < sW P) (hh : hi ≤ 99) : CT g yX11_goWithPost cX11_goWithPost 3 none 5 126 0 0 K2 z [mR 0, mI ((c : Nat) : Int), mI ((hi : Nat) : Int)] (ov E) K2 z (fun r D' => r = none ∧ ∃ E1, D' = ov E1 ∧ CDn E1 54 (addP (gNow P L d) c hi) (sB P) T 24 ∧ ∀ q, ¬ (39 ≤ q ∧ q ≤ 47) → ¬ (54 ≤ q ∧ q ≤ 67) → q ≠ 7 → E1 q = E q) := by
  refine CT.mk hG (by decide +kernel) (Nat.le_of_ble_eq_true rfl) (fun κ X Rt _ ok => ?_)
  have hs := hI_E.sa
  have hP := hI_E.WS
  have hW40 := hP.W
  have hN10 := hP.N
  have hN8 := hP.B.N
  have hX_E : CXF E E := CXF.rf
  refine at_aload_n 1 X rfl rfl dX11_goWithPost_0 rfl ?_
  refine m_getR 4 X f_X11_63 k_0 r_0_10 dX11_goWithPost_1 rfl ?_
  refine at_aload_n 5 X rfl rfl dX11_goWithPost_4 rfl ?_
  refine m_getM 8 X (s) f_X11_93 k_0 rn_0_15 hI_E.now dX11_goWithPost_5 rfl ?_
  refine at_aload_n 9 X rfl rfl dX11_goWithPost_8 rfl ?_
  refine m_getR 12 X f_X11_23 k_0 r_0_2 dX11_goWithPost_9 rfl ?_
  refine at_aload_n 13 X rfl rfl dX11_goWithPost_12 rfl ?_
  refine m_getM 16 X (s) f_X11_93 k_0 rn_0_15 hI_E.now dX11_goWithPost_13 rfl ?_
  refine at_aload_n 17 X rfl rfl dX11_goWithPost_16 rfl ?_
  refine m_getIV 20 X ((d : Nat) : Int) hI_E.dy f_X11_171 k_0 rn_0_17 dX11_goWithPost_17 rfl ?_
  have := hI_E.dl
  refine at_callV 23 X _ 9 (ct_X9_moonOf hG E P s hs hI_E.S hP d hI_E.dl) clX9 rfl (kX9 hs) mo_X9_moonOf w_669 vo_X9_moonOf.1 vo_X9_moonOf.2 rfl rfl (crm Rt (by decide)) (Nat.le_of_ble_eq_true rfl) dX11_goWithPost_20 rfl ?_
  rintro _ _ ⟨rfl, rfl⟩
  have hmo := moonP_in P d
  refine at_callV 26 X _ 4 (ct_X4_takeStreet hG E 39 (Or.inr rfl) P s hs hI_E.S hP L (moonP P d) hmo) clX4 rfl k_39 mo_X4_takeStreet w_673 vo_X4_takeStreet.1 vo_X4_takeStreet.2 rfl rfl (crm Rt (by decide)) (Nat.le_of_ble_eq_true rfl) dX11_goWithPost_23 rfl ?_
  rintro _ _ ⟨rfl, F1, rfl, hg0_F1, hkd_F1, hq_F1⟩
  have hnow_F1 : F1 0 15 = (s : Int) := by rw [hq_F1 0 (by decide)]; exact hI_E.now
  have hC_F1 : F1 s 15 = (mk (sC P) 24 : Nat) := by rw [hq_F1 s (by omega)]; exact hI_E.S.C
  refine at_aload_n 27 X rfl rfl dX11_goWithPost_26 rfl ?_
  refine m_getR 30 X f_X11_63 k_0 r_0_10 dX11_goWithPost_27 rfl ?_
  refine at_iload_n 31 X rfl rfl dX11_goWithPost_30 rfl ?_
  refine at_iload_n 32 X rfl rfl dX11_goWithPost_31 rfl ?_
  refine at_callV 35 X _ 4 (ct_X4_addPost hG F1 39 (Or.inr rfl) (gN (gNow P L d)) (mk (isP (gNow P L d)) 40) c hi hg0_F1.N (by have : gN (gNow P L d) = sN P := rfl; omega) hg0_F1.P (mk40 (Nat.le_refl 40)) (by omega)) clX4 rfl k_39 mo_X4_addPost w_1516 vo_X4_addPost.1 vo_X4_addPost.2 rfl rfl (crm Rt (by decide)) (Nat.le_of_ble_eq_true rfl) dX11_goWithPost_32 rfl ?_
  rintro _ _ ⟨rfl, rfl⟩
  generalize hF2 : wr (wr (wr (wr F1 (39 + 1) (gN (gNow P L d)) ((c : Nat) : Int)) (39 + 2) (gN (gNow P L d)) ((hi : Nat) : Int)) 39 12 ((mk (isP (gNow P L d)) 40 ||| 2 ^ c : Nat) : Int)) 39 10 ((gN (gNow P L d) + 1 : Nat) : Int) = F2
  have hg0_F2 : CG0 F2 39 (addP (gNow P L d) c hi) := by rw [← hF2]; exact addP_CG0 hg0_F1 (by have : gN (gNow P L d) = sN P := rfl; omega) (by omega)
  have hq_F2 : ∀ q, ¬ (39 ≤ q ∧ q ≤ 47) → F2 q = E q := fun q hq => by rw [← hF2, wr_row (by omega), wr_row (by omega), wr_row (by omega), wr_row (by omega)]; exact hq_F1 q hq
  have hnow_F2 : F2 0 15 = (s : Int) := by rw [hq_F2 0 (by decide)]; exact hI_E.now
  have hC_F2 : F2 s 15 = (mk (sC P) 24 : Nat) := by rw [hq_F2 s (by omega)]; exact hI_E.S.C
  have hwA := addP_WG (x := c) (hi := hi) (gNow_WG hI_E) (by have : gN (gNow P L d) = sN P := rfl; omega) hc hh
  refine at_aload_n 36 X rfl rfl dX11_goWithPost_35 rfl ?_
  refine m_getR 39 X f_X11_63 k_0 r_0_10 dX11_goWithPost_36 rfl ?_
  refine at_aload_n 40 X rfl rfl dX11_goWithPost_39 rfl ?_
  refine m_getM 43 X (s) f_X11_93 k_0 rn_0_15 hnow_F2 dX11_goWithPost_40 rfl ?_
  refine m_getIV 46 X ((mk (sC P) 24 : Nat) : Int) hC_F2 f_X11_369 (kX9 hs) (nX9_15 hs) dX11_goWithPost_43 rfl ?_
  have := mk24 (p := sC P) (Nat.le_refl 24)
  refine at_callV 49 X _ 4 (ct_X4_settle hG F2 39 (Or.inr rfl) (addP (gNow P L d) c hi) hwA hg0_F2 (sC P)) clX4 rfl k_39 mo_X4_settle w_692 vo_X4_settle.1 vo_X4_settle.2 rfl rfl (crm Rt (by decide)) (Nat.le_of_ble_eq_true rfl) dX11_goWithPost_46 rfl ?_
  rintro _ _ ⟨rfl, F3, rfl, hg_F3, hqs_F3⟩
  have hqq_F3 : ∀ q, ¬ (39 ≤ q ∧ q ≤ 47) → F3 q = E q := fun q hq => (hqs_F3 q (by omega) (by omega) (by omega) (by omega)).trans (hq_F2 q hq)
  have hnow_F3 : F3 0 15 = (s : Int) := by rw [hqq_F3 0 (by decide)]; exact hI_E.now
  have hl_F3 : CL F3 4 L := hI_E.Lw.fr (fun q h1 h2 => hqq_F3 q (by omega))
  have hB_F3 : CB F3 (s + 8) (sB P) := hI_E.B.fr (fun q h1 h2 => hqq_F3 q (by omega))
  have hN_F3 : CN F3 12 T := hI_E.Tn.fr (fun q h1 h2 => hqq_F3 q (by omega))
  refine at_aload_n 50 X rfl rfl dX11_goWithPost_49 rfl ?_
  refine m_getR 53 X f_X11_73 k_0 r_0_12 dX11_goWithPost_50 rfl ?_
  refine at_aload_n 54 X rfl rfl dX11_goWithPost_53 rfl ?_
  refine m_getR 57 X f_X11_63 k_0 r_0_10 dX11_goWithPost_54 rfl ?_
  refine at_aload_n 58 X rfl rfl dX11_goWithPost_57 rfl ?_
  refine m_getM 61 X (s) f_X11_93 k_0 rn_0_15 hnow_F3 dX11_goWithPost_58 rfl ?_
  refine m_getR 64 X f_X11_135 (kX9 hs) (rX9_7 hs) dX11_goWithPost_61 rfl ?_
  refine at_aload_n 65 X rfl rfl dX11_goWithPost_64 rfl ?_
  refine m_getR 68 X f_X11_33 k_0 r_0_4 dX11_goWithPost_65 rfl ?_
  refine at_iconst 69 X (by decide) dX11_goWithPost_68 rfl ?_
  refine at_callV 72 X _ 3 (ct_X3_go hG F3 54 (Or.inr rfl) 39 (Or.inr rfl) (addP (gNow P L d) c hi) hwA hg_F3 hl_F3 (sB P) (s + 8) (iB_8 hs) hB_F3 hP.B T hN_F3 hI_E.WT 0 (by decide)) clX3 rfl k_54 mo_X3_go w_715 vo_X3_go.1 vo_X3_go.2 rfl rfl (crm Rt (by decide)) (Nat.le_of_ble_eq_true rfl) dX11_goWithPost_69 rfl ?_
  rintro _ _ ⟨rfl, F4, n, rfl, hn, hn2, hdn, hg_F4, hq_F4⟩
  have hn24 : n = 24 := by
    rcases hn2 with h | h
    · exact h
    · exact absurd (Nat.and_zero _) h
  subst hn24
  have hq3 : ∀ q, ¬ (39 ≤ q ∧ q ≤ 47) → ¬ (54 ≤ q ∧ q ≤ 67) → q ≠ 7 → F4 q = E q := fun q h1 h2 h3 => (hq_F4 q (by omega) (by omega) (by omega) (by omega) (by omega) (by omega) (by omega) (by omega)).trans (hqq_F3 q (by omega))
  refine at_vret X Rt ?_ (Nat.le_refl _) (Nat.le_refl _) dX11_goWithPost_72
  exact ⟨rfl, F4, rfl, hdn, hq3⟩
