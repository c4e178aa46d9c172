theorem ct_X11_needCellP {g : Gw} (hG : GF g) {z : Bool} (E : Mm) (s : Nat) (P : SP) (L : LW) (T K : LN) (d : Nat) (hI : CXI E s P L T K d) (x : Int) : CTX g yX11_needCell cX11_needCell 2 none 6 95 1 6 K2 z [mR 0, mI x] (ov E) K2 z (fun r D' => (0 ≤ x ∧ x ≤ (sW P : Int) - 1) ∧ r = none ∧ D' = ov E) (fun X D' => ¬ (0 ≤ x ∧ x ≤ (sW P : Int) - 1) ∧ X = "java/lang/IndexOutOfBoundsException" ∧ D' = ov (bumpE E 0)) := by
  have h := ct_X11_needCell hG E x s hI.sa hI.now (by rw [hI.S.W]; have := hI.WS.W; omega) (z := z)
  rw [hI.S.W] at h
  exact h
theorem ct_X11_needPostP {g : Gw} (hG : GF g) {z : Bool} (E : Mm) (s : Nat) (P : SP) (L : LW) (T K : LN) (d : Nat) (hI : CXI E s P L T K d) (x : Int) : CTX g yX11_needPost cX11_needPost 2 none 6 95 1 6 K2 z [mR 0, mI x] (ov E) K2 z (fun r D' => (0 ≤ x ∧ x ≤ (sN P : Int) - 1) ∧ r = none ∧ D' = ov E) (fun X D' => ¬ (0 ≤ x ∧ x ≤ (sN P : Int) - 1) ∧ X = "java/util/NoSuchElementException" ∧ D' = ov (bumpE E 1)) := by
  have h := ct_X11_needPost hG E x s hI.sa hI.now (by rw [hI.S.N]; have := hI.WS.N; omega) (z := z)
  rw [hI.S.N] at h
  exact h
theorem ct_X11_needBeamP {g : Gw} (hG : GF g) {z : Bool} (E : Mm) (s : Nat) (P : SP) (L : LW) (T K : LN) (d : Nat) (hI : CXI E s P L T K d) (x : Int) : CTX g yX11_needBeam cX11_needBeam 2 none 6 95 1 6 K2 z [mR 0, mI x] (ov E) K2 z (fun r D' => (0 ≤ x ∧ x ≤ (bN (sB P) : Int) - 1) ∧ r = none ∧ D' = ov E) (fun X D' => ¬ (0 ≤ x ∧ x ≤ (bN (sB P) : Int) - 1) ∧ X = "java/util/NoSuchElementException" ∧ D' = ov (bumpE E 1)) := by
  have h := ct_X11_needBeam hG E x s hI.sa hI.now (by rw [hI.B.N]; have := hI.WS.B.N; omega) (z := z)
  rw [hI.B.N] at h
  exact h
theorem dX11_needHours_0 : decode cX11_needHours 0 = .ok (.aload_n 0, 1) := by decide +kernel
theorem dX11_needHours_1 : decode cX11_needHours 1 = .ok (.iload_n 1, 1) := by decide +kernel
theorem dX11_needHours_2 : decode cX11_needHours 2 = .ok (.ifCond .lt 18, 3) := by decide +kernel
theorem dX11_needHours_5 : decode cX11_needHours 5 = .ok (.iload_n 1, 1) := by decide +kernel
theorem dX11_needHours_6 : decode cX11_needHours 6 = .ok (.iload_n 2, 1) := by decide +kernel
theorem dX11_needHours_7 : decode cX11_needHours 7 = .ok (.if_icmp .gt 13, 3) := by decide +kernel
theorem dX11_needHours_10 : decode cX11_needHours 10 = .ok (.iload_n 2, 1) := by decide +kernel
theorem dX11_needHours_11 : decode cX11_needHours 11 = .ok (.bipush 24, 2) := by decide +kernel
theorem dX11_needHours_13 : decode cX11_needHours 13 = .ok (.if_icmp .ge 7, 3) := by decide +kernel
theorem dX11_needHours_16 : decode cX11_needHours 16 = .ok (.iconst 1, 1) := by decide +kernel
theorem dX11_needHours_17 : decode cX11_needHours 17 = .ok (.goto 4, 3) := by decide +kernel
theorem dX11_needHours_20 : decode cX11_needHours 20 = .ok (.iconst 0, 1) := by decide +kernel
theorem dX11_needHours_21 : decode cX11_needHours 21 = .ok (.invokevirtual 164, 3) := by decide +kernel
theorem dX11_needHours_24 : decode cX11_needHours 24 = .ok (.return_, 1) := by decide +kernel
theorem ct_X11_needHours {g : Gw} (hG : GF g) {z : Bool} (E : Mm) (x y : Int) : CTX g yX11_needHours cX11_needHours 3 none 7 111 1 6 K2 z [mR 0, mI x, mI y] (ov E) K2 z (fun r D' => (0 ≤ x ∧ x ≤ y ∧ y < 24) ∧ r = none ∧ D' = ov E) (fun X D' => ¬ (0 ≤ x ∧ x ≤ y ∧ y < 24) ∧ X = "java/lang/IllegalArgumentException" ∧ D' = ov (bumpE E 2)) := by
  refine CTX.mk hG (by decide +kernel) (Nat.le_of_ble_eq_true rfl) (fun κ X Rt Rx ok => ?_)
  refine at_aload_n 1 X rfl rfl dX11_needHours_0 rfl ?_
  refine at_iload_n 2 X rfl rfl dX11_needHours_1 rfl ?_
  refine at_if_lt 5 20 X dX11_needHours_2 rfl (by decide) (fun h2 => ?_) (fun h2 => ?_)
  · refine at_iconst 21 X (by decide) dX11_needHours_20 rfl ?_
    refine at_callVX 24 X Rt Rx _ 11 (ct_X11_need hG E 0) clX11 rfl k_0 mo_X11_need w_863 vo_X11_need.1 vo_X11_need.2 rfl rfl (by decide) (Nat.le_of_ble_eq_true rfl) dX11_needHours_21 rfl (fun _ _ h => ⟨by omega, h.2⟩) ?_
    rintro _ _ ⟨hq, _, _⟩
    exact absurd rfl hq
  · refine at_iload_n 6 X rfl rfl dX11_needHours_5 rfl ?_
    refine at_iload_n 7 X rfl rfl dX11_needHours_6 rfl ?_
    refine at_icmp_gt 10 20 X dX11_needHours_7 rfl (by decide) (fun h7 => ?_) (fun h7 => ?_)
    · refine at_iconst 21 X (by decide) dX11_needHours_20 rfl ?_
      refine at_callVX 24 X Rt Rx _ 11 (ct_X11_need hG E 0) clX11 rfl k_0 mo_X11_need w_863 vo_X11_need.1 vo_X11_need.2 rfl rfl (by decide) (Nat.le_of_ble_eq_true rfl) dX11_needHours_21 rfl (fun _ _ h => ⟨by omega, h.2⟩) ?_
      rintro _ _ ⟨hq, _, _⟩
      exact absurd rfl hq
    · refine at_iload_n 11 X rfl rfl dX11_needHours_10 rfl ?_
      refine at_bipush 13 X (by decide) (by decide) dX11_needHours_11 rfl ?_
      refine at_icmp_ge 16 20 X dX11_needHours_13 rfl (by decide) (fun h13 => ?_) (fun h13 => ?_)
      · refine at_iconst 21 X (by decide) dX11_needHours_20 rfl ?_
        refine at_callVX 24 X Rt Rx _ 11 (ct_X11_need hG E 0) clX11 rfl k_0 mo_X11_need w_863 vo_X11_need.1 vo_X11_need.2 rfl rfl (by decide) (Nat.le_of_ble_eq_true rfl) dX11_needHours_21 rfl (fun _ _ h => ⟨by omega, h.2⟩) ?_
        rintro _ _ ⟨hq, _, _⟩
        exact absurd rfl hq
      · refine at_iconst 17 X (by decide) dX11_needHours_16 rfl ?_
        refine at_goto 21 X dX11_needHours_17 (by decide) ?_
        refine at_callVX 24 X Rt Rx _ 11 (ct_X11_need hG E 1) clX11 rfl k_0 mo_X11_need w_863 vo_X11_need.1 vo_X11_need.2 rfl rfl (by decide) (Nat.le_of_ble_eq_true rfl) dX11_needHours_21 rfl (fun _ _ h => absurd h.1 (by decide)) ?_
        rintro _ _ ⟨_, rfl, rfl⟩
        refine at_vret X Rt ?_ (by decide) (by decide) dX11_needHours_24
        exact ⟨by omega, rfl, rfl⟩
theorem dX11_post_0 : decode cX11_post 0 = .ok (.aload_n 0, 1) := by decide +kernel
theorem dX11_post_1 : decode cX11_post 1 = .ok (.iload_n 1, 1) := by decide +kernel
theorem dX11_post_2 : decode cX11_post 2 = .ok (.invokevirtual 196, 3) := by decide +kernel
theorem dX11_post_5 : decode cX11_post 5 = .ok (.aload_n 0, 1) := by decide +kernel
theorem dX11_post_6 : decode cX11_post 6 = .ok (.iload_n 2, 1) := by decide +kernel
theorem dX11_post_7 : decode cX11_post 7 = .ok (.iconst 1, 1) := by decide +kernel
theorem dX11_post_8 : decode cX11_post 8 = .ok (.invokevirtual 199, 3) := by decide +kernel
theorem dX11_post_11 : decode cX11_post 11 = .ok (.iload_n 2, 1) := by decide +kernel
theorem dX11_post_12 : decode cX11_post 12 = .ok (.ifCond .ne 15, 3) := by decide +kernel
theorem dX11_post_15 : decode cX11_post 15 = .ok (.aload_n 0, 1) := by decide +kernel
theorem dX11_post_16 : decode cX11_post 16 = .ok (.getfield 93, 3) := by decide +kernel
theorem dX11_post_19 : decode cX11_post 19 = .ok (.getfield 202, 3) := by decide +kernel
theorem dX11_post_22 : decode cX11_post 22 = .ok (.iload_n 1, 1) := by decide +kernel
theorem dX11_post_23 : decode cX11_post 23 = .ok (.iaload, 1) := by decide +kernel
theorem dX11_post_24 : decode cX11_post 24 = .ok (.goto 12, 3) := by decide +kernel
theorem dX11_post_27 : decode cX11_post 27 = .ok (.aload_n 0, 1) := by decide +kernel
theorem dX11_post_28 : decode cX11_post 28 = .ok (.getfield 93, 3) := by decide +kernel
theorem dX11_post_31 : decode cX11_post 31 = .ok (.getfield 205, 3) := by decide +kernel
theorem dX11_post_34 : decode cX11_post 34 = .ok (.iload_n 1, 1) := by decide +kernel
theorem dX11_post_35 : decode cX11_post 35 = .ok (.iaload, 1) := by decide +kernel
theorem dX11_post_36 : decode cX11_post 36 = .ok (.ireturn, 1) := by decide +kernel
theorem ct_X11_post {g : Gw} (hG : GF g) {z : Bool} (E : Mm) (s : Nat) (P : SP) (L : LW) (T K : LN) (d : Nat) (hI_E : CXI E s P L T K d) (x0 x1 : Int) : CTX g yX11_post cX11_post 3 (some .int) 8 133 2 12 K2 z [mR 0, mI x0, mI x1] (ov E) K2 z (fun r' D' => (0 ≤ x0 ∧ x0 ≤ (sN P : Int) - 1) ∧ (0 ≤ x1 ∧ x1 ≤ 1) ∧ r' = some (mI (if x1 = 0 then (sX P x0.toNat : Int) else (sH P x0.toNat : Int))) ∧ ∃ E1, D' = ov E1 ∧ CXI E1 s P L T K d ∧ CXF E E1) (fun X D' => (¬ (0 ≤ x0 ∧ x0 ≤ (sN P : Int) - 1) ∧ X = "java/util/NoSuchElementException" ∧ D' = ov (bumpE E 1)) ∨ ((0 ≤ x0 ∧ x0 ≤ (sN P : Int) - 1) ∧ ¬ (0 ≤ x1 ∧ x1 ≤ 1) ∧ X = "java/lang/IllegalArgumentException" ∧ D' = ov (bumpE E 2))) := by
  refine CTX.mk hG (by decide +kernel) (Nat.le_of_ble_eq_true rfl) (fun κ X Rt Rx ok => ?_)
  have hs := hI_E.sa
  have hP := hI_E.WS
  have hW40 := hP.W
  have hN10 := hP.N
  have hN8 := hP.B.N
  have hX_E : CXF E E := CXF.rf
  have hwG := gNow_WG hI_E
  have hgw : gW (gNow P L d) = sW P := rfl
  have hgn : gN (gNow P L d) = sN P := rfl
  refine at_aload_n 1 X rfl rfl dX11_post_0 rfl ?_
  refine at_iload_n 2 X rfl rfl dX11_post_1 rfl ?_
  refine at_callVX 5 X Rt Rx _ 11 (ct_X11_needPostP hG E s P L T K d hI_E x0) clX11 rfl k_0 mo_X11_needPost w_1207 vo_X11_needPost.1 vo_X11_needPost.2 rfl rfl (by decide) (Nat.le_of_ble_eq_true rfl) dX11_post_2 rfl (fun _ _ h => Or.inl ⟨h.1, h.2.1, h.2.2⟩) ?_
  rintro _ _ ⟨hc0, rfl, rfl⟩
  refine at_aload_n 6 X rfl rfl dX11_post_5 rfl ?_
  refine at_iload_n 7 X rfl rfl dX11_post_6 rfl ?_
  refine at_iconst 8 X (by decide) dX11_post_7 rfl ?_
  refine at_callVX 11 X Rt Rx _ 11 (ct_X11_needWhat hG E x1 1) clX11 rfl k_0 mo_X11_needWhat w_1228 vo_X11_needWhat.1 vo_X11_needWhat.2 rfl rfl (by decide) (Nat.le_of_ble_eq_true rfl) dX11_post_8 rfl (fun _ _ h => Or.inr (⟨hc0, h.1, h.2.1, h.2.2⟩)) ?_
  rintro _ _ ⟨hc1, rfl, rfl⟩
  obtain ⟨p, rfl⟩ : ∃ p : Nat, x0 = (p : Int) := ⟨x0.toNat, by omega⟩
  refine at_iload_n 12 X rfl rfl dX11_post_11 rfl ?_
  refine at_if_ne 15 27 X dX11_post_12 rfl (by decide) (fun h12 => ?_) (fun h12 => ?_)
  · refine at_aload_n 28 X rfl rfl dX11_post_27 rfl ?_
    refine m_getM 31 X (s) f_X11_93 k_0 rn_0_15 hI_E.now dX11_post_28 rfl ?_
    refine m_getR 34 X f_X11_205 (kX9 hs) (rX9_1 hs) dX11_post_31 rfl ?_
    refine at_iload_n 35 X rfl rfl dX11_post_34 rfl ?_
    refine m_ialoadV 36 X p (by omega) ((sH P p : Nat) : Int) (hI_E.S.H (p := p) (by omega)) (kX9_1 hs) (eX9_1 hs) (by omega) dX11_post_35 rfl ?_
    have := hP.H (p := p) (by omega)
    refine at_iret X Rt ?_ (by decide) (by decide) dX11_post_36
    exact ⟨hc0, hc1, (by first | (rw [if_pos (by omega)]; rfl) | (rw [if_neg (by omega)]; rfl)), _, rfl, hI_E, hX_E⟩
  · refine at_aload_n 16 X rfl rfl dX11_post_15 rfl ?_
    refine m_getM 19 X (s) f_X11_93 k_0 rn_0_15 hI_E.now dX11_post_16 rfl ?_
    refine m_getR 22 X f_X11_202 (kX9 hs) (rX9_0 hs) dX11_post_19 rfl ?_
    refine at_iload_n 23 X rfl rfl dX11_post_22 rfl ?_
    refine m_ialoadV 24 X p (by omega) ((sX P p : Nat) : Int) (hI_E.S.X (p := p) (by omega)) (kX9_0 hs) (eX9_0 hs) (by omega) dX11_post_23 rfl ?_
    have := hP.X (p := p) (by omega)
    refine at_goto 36 X dX11_post_24 (by decide) ?_
    refine at_iret X Rt ?_ (by decide) (by decide) dX11_post_36
    exact ⟨hc0, hc1, (by first | (rw [if_pos (by omega)]; rfl) | (rw [if_neg (by omega)]; rfl)), _, rfl, hI_E, hX_E⟩
theorem dX11_beam_0 : decode cX11_beam 0 = .ok (.aload_n 0, 1) := by decide +kernel
theorem dX11_beam_1 : decode cX11_beam 1 = .ok (.iload_n 1, 1) := by decide +kernel
theorem dX11_beam_2 : decode cX11_beam 2 = .ok (.invokevirtual 208, 3) := by decide +kernel
theorem dX11_beam_5 : decode cX11_beam 5 = .ok (.aload_n 0, 1) := by decide +kernel
theorem dX11_beam_6 : decode cX11_beam 6 = .ok (.iload_n 2, 1) := by decide +kernel
theorem dX11_beam_7 : decode cX11_beam 7 = .ok (.iconst 3, 1) := by decide +kernel
theorem dX11_beam_8 : decode cX11_beam 8 = .ok (.invokevirtual 199, 3) := by decide +kernel
theorem dX11_beam_11 : decode cX11_beam 11 = .ok (.iload_n 2, 1) := by decide +kernel
theorem dX11_beam_12 : decode cX11_beam 12 = .ok (.tableswitch 67 0 2 #[28, 41, 54], 28) := by decide +kernel
theorem dX11_beam_40 : decode cX11_beam 40 = .ok (.aload_n 0, 1) := by decide +kernel
theorem dX11_beam_41 : decode cX11_beam 41 = .ok (.getfield 93, 3) := by decide +kernel
theorem dX11_beam_44 : decode cX11_beam 44 = .ok (.getfield 135, 3) := by decide +kernel
theorem dX11_beam_47 : decode cX11_beam 47 = .ok (.getfield 211, 3) := by decide +kernel
theorem dX11_beam_50 : decode cX11_beam 50 = .ok (.iload_n 1, 1) := by decide +kernel
theorem dX11_beam_51 : decode cX11_beam 51 = .ok (.iaload, 1) := by decide +kernel
theorem dX11_beam_52 : decode cX11_beam 52 = .ok (.ireturn, 1) := by decide +kernel
theorem dX11_beam_53 : decode cX11_beam 53 = .ok (.aload_n 0, 1) := by decide +kernel
theorem dX11_beam_54 : decode cX11_beam 54 = .ok (.getfield 93, 3) := by decide +kernel
theorem dX11_beam_57 : decode cX11_beam 57 = .ok (.getfield 135, 3) := by decide +kernel
theorem dX11_beam_60 : decode cX11_beam 60 = .ok (.getfield 214, 3) := by decide +kernel
theorem dX11_beam_63 : decode cX11_beam 63 = .ok (.iload_n 1, 1) := by decide +kernel
theorem dX11_beam_64 : decode cX11_beam 64 = .ok (.iaload, 1) := by decide +kernel
theorem dX11_beam_65 : decode cX11_beam 65 = .ok (.ireturn, 1) := by decide +kernel
theorem dX11_beam_66 : decode cX11_beam 66 = .ok (.aload_n 0, 1) := by decide +kernel
theorem dX11_beam_67 : decode cX11_beam 67 = .ok (.getfield 93, 3) := by decide +kernel
theorem dX11_beam_70 : decode cX11_beam 70 = .ok (.getfield 135, 3) := by decide +kernel
theorem dX11_beam_73 : decode cX11_beam 73 = .ok (.getfield 217, 3) := by decide +kernel
theorem dX11_beam_76 : decode cX11_beam 76 = .ok (.iload_n 1, 1) := by decide +kernel
theorem dX11_beam_77 : decode cX11_beam 77 = .ok (.iaload, 1) := by decide +kernel
theorem dX11_beam_78 : decode cX11_beam 78 = .ok (.ireturn, 1) := by decide +kernel
theorem dX11_beam_79 : decode cX11_beam 79 = .ok (.aload_n 0, 1) := by decide +kernel
theorem dX11_beam_80 : decode cX11_beam 80 = .ok (.getfield 93, 3) := by decide +kernel
theorem dX11_beam_83 : decode cX11_beam 83 = .ok (.getfield 135, 3) := by decide +kernel
theorem dX11_beam_86 : decode cX11_beam 86 = .ok (.iload_n 1, 1) := by decide +kernel
theorem dX11_beam_87 : decode cX11_beam 87 = .ok (.invokevirtual 220, 3) := by decide +kernel
theorem dX11_beam_90 : decode cX11_beam 90 = .ok (.ireturn, 1) := by decide +kernel
theorem ct_X11_beam {g : Gw} (hG : GF g) {z : Bool} (E : Mm) (s : Nat) (P : SP) (L : LW) (T K : LN) (d : Nat) (hI_E : CXI E s P L T K d) (x0 x1 : Int) : CTX g yX11_beam cX11_beam 3 (some .int) 8 133 2 12 K2 z [mR 0, mI x0, mI x1] (ov E) K2 z (fun r' D' => (0 ≤ x0 ∧ x0 ≤ (bN (sB P) : Int) - 1) ∧ (0 ≤ x1 ∧ x1 ≤ 3) ∧ r' = some (mI (if x1 = 0 then (bX (sB P) x0.toNat : Int) else if x1 = 1 then (bL (sB P) x0.toNat : Int) else if x1 = 2 then (bH (sB P) x0.toNat : Int) else (allB (sB P) x0.toNat (bL (sB P) x0.toNat) : Int))) ∧ ∃ E1, D' = ov E1 ∧ CXI E1 s P L T K d ∧ CXF E E1) (fun X D' => (¬ (0 ≤ x0 ∧ x0 ≤ (bN (sB P) : Int) - 1) ∧ X = "java/util/NoSuchElementException" ∧ D' = ov (bumpE E 1)) ∨ ((0 ≤ x0 ∧ x0 ≤ (bN (sB P) : Int) - 1) ∧ ¬ (0 ≤ x1 ∧ x1 ≤ 3) ∧ X = "java/lang/IllegalArgumentException" ∧ D' = ov (bumpE E 2))) := by
  refine CTX.mk hG (by decide +kernel) (Nat.le_of_ble_eq_true rfl) (fun κ X Rt Rx ok => ?_)
  have hs := hI_E.sa
  have hP := hI_E.WS
  have hW40 := hP.W
  have hN10 := hP.N
  have hN8 := hP.B.N
  have hX_E : CXF E E := CXF.rf
  have hwG := gNow_WG hI_E
  have hgw : gW (gNow P L d) = sW P := rfl
  have hgn : gN (gNow P L d) = sN P := rfl
  refine at_aload_n 1 X rfl rfl dX11_beam_0 rfl ?_
  refine at_iload_n 2 X rfl rfl dX11_beam_1 rfl ?_
  refine at_callVX 5 X Rt Rx _ 11 (ct_X11_needBeamP hG E s P L T K d hI_E x0) clX11 rfl k_0 mo_X11_needBeam w_1239 vo_X11_needBeam.1 vo_X11_needBeam.2 rfl rfl (by decide) (Nat.le_of_ble_eq_true rfl) dX11_beam_2 rfl (fun _ _ h => Or.inl ⟨h.1, h.2.1, h.2.2⟩) ?_
  rintro _ _ ⟨hc0, rfl, rfl⟩
  refine at_aload_n 6 X rfl rfl dX11_beam_5 rfl ?_
  refine at_iload_n 7 X rfl rfl dX11_beam_6 rfl ?_
  refine at_iconst 8 X (by decide) dX11_beam_7 rfl ?_
  refine at_callVX 11 X Rt Rx _ 11 (ct_X11_needWhat hG E x1 3) clX11 rfl k_0 mo_X11_needWhat w_1228 vo_X11_needWhat.1 vo_X11_needWhat.2 rfl rfl (by decide) (Nat.le_of_ble_eq_true rfl) dX11_beam_8 rfl (fun _ _ h => Or.inr (⟨hc0, h.1, h.2.1, h.2.2⟩)) ?_
  rintro _ _ ⟨hc1, rfl, rfl⟩
  obtain ⟨p, rfl⟩ : ∃ p : Nat, x0 = (p : Int) := ⟨x0.toNat, by omega⟩
  refine at_iload_n 12 X rfl rfl dX11_beam_11 rfl ?_
  rcases (show x1 = 0 ∨ x1 = 1 ∨ x1 = 2 ∨ (x1 < 0 ∨ 2 < x1) by omega) with h12 | h12 | h12 | h12
  · refine at_tswIn 40 X dX11_beam_12 (by omega) (by rw [h12]; rfl) (by decide) ?_
    refine at_aload_n 41 X rfl rfl dX11_beam_40 rfl ?_
    refine m_getM 44 X (s) f_X11_93 k_0 rn_0_15 hI_E.now dX11_beam_41 rfl ?_
    refine m_getR 47 X f_X11_135 (kX9 hs) (rX9_7 hs) dX11_beam_44 rfl ?_
    refine m_getR 50 X f_X11_211 (kX0 (iB_8 hs)) (rX0_0 (iB_8 hs)) dX11_beam_47 rfl ?_
    refine at_iload_n 51 X rfl rfl dX11_beam_50 rfl ?_
    refine m_ialoadV 52 X p (by omega) ((bX (sB P) p : Nat) : Int) (hI_E.B.X (b := p) (by omega)) (kX0_0 (iB_8 hs)) (eX0_0 (iB_8 hs)) (by omega) dX11_beam_51 rfl ?_
    have := hP.B.X (b := p) (by omega)
    refine at_iret X Rt ?_ (by decide) (by decide) dX11_beam_52
    exact ⟨hc0, hc1, (by repeat (first | rfl | rw [if_pos (by omega)] | rw [if_neg (by omega)])), _, rfl, hI_E, hX_E⟩
  · refine at_tswIn 53 X dX11_beam_12 (by omega) (by rw [h12]; rfl) (by decide) ?_
    refine at_aload_n 54 X rfl rfl dX11_beam_53 rfl ?_
    refine m_getM 57 X (s) f_X11_93 k_0 rn_0_15 hI_E.now dX11_beam_54 rfl ?_
    refine m_getR 60 X f_X11_135 (kX9 hs) (rX9_7 hs) dX11_beam_57 rfl ?_
    refine m_getR 63 X f_X11_214 (kX0 (iB_8 hs)) (rX0_1 (iB_8 hs)) dX11_beam_60 rfl ?_
    refine at_iload_n 64 X rfl rfl dX11_beam_63 rfl ?_
    refine m_ialoadV 65 X p (by omega) ((bL (sB P) p : Nat) : Int) (hI_E.B.L (b := p) (by omega)) (kX0_1 (iB_8 hs)) (eX0_1 (iB_8 hs)) (by omega) dX11_beam_64 rfl ?_
    have := hP.B.L (b := p) (by omega)
    refine at_iret X Rt ?_ (by decide) (by decide) dX11_beam_65
    exact ⟨hc0, hc1, (by repeat (first | rfl | rw [if_pos (by omega)] | rw [if_neg (by omega)])), _, rfl, hI_E, hX_E⟩
  · refine at_tswIn 66 X dX11_beam_12 (by omega) (by rw [h12]; rfl) (by decide) ?_
    refine at_aload_n 67 X rfl rfl dX11_beam_66 rfl ?_
    refine m_getM 70 X (s) f_X11_93 k_0 rn_0_15 hI_E.now dX11_beam_67 rfl ?_
    refine m_getR 73 X f_X11_135 (kX9 hs) (rX9_7 hs) dX11_beam_70 rfl ?_
    refine m_getR 76 X f_X11_217 (kX0 (iB_8 hs)) (rX0_2 (iB_8 hs)) dX11_beam_73 rfl ?_
    refine at_iload_n 77 X rfl rfl dX11_beam_76 rfl ?_
    refine m_ialoadV 78 X p (by omega) ((bH (sB P) p : Nat) : Int) (hI_E.B.H (b := p) (by omega)) (kX0_2 (iB_8 hs)) (eX0_2 (iB_8 hs)) (by omega) dX11_beam_77 rfl ?_
    have := hP.B.H (b := p) (by omega)
    refine at_iret X Rt ?_ (by decide) (by decide) dX11_beam_78
    exact ⟨hc0, hc1, (by repeat (first | rfl | rw [if_pos (by omega)] | rw [if_neg (by omega)])), _, rfl, hI_E, hX_E⟩
  · refine at_tswOut 79 X dX11_beam_12 h12 (by decide) ?_
    refine at_aload_n 80 X rfl rfl dX11_beam_79 rfl ?_
    refine m_getM 83 X (s) f_X11_93 k_0 rn_0_15 hI_E.now dX11_beam_80 rfl ?_
    refine m_getR 86 X f_X11_135 (kX9 hs) (rX9_7 hs) dX11_beam_83 rfl ?_
    refine at_iload_n 87 X rfl rfl dX11_beam_86 rfl ?_
    refine at_callV 90 X _ 0 (ct_X0_allOf hG E (sB P) (s + 8) (sW P) (iB_8 hs) hI_E.B hP.B hP.W.2 p (by omega)) clX0 rfl (kX0 (iB_8 hs)) mo_X0_allOf w_1244 vo_X0_allOf.1 vo_X0_allOf.2 rfl rfl (crm Rt (by decide)) (Nat.le_of_ble_eq_true rfl) dX11_beam_87 rfl ?_
    rintro _ _ ⟨rfl, rfl⟩
    refine at_iret X Rt ?_ (by decide) (by decide) dX11_beam_90
    exact ⟨hc0, hc1, (by repeat (first | rfl | rw [if_pos (by omega)] | rw [if_neg (by omega)])), _, rfl, hI_E, hX_E⟩
theorem dX11_shade_0 : decode cX11_shade 0 = .ok (.aload_n 0, 1) := by decide +kernel
theorem dX11_shade_1 : decode cX11_shade 1 = .ok (.iload_n 1, 1) := by decide +kernel
theorem dX11_shade_2 : decode cX11_shade 2 = .ok (.invokevirtual 243, 3) := by decide +kernel
theorem dX11_shade_5 : decode cX11_shade 5 = .ok (.aload_n 0, 1) := by decide +kernel
theorem dX11_shade_6 : decode cX11_shade 6 = .ok (.iload_n 2, 1) := by decide +kernel
theorem dX11_shade_7 : decode cX11_shade 7 = .ok (.invokevirtual 196, 3) := by decide +kernel
theorem dX11_shade_10 : decode cX11_shade 10 = .ok (.aload_n 0, 1) := by decide +kernel
theorem dX11_shade_11 : decode cX11_shade 11 = .ok (.iload_n 3, 1) := by decide +kernel
theorem dX11_shade_12 : decode cX11_shade 12 = .ok (.invokevirtual 224, 3) := by decide +kernel
theorem dX11_shade_15 : decode cX11_shade 15 = .ok (.aload_n 0, 1) := by decide +kernel
theorem dX11_shade_16 : decode cX11_shade 16 = .ok (.invokevirtual 227, 3) := by decide +kernel
theorem dX11_shade_19 : decode cX11_shade 19 = .ok (.aload_n 0, 1) := by decide +kernel
theorem dX11_shade_20 : decode cX11_shade 20 = .ok (.getfield 59, 3) := by decide +kernel
theorem dX11_shade_23 : decode cX11_shade 23 = .ok (.iload_n 1, 1) := by decide +kernel
theorem dX11_shade_24 : decode cX11_shade 24 = .ok (.iload_n 3, 1) := by decide +kernel
theorem dX11_shade_25 : decode cX11_shade 25 = .ok (.invokevirtual 246, 3) := by decide +kernel
theorem dX11_shade_28 : decode cX11_shade 28 = .ok (.iload_n 2, 1) := by decide +kernel
theorem dX11_shade_29 : decode cX11_shade 29 = .ok (.ishr, 1) := by decide +kernel
theorem dX11_shade_30 : decode cX11_shade 30 = .ok (.iconst 1, 1) := by decide +kernel
theorem dX11_shade_31 : decode cX11_shade 31 = .ok (.iand, 1) := by decide +kernel
theorem dX11_shade_32 : decode cX11_shade 32 = .ok (.iconst 1, 1) := by decide +kernel
theorem dX11_shade_33 : decode cX11_shade 33 = .ok (.if_icmp .ne 7, 3) := by decide +kernel
theorem dX11_shade_36 : decode cX11_shade 36 = .ok (.iconst 1, 1) := by decide +kernel
theorem dX11_shade_37 : decode cX11_shade 37 = .ok (.goto 4, 3) := by decide +kernel
theorem dX11_shade_40 : decode cX11_shade 40 = .ok (.iconst 0, 1) := by decide +kernel
theorem dX11_shade_41 : decode cX11_shade 41 = .ok (.ireturn, 1) := by decide +kernel
theorem ct_X11_shade {g : Gw} (hG : GF g) {z : Bool} (E : Mm) (s : Nat) (P : SP) (L : LW) (T K : LN) (d : Nat) (hI_E : CXI E s P L T K d) (x0 x1 x2 : Int) : CTX g yX11_shade cX11_shade 4 (some .boolean) 8 146 3 18 K2 z [mR 0, mI x0, mI x1, mI x2] (ov E) K2 z (fun r' D' => (0 ≤ x0 ∧ x0 ≤ (sW P : Int) - 1) ∧ (0 ≤ x1 ∧ x1 ≤ (sN P : Int) - 1) ∧ (0 ≤ x2 ∧ x2 ≤ 23) ∧ r' = some (mI (if (shd (gNow P L d) (gLm (gNow P L d) x0.toNat) x2.toNat x0.toNat).testBit x1.toNat then 1 else 0)) ∧ ∃ E1, D' = ov E1 ∧ CXI E1 s P L T K d ∧ CXF E E1) (fun X D' => (¬ (0 ≤ x0 ∧ x0 ≤ (sW P : Int) - 1) ∧ X = "java/lang/IndexOutOfBoundsException" ∧ D' = ov (bumpE E 0)) ∨ ((0 ≤ x0 ∧ x0 ≤ (sW P : Int) - 1) ∧ ¬ (0 ≤ x1 ∧ x1 ≤ (sN P : Int) - 1) ∧ X = "java/util/NoSuchElementException" ∧ D' = ov (bumpE E 1)) ∨ ((0 ≤ x0 ∧ x0 ≤ (sW P : Int) - 1) ∧ (0 ≤ x1 ∧ x1 ≤ (sN P : Int) - 1) ∧ ¬ (0 ≤ x2 ∧ x2 ≤ 23) ∧ X = "java/lang/IllegalArgumentException" ∧ D' = ov (bumpE E 2))) := by
  refine CTX.mk hG (by decide +kernel) (Nat.le_of_ble_eq_true rfl) (fun κ X Rt Rx ok => ?_)
  have hs := hI_E.sa
  have hP := hI_E.WS
  have hW40 := hP.W
  have hN10 := hP.N
  have hN8 := hP.B.N
  have hX_E : CXF E E := CXF.rf
  have hwG := gNow_WG hI_E
  have hgw : gW (gNow P L d) = sW P := rfl
  have hgn : gN (gNow P L d) = sN P := rfl
  refine at_aload_n 1 X rfl rfl dX11_shade_0 rfl ?_
  refine at_iload_n 2 X rfl rfl dX11_shade_1 rfl ?_
  refine at_callVX 5 X Rt Rx _ 11 (ct_X11_needCellP hG E s P L T K d hI_E x0) clX11 rfl k_0 mo_X11_needCell w_1272 vo_X11_needCell.1 vo_X11_needCell.2 rfl rfl (by decide) (Nat.le_of_ble_eq_true rfl) dX11_shade_2 rfl (fun _ _ h => Or.inl ⟨h.1, h.2.1, h.2.2⟩) ?_
  rintro _ _ ⟨hc0, rfl, rfl⟩
  refine at_aload_n 6 X rfl rfl dX11_shade_5 rfl ?_
  refine at_iload_n 7 X rfl rfl dX11_shade_6 rfl ?_
  refine at_callVX 10 X Rt Rx _ 11 (ct_X11_needPostP hG E s P L T K d hI_E x1) clX11 rfl k_0 mo_X11_needPost w_1207 vo_X11_needPost.1 vo_X11_needPost.2 rfl rfl (by decide) (Nat.le_of_ble_eq_true rfl) dX11_shade_7 rfl (fun _ _ h => Or.inr (Or.inl ⟨hc0, h.1, h.2.1, h.2.2⟩)) ?_
  rintro _ _ ⟨hc1, rfl, rfl⟩
  refine at_aload_n 11 X rfl rfl dX11_shade_10 rfl ?_
  refine at_iload_n 12 X rfl rfl dX11_shade_11 rfl ?_
  refine at_callVX 15 X Rt Rx _ 11 (ct_X11_needHour hG E x2) clX11 rfl k_0 mo_X11_needHour w_1259 vo_X11_needHour.1 vo_X11_needHour.2 rfl rfl (by decide) (Nat.le_of_ble_eq_true rfl) dX11_shade_12 rfl (fun _ _ h => Or.inr (Or.inr (⟨hc0, hc1, h.1, h.2.1, h.2.2⟩))) ?_
  rintro _ _ ⟨hc2, rfl, rfl⟩
  obtain ⟨c, rfl⟩ : ∃ c : Nat, x0 = (c : Int) := ⟨x0.toNat, by omega⟩
  obtain ⟨p, rfl⟩ : ∃ p : Nat, x1 = (p : Int) := ⟨x1.toNat, by omega⟩
  obtain ⟨h, rfl⟩ : ∃ h : Nat, x2 = (h : Int) := ⟨x2.toNat, by omega⟩
  refine at_aload_n 16 X rfl rfl dX11_shade_15 rfl ?_
  refine at_callV 19 X _ 11 (ct_X11_refresh hG E s P L T K d hI_E) clX11 rfl k_0 mo_X11_refresh w_665 vo_X11_refresh.1 vo_X11_refresh.2 rfl rfl (crm Rt (by decide)) (Nat.le_of_ble_eq_true rfl) dX11_shade_16 rfl ?_
  rintro _ _ ⟨rfl, F1, rfl, hI_F1, hF_F1, hXn_F1⟩
  have hX_F1 := hX_E.tr hXn_F1
  refine at_aload_n 20 X rfl rfl dX11_shade_19 rfl ?_
  refine m_getR 23 X f_X11_59 k_0 r_0_9 dX11_shade_20 rfl ?_
  refine at_iload_n 24 X rfl rfl dX11_shade_23 rfl ?_
  refine at_iload_n 25 X rfl rfl dX11_shade_24 rfl ?_
  refine at_callV 28 X _ 4 (ct_X4_shadesOn hG F1 30 (Or.inl rfl) (gNow P L d) hwG hF_F1.1 h c (by omega) (by omega)) clX4 rfl k_30 mo_X4_shadesOn w_1292 vo_X4_shadesOn.1 vo_X4_shadesOn.2 rfl rfl (crm Rt (by decide)) (Nat.le_of_ble_eq_true rfl) dX11_shade_25 rfl ?_
  rintro _ _ ⟨rfl, rfl⟩
  have := shd_lt (gNow P L d) hwG.N (gLm (gNow P L d) c) h c
  refine at_iload_n 29 X rfl rfl dX11_shade_28 rfl ?_
  refine at_ishrV 30 X (ishr ((shd (gNow P L d) (gLm (gNow P L d) c) h c : Nat) : Int) ((p : Nat) : Int)) rfl dX11_shade_29 rfl ?_
  refine at_iconst 31 X (by decide) dX11_shade_30 rfl ?_
  refine at_iandV 32 X (if (shd (gNow P L d) (gLm (gNow P L d) c) h c).testBit p = true then 1 else 0) (ibit (by omega) (by omega)) dX11_shade_31 rfl ?_
  refine at_iconst 33 X (by decide) dX11_shade_32 rfl ?_
  refine at_icmp_ne 36 40 X dX11_shade_33 rfl (by decide) (fun h33 => ?_) (fun h33 => ?_)
  · refine at_iconst 41 X (by decide) dX11_shade_40 rfl ?_
    refine at_zret X Rt ?_ (by first | decide | (split <;> decide)) (by decide) (by decide) dX11_shade_41
    exact ⟨hc0, hc1, hc2, (by split at h33 <;> first | (exfalso; omega) | (rename_i k; exact congrArg (fun q => some (mI q)) (if_pos k).symm) | (rename_i k; exact congrArg (fun q => some (mI q)) (if_neg k).symm)), _, rfl, hI_F1, hX_F1⟩
  · refine at_iconst 37 X (by decide) dX11_shade_36 rfl ?_
    refine at_goto 41 X dX11_shade_37 (by decide) ?_
    refine at_zret X Rt ?_ (by first | decide | (split <;> decide)) (by decide) (by decide) dX11_shade_41
    exact ⟨hc0, hc1, hc2, (by split at h33 <;> first | (exfalso; omega) | (rename_i k; exact congrArg (fun q => some (mI q)) (if_pos k).symm) | (rename_i k; exact congrArg (fun q => some (mI q)) (if_neg k).symm)), _, rfl, hI_F1, hX_F1⟩
theorem dX11_bears_0 : decode cX11_bears 0 = .ok (.aload_n 0, 1) := by decide +kernel
theorem dX11_bears_1 : decode cX11_bears 1 = .ok (.iload_n 1, 1) := by decide +kernel
theorem dX11_bears_2 : decode cX11_bears 2 = .ok (.invokevirtual 243, 3) := by decide +kernel
theorem dX11_bears_5 : decode cX11_bears 5 = .ok (.aload_n 0, 1) := by decide +kernel
theorem dX11_bears_6 : decode cX11_bears 6 = .ok (.iload_n 2, 1) := by decide +kernel
theorem dX11_bears_7 : decode cX11_bears 7 = .ok (.invokevirtual 224, 3) := by decide +kernel
theorem dX11_bears_10 : decode cX11_bears 10 = .ok (.aload_n 0, 1) := by decide +kernel
theorem dX11_bears_11 : decode cX11_bears 11 = .ok (.invokevirtual 227, 3) := by decide +kernel
theorem dX11_bears_14 : decode cX11_bears 14 = .ok (.aload_n 0, 1) := by decide +kernel
theorem dX11_bears_15 : decode cX11_bears 15 = .ok (.getfield 59, 3) := by decide +kernel
theorem dX11_bears_18 : decode cX11_bears 18 = .ok (.iload_n 1, 1) := by decide +kernel
theorem dX11_bears_19 : decode cX11_bears 19 = .ok (.iload_n 2, 1) := by decide +kernel
theorem dX11_bears_20 : decode cX11_bears 20 = .ok (.invokevirtual 250, 3) := by decide +kernel
theorem dX11_bears_23 : decode cX11_bears 23 = .ok (.ireturn, 1) := by decide +kernel
theorem ct_X11_bears {g : Gw} (hG : GF g) {z : Bool} (E : Mm) (s : Nat) (P : SP) (L : LW) (T K : LN) (d : Nat) (hI_E : CXI E s P L T K d) (x0 x1 : Int) : CTX g yX11_bears cX11_bears 3 (some .int) 8 146 2 12 K2 z [mR 0, mI x0, mI x1] (ov E) K2 z (fun r' D' => (0 ≤ x0 ∧ x0 ≤ (sW P : Int) - 1) ∧ (0 ≤ x1 ∧ x1 ≤ 23) ∧ r' = some (mI (bOn (gNow P L d) x1.toNat x0.toNat)) ∧ ∃ E1, D' = ov E1 ∧ CXI E1 s P L T K d ∧ CXF E E1) (fun X D' => (¬ (0 ≤ x0 ∧ x0 ≤ (sW P : Int) - 1) ∧ X = "java/lang/IndexOutOfBoundsException" ∧ D' = ov (bumpE E 0)) ∨ ((0 ≤ x0 ∧ x0 ≤ (sW P : Int) - 1) ∧ ¬ (0 ≤ x1 ∧ x1 ≤ 23) ∧ X = "java/lang/IllegalArgumentException" ∧ D' = ov (bumpE E 2))) := by
  refine CTX.mk hG (by decide +kernel) (Nat.le_of_ble_eq_true rfl) (fun κ X Rt Rx ok => ?_)
  have hs := hI_E.sa
  have hP := hI_E.WS
  have hW40 := hP.W
  have hN10 := hP.N
  have hN8 := hP.B.N
  have hX_E : CXF E E := CXF.rf
  have hwG := gNow_WG hI_E
  have hgw : gW (gNow P L d) = sW P := rfl
  have hgn : gN (gNow P L d) = sN P := rfl
  refine at_aload_n 1 X rfl rfl dX11_bears_0 rfl ?_
  refine at_iload_n 2 X rfl rfl dX11_bears_1 rfl ?_
  refine at_callVX 5 X Rt Rx _ 11 (ct_X11_needCellP hG E s P L T K d hI_E x0) clX11 rfl k_0 mo_X11_needCell w_1272 vo_X11_needCell.1 vo_X11_needCell.2 rfl rfl (by decide) (Nat.le_of_ble_eq_true rfl) dX11_bears_2 rfl (fun _ _ h => Or.inl ⟨h.1, h.2.1, h.2.2⟩) ?_
  rintro _ _ ⟨hc0, rfl, rfl⟩
  refine at_aload_n 6 X rfl rfl dX11_bears_5 rfl ?_
  refine at_iload_n 7 X rfl rfl dX11_bears_6 rfl ?_
  refine at_callVX 10 X Rt Rx _ 11 (ct_X11_needHour hG E x1) clX11 rfl k_0 mo_X11_needHour w_1259 vo_X11_needHour.1 vo_X11_needHour.2 rfl rfl (by decide) (Nat.le_of_ble_eq_true rfl) dX11_bears_7 rfl (fun _ _ h => Or.inr (⟨hc0, h.1, h.2.1, h.2.2⟩)) ?_
  rintro _ _ ⟨hc1, rfl, rfl⟩
  obtain ⟨c, rfl⟩ : ∃ c : Nat, x0 = (c : Int) := ⟨x0.toNat, by omega⟩
  obtain ⟨h, rfl⟩ : ∃ h : Nat, x1 = (h : Int) := ⟨x1.toNat, by omega⟩
  refine at_aload_n 11 X rfl rfl dX11_bears_10 rfl ?_
  refine at_callV 14 X _ 11 (ct_X11_refresh hG E s P L T K d hI_E) clX11 rfl k_0 mo_X11_refresh w_665 vo_X11_refresh.1 vo_X11_refresh.2 rfl rfl (crm Rt (by decide)) (Nat.le_of_ble_eq_true rfl) dX11_bears_11 rfl ?_
  rintro _ _ ⟨rfl, F1, rfl, hI_F1, hF_F1, hXn_F1⟩
  have hX_F1 := hX_E.tr hXn_F1
  refine at_aload_n 15 X rfl rfl dX11_bears_14 rfl ?_
  refine m_getR 18 X f_X11_59 k_0 r_0_9 dX11_bears_15 rfl ?_
  refine at_iload_n 19 X rfl rfl dX11_bears_18 rfl ?_
  refine at_iload_n 20 X rfl rfl dX11_bears_19 rfl ?_
  refine at_callV 23 X _ 4 (ct_X4_borneOn hG F1 30 (Or.inl rfl) (gNow P L d) hwG hF_F1.1 hI_F1.Lw h c (by omega) (by first | omega | (have := hP.W; omega))) clX4 rfl k_30 mo_X4_borneOn w_1303 vo_X4_borneOn.1 vo_X4_borneOn.2 rfl rfl (crm Rt (by decide)) (Nat.le_of_ble_eq_true rfl) dX11_bears_20 rfl ?_
  rintro _ _ ⟨rfl, F2, rfl, hg_F2, hq_F2⟩
  have hK3 := hI_F1.known hF_F1 hg_F2 hq_F2
  have hI_F2 := hK3.1
  have hF_F2 := hK3.2.1
  have hX_F2 : CXF E F2 := hX_F1.tr hK3.2.2
  have := bOn_in (gNow P L d) h c
  refine at_iret X Rt ?_ (by decide) (by decide) dX11_bears_23
  exact ⟨hc0, hc1, (by rfl), _, rfl, hI_F2, hX_F2⟩
theorem dX11_bearing_0 : decode cX11_bearing 0 = .ok (.aload_n 0, 1) := by decide +kernel
theorem dX11_bearing_1 : decode cX11_bearing 1 = .ok (.iload_n 1, 1) := by decide +kernel
theorem dX11_bearing_2 : decode cX11_bearing 2 = .ok (.iconst 0, 1) := by decide +kernel
theorem dX11_bearing_3 : decode cX11_bearing 3 = .ok (.bipush 10, 2) := by decide +kernel
theorem dX11_bearing_5 : decode cX11_bearing 5 = .ok (.invokestatic 253, 3) := by decide +kernel
theorem dX11_bearing_8 : decode cX11_bearing 8 = .ok (.ifCond .eq 17, 3) := by decide +kernel
theorem dX11_bearing_11 : decode cX11_bearing 11 = .ok (.iload_n 2, 1) := by decide +kernel
theorem dX11_bearing_12 : decode cX11_bearing 12 = .ok (.iconst 0, 1) := by decide +kernel
theorem dX11_bearing_13 : decode cX11_bearing 13 = .ok (.bipush 99, 2) := by decide +kernel
theorem dX11_bearing_15 : decode cX11_bearing 15 = .ok (.invokestatic 253, 3) := by decide +kernel
theorem dX11_bearing_18 : decode cX11_bearing 18 = .ok (.ifCond .eq 7, 3) := by decide +kernel
theorem dX11_bearing_21 : decode cX11_bearing 21 = .ok (.iconst 1, 1) := by decide +kernel
theorem dX11_bearing_22 : decode cX11_bearing 22 = .ok (.goto 4, 3) := by decide +kernel
theorem dX11_bearing_25 : decode cX11_bearing 25 = .ok (.iconst 0, 1) := by decide +kernel
theorem dX11_bearing_26 : decode cX11_bearing 26 = .ok (.invokevirtual 164, 3) := by decide +kernel
theorem dX11_bearing_29 : decode cX11_bearing 29 = .ok (.aload_n 0, 1) := by decide +kernel
theorem dX11_bearing_30 : decode cX11_bearing 30 = .ok (.iload_n 3, 1) := by decide +kernel
theorem dX11_bearing_31 : decode cX11_bearing 31 = .ok (.invokevirtual 224, 3) := by decide +kernel
theorem dX11_bearing_34 : decode cX11_bearing 34 = .ok (.aload_n 0, 1) := by decide +kernel
theorem dX11_bearing_35 : decode cX11_bearing 35 = .ok (.iload 4, 2) := by decide +kernel
theorem dX11_bearing_37 : decode cX11_bearing 37 = .ok (.iconst 0, 1) := by decide +kernel
theorem dX11_bearing_38 : decode cX11_bearing 38 = .ok (.iconst 1, 1) := by decide +kernel
theorem dX11_bearing_39 : decode cX11_bearing 39 = .ok (.invokestatic 253, 3) := by decide +kernel
theorem dX11_bearing_42 : decode cX11_bearing 42 = .ok (.invokevirtual 164, 3) := by decide +kernel
theorem dX11_bearing_45 : decode cX11_bearing 45 = .ok (.aload_n 0, 1) := by decide +kernel
theorem dX11_bearing_46 : decode cX11_bearing 46 = .ok (.getfield 23, 3) := by decide +kernel
theorem dX11_bearing_49 : decode cX11_bearing 49 = .ok (.iload_n 1, 1) := by decide +kernel
theorem dX11_bearing_50 : decode cX11_bearing 50 = .ok (.iload_n 2, 1) := by decide +kernel
theorem dX11_bearing_51 : decode cX11_bearing 51 = .ok (.iload_n 3, 1) := by decide +kernel
theorem dX11_bearing_52 : decode cX11_bearing 52 = .ok (.iload 4, 2) := by decide +kernel
theorem dX11_bearing_54 : decode cX11_bearing 54 = .ok (.invokevirtual 257, 3) := by decide +kernel
theorem dX11_bearing_57 : decode cX11_bearing 57 = .ok (.ireturn, 1) := by decide +kernel
theorem ct_X11_bearing {g : Gw} (hG : GF g) {z : Bool} (E : Mm) (s : Nat) (P : SP) (L : LW) (T K : LN) (d : Nat) (hI_E : CXI E s P L T K d) (x0 x1 x2 x3 : Int) : CTX g yX11_bearing cX11_bearing 5 (some .int) 8 132 3 18 K2 z [mR 0, mI x0, mI x1, mI x2, mI x3] (ov E) K2 z (fun r' D' => ((0 ≤ x0 ∧ x0 ≤ 10) ∧ (0 ≤ x1 ∧ x1 ≤ 99)) ∧ (0 ≤ x2 ∧ x2 ≤ 23) ∧ (0 ≤ x3 ∧ x3 ≤ 1) ∧ r' = some (mI (borP L x0 x1 x2 x3)) ∧ ∃ E1, D' = ov E1 ∧ CXI E1 s P L T K d ∧ CXF E E1) (fun X D' => (¬ ((0 ≤ x0 ∧ x0 ≤ 10) ∧ (0 ≤ x1 ∧ x1 ≤ 99)) ∧ X = "java/lang/IllegalArgumentException" ∧ D' = ov (bumpE E 2)) ∨ (((0 ≤ x0 ∧ x0 ≤ 10) ∧ (0 ≤ x1 ∧ x1 ≤ 99)) ∧ ¬ (0 ≤ x2 ∧ x2 ≤ 23) ∧ X = "java/lang/IllegalArgumentException" ∧ D' = ov (bumpE E 2)) ∨ (((0 ≤ x0 ∧ x0 ≤ 10) ∧ (0 ≤ x1 ∧ x1 ≤ 99)) ∧ (0 ≤ x2 ∧ x2 ≤ 23) ∧ ¬ (0 ≤ x3 ∧ x3 ≤ 1) ∧ X = "java/lang/IllegalArgumentException" ∧ D' = ov (bumpE E 2))) := by
  refine CTX.mk hG (by decide +kernel) (Nat.le_of_ble_eq_true rfl) (fun κ X Rt Rx ok => ?_)
  have hs := hI_E.sa
  have hP := hI_E.WS
  have hW40 := hP.W
  have hN10 := hP.N
  have hN8 := hP.B.N
  have hX_E : CXF E E := CXF.rf
  have hwG := gNow_WG hI_E
  have hgw : gW (gNow P L d) = sW P := rfl
  have hgn : gN (gNow P L d) = sN P := rfl
  refine at_aload_n 1 X rfl rfl dX11_bearing_0 rfl ?_
  refine at_iload_n 2 X rfl rfl dX11_bearing_1 rfl ?_
  refine at_iconst 3 X (by decide) dX11_bearing_2 rfl ?_
  refine at_bipush 5 X (by decide) (by decide) dX11_bearing_3 rfl ?_
  refine at_callS 8 X (ct_X11_isWithin hG _ _ _) mo_X11_isWithin w_1211 so_X11_isWithin rfl rfl (crm Rt (by decide)) (Nat.le_of_ble_eq_true rfl) dX11_bearing_5 rfl ?_
  rintro _ _ ⟨rfl, rfl⟩
  refine at_if_eq 11 25 X dX11_bearing_8 rfl (by decide) (fun h8 => ?_) (fun h8 => ?_)
  · have h8 : ¬ (0 ≤ x0 ∧ x0 ≤ 10) := ite_no.mp h8
    refine at_iconst 26 X (by decide) dX11_bearing_25 rfl ?_
    refine at_callVX 29 X Rt Rx _ 11 (ct_X11_need hG E 0) clX11 rfl k_0 mo_X11_need w_863 vo_X11_need.1 vo_X11_need.2 rfl rfl (by decide) (Nat.le_of_ble_eq_true rfl) dX11_bearing_26 rfl (fun _ _ h => Or.inl ⟨(by omega), h.2.1, h.2.2⟩) ?_
    rintro _ _ ⟨hq, _, _⟩
    exact absurd rfl hq
  · have h8 : (0 ≤ x0 ∧ x0 ≤ 10) := ite_yes.mp h8
    refine at_iload_n 12 X rfl rfl dX11_bearing_11 rfl ?_
    refine at_iconst 13 X (by decide) dX11_bearing_12 rfl ?_
    refine at_bipush 15 X (by decide) (by decide) dX11_bearing_13 rfl ?_
    refine at_callS 18 X (ct_X11_isWithin hG _ _ _) mo_X11_isWithin w_1211 so_X11_isWithin rfl rfl (crm Rt (by decide)) (Nat.le_of_ble_eq_true rfl) dX11_bearing_15 rfl ?_
    rintro _ _ ⟨rfl, rfl⟩
    refine at_if_eq 21 25 X dX11_bearing_18 rfl (by decide) (fun h18 => ?_) (fun h18 => ?_)
    · have h18 : ¬ (0 ≤ x1 ∧ x1 ≤ 99) := ite_no.mp h18
      refine at_iconst 26 X (by decide) dX11_bearing_25 rfl ?_
      refine at_callVX 29 X Rt Rx _ 11 (ct_X11_need hG E 0) clX11 rfl k_0 mo_X11_need w_863 vo_X11_need.1 vo_X11_need.2 rfl rfl (by decide) (Nat.le_of_ble_eq_true rfl) dX11_bearing_26 rfl (fun _ _ h => Or.inl ⟨(by omega), h.2.1, h.2.2⟩) ?_
      rintro _ _ ⟨hq, _, _⟩
      exact absurd rfl hq
    · have h18 : (0 ≤ x1 ∧ x1 ≤ 99) := ite_yes.mp h18
      refine at_iconst 22 X (by decide) dX11_bearing_21 rfl ?_
      refine at_goto 26 X dX11_bearing_22 (by decide) ?_
      refine at_callVX 29 X Rt Rx _ 11 (ct_X11_need hG E 1) clX11 rfl k_0 mo_X11_need w_863 vo_X11_need.1 vo_X11_need.2 rfl rfl (by decide) (Nat.le_of_ble_eq_true rfl) dX11_bearing_26 rfl (fun _ _ h => absurd h.1 (by decide)) ?_
      rintro _ _ ⟨_, rfl, rfl⟩
      have hc0 : (0 ≤ x0 ∧ x0 ≤ 10) ∧ (0 ≤ x1 ∧ x1 ≤ 99) := by omega
      refine at_aload_n 30 X rfl rfl dX11_bearing_29 rfl ?_
      refine at_iload_n 31 X rfl rfl dX11_bearing_30 rfl ?_
      refine at_callVX 34 X Rt Rx _ 11 (ct_X11_needHour hG E x2) clX11 rfl k_0 mo_X11_needHour w_1259 vo_X11_needHour.1 vo_X11_needHour.2 rfl rfl (by decide) (Nat.le_of_ble_eq_true rfl) dX11_bearing_31 rfl (fun _ _ h => Or.inr (Or.inl ⟨hc0, h.1, h.2.1, h.2.2⟩)) ?_
      rintro _ _ ⟨hc1, rfl, rfl⟩
      refine at_aload_n 35 X rfl rfl dX11_bearing_34 rfl ?_
      refine at_iload 37 X rfl dX11_bearing_35 rfl ?_
      refine at_iconst 38 X (by decide) dX11_bearing_37 rfl ?_
      refine at_iconst 39 X (by decide) dX11_bearing_38 rfl ?_
      refine at_callS 42 X (ct_X11_isWithin hG _ _ _) mo_X11_isWithin w_1211 so_X11_isWithin rfl rfl (crm Rt (by decide)) (Nat.le_of_ble_eq_true rfl) dX11_bearing_39 rfl ?_
      rintro _ _ ⟨rfl, rfl⟩
      refine at_callVX 45 X Rt Rx _ 11 (ct_X11_need hG E (if 0 ≤ x3 ∧ x3 ≤ 1 then 1 else 0)) clX11 rfl k_0 mo_X11_need w_863 vo_X11_need.1 vo_X11_need.2 rfl rfl (by decide) (Nat.le_of_ble_eq_true rfl) dX11_bearing_42 rfl (fun _ _ h => Or.inr (Or.inr (⟨hc0, hc1, (fun q => ite_no.mp h.1 (by omega)), h.2.1, h.2.2⟩))) ?_
      rintro _ _ ⟨hq, rfl, rfl⟩
      have hc2 : 0 ≤ x3 ∧ x3 ≤ 1 := by have := ite_yes.mp hq; omega
      refine at_aload_n 46 X rfl rfl dX11_bearing_45 rfl ?_
      refine m_getR 49 X f_X11_23 k_0 r_0_2 dX11_bearing_46 rfl ?_
      refine at_iload_n 50 X rfl rfl dX11_bearing_49 rfl ?_
      refine at_iload_n 51 X rfl rfl dX11_bearing_50 rfl ?_
      refine at_iload_n 52 X rfl rfl dX11_bearing_51 rfl ?_
      refine at_iload 54 X rfl dX11_bearing_52 rfl ?_
      refine at_callV 57 X _ 7 (ct_X7_borne hG E L hI_E.Lw hI_E.WL x0 x1 x2 x3) clX7 rfl k_4 mo_X7_borne w_1311 vo_X7_borne.1 vo_X7_borne.2 rfl rfl (crm Rt (by decide)) (Nat.le_of_ble_eq_true rfl) dX11_bearing_54 rfl ?_
      rintro _ _ ⟨rfl, F1, rfl, hq_F1⟩
      have hT3 := hI_E.tried (E1 := F1) (fun q _ _ h => hq_F1 q h)
      have hI_F1 := hT3.1
      have hX_F1 : CXF E F1 := hX_E.tr hT3.2.2
      refine at_iret X Rt ?_ (by decide) (by decide) dX11_bearing_57
      exact ⟨hc0, hc1, hc2, (by rfl), _, rfl, hI_F1, hX_F1⟩
theorem dX11_rests_0 : decode cX11_rests 0 = .ok (.aload_n 0, 1) := by decide +kernel
theorem dX11_rests_1 : decode cX11_rests 1 = .ok (.iload_n 1, 1) := by decide +kernel
theorem dX11_rests_2 : decode cX11_rests 2 = .ok (.invokevirtual 243, 3) := by decide +kernel
theorem dX11_rests_5 : decode cX11_rests 5 = .ok (.aload_n 0, 1) := by decide +kernel
theorem dX11_rests_6 : decode cX11_rests 6 = .ok (.iload_n 2, 1) := by decide +kernel
theorem dX11_rests_7 : decode cX11_rests 7 = .ok (.invokevirtual 224, 3) := by decide +kernel
theorem dX11_rests_10 : decode cX11_rests 10 = .ok (.aload_n 0, 1) := by decide +kernel
theorem dX11_rests_11 : decode cX11_rests 11 = .ok (.iload_n 3, 1) := by decide +kernel
theorem dX11_rests_12 : decode cX11_rests 12 = .ok (.iconst 1, 1) := by decide +kernel
theorem dX11_rests_13 : decode cX11_rests 13 = .ok (.invokevirtual 199, 3) := by decide +kernel
theorem dX11_rests_16 : decode cX11_rests 16 = .ok (.aload_n 0, 1) := by decide +kernel
theorem dX11_rests_17 : decode cX11_rests 17 = .ok (.invokevirtual 227, 3) := by decide +kernel
theorem dX11_rests_20 : decode cX11_rests 20 = .ok (.aload_n 0, 1) := by decide +kernel
theorem dX11_rests_21 : decode cX11_rests 21 = .ok (.getfield 69, 3) := by decide +kernel
theorem dX11_rests_24 : decode cX11_rests 24 = .ok (.aload_n 0, 1) := by decide +kernel
theorem dX11_rests_25 : decode cX11_rests 25 = .ok (.getfield 93, 3) := by decide +kernel
theorem dX11_rests_28 : decode cX11_rests 28 = .ok (.getfield 135, 3) := by decide +kernel
theorem dX11_rests_31 : decode cX11_rests 31 = .ok (.iload_n 1, 1) := by decide +kernel
theorem dX11_rests_32 : decode cX11_rests 32 = .ok (.iload_n 2, 1) := by decide +kernel
theorem dX11_rests_33 : decode cX11_rests 33 = .ok (.invokevirtual 261, 3) := by decide +kernel
theorem dX11_rests_36 : decode cX11_rests 36 = .ok (.ldc2_w 265, 3) := by decide +kernel
theorem dX11_rests_39 : decode cX11_rests 39 = .ok (.iload_n 3, 1) := by decide +kernel
theorem dX11_rests_40 : decode cX11_rests 40 = .ok (.invokestatic 267, 3) := by decide +kernel
theorem dX11_rests_43 : decode cX11_rests 43 = .ok (.lreturn, 1) := by decide +kernel
theorem ct_X11_rests {g : Gw} (hG : GF g) {z : Bool} (E : Mm) (s : Nat) (P : SP) (L : LW) (T K : LN) (d : Nat) (hI_E : CXI E s P L T K d) (x0 x1 x2 : Int) : CTX g yX11_rests cX11_rests 4 (some .long) 8 146 3 18 K2 z [mR 0, mI x0, mI x1, mI x2] (ov E) K2 z (fun r' D' => (0 ≤ x0 ∧ x0 ≤ (sW P : Int) - 1) ∧ (0 ≤ x1 ∧ x1 ≤ 23) ∧ (0 ≤ x2 ∧ x2 ≤ 1) ∧ r' = some (mL (ltmP (wtN (sB P) (dP (dyP (gNow P L d) (sB P) T (x1.toNat + 1))) x0.toNat (bN (sB P))) 232792560 x2)) ∧ ∃ E1, D' = ov E1 ∧ CXI E1 s P L T K d ∧ CXF E E1) (fun X D' => (¬ (0 ≤ x0 ∧ x0 ≤ (sW P : Int) - 1) ∧ X = "java/lang/IndexOutOfBoundsException" ∧ D' = ov (bumpE E 0)) ∨ ((0 ≤ x0 ∧ x0 ≤ (sW P : Int) - 1) ∧ ¬ (0 ≤ x1 ∧ x1 ≤ 23) ∧ X = "java/lang/IllegalArgumentException" ∧ D' = ov (bumpE E 2)) ∨ ((0 ≤ x0 ∧ x0 ≤ (sW P : Int) - 1) ∧ (0 ≤ x1 ∧ x1 ≤ 23) ∧ ¬ (0 ≤ x2 ∧ x2 ≤ 1) ∧ X = "java/lang/IllegalArgumentException" ∧ D' = ov (bumpE E 2))) := by
  refine CTX.mk hG (by decide +kernel) (Nat.le_of_ble_eq_true rfl) (fun κ X Rt Rx ok => ?_)
  have hs := hI_E.sa
  have hP := hI_E.WS
  have hW40 := hP.W
  have hN10 := hP.N
  have hN8 := hP.B.N
  have hX_E : CXF E E := CXF.rf
  have hwG := gNow_WG hI_E
  have hgw : gW (gNow P L d) = sW P := rfl
  have hgn : gN (gNow P L d) = sN P := rfl
  refine at_aload_n 1 X rfl rfl dX11_rests_0 rfl ?_
  refine at_iload_n 2 X rfl rfl dX11_rests_1 rfl ?_
  refine at_callVX 5 X Rt Rx _ 11 (ct_X11_needCellP hG E s P L T K d hI_E x0) clX11 rfl k_0 mo_X11_needCell w_1272 vo_X11_needCell.1 vo_X11_needCell.2 rfl rfl (by decide) (Nat.le_of_ble_eq_true rfl) dX11_rests_2 rfl (fun _ _ h => Or.inl ⟨h.1, h.2.1, h.2.2⟩) ?_
  rintro _ _ ⟨hc0, rfl, rfl⟩
  refine at_aload_n 6 X rfl rfl dX11_rests_5 rfl ?_
  refine at_iload_n 7 X rfl rfl dX11_rests_6 rfl ?_
  refine at_callVX 10 X Rt Rx _ 11 (ct_X11_needHour hG E x1) clX11 rfl k_0 mo_X11_needHour w_1259 vo_X11_needHour.1 vo_X11_needHour.2 rfl rfl (by decide) (Nat.le_of_ble_eq_true rfl) dX11_rests_7 rfl (fun _ _ h => Or.inr (Or.inl ⟨hc0, h.1, h.2.1, h.2.2⟩)) ?_
  rintro _ _ ⟨hc1, rfl, rfl⟩
  refine at_aload_n 11 X rfl rfl dX11_rests_10 rfl ?_
  refine at_iload_n 12 X rfl rfl dX11_rests_11 rfl ?_
  refine at_iconst 13 X (by decide) dX11_rests_12 rfl ?_
  refine at_callVX 16 X Rt Rx _ 11 (ct_X11_needWhat hG E x2 1) clX11 rfl k_0 mo_X11_needWhat w_1228 vo_X11_needWhat.1 vo_X11_needWhat.2 rfl rfl (by decide) (Nat.le_of_ble_eq_true rfl) dX11_rests_13 rfl (fun _ _ h => Or.inr (Or.inr (⟨hc0, hc1, h.1, h.2.1, h.2.2⟩))) ?_
  rintro _ _ ⟨hc2, rfl, rfl⟩
  obtain ⟨c, rfl⟩ : ∃ c : Nat, x0 = (c : Int) := ⟨x0.toNat, by omega⟩
  obtain ⟨h, rfl⟩ : ∃ h : Nat, x1 = (h : Int) := ⟨x1.toNat, by omega⟩
  refine at_aload_n 17 X rfl rfl dX11_rests_16 rfl ?_
  refine at_callV 20 X _ 11 (ct_X11_refresh hG E s P L T K d hI_E) clX11 rfl k_0 mo_X11_refresh w_665 vo_X11_refresh.1 vo_X11_refresh.2 rfl rfl (crm Rt (by decide)) (Nat.le_of_ble_eq_true rfl) dX11_rests_17 rfl ?_
  rintro _ _ ⟨rfl, F1, rfl, hI_F1, hF_F1, hXn_F1⟩
  have hX_F1 := hX_E.tr hXn_F1
  refine at_aload_n 21 X rfl rfl dX11_rests_20 rfl ?_
  refine m_getR 24 X f_X11_69 k_0 r_0_11 dX11_rests_21 rfl ?_
  refine at_aload_n 25 X rfl rfl dX11_rests_24 rfl ?_
  refine m_getM 28 X (s) f_X11_93 k_0 rn_0_15 hI_F1.now dX11_rests_25 rfl ?_
  refine m_getR 31 X f_X11_135 (kX9 hs) (rX9_7 hs) dX11_rests_28 rfl ?_
  refine at_iload_n 32 X rfl rfl dX11_rests_31 rfl ?_
  refine at_iload_n 33 X rfl rfl dX11_rests_32 rfl ?_
  refine at_callV 36 X _ 3 (ct_X3_restOn hG F1 48 (Or.inl rfl) (sB P) (s + 8) (sW P) (iB_8 hs) hI_F1.B hP.B hP.W.2 (dP (dyP (gNow P L d) (sB P) T (h + 1))) (dyP_DI hP.B hI_F1.WT (by omega)).1 c h (by omega) (fun k hk => hF_F1.2.2.2 h k (by omega) hk)) clX3 rfl k_48 mo_X3_restOn w_1319 vo_X3_restOn.1 vo_X3_restOn.2 rfl rfl (crm Rt (by decide)) (Nat.le_of_ble_eq_true rfl) dX11_rests_33 rfl ?_
  rintro _ _ ⟨rfl, rfl⟩
  have hwt := wtN_in hP.B (dP (dyP (gNow P L d) (sB P) T (h + 1))) c (Nat.le_refl (bN (sB P)))
  refine at_ldc2 39 X (n := 232792560) w_1327 (by decide) (by decide) dX11_rests_36 rfl ?_
  refine at_iload_n 40 X rfl rfl dX11_rests_39 rfl ?_
  refine at_callS 43 X (ct_X11_inLeastTerms hG F1 (wtN (sB P) (dP (dyP (gNow P L d) (sB P) T (h + 1))) c (bN (sB P))) 232792560 x2 (by omega) (by omega) (by omega)) mo_X11_inLeastTerms w_1328 so_X11_inLeastTerms rfl rfl (crm Rt (by decide)) (Nat.le_of_ble_eq_true rfl) dX11_rests_40 rfl ?_
  rintro _ _ ⟨rfl, rfl⟩
  refine at_lret X Rt ?_ (by decide) (by decide) dX11_rests_43
  exact ⟨hc0, hc1, hc2, (by rfl), _, rfl, hI_F1, hX_F1⟩
theorem dX11_puts_0 : decode cX11_puts 0 = .ok (.aload_n 0, 1) := by decide +kernel
theorem dX11_puts_1 : decode cX11_puts 1 = .ok (.iload_n 1, 1) := by decide +kernel
theorem dX11_puts_2 : decode cX11_puts 2 = .ok (.invokevirtual 208, 3) := by decide +kernel
theorem dX11_puts_5 : decode cX11_puts 5 = .ok (.aload_n 0, 1) := by decide +kernel
theorem dX11_puts_6 : decode cX11_puts 6 = .ok (.iload_n 2, 1) := by decide +kernel
theorem dX11_puts_7 : decode cX11_puts 7 = .ok (.iconst 0, 1) := by decide +kernel
theorem dX11_puts_8 : decode cX11_puts 8 = .ok (.iconst 1, 1) := by decide +kernel
theorem dX11_puts_9 : decode cX11_puts 9 = .ok (.invokestatic 253, 3) := by decide +kernel
theorem dX11_puts_12 : decode cX11_puts 12 = .ok (.invokevirtual 164, 3) := by decide +kernel
theorem dX11_puts_15 : decode cX11_puts 15 = .ok (.aload_n 0, 1) := by decide +kernel
theorem dX11_puts_16 : decode cX11_puts 16 = .ok (.iload_n 3, 1) := by decide +kernel
theorem dX11_puts_17 : decode cX11_puts 17 = .ok (.iconst 1, 1) := by decide +kernel
theorem dX11_puts_18 : decode cX11_puts 18 = .ok (.invokevirtual 199, 3) := by decide +kernel
theorem dX11_puts_21 : decode cX11_puts 21 = .ok (.iload_n 2, 1) := by decide +kernel
theorem dX11_puts_22 : decode cX11_puts 22 = .ok (.ifCond .ne 18, 3) := by decide +kernel
theorem dX11_puts_25 : decode cX11_puts 25 = .ok (.aload_n 0, 1) := by decide +kernel
theorem dX11_puts_26 : decode cX11_puts 26 = .ok (.getfield 93, 3) := by decide +kernel
theorem dX11_puts_29 : decode cX11_puts 29 = .ok (.getfield 135, 3) := by decide +kernel
theorem dX11_puts_32 : decode cX11_puts 32 = .ok (.getfield 271, 3) := by decide +kernel
theorem dX11_puts_35 : decode cX11_puts 35 = .ok (.iload_n 1, 1) := by decide +kernel
theorem dX11_puts_36 : decode cX11_puts 36 = .ok (.laload, 1) := by decide +kernel
theorem dX11_puts_37 : decode cX11_puts 37 = .ok (.goto 15, 3) := by decide +kernel
theorem dX11_puts_40 : decode cX11_puts 40 = .ok (.aload_n 0, 1) := by decide +kernel
theorem dX11_puts_41 : decode cX11_puts 41 = .ok (.getfield 93, 3) := by decide +kernel
theorem dX11_puts_44 : decode cX11_puts 44 = .ok (.getfield 135, 3) := by decide +kernel
theorem dX11_puts_47 : decode cX11_puts 47 = .ok (.getfield 275, 3) := by decide +kernel
theorem dX11_puts_50 : decode cX11_puts 50 = .ok (.iload_n 1, 1) := by decide +kernel
theorem dX11_puts_51 : decode cX11_puts 51 = .ok (.laload, 1) := by decide +kernel
theorem dX11_puts_52 : decode cX11_puts 52 = .ok (.ldc2_w 265, 3) := by decide +kernel
theorem dX11_puts_55 : decode cX11_puts 55 = .ok (.iload_n 3, 1) := by decide +kernel
theorem dX11_puts_56 : decode cX11_puts 56 = .ok (.invokestatic 267, 3) := by decide +kernel
theorem dX11_puts_59 : decode cX11_puts 59 = .ok (.lreturn, 1) := by decide +kernel
theorem ct_X11_puts {g : Gw} (hG : GF g) {z : Bool} (E : Mm) (s : Nat) (P : SP) (L : LW) (T K : LN) (d : Nat) (hI_E : CXI E s P L T K d) (x0 x1 x2 : Int) : CTX g yX11_puts cX11_puts 4 (some .long) 8 133 3 18 K2 z [mR 0, mI x0, mI x1, mI x2] (ov E) K2 z (fun r' D' => (0 ≤ x0 ∧ x0 ≤ (bN (sB P) : Int) - 1) ∧ (0 ≤ x1 ∧ x1 ≤ 1) ∧ (0 ≤ x2 ∧ x2 ≤ 1) ∧ r' = some (mL (ltmP (if x1 = 0 then (onL (sB P) x0.toNat : Int) else (onR (sB P) x0.toNat : Int)) 232792560 x2)) ∧ ∃ E1, D' = ov E1 ∧ CXI E1 s P L T K d ∧ CXF E E1) (fun X D' => (¬ (0 ≤ x0 ∧ x0 ≤ (bN (sB P) : Int) - 1) ∧ X = "java/util/NoSuchElementException" ∧ D' = ov (bumpE E 1)) ∨ ((0 ≤ x0 ∧ x0 ≤ (bN (sB P) : Int) - 1) ∧ ¬ (0 ≤ x1 ∧ x1 ≤ 1) ∧ X = "java/lang/IllegalArgumentException" ∧ D' = ov (bumpE E 2)) ∨ ((0 ≤ x0 ∧ x0 ≤ (bN (sB P) : Int) - 1) ∧ (0 ≤ x1 ∧ x1 ≤ 1) ∧ ¬ (0 ≤ x2 ∧ x2 ≤ 1) ∧ X = "java/lang/IllegalArgumentException" ∧ D' = ov (bumpE E 2))) := by
  refine CTX.mk hG (by decide +kernel) (Nat.le_of_ble_eq_true rfl) (fun κ X Rt Rx ok => ?_)
  have hs := hI_E.sa
  have hP := hI_E.WS
  have hW40 := hP.W
  have hN10 := hP.N
  have hN8 := hP.B.N
  have hX_E : CXF E E := CXF.rf
  have hwG := gNow_WG hI_E
  have hgw : gW (gNow P L d) = sW P := rfl
  have hgn : gN (gNow P L d) = sN P := rfl
  refine at_aload_n 1 X rfl rfl dX11_puts_0 rfl ?_
  refine at_iload_n 2 X rfl rfl dX11_puts_1 rfl ?_
  refine at_callVX 5 X Rt Rx _ 11 (ct_X11_needBeamP hG E s P L T K d hI_E x0) clX11 rfl k_0 mo_X11_needBeam w_1239 vo_X11_needBeam.1 vo_X11_needBeam.2 rfl rfl (by decide) (Nat.le_of_ble_eq_true rfl) dX11_puts_2 rfl (fun _ _ h => Or.inl ⟨h.1, h.2.1, h.2.2⟩) ?_
  rintro _ _ ⟨hc0, rfl, rfl⟩
  refine at_aload_n 6 X rfl rfl dX11_puts_5 rfl ?_
  refine at_iload_n 7 X rfl rfl dX11_puts_6 rfl ?_
  refine at_iconst 8 X (by decide) dX11_puts_7 rfl ?_
  refine at_iconst 9 X (by decide) dX11_puts_8 rfl ?_
  refine at_callS 12 X (ct_X11_isWithin hG _ _ _) mo_X11_isWithin w_1211 so_X11_isWithin rfl rfl (crm Rt (by decide)) (Nat.le_of_ble_eq_true rfl) dX11_puts_9 rfl ?_
  rintro _ _ ⟨rfl, rfl⟩
  refine at_callVX 15 X Rt Rx _ 11 (ct_X11_need hG E (if 0 ≤ x1 ∧ x1 ≤ 1 then 1 else 0)) clX11 rfl k_0 mo_X11_need w_863 vo_X11_need.1 vo_X11_need.2 rfl rfl (by decide) (Nat.le_of_ble_eq_true rfl) dX11_puts_12 rfl (fun _ _ h => Or.inr (Or.inl ⟨hc0, (fun q => ite_no.mp h.1 (by omega)), h.2.1, h.2.2⟩)) ?_
  rintro _ _ ⟨hq, rfl, rfl⟩
  have hc1 : 0 ≤ x1 ∧ x1 ≤ 1 := by have := ite_yes.mp hq; omega
  refine at_aload_n 16 X rfl rfl dX11_puts_15 rfl ?_
  refine at_iload_n 17 X rfl rfl dX11_puts_16 rfl ?_
  refine at_iconst 18 X (by decide) dX11_puts_17 rfl ?_
  refine at_callVX 21 X Rt Rx _ 11 (ct_X11_needWhat hG E x2 1) clX11 rfl k_0 mo_X11_needWhat w_1228 vo_X11_needWhat.1 vo_X11_needWhat.2 rfl rfl (by decide) (Nat.le_of_ble_eq_true rfl) dX11_puts_18 rfl (fun _ _ h => Or.inr (Or.inr (⟨hc0, hc1, h.1, h.2.1, h.2.2⟩))) ?_
  rintro _ _ ⟨hc2, rfl, rfl⟩
  obtain ⟨b, rfl⟩ : ∃ b : Nat, x0 = (b : Int) := ⟨x0.toNat, by omega⟩
  refine at_iload_n 22 X rfl rfl dX11_puts_21 rfl ?_
  refine at_if_ne 25 40 X dX11_puts_22 rfl (by decide) (fun h22 => ?_) (fun h22 => ?_)
  · refine at_aload_n 41 X rfl rfl dX11_puts_40 rfl ?_
    refine m_getM 44 X (s) f_X11_93 k_0 rn_0_15 hI_E.now dX11_puts_41 rfl ?_
    refine m_getR 47 X f_X11_135 (kX9 hs) (rX9_7 hs) dX11_puts_44 rfl ?_
    refine m_getR 50 X f_X11_275 (kX0 (iB_8 hs)) (rX0_5 (iB_8 hs)) dX11_puts_47 rfl ?_
    refine at_iload_n 51 X rfl rfl dX11_puts_50 rfl ?_
    refine m_laloadV 52 X b (by omega) ((onR (sB P) b : Nat) : Int) (hI_E.B.r (b := b) (by omega)) (kX0_5 (iB_8 hs)) (eX0_5 (iB_8 hs)) (by omega) dX11_puts_51 rfl ?_
    have := onR_le hP.B (b := b) (by omega)
    refine at_ldc2 55 X (n := 232792560) w_1327 (by decide) (by decide) dX11_puts_52 rfl ?_
    refine at_iload_n 56 X rfl rfl dX11_puts_55 rfl ?_
    refine at_callS 59 X (ct_X11_inLeastTerms hG E ((onR (sB P) b : Nat) : Int) 232792560 x2 (by omega) (by omega) (by omega)) mo_X11_inLeastTerms w_1328 so_X11_inLeastTerms rfl rfl (crm Rt (by decide)) (Nat.le_of_ble_eq_true rfl) dX11_puts_56 rfl ?_
    rintro _ _ ⟨rfl, rfl⟩
    refine at_lret X Rt ?_ (by decide) (by decide) dX11_puts_59
    exact ⟨hc0, hc1, hc2, (by first | (rw [if_pos (by omega)]; rfl) | (rw [if_neg (by omega)]; rfl)), _, rfl, hI_E, hX_E⟩
  · refine at_aload_n 26 X rfl rfl dX11_puts_25 rfl ?_
    refine m_getM 29 X (s) f_X11_93 k_0 rn_0_15 hI_E.now dX11_puts_26 rfl ?_
    refine m_getR 32 X f_X11_135 (kX9 hs) (rX9_7 hs) dX11_puts_29 rfl ?_
    refine m_getR 35 X f_X11_271 (kX0 (iB_8 hs)) (rX0_4 (iB_8 hs)) dX11_puts_32 rfl ?_
    refine at_iload_n 36 X rfl rfl dX11_puts_35 rfl ?_
    refine m_laloadV 37 X b (by omega) ((onL (sB P) b : Nat) : Int) (hI_E.B.l (b := b) (by omega)) (kX0_4 (iB_8 hs)) (eX0_4 (iB_8 hs)) (by omega) dX11_puts_36 rfl ?_
    have := onL_le hP.B (b := b) (by omega)
    refine at_goto 52 X dX11_puts_37 (by decide) ?_
    refine at_ldc2 55 X (n := 232792560) w_1327 (by decide) (by decide) dX11_puts_52 rfl ?_
    refine at_iload_n 56 X rfl rfl dX11_puts_55 rfl ?_
    refine at_callS 59 X (ct_X11_inLeastTerms hG E ((onL (sB P) b : Nat) : Int) 232792560 x2 (by omega) (by omega) (by omega)) mo_X11_inLeastTerms w_1328 so_X11_inLeastTerms rfl rfl (crm Rt (by decide)) (Nat.le_of_ble_eq_true rfl) dX11_puts_56 rfl ?_
    rintro _ _ ⟨rfl, rfl⟩
    refine at_lret X Rt ?_ (by decide) (by decide) dX11_puts_59
    exact ⟨hc0, hc1, hc2, (by first | (rw [if_pos (by omega)]; rfl) | (rw [if_neg (by omega)]; rfl)), _, rfl, hI_E, hX_E⟩
theorem dX11_falls_0 : decode cX11_falls 0 = .ok (.aload_n 0, 1) := by decide +kernel
theorem dX11_falls_1 : decode cX11_falls 1 = .ok (.iload_n 1, 1) := by decide +kernel
theorem dX11_falls_2 : decode cX11_falls 2 = .ok (.invokevirtual 208, 3) := by decide +kernel
theorem dX11_falls_5 : decode cX11_falls 5 = .ok (.aload_n 0, 1) := by decide +kernel
theorem dX11_falls_6 : decode cX11_falls 6 = .ok (.invokevirtual 227, 3) := by decide +kernel
theorem dX11_falls_9 : decode cX11_falls 9 = .ok (.aload_n 0, 1) := by decide +kernel
theorem dX11_falls_10 : decode cX11_falls 10 = .ok (.getfield 69, 3) := by decide +kernel
theorem dX11_falls_13 : decode cX11_falls 13 = .ok (.getfield 278, 3) := by decide +kernel
theorem dX11_falls_16 : decode cX11_falls 16 = .ok (.iload_n 1, 1) := by decide +kernel
theorem dX11_falls_17 : decode cX11_falls 17 = .ok (.iaload, 1) := by decide +kernel
theorem dX11_falls_18 : decode cX11_falls 18 = .ok (.ireturn, 1) := by decide +kernel
theorem ct_X11_falls {g : Gw} (hG : GF g) {z : Bool} (E : Mm) (s : Nat) (P : SP) (L : LW) (T K : LN) (d : Nat) (hI_E : CXI E s P L T K d) (x0 : Int) : CTX g yX11_falls cX11_falls 2 (some .int) 7 146 1 6 K2 z [mR 0, mI x0] (ov E) K2 z (fun r' D' => (0 ≤ x0 ∧ x0 ≤ (bN (sB P) : Int) - 1) ∧ r' = some (mI (dF (dyP (gNow P L d) (sB P) T 24) x0.toNat)) ∧ ∃ E1, D' = ov E1 ∧ CXI E1 s P L T K d ∧ CXF E E1) (fun X D' => (¬ (0 ≤ x0 ∧ x0 ≤ (bN (sB P) : Int) - 1) ∧ X = "java/util/NoSuchElementException" ∧ D' = ov (bumpE E 1))) := by
  refine CTX.mk hG (by decide +kernel) (Nat.le_of_ble_eq_true rfl) (fun κ X Rt Rx ok => ?_)
  have hs := hI_E.sa
  have hP := hI_E.WS
  have hW40 := hP.W
  have hN10 := hP.N
  have hN8 := hP.B.N
  have hX_E : CXF E E := CXF.rf
  have hwG := gNow_WG hI_E
  have hgw : gW (gNow P L d) = sW P := rfl
  have hgn : gN (gNow P L d) = sN P := rfl
  refine at_aload_n 1 X rfl rfl dX11_falls_0 rfl ?_
  refine at_iload_n 2 X rfl rfl dX11_falls_1 rfl ?_
  refine at_callVX 5 X Rt Rx _ 11 (ct_X11_needBeamP hG E s P L T K d hI_E x0) clX11 rfl k_0 mo_X11_needBeam w_1239 vo_X11_needBeam.1 vo_X11_needBeam.2 rfl rfl (by decide) (Nat.le_of_ble_eq_true rfl) dX11_falls_2 rfl (fun _ _ h => ⟨h.1, h.2.1, h.2.2⟩) ?_
  rintro _ _ ⟨hc0, rfl, rfl⟩
  obtain ⟨b, rfl⟩ : ∃ b : Nat, x0 = (b : Int) := ⟨x0.toNat, by omega⟩
  refine at_aload_n 6 X rfl rfl dX11_falls_5 rfl ?_
  refine at_callV 9 X _ 11 (ct_X11_refresh hG E s P L T K d hI_E) clX11 rfl k_0 mo_X11_refresh w_665 vo_X11_refresh.1 vo_X11_refresh.2 rfl rfl (crm Rt (by decide)) (Nat.le_of_ble_eq_true rfl) dX11_falls_6 rfl ?_
  rintro _ _ ⟨rfl, F1, rfl, hI_F1, hF_F1, hXn_F1⟩
  have hX_F1 := hX_E.tr hXn_F1
  refine at_aload_n 10 X rfl rfl dX11_falls_9 rfl ?_
  refine m_getR 13 X f_X11_69 k_0 r_0_11 dX11_falls_10 rfl ?_
  refine m_getR 16 X f_X11_278 k_48 r_48_1 dX11_falls_13 rfl ?_
  refine at_iload_n 17 X rfl rfl dX11_falls_16 rfl ?_
  refine m_ialoadV 18 X b (by omega) (dF (dyP (gNow P L d) (sB P) T 24) b) (hF_F1.2.2.1.2.1 b (by omega)) k_50 e_50 (by omega) dX11_falls_17 rfl ?_
  have hDI24 := dyP_DI (G := (gNow P L d)) hP.B hI_F1.WT (Nat.le_refl 24)
  refine at_iret X Rt ?_ (by decide) (by decide) dX11_falls_18
  exact ⟨hc0, (by rfl), _, rfl, hI_F1, hX_F1⟩
theorem dX11_lies_0 : decode cX11_lies 0 = .ok (.aload_n 0, 1) := by decide +kernel
theorem dX11_lies_1 : decode cX11_lies 1 = .ok (.iload_n 1, 1) := by decide +kernel
theorem dX11_lies_2 : decode cX11_lies 2 = .ok (.invokevirtual 208, 3) := by decide +kernel
theorem dX11_lies_5 : decode cX11_lies 5 = .ok (.aload_n 0, 1) := by decide +kernel
theorem dX11_lies_6 : decode cX11_lies 6 = .ok (.iload_n 2, 1) := by decide +kernel
theorem dX11_lies_7 : decode cX11_lies 7 = .ok (.invokevirtual 224, 3) := by decide +kernel
theorem dX11_lies_10 : decode cX11_lies 10 = .ok (.aload_n 0, 1) := by decide +kernel
theorem dX11_lies_11 : decode cX11_lies 11 = .ok (.invokevirtual 227, 3) := by decide +kernel
theorem dX11_lies_14 : decode cX11_lies 14 = .ok (.aload_n 0, 1) := by decide +kernel
theorem dX11_lies_15 : decode cX11_lies 15 = .ok (.getfield 69, 3) := by decide +kernel
theorem dX11_lies_18 : decode cX11_lies 18 = .ok (.iload_n 1, 1) := by decide +kernel
theorem dX11_lies_19 : decode cX11_lies 19 = .ok (.iload_n 2, 1) := by decide +kernel
theorem dX11_lies_20 : decode cX11_lies 20 = .ok (.invokevirtual 281, 3) := by decide +kernel
theorem dX11_lies_23 : decode cX11_lies 23 = .ok (.ireturn, 1) := by decide +kernel
theorem ct_X11_lies {g : Gw} (hG : GF g) {z : Bool} (E : Mm) (s : Nat) (P : SP) (L : LW) (T K : LN) (d : Nat) (hI_E : CXI E s P L T K d) (x0 x1 : Int) : CTX g yX11_lies cX11_lies 3 (some .int) 8 146 2 12 K2 z [mR 0, mI x0, mI x1] (ov E) K2 z (fun r' D' => (0 ≤ x0 ∧ x0 ≤ (bN (sB P) : Int) - 1) ∧ (0 ≤ x1 ∧ x1 ≤ 23) ∧ r' = some (mI (dP (dyP (gNow P L d) (sB P) T (x1.toNat + 1)) x0.toNat)) ∧ ∃ E1, D' = ov E1 ∧ CXI E1 s P L T K d ∧ CXF E E1) (fun X D' => (¬ (0 ≤ x0 ∧ x0 ≤ (bN (sB P) : Int) - 1) ∧ X = "java/util/NoSuchElementException" ∧ D' = ov (bumpE E 1)) ∨ ((0 ≤ x0 ∧ x0 ≤ (bN (sB P) : Int) - 1) ∧ ¬ (0 ≤ x1 ∧ x1 ≤ 23) ∧ X = "java/lang/IllegalArgumentException" ∧ D' = ov (bumpE E 2))) := by
  refine CTX.mk hG (by decide +kernel) (Nat.le_of_ble_eq_true rfl) (fun κ X Rt Rx ok => ?_)
  have hs := hI_E.sa
  have hP := hI_E.WS
  have hW40 := hP.W
  have hN10 := hP.N
  have hN8 := hP.B.N
  have hX_E : CXF E E := CXF.rf
  have hwG := gNow_WG hI_E
  have hgw : gW (gNow P L d) = sW P := rfl
  have hgn : gN (gNow P L d) = sN P := rfl
  refine at_aload_n 1 X rfl rfl dX11_lies_0 rfl ?_
  refine at_iload_n 2 X rfl rfl dX11_lies_1 rfl ?_
  refine at_callVX 5 X Rt Rx _ 11 (ct_X11_needBeamP hG E s P L T K d hI_E x0) clX11 rfl k_0 mo_X11_needBeam w_1239 vo_X11_needBeam.1 vo_X11_needBeam.2 rfl rfl (by decide) (Nat.le_of_ble_eq_true rfl) dX11_lies_2 rfl (fun _ _ h => Or.inl ⟨h.1, h.2.1, h.2.2⟩) ?_
  rintro _ _ ⟨hc0, rfl, rfl⟩
  refine at_aload_n 6 X rfl rfl dX11_lies_5 rfl ?_
  refine at_iload_n 7 X rfl rfl dX11_lies_6 rfl ?_
  refine at_callVX 10 X Rt Rx _ 11 (ct_X11_needHour hG E x1) clX11 rfl k_0 mo_X11_needHour w_1259 vo_X11_needHour.1 vo_X11_needHour.2 rfl rfl (by decide) (Nat.le_of_ble_eq_true rfl) dX11_lies_7 rfl (fun _ _ h => Or.inr (⟨hc0, h.1, h.2.1, h.2.2⟩)) ?_
  rintro _ _ ⟨hc1, rfl, rfl⟩
  obtain ⟨b, rfl⟩ : ∃ b : Nat, x0 = (b : Int) := ⟨x0.toNat, by omega⟩
  obtain ⟨h, rfl⟩ : ∃ h : Nat, x1 = (h : Int) := ⟨x1.toNat, by omega⟩
  refine at_aload_n 11 X rfl rfl dX11_lies_10 rfl ?_
  refine at_callV 14 X _ 11 (ct_X11_refresh hG E s P L T K d hI_E) clX11 rfl k_0 mo_X11_refresh w_665 vo_X11_refresh.1 vo_X11_refresh.2 rfl rfl (crm Rt (by decide)) (Nat.le_of_ble_eq_true rfl) dX11_lies_11 rfl ?_
  rintro _ _ ⟨rfl, F1, rfl, hI_F1, hF_F1, hXn_F1⟩
  have hX_F1 := hX_E.tr hXn_F1
  refine at_aload_n 15 X rfl rfl dX11_lies_14 rfl ?_
  refine m_getR 18 X f_X11_69 k_0 r_0_11 dX11_lies_15 rfl ?_
  refine at_iload_n 19 X rfl rfl dX11_lies_18 rfl ?_
  refine at_iload_n 20 X rfl rfl dX11_lies_19 rfl ?_
  refine at_callV 23 X _ 3 (ct_X3_placeBehind hG F1 48 (Or.inl rfl) b h (by omega) (by omega)) clX3 rfl k_48 mo_X3_placeBehind w_1358 vo_X3_placeBehind.1 vo_X3_placeBehind.2 rfl rfl (crm Rt (by decide)) (Nat.le_of_ble_eq_true rfl) dX11_lies_20 rfl ?_
  rintro _ _ ⟨rfl, rfl⟩
  rw [show F1 (48 + 4) (h * 8 + b) = dP (dyP (gNow P L d) (sB P) T (h + 1)) b from hF_F1.2.2.2 h b (by omega) (by omega)]
  refine at_iret X Rt ?_ (by decide) (by decide) dX11_lies_23
  exact ⟨hc0, hc1, (by rfl), _, rfl, hI_F1, hX_F1⟩
theorem dX11_fallen_0 : decode cX11_fallen 0 = .ok (.aload_n 0, 1) := by decide +kernel
theorem dX11_fallen_1 : decode cX11_fallen 1 = .ok (.invokevirtual 227, 3) := by decide +kernel
theorem dX11_fallen_4 : decode cX11_fallen 4 = .ok (.aload_n 0, 1) := by decide +kernel
theorem dX11_fallen_5 : decode cX11_fallen 5 = .ok (.getfield 69, 3) := by decide +kernel
theorem dX11_fallen_8 : decode cX11_fallen 8 = .ok (.getfield 284, 3) := by decide +kernel
theorem dX11_fallen_11 : decode cX11_fallen 11 = .ok (.ireturn, 1) := by decide +kernel
theorem ct_X11_fallen {g : Gw} (hG : GF g) {z : Bool} (E : Mm) (s : Nat) (P : SP) (L : LW) (T K : LN) (d : Nat) (hI_E : CXI E s P L T K d) : CT g yX11_fallen cX11_fallen 1 (some .int) 6 146 0 0 K2 z [mR 0] (ov E) K2 z (fun r' D' => r' = some (mI (mk (fun k => decide (¬ dF (dyP (gNow P L d) (sB P) T 24) k = -1)) 8 : Nat)) ∧ ∃ E1, D' = ov E1 ∧ CXI E1 s P L T K d ∧ CXF E E1) := by
  refine CT.mk hG (by decide +kernel) (Nat.le_of_ble_eq_true rfl) (fun κ X Rt _ ok => ?_)
  have hs := hI_E.sa
  have hP := hI_E.WS
  have hW40 := hP.W
  have hN10 := hP.N
  have hN8 := hP.B.N
  have hX_E : CXF E E := CXF.rf
  have hwG := gNow_WG hI_E
  have hgw : gW (gNow P L d) = sW P := rfl
  have hgn : gN (gNow P L d) = sN P := rfl
  refine at_aload_n 1 X rfl rfl dX11_fallen_0 rfl ?_
  refine at_callV 4 X _ 11 (ct_X11_refresh hG E s P L T K d hI_E) clX11 rfl k_0 mo_X11_refresh w_665 vo_X11_refresh.1 vo_X11_refresh.2 rfl rfl (crm Rt (by decide)) (Nat.le_of_ble_eq_true rfl) dX11_fallen_1 rfl ?_
  rintro _ _ ⟨rfl, F1, rfl, hI_F1, hF_F1, hXn_F1⟩
  have hX_F1 := hX_E.tr hXn_F1
  refine at_aload_n 5 X rfl rfl dX11_fallen_4 rfl ?_
  refine m_getR 8 X f_X11_69 k_0 r_0_11 dX11_fallen_5 rfl ?_
  refine m_getIV 11 X ((mk (fun k => decide (¬ dF (dyP (gNow P L d) (sB P) T 24) k = -1)) 8 : Nat) : Int) hF_F1.2.2.1.2.2.2.2 f_X11_284 k_48 rn_48_6 dX11_fallen_8 rfl ?_
  have hDI24 := dyP_DI (G := (gNow P L d)) hP.B hI_F1.WT (Nat.le_refl 24)
  refine at_iret X Rt ?_ (by decide) (by decide) dX11_fallen_11
  exact ⟨(by rfl), _, rfl, hI_F1, hX_F1⟩
