/-- what a change leaves of the class's cells -/
def CHX (E E1 : Mm) (s : Nat) : Prop := (∀ q, ¬ (q = 0 ∨ (24 ≤ q ∧ q ≤ 28) ∨ (s ≤ q ∧ q ≤ s + 14)) → E1 q = E q) ∧ ∀ k, ¬ (17 ≤ k ∧ k ≤ 19) → E1 0 k = E 0 k
theorem WT.of {P P' : SP} {T : LN} (h : WT (sW P) (sB P) T) (e : frm P' = frm P) : WT (sW P') (sB P') T := by
  obtain ⟨e1, e2, e3, e4, e5, e6, e7, e8, e9, e10⟩ := frm_is e
  unfold WT at h ⊢
  rw [e1, e8, e9]
  exact h
theorem WK.of {P P' : SP} {K : LN} (h : WK P K) (e : frm P' = frm P) : WK P' K := by
  obtain ⟨e1, e2, e3, e4, e5, e6, e7, e8, e9, e10⟩ := frm_is e
  unfold WK at h ⊢
  rw [e8]
  exact h
theorem cxi_chg {E E1 : Mm} {s d d' : Nat} {P P' : SP} {L : LW} {T K : LN} (h : CXI E s P L T K d) (hS : CS E1 s P') (hP : WS P') (hD : DX P') (e : frm P' = frm P) (hx : CHX E E1 s) (h17 : E1 0 17 = (d' : Int)) (hd : d' < 400) (h19 : E1 0 19 = 1) : CXI E1 s P' L T K d' := by
  have hs := h.sa
  refine ⟨h.sa, (hx.2 15 (by omega)).trans h.now, (hx.2 16 (by omega)).trans h.2.2.1, hS, hP, hD, h.Lw.fr (fun q k1 k2 => hx.1 q (by omega)), h.WL, h.Tn.fr (fun q k1 k2 => hx.1 q (by omega)), h.WT.of e, h.Kn.fr (fun q k1 k2 => hx.1 q (by omega)), h.WK.of e, h17, hd, Or.inl h19⟩
theorem dX11_build_0 : decode cX11_build 0 = .ok (.aload_n 0, 1) := by decide +kernel
theorem dX11_build_1 : decode cX11_build 1 = .ok (.iload_n 1, 1) := by decide +kernel
theorem dX11_build_2 : decode cX11_build 2 = .ok (.invokevirtual 196, 3) := by decide +kernel
theorem dX11_build_5 : decode cX11_build 5 = .ok (.aload_n 0, 1) := by decide +kernel
theorem dX11_build_6 : decode cX11_build 6 = .ok (.iload_n 2, 1) := by decide +kernel
theorem dX11_build_7 : decode cX11_build 7 = .ok (.iconst 1, 1) := by decide +kernel
theorem dX11_build_8 : decode cX11_build 8 = .ok (.bipush 99, 2) := by decide +kernel
theorem dX11_build_10 : decode cX11_build 10 = .ok (.invokestatic 253, 3) := by decide +kernel
theorem dX11_build_13 : decode cX11_build 13 = .ok (.invokevirtual 164, 3) := by decide +kernel
theorem dX11_build_16 : decode cX11_build 16 = .ok (.aload_n 0, 1) := by decide +kernel
theorem dX11_build_17 : decode cX11_build 17 = .ok (.getfield 93, 3) := by decide +kernel
theorem dX11_build_20 : decode cX11_build 20 = .ok (.getfield 205, 3) := by decide +kernel
theorem dX11_build_23 : decode cX11_build 23 = .ok (.iload_n 1, 1) := by decide +kernel
theorem dX11_build_24 : decode cX11_build 24 = .ok (.iaload, 1) := by decide +kernel
theorem dX11_build_25 : decode cX11_build 25 = .ok (.istore_n 3, 1) := by decide +kernel
theorem dX11_build_26 : decode cX11_build 26 = .ok (.aload_n 0, 1) := by decide +kernel
theorem dX11_build_27 : decode cX11_build 27 = .ok (.getfield 46, 3) := by decide +kernel
theorem dX11_build_30 : decode cX11_build 30 = .ok (.iconst 0, 1) := by decide +kernel
theorem dX11_build_31 : decode cX11_build 31 = .ok (.iload_n 1, 1) := by decide +kernel
theorem dX11_build_32 : decode cX11_build 32 = .ok (.iconst 0, 1) := by decide +kernel
theorem dX11_build_33 : decode cX11_build 33 = .ok (.iload_n 3, 1) := by decide +kernel
theorem dX11_build_34 : decode cX11_build 34 = .ok (.invokevirtual 456, 3) := by decide +kernel
theorem dX11_build_37 : decode cX11_build 37 = .ok (.ifCond .ne 5, 3) := by decide +kernel
theorem dX11_build_40 : decode cX11_build 40 = .ok (.iconst (-1), 1) := by decide +kernel
theorem dX11_build_41 : decode cX11_build 41 = .ok (.ireturn, 1) := by decide +kernel
theorem dX11_build_42 : decode cX11_build 42 = .ok (.aload_n 0, 1) := by decide +kernel
theorem dX11_build_43 : decode cX11_build 43 = .ok (.getfield 93, 3) := by decide +kernel
theorem dX11_build_46 : decode cX11_build 46 = .ok (.getfield 205, 3) := by decide +kernel
theorem dX11_build_49 : decode cX11_build 49 = .ok (.iload_n 1, 1) := by decide +kernel
theorem dX11_build_50 : decode cX11_build 50 = .ok (.iload_n 2, 1) := by decide +kernel
theorem dX11_build_51 : decode cX11_build 51 = .ok (.iastore, 1) := by decide +kernel
theorem dX11_build_52 : decode cX11_build 52 = .ok (.aload_n 0, 1) := by decide +kernel
theorem dX11_build_53 : decode cX11_build 53 = .ok (.iconst 1, 1) := by decide +kernel
theorem dX11_build_54 : decode cX11_build 54 = .ok (.putfield 100, 3) := by decide +kernel
theorem dX11_build_57 : decode cX11_build 57 = .ok (.iload_n 3, 1) := by decide +kernel
theorem dX11_build_58 : decode cX11_build 58 = .ok (.ireturn, 1) := by decide +kernel
theorem ct_X11_build {g : Gw} (hG : GF g) {z : Bool} (E : Mm) (s : Nat) (P : SP) (L : LW) (T K : LN) (d : Nat) (hI_E : CXI E s P L T K d) (x0 x1 : Int) (C : CHt) (hC : CCh E 24 C) (hW : WCh P C) : CTX g yX11_build cX11_build 4 (some .int) 7 116 2 12 K2 z [mR 0, mI x0, mI x1] (ov E) K2 z (fun r' D' => (0 ≤ x0 ∧ x0 ≤ (sN P : Int) - 1) ∧ (1 ≤ x1 ∧ x1 ≤ 99) ∧ ((C.1 = 20 ∧ r' = some (mI (-1)) ∧ D' = ov E) ∨ (C.1 < 20 ∧ r' = some (mI ((sH P x0.toNat : Nat) : Int)) ∧ ∃ E1, D' = ov E1 ∧ CXI E1 s (setH P x0.toNat x1.toNat) L T K d ∧ CCh E1 24 (chW C 0 x0.toNat 0 (sH P x0.toNat)) ∧ CHX E E1 s ∧ E1 0 18 = E 0 18))) (fun X D' => (¬ (0 ≤ x0 ∧ x0 ≤ (sN P : Int) - 1) ∧ X = "java/util/NoSuchElementException" ∧ D' = ov (bumpE E 1)) ∨ ((0 ≤ x0 ∧ x0 ≤ (sN P : Int) - 1) ∧ ¬ (1 ≤ x1 ∧ x1 ≤ 99) ∧ X = "java/lang/IllegalArgumentException" ∧ D' = ov (bumpE E 2))) := by
  refine CTX.mk hG (by decide +kernel) (Nat.le_of_ble_eq_true rfl) (fun κ X Rt Rx ok => ?_)
  have hs := hI_E.sa
  have hP := hI_E.WS
  have hW40 := hP.W
  have hN10 := hP.N
  have hN8 := hP.B.N
  have hX_E : CXF E E := CXF.rf
  have hwG := gNow_WG hI_E
  have hgw : gW (gNow P L d) = sW P := rfl
  have hgn : gN (gNow P L d) = sN P := rfl
  refine at_aload_n 1 X rfl rfl dX11_build_0 rfl ?_
  refine at_iload_n 2 X rfl rfl dX11_build_1 rfl ?_
  refine at_callVX 5 X Rt Rx _ 11 (ct_X11_needPostP hG E s P L T K d hI_E x0) clX11 rfl k_0 mo_X11_needPost w_1207 vo_X11_needPost.1 vo_X11_needPost.2 rfl rfl (by decide) (Nat.le_of_ble_eq_true rfl) dX11_build_2 rfl (fun _ _ h => Or.inl ⟨h.1, h.2.1, h.2.2⟩) ?_
  rintro _ _ ⟨hc0, rfl, rfl⟩
  refine at_aload_n 6 X rfl rfl dX11_build_5 rfl ?_
  refine at_iload_n 7 X rfl rfl dX11_build_6 rfl ?_
  refine at_iconst 8 X (by decide) dX11_build_7 rfl ?_
  refine at_bipush 10 X (by decide) (by decide) dX11_build_8 rfl ?_
  refine at_callS 13 X (ct_X11_isWithin hG _ _ _) mo_X11_isWithin w_1211 so_X11_isWithin rfl rfl (crm Rt (by decide)) (Nat.le_of_ble_eq_true rfl) dX11_build_10 rfl ?_
  rintro _ _ ⟨rfl, rfl⟩
  refine at_callVX 16 X Rt Rx _ 11 (ct_X11_need hG E (if 1 ≤ x1 ∧ x1 ≤ 99 then 1 else 0)) clX11 rfl k_0 mo_X11_need w_863 vo_X11_need.1 vo_X11_need.2 rfl rfl (by decide) (Nat.le_of_ble_eq_true rfl) dX11_build_13 rfl (fun _ _ h => Or.inr (⟨hc0, (fun q => ite_no.mp h.1 (by omega)), h.2.1, h.2.2⟩)) ?_
  rintro _ _ ⟨hq, rfl, rfl⟩
  have hc1 : 1 ≤ x1 ∧ x1 ≤ 99 := by have := ite_yes.mp hq; omega
  obtain ⟨p, rfl⟩ : ∃ p : Nat, x0 = (p : Int) := ⟨x0.toNat, by omega⟩
  obtain ⟨v, rfl⟩ : ∃ v : Nat, x1 = (v : Int) := ⟨x1.toNat, by omega⟩
  refine at_aload_n 17 X rfl rfl dX11_build_16 rfl ?_
  refine m_getM 20 X (s) f_X11_93 k_0 rn_0_15 hI_E.now dX11_build_17 rfl ?_
  refine m_getR 23 X f_X11_205 (kX9 hs) (rX9_1 hs) dX11_build_20 rfl ?_
  refine at_iload_n 24 X rfl rfl dX11_build_23 rfl ?_
  refine m_ialoadV 25 X p (by omega) ((sH P p : Nat) : Int) (hI_E.S.H (p := p) (by omega)) (kX9_1 hs) (eX9_1 hs) (by omega) dX11_build_24 rfl ?_
  have := hP.H (p := p) (by omega)
  refine at_istore_n 26 X rfl dX11_build_25 rfl (by decide) ?_
  refine at_aload_n 27 X rfl rfl dX11_build_26 rfl ?_
  refine m_getR 30 X f_X11_46 k_0 r_0_7 dX11_build_27 rfl ?_
  refine at_iconst 31 X (by decide) dX11_build_30 rfl ?_
  refine at_iload_n 32 X rfl rfl dX11_build_31 rfl ?_
  refine at_iconst 33 X (by decide) dX11_build_32 rfl ?_
  refine at_iload_n 34 X rfl rfl dX11_build_33 rfl ?_
  refine at_callV 37 X _ 2 (ct_X2_note hG E C.1 hW.1 hC.1 0 ((p : Nat) : Int) 0 ((sH P p : Nat) : Int)) clX2 rfl k_24 mo_X2_note w_1705 vo_X2_note.1 vo_X2_note.2 rfl rfl (crm Rt (by decide)) (Nat.le_of_ble_eq_true rfl) dX11_build_34 rfl ?_
  rintro _ _ ⟨rfl, rfl⟩
  obtain ⟨F1, hn1⟩ : ∃ F1, F1 = if C.1 < 20 then noteE E C.1 0 ((p : Nat) : Int) 0 ((sH P p : Nat) : Int) else E := ⟨_, rfl⟩
  rw [← hn1]
  refine at_if_ne 40 42 X dX11_build_37 rfl (by decide) (fun h37 => ?_) (fun h37 => ?_)
  · have h37 : (C.1 < 20) := ite_yes.mp h37
    rw [if_pos h37] at hn1
    have hC1 : CCh F1 24 (chW C 0 p 0 (sH P p)) := by rw [hn1]; exact note_CCh (k := 0) (w := p) (a := 0) (v := (sH P p)) hC
    have hq1 : ∀ q, ¬ (24 ≤ q ∧ q ≤ 28) → F1 q = E q := fun q hq => by rw [hn1]; exact note_row hq
    have hI_F1 : CXI F1 s P L T K d := hI_E.fr2 (fun q hq => hq1 q (by omega))
    refine at_aload_n 43 X rfl rfl dX11_build_42 rfl ?_
    refine m_getM 46 X (s) f_X11_93 k_0 rn_0_15 hI_F1.now dX11_build_43 rfl ?_
    refine m_getR 49 X f_X11_205 (kX9 hs) (rX9_1 hs) dX11_build_46 rfl ?_
    refine at_iload_n 50 X rfl rfl dX11_build_49 rfl ?_
    refine at_iload_n 51 X rfl rfl dX11_build_50 rfl ?_
    refine m_iastoreV 52 X p (by omega) (kX9_1 hs) (eX9_1 hs) (by omega) dX11_build_51 rfl ?_
    refine at_aload_n 53 X rfl rfl dX11_build_52 rfl ?_
    refine at_iconst 54 X (by decide) dX11_build_53 rfl ?_
    refine m_putZ 57 X (Or.inr rfl) f_X11_100 fz_11_19 k_0 rn_0_19 dX11_build_54 rfl ?_
    refine at_iload_n 58 X rfl rfl dX11_build_57 rfl ?_
    refine at_iret X Rt ?_ (by decide) (by decide) dX11_build_58
    have hx : CHX E (wr (wr F1 (s + 2) p ((v : Nat) : Int)) 0 19 1) s := ⟨fun q hq => by simp (disch := omega) only [wr_row]; exact hq1 q (by omega), fun k hk => by simp (disch := omega) only [wr_o]; exact congrFun (hq1 0 (by omega)) k⟩
    have hCS : CS (wr (wr F1 (s + 2) p ((v : Nat) : Int)) 0 19 1) s (setH P p v) := CS.fr (CS.setH (hI_F1.S) (show p < sN P by omega)) (fun q k1 k2 => wr_row (by omega))
    refine ⟨hc0, hc1, Or.inr ⟨by assumption, by first | rfl | (simp only [Int.toNat_natCast]), _, rfl, ?_, ?_, hx, by simp (disch := omega) only [wr_o]; exact congrFun (hq1 0 (by omega)) 18⟩⟩
    · exact cxi_chg hI_E (d' := d) hCS (setH_WS hP (by omega)) hI_E.DX rfl hx (by simp (disch := omega) only [wr_o]; exact (congrFun (hq1 0 (by omega)) 17).trans hI_E.dy) hI_E.dl (wr_s _ _ _ _)
    · exact hC1.fr (fun q k1 k2 => by simp (disch := omega) only [wr_row])
  · have h37 : ¬ (C.1 < 20) := ite_no.mp h37
    rw [if_neg h37] at hn1
    subst hn1
    have hc20 : C.1 = 20 := by have := hW.1; omega
    refine at_iconst 41 X (by decide) dX11_build_40 rfl ?_
    refine at_iret X Rt ?_ (by decide) (by decide) dX11_build_41
    exact ⟨hc0, hc1, Or.inl ⟨hc20, rfl, rfl⟩⟩
theorem dX11_lay_0 : decode cX11_lay 0 = .ok (.aload_n 0, 1) := by decide +kernel
theorem dX11_lay_1 : decode cX11_lay 1 = .ok (.iload_n 1, 1) := by decide +kernel
theorem dX11_lay_2 : decode cX11_lay 2 = .ok (.invokevirtual 208, 3) := by decide +kernel
theorem dX11_lay_5 : decode cX11_lay 5 = .ok (.aload_n 0, 1) := by decide +kernel
theorem dX11_lay_6 : decode cX11_lay 6 = .ok (.iload_n 2, 1) := by decide +kernel
theorem dX11_lay_7 : decode cX11_lay 7 = .ok (.iconst 0, 1) := by decide +kernel
theorem dX11_lay_8 : decode cX11_lay 8 = .ok (.aload_n 0, 1) := by decide +kernel
theorem dX11_lay_9 : decode cX11_lay 9 = .ok (.getfield 93, 3) := by decide +kernel
theorem dX11_lay_12 : decode cX11_lay 12 = .ok (.getfield 181, 3) := by decide +kernel
theorem dX11_lay_15 : decode cX11_lay 15 = .ok (.aload_n 0, 1) := by decide +kernel
theorem dX11_lay_16 : decode cX11_lay 16 = .ok (.getfield 93, 3) := by decide +kernel
theorem dX11_lay_19 : decode cX11_lay 19 = .ok (.getfield 135, 3) := by decide +kernel
theorem dX11_lay_22 : decode cX11_lay 22 = .ok (.getfield 214, 3) := by decide +kernel
theorem dX11_lay_25 : decode cX11_lay 25 = .ok (.iload_n 1, 1) := by decide +kernel
theorem dX11_lay_26 : decode cX11_lay 26 = .ok (.iaload, 1) := by decide +kernel
theorem dX11_lay_27 : decode cX11_lay 27 = .ok (.isub, 1) := by decide +kernel
theorem dX11_lay_28 : decode cX11_lay 28 = .ok (.invokestatic 253, 3) := by decide +kernel
theorem dX11_lay_31 : decode cX11_lay 31 = .ok (.invokevirtual 164, 3) := by decide +kernel
theorem dX11_lay_34 : decode cX11_lay 34 = .ok (.aload_n 0, 1) := by decide +kernel
theorem dX11_lay_35 : decode cX11_lay 35 = .ok (.getfield 93, 3) := by decide +kernel
theorem dX11_lay_38 : decode cX11_lay 38 = .ok (.getfield 135, 3) := by decide +kernel
theorem dX11_lay_41 : decode cX11_lay 41 = .ok (.getfield 211, 3) := by decide +kernel
theorem dX11_lay_44 : decode cX11_lay 44 = .ok (.iload_n 1, 1) := by decide +kernel
theorem dX11_lay_45 : decode cX11_lay 45 = .ok (.iaload, 1) := by decide +kernel
theorem dX11_lay_46 : decode cX11_lay 46 = .ok (.istore_n 3, 1) := by decide +kernel
theorem dX11_lay_47 : decode cX11_lay 47 = .ok (.aload_n 0, 1) := by decide +kernel
theorem dX11_lay_48 : decode cX11_lay 48 = .ok (.getfield 46, 3) := by decide +kernel
theorem dX11_lay_51 : decode cX11_lay 51 = .ok (.iconst 1, 1) := by decide +kernel
theorem dX11_lay_52 : decode cX11_lay 52 = .ok (.iload_n 1, 1) := by decide +kernel
theorem dX11_lay_53 : decode cX11_lay 53 = .ok (.iconst 0, 1) := by decide +kernel
theorem dX11_lay_54 : decode cX11_lay 54 = .ok (.iload_n 3, 1) := by decide +kernel
theorem dX11_lay_55 : decode cX11_lay 55 = .ok (.invokevirtual 456, 3) := by decide +kernel
theorem dX11_lay_58 : decode cX11_lay 58 = .ok (.ifCond .ne 5, 3) := by decide +kernel
theorem dX11_lay_61 : decode cX11_lay 61 = .ok (.iconst (-1), 1) := by decide +kernel
theorem dX11_lay_62 : decode cX11_lay 62 = .ok (.ireturn, 1) := by decide +kernel
theorem dX11_lay_63 : decode cX11_lay 63 = .ok (.aload_n 0, 1) := by decide +kernel
theorem dX11_lay_64 : decode cX11_lay 64 = .ok (.getfield 93, 3) := by decide +kernel
theorem dX11_lay_67 : decode cX11_lay 67 = .ok (.getfield 135, 3) := by decide +kernel
theorem dX11_lay_70 : decode cX11_lay 70 = .ok (.getfield 211, 3) := by decide +kernel
theorem dX11_lay_73 : decode cX11_lay 73 = .ok (.iload_n 1, 1) := by decide +kernel
theorem dX11_lay_74 : decode cX11_lay 74 = .ok (.iload_n 2, 1) := by decide +kernel
theorem dX11_lay_75 : decode cX11_lay 75 = .ok (.iastore, 1) := by decide +kernel
theorem dX11_lay_76 : decode cX11_lay 76 = .ok (.aload_n 0, 1) := by decide +kernel
theorem dX11_lay_77 : decode cX11_lay 77 = .ok (.iconst 1, 1) := by decide +kernel
theorem dX11_lay_78 : decode cX11_lay 78 = .ok (.putfield 100, 3) := by decide +kernel
theorem dX11_lay_81 : decode cX11_lay 81 = .ok (.iload_n 3, 1) := by decide +kernel
theorem dX11_lay_82 : decode cX11_lay 82 = .ok (.ireturn, 1) := by decide +kernel
theorem ct_X11_lay {g : Gw} (hG : GF g) {z : Bool} (E : Mm) (s : Nat) (P : SP) (L : LW) (T K : LN) (d : Nat) (hI_E : CXI E s P L T K d) (x0 x1 : Int) (C : CHt) (hC : CCh E 24 C) (hW : WCh P C) : CTX g yX11_lay cX11_lay 4 (some .int) 7 116 2 12 K2 z [mR 0, mI x0, mI x1] (ov E) K2 z (fun r' D' => (0 ≤ x0 ∧ x0 ≤ (bN (sB P) : Int) - 1) ∧ (0 ≤ x1 ∧ x1 ≤ (sW P : Int) - (bL (sB P) x0.toNat : Int)) ∧ ((C.1 = 20 ∧ r' = some (mI (-1)) ∧ D' = ov E) ∨ (C.1 < 20 ∧ r' = some (mI ((bX (sB P) x0.toNat : Nat) : Int)) ∧ ∃ E1, D' = ov E1 ∧ CXI E1 s (setXP P x0.toNat x1.toNat) L T K d ∧ CCh E1 24 (chW C 1 x0.toNat 0 (bX (sB P) x0.toNat)) ∧ CHX E E1 s ∧ E1 0 18 = E 0 18))) (fun X D' => (¬ (0 ≤ x0 ∧ x0 ≤ (bN (sB P) : Int) - 1) ∧ X = "java/util/NoSuchElementException" ∧ D' = ov (bumpE E 1)) ∨ ((0 ≤ x0 ∧ x0 ≤ (bN (sB P) : Int) - 1) ∧ ¬ (0 ≤ x1 ∧ x1 ≤ (sW P : Int) - (bL (sB P) x0.toNat : Int)) ∧ X = "java/lang/IllegalArgumentException" ∧ D' = ov (bumpE E 2))) := by
  refine CTX.mk hG (by decide +kernel) (Nat.le_of_ble_eq_true rfl) (fun κ X Rt Rx ok => ?_)
  have hs := hI_E.sa
  have hP := hI_E.WS
  have hW40 := hP.W
  have hN10 := hP.N
  have hN8 := hP.B.N
  have hX_E : CXF E E := CXF.rf
  have hwG := gNow_WG hI_E
  have hgw : gW (gNow P L d) = sW P := rfl
  have hgn : gN (gNow P L d) = sN P := rfl
  refine at_aload_n 1 X rfl rfl dX11_lay_0 rfl ?_
  refine at_iload_n 2 X rfl rfl dX11_lay_1 rfl ?_
  refine at_callVX 5 X Rt Rx _ 11 (ct_X11_needBeamP hG E s P L T K d hI_E x0) clX11 rfl k_0 mo_X11_needBeam w_1239 vo_X11_needBeam.1 vo_X11_needBeam.2 rfl rfl (by decide) (Nat.le_of_ble_eq_true rfl) dX11_lay_2 rfl (fun _ _ h => Or.inl ⟨h.1, h.2.1, h.2.2⟩) ?_
  rintro _ _ ⟨hc0, rfl, rfl⟩
  obtain ⟨b, rfl⟩ : ∃ b : Nat, x0 = (b : Int) := ⟨x0.toNat, by omega⟩
  refine at_aload_n 6 X rfl rfl dX11_lay_5 rfl ?_
  refine at_iload_n 7 X rfl rfl dX11_lay_6 rfl ?_
  refine at_iconst 8 X (by decide) dX11_lay_7 rfl ?_
  refine at_aload_n 9 X rfl rfl dX11_lay_8 rfl ?_
  refine m_getM 12 X (s) f_X11_93 k_0 rn_0_15 hI_E.now dX11_lay_9 rfl ?_
  refine m_getIV 15 X ((sW P : Nat) : Int) hI_E.S.W f_X11_181 (kX9 hs) (nX9_8 hs) dX11_lay_12 rfl ?_
  have := hP.W
  refine at_aload_n 16 X rfl rfl dX11_lay_15 rfl ?_
  refine m_getM 19 X (s) f_X11_93 k_0 rn_0_15 hI_E.now dX11_lay_16 rfl ?_
  refine m_getR 22 X f_X11_135 (kX9 hs) (rX9_7 hs) dX11_lay_19 rfl ?_
  refine m_getR 25 X f_X11_214 (kX0 (iB_8 hs)) (rX0_1 (iB_8 hs)) dX11_lay_22 rfl ?_
  refine at_iload_n 26 X rfl rfl dX11_lay_25 rfl ?_
  refine m_ialoadV 27 X b (by omega) ((bL (sB P) b : Nat) : Int) (hI_E.B.L (b := b) (by omega)) (kX0_1 (iB_8 hs)) (eX0_1 (iB_8 hs)) (by omega) dX11_lay_26 rfl ?_
  have := hP.B.L (b := b) (by omega)
  refine at_isubV 28 X (((sW P : Nat) : Int) - ((bL (sB P) b : Nat) : Int)) (w32_v rfl (by omega) (by omega)) dX11_lay_27 rfl ?_
  refine at_callS 31 X (ct_X11_isWithin hG _ _ _) mo_X11_isWithin w_1211 so_X11_isWithin rfl rfl (crm Rt (by decide)) (Nat.le_of_ble_eq_true rfl) dX11_lay_28 rfl ?_
  rintro _ _ ⟨rfl, rfl⟩
  refine at_callVX 34 X Rt Rx _ 11 (ct_X11_need hG E (if 0 ≤ x1 ∧ x1 ≤ (((sW P : Nat) : Int) - ((bL (sB P) b : Nat) : Int)) then 1 else 0)) clX11 rfl k_0 mo_X11_need w_863 vo_X11_need.1 vo_X11_need.2 rfl rfl (by decide) (Nat.le_of_ble_eq_true rfl) dX11_lay_31 rfl (fun _ _ h => Or.inr (⟨hc0, (fun q => ite_no.mp h.1 (by simp only [Int.toNat_natCast] at q; omega)), h.2.1, h.2.2⟩)) ?_
  rintro _ _ ⟨hq, rfl, rfl⟩
  have hc1 : 0 ≤ x1 ∧ x1 ≤ (sW P : Int) - (bL (sB P) b : Int) := by have := ite_yes.mp hq; omega
  obtain ⟨v, rfl⟩ : ∃ v : Nat, x1 = (v : Int) := ⟨x1.toNat, by omega⟩
  refine at_aload_n 35 X rfl rfl dX11_lay_34 rfl ?_
  refine m_getM 38 X (s) f_X11_93 k_0 rn_0_15 hI_E.now dX11_lay_35 rfl ?_
  refine m_getR 41 X f_X11_135 (kX9 hs) (rX9_7 hs) dX11_lay_38 rfl ?_
  refine m_getR 44 X f_X11_211 (kX0 (iB_8 hs)) (rX0_0 (iB_8 hs)) dX11_lay_41 rfl ?_
  refine at_iload_n 45 X rfl rfl dX11_lay_44 rfl ?_
  refine m_ialoadV 46 X b (by omega) ((bX (sB P) b : Nat) : Int) (hI_E.B.X (b := b) (by omega)) (kX0_0 (iB_8 hs)) (eX0_0 (iB_8 hs)) (by omega) dX11_lay_45 rfl ?_
  have := hP.B.X (b := b) (by omega)
  refine at_istore_n 47 X rfl dX11_lay_46 rfl (by decide) ?_
  refine at_aload_n 48 X rfl rfl dX11_lay_47 rfl ?_
  refine m_getR 51 X f_X11_46 k_0 r_0_7 dX11_lay_48 rfl ?_
  refine at_iconst 52 X (by decide) dX11_lay_51 rfl ?_
  refine at_iload_n 53 X rfl rfl dX11_lay_52 rfl ?_
  refine at_iconst 54 X (by decide) dX11_lay_53 rfl ?_
  refine at_iload_n 55 X rfl rfl dX11_lay_54 rfl ?_
  refine at_callV 58 X _ 2 (ct_X2_note hG E C.1 hW.1 hC.1 1 ((b : Nat) : Int) 0 ((bX (sB P) b : Nat) : Int)) clX2 rfl k_24 mo_X2_note w_1705 vo_X2_note.1 vo_X2_note.2 rfl rfl (crm Rt (by decide)) (Nat.le_of_ble_eq_true rfl) dX11_lay_55 rfl ?_
  rintro _ _ ⟨rfl, rfl⟩
  obtain ⟨F1, hn1⟩ : ∃ F1, F1 = if C.1 < 20 then noteE E C.1 1 ((b : Nat) : Int) 0 ((bX (sB P) b : Nat) : Int) else E := ⟨_, rfl⟩
  rw [← hn1]
  refine at_if_ne 61 63 X dX11_lay_58 rfl (by decide) (fun h58 => ?_) (fun h58 => ?_)
  · have h58 : (C.1 < 20) := ite_yes.mp h58
    rw [if_pos h58] at hn1
    have hC1 : CCh F1 24 (chW C 1 b 0 (bX (sB P) b)) := by rw [hn1]; exact note_CCh (k := 1) (w := b) (a := 0) (v := (bX (sB P) b)) hC
    have hq1 : ∀ q, ¬ (24 ≤ q ∧ q ≤ 28) → F1 q = E q := fun q hq => by rw [hn1]; exact note_row hq
    have hI_F1 : CXI F1 s P L T K d := hI_E.fr2 (fun q hq => hq1 q (by omega))
    refine at_aload_n 64 X rfl rfl dX11_lay_63 rfl ?_
    refine m_getM 67 X (s) f_X11_93 k_0 rn_0_15 hI_F1.now dX11_lay_64 rfl ?_
    refine m_getR 70 X f_X11_135 (kX9 hs) (rX9_7 hs) dX11_lay_67 rfl ?_
    refine m_getR 73 X f_X11_211 (kX0 (iB_8 hs)) (rX0_0 (iB_8 hs)) dX11_lay_70 rfl ?_
    refine at_iload_n 74 X rfl rfl dX11_lay_73 rfl ?_
    refine at_iload_n 75 X rfl rfl dX11_lay_74 rfl ?_
    refine m_iastoreV 76 X b (by omega) (kX0_0 (iB_8 hs)) (eX0_0 (iB_8 hs)) (by omega) dX11_lay_75 rfl ?_
    refine at_aload_n 77 X rfl rfl dX11_lay_76 rfl ?_
    refine at_iconst 78 X (by decide) dX11_lay_77 rfl ?_
    refine m_putZ 81 X (Or.inr rfl) f_X11_100 fz_11_19 k_0 rn_0_19 dX11_lay_78 rfl ?_
    refine at_iload_n 82 X rfl rfl dX11_lay_81 rfl ?_
    refine at_iret X Rt ?_ (by decide) (by decide) dX11_lay_82
    have hx : CHX E (wr (wr F1 (s + 8 + 1) b ((v : Nat) : Int)) 0 19 1) s := ⟨fun q hq => by simp (disch := omega) only [wr_row]; exact hq1 q (by omega), fun k hk => by simp (disch := omega) only [wr_o]; exact congrFun (hq1 0 (by omega)) k⟩
    have hCS : CS (wr (wr F1 (s + 8 + 1) b ((v : Nat) : Int)) 0 19 1) s (setXP P b v) := CS.fr (CS.setX (hI_F1.S)) (fun q k1 k2 => wr_row (by omega))
    refine ⟨hc0, hc1, Or.inr ⟨by assumption, by first | rfl | (simp only [Int.toNat_natCast]), _, rfl, ?_, ?_, hx, by simp (disch := omega) only [wr_o]; exact congrFun (hq1 0 (by omega)) 18⟩⟩
    · exact cxi_chg hI_E (d' := d) hCS (setB_WS hP (setXb_WB (b := b) (x := v) hP.B (by omega))) hI_E.DX rfl hx (by simp (disch := omega) only [wr_o]; exact (congrFun (hq1 0 (by omega)) 17).trans hI_E.dy) hI_E.dl (wr_s _ _ _ _)
    · exact hC1.fr (fun q k1 k2 => by simp (disch := omega) only [wr_row])
  · have h58 : ¬ (C.1 < 20) := ite_no.mp h58
    rw [if_neg h58] at hn1
    subst hn1
    have hc20 : C.1 = 20 := by have := hW.1; omega
    refine at_iconst 62 X (by decide) dX11_lay_61 rfl ?_
    refine at_iret X Rt ?_ (by decide) (by decide) dX11_lay_62
    exact ⟨hc0, hc1, Or.inl ⟨hc20, rfl, rfl⟩⟩
theorem dX11_put_0 : decode cX11_put 0 = .ok (.aload_n 0, 1) := by decide +kernel
theorem dX11_put_1 : decode cX11_put 1 = .ok (.iload_n 1, 1) := by decide +kernel
theorem dX11_put_2 : decode cX11_put 2 = .ok (.invokevirtual 208, 3) := by decide +kernel
theorem dX11_put_5 : decode cX11_put 5 = .ok (.aload_n 0, 1) := by decide +kernel
theorem dX11_put_6 : decode cX11_put 6 = .ok (.iload_n 2, 1) := by decide +kernel
theorem dX11_put_7 : decode cX11_put 7 = .ok (.iconst 0, 1) := by decide +kernel
theorem dX11_put_8 : decode cX11_put 8 = .ok (.aload_n 0, 1) := by decide +kernel
theorem dX11_put_9 : decode cX11_put 9 = .ok (.getfield 93, 3) := by decide +kernel
theorem dX11_put_12 : decode cX11_put 12 = .ok (.getfield 135, 3) := by decide +kernel
theorem dX11_put_15 : decode cX11_put 15 = .ok (.getfield 214, 3) := by decide +kernel
theorem dX11_put_18 : decode cX11_put 18 = .ok (.iload_n 1, 1) := by decide +kernel
theorem dX11_put_19 : decode cX11_put 19 = .ok (.iaload, 1) := by decide +kernel
theorem dX11_put_20 : decode cX11_put 20 = .ok (.iconst 1, 1) := by decide +kernel
theorem dX11_put_21 : decode cX11_put 21 = .ok (.isub, 1) := by decide +kernel
theorem dX11_put_22 : decode cX11_put 22 = .ok (.invokestatic 253, 3) := by decide +kernel
theorem dX11_put_25 : decode cX11_put 25 = .ok (.ifCond .eq 17, 3) := by decide +kernel
theorem dX11_put_28 : decode cX11_put 28 = .ok (.iload_n 3, 1) := by decide +kernel
theorem dX11_put_29 : decode cX11_put 29 = .ok (.iconst 0, 1) := by decide +kernel
theorem dX11_put_30 : decode cX11_put 30 = .ok (.bipush 99, 2) := by decide +kernel
theorem dX11_put_32 : decode cX11_put 32 = .ok (.invokestatic 253, 3) := by decide +kernel
theorem dX11_put_35 : decode cX11_put 35 = .ok (.ifCond .eq 7, 3) := by decide +kernel
theorem dX11_put_38 : decode cX11_put 38 = .ok (.iconst 1, 1) := by decide +kernel
theorem dX11_put_39 : decode cX11_put 39 = .ok (.goto 4, 3) := by decide +kernel
theorem dX11_put_42 : decode cX11_put 42 = .ok (.iconst 0, 1) := by decide +kernel
theorem dX11_put_43 : decode cX11_put 43 = .ok (.invokevirtual 164, 3) := by decide +kernel
theorem dX11_put_46 : decode cX11_put 46 = .ok (.aload_n 0, 1) := by decide +kernel
theorem dX11_put_47 : decode cX11_put 47 = .ok (.getfield 93, 3) := by decide +kernel
theorem dX11_put_50 : decode cX11_put 50 = .ok (.getfield 135, 3) := by decide +kernel
theorem dX11_put_53 : decode cX11_put 53 = .ok (.iload_n 1, 1) := by decide +kernel
theorem dX11_put_54 : decode cX11_put 54 = .ok (.iload_n 2, 1) := by decide +kernel
theorem dX11_put_55 : decode cX11_put 55 = .ok (.invokevirtual 446, 3) := by decide +kernel
theorem dX11_put_58 : decode cX11_put 58 = .ok (.istore 4, 2) := by decide +kernel
theorem dX11_put_60 : decode cX11_put 60 = .ok (.aload_n 0, 1) := by decide +kernel
theorem dX11_put_61 : decode cX11_put 61 = .ok (.getfield 46, 3) := by decide +kernel
theorem dX11_put_64 : decode cX11_put 64 = .ok (.iconst 2, 1) := by decide +kernel
theorem dX11_put_65 : decode cX11_put 65 = .ok (.iload_n 1, 1) := by decide +kernel
theorem dX11_put_66 : decode cX11_put 66 = .ok (.iload_n 2, 1) := by decide +kernel
theorem dX11_put_67 : decode cX11_put 67 = .ok (.iload 4, 2) := by decide +kernel
theorem dX11_put_69 : decode cX11_put 69 = .ok (.invokevirtual 456, 3) := by decide +kernel
theorem dX11_put_72 : decode cX11_put 72 = .ok (.ifCond .ne 5, 3) := by decide +kernel
theorem dX11_put_75 : decode cX11_put 75 = .ok (.iconst (-1), 1) := by decide +kernel
theorem dX11_put_76 : decode cX11_put 76 = .ok (.ireturn, 1) := by decide +kernel
theorem dX11_put_77 : decode cX11_put 77 = .ok (.aload_n 0, 1) := by decide +kernel
theorem dX11_put_78 : decode cX11_put 78 = .ok (.getfield 93, 3) := by decide +kernel
theorem dX11_put_81 : decode cX11_put 81 = .ok (.getfield 135, 3) := by decide +kernel
theorem dX11_put_84 : decode cX11_put 84 = .ok (.iload_n 1, 1) := by decide +kernel
theorem dX11_put_85 : decode cX11_put 85 = .ok (.iload_n 2, 1) := by decide +kernel
theorem dX11_put_86 : decode cX11_put 86 = .ok (.iload_n 3, 1) := by decide +kernel
theorem dX11_put_87 : decode cX11_put 87 = .ok (.invokevirtual 449, 3) := by decide +kernel
theorem dX11_put_90 : decode cX11_put 90 = .ok (.aload_n 0, 1) := by decide +kernel
theorem dX11_put_91 : decode cX11_put 91 = .ok (.iconst 1, 1) := by decide +kernel
theorem dX11_put_92 : decode cX11_put 92 = .ok (.putfield 100, 3) := by decide +kernel
theorem dX11_put_95 : decode cX11_put 95 = .ok (.iload 4, 2) := by decide +kernel
theorem dX11_put_97 : decode cX11_put 97 = .ok (.ireturn, 1) := by decide +kernel
theorem ct_X11_put {g : Gw} (hG : GF g) {z : Bool} (E : Mm) (s : Nat) (P : SP) (L : LW) (T K : LN) (d : Nat) (hI_E : CXI E s P L T K d) (x0 x1 x2 : Int) (C : CHt) (hC : CCh E 24 C) (hW : WCh P C) : CTX g yX11_put cX11_put 5 (some .int) 7 116 2 12 K2 z [mR 0, mI x0, mI x1, mI x2] (ov E) K2 z (fun r' D' => (0 ≤ x0 ∧ x0 ≤ (bN (sB P) : Int) - 1) ∧ ((0 ≤ x1 ∧ x1 ≤ (bL (sB P) x0.toNat : Int) - 1) ∧ (0 ≤ x2 ∧ x2 ≤ 99)) ∧ ((C.1 = 20 ∧ r' = some (mI (-1)) ∧ D' = ov E) ∨ (C.1 < 20 ∧ r' = some (mI ((bD (sB P) x0.toNat x1.toNat : Nat) : Int)) ∧ ∃ E1, D' = ov E1 ∧ CXI E1 s (setDP P x0.toNat x1.toNat x2.toNat) L T K d ∧ CCh E1 24 (chW C 2 x0.toNat x1.toNat (bD (sB P) x0.toNat x1.toNat)) ∧ CHX E E1 s ∧ E1 0 18 = E 0 18))) (fun X D' => (¬ (0 ≤ x0 ∧ x0 ≤ (bN (sB P) : Int) - 1) ∧ X = "java/util/NoSuchElementException" ∧ D' = ov (bumpE E 1)) ∨ ((0 ≤ x0 ∧ x0 ≤ (bN (sB P) : Int) - 1) ∧ ¬ ((0 ≤ x1 ∧ x1 ≤ (bL (sB P) x0.toNat : Int) - 1) ∧ (0 ≤ x2 ∧ x2 ≤ 99)) ∧ X = "java/lang/IllegalArgumentException" ∧ D' = ov (bumpE E 2))) := by
  refine CTX.mk hG (by decide +kernel) (Nat.le_of_ble_eq_true rfl) (fun κ X Rt Rx ok => ?_)
  have hs := hI_E.sa
  have hP := hI_E.WS
  have hW40 := hP.W
  have hN10 := hP.N
  have hN8 := hP.B.N
  have hX_E : CXF E E := CXF.rf
  have hwG := gNow_WG hI_E
  have hgw : gW (gNow P L d) = sW P := rfl
  have hgn : gN (gNow P L d) = sN P := rfl
  refine at_aload_n 1 X rfl rfl dX11_put_0 rfl ?_
  refine at_iload_n 2 X rfl rfl dX11_put_1 rfl ?_
  refine at_callVX 5 X Rt Rx _ 11 (ct_X11_needBeamP hG E s P L T K d hI_E x0) clX11 rfl k_0 mo_X11_needBeam w_1239 vo_X11_needBeam.1 vo_X11_needBeam.2 rfl rfl (by decide) (Nat.le_of_ble_eq_true rfl) dX11_put_2 rfl (fun _ _ h => Or.inl ⟨h.1, h.2.1, h.2.2⟩) ?_
  rintro _ _ ⟨hc0, rfl, rfl⟩
  obtain ⟨b, rfl⟩ : ∃ b : Nat, x0 = (b : Int) := ⟨x0.toNat, by omega⟩
  refine at_aload_n 6 X rfl rfl dX11_put_5 rfl ?_
  refine at_iload_n 7 X rfl rfl dX11_put_6 rfl ?_
  refine at_iconst 8 X (by decide) dX11_put_7 rfl ?_
  refine at_aload_n 9 X rfl rfl dX11_put_8 rfl ?_
  refine m_getM 12 X (s) f_X11_93 k_0 rn_0_15 hI_E.now dX11_put_9 rfl ?_
  refine m_getR 15 X f_X11_135 (kX9 hs) (rX9_7 hs) dX11_put_12 rfl ?_
  refine m_getR 18 X f_X11_214 (kX0 (iB_8 hs)) (rX0_1 (iB_8 hs)) dX11_put_15 rfl ?_
  refine at_iload_n 19 X rfl rfl dX11_put_18 rfl ?_
  refine m_ialoadV 20 X b (by omega) ((bL (sB P) b : Nat) : Int) (hI_E.B.L (b := b) (by omega)) (kX0_1 (iB_8 hs)) (eX0_1 (iB_8 hs)) (by omega) dX11_put_19 rfl ?_
  have := hP.B.L (b := b) (by omega)
  refine at_iconst 21 X (by decide) dX11_put_20 rfl ?_
  refine at_isubV 22 X (((bL (sB P) b : Nat) : Int) - 1) (w32_v rfl (by omega) (by omega)) dX11_put_21 rfl ?_
  refine at_callS 25 X (ct_X11_isWithin hG _ _ _) mo_X11_isWithin w_1211 so_X11_isWithin rfl rfl (crm Rt (by decide)) (Nat.le_of_ble_eq_true rfl) dX11_put_22 rfl ?_
  rintro _ _ ⟨rfl, rfl⟩
  refine at_if_eq 28 42 X dX11_put_25 rfl (by decide) (fun h25 => ?_) (fun h25 => ?_)
  · have h25 : ¬ (0 ≤ x1 ∧ x1 ≤ (((bL (sB P) b : Nat) : Int) - 1)) := ite_no.mp h25
    refine at_iconst 43 X (by decide) dX11_put_42 rfl ?_
    refine at_callVX 46 X Rt Rx _ 11 (ct_X11_need hG E 0) clX11 rfl k_0 mo_X11_need w_863 vo_X11_need.1 vo_X11_need.2 rfl rfl (by decide) (Nat.le_of_ble_eq_true rfl) dX11_put_43 rfl (fun _ _ h => Or.inr (⟨hc0, (by simp only [Int.toNat_natCast]; omega), h.2.1, h.2.2⟩)) ?_
    rintro _ _ ⟨hq, _, _⟩
    exact absurd rfl hq
  · have h25 : (0 ≤ x1 ∧ x1 ≤ (((bL (sB P) b : Nat) : Int) - 1)) := ite_yes.mp h25
    refine at_iload_n 29 X rfl rfl dX11_put_28 rfl ?_
    refine at_iconst 30 X (by decide) dX11_put_29 rfl ?_
    refine at_bipush 32 X (by decide) (by decide) dX11_put_30 rfl ?_
    refine at_callS 35 X (ct_X11_isWithin hG _ _ _) mo_X11_isWithin w_1211 so_X11_isWithin rfl rfl (crm Rt (by decide)) (Nat.le_of_ble_eq_true rfl) dX11_put_32 rfl ?_
    rintro _ _ ⟨rfl, rfl⟩
    refine at_if_eq 38 42 X dX11_put_35 rfl (by decide) (fun h35 => ?_) (fun h35 => ?_)
    · have h35 : ¬ (0 ≤ x2 ∧ x2 ≤ 99) := ite_no.mp h35
      refine at_iconst 43 X (by decide) dX11_put_42 rfl ?_
      refine at_callVX 46 X Rt Rx _ 11 (ct_X11_need hG E 0) clX11 rfl k_0 mo_X11_need w_863 vo_X11_need.1 vo_X11_need.2 rfl rfl (by decide) (Nat.le_of_ble_eq_true rfl) dX11_put_43 rfl (fun _ _ h => Or.inr (⟨hc0, (by simp only [Int.toNat_natCast]; omega), h.2.1, h.2.2⟩)) ?_
      rintro _ _ ⟨hq, _, _⟩
      exact absurd rfl hq
    · have h35 : (0 ≤ x2 ∧ x2 ≤ 99) := ite_yes.mp h35
      refine at_iconst 39 X (by decide) dX11_put_38 rfl ?_
      refine at_goto 43 X dX11_put_39 (by decide) ?_
      refine at_callVX 46 X Rt Rx _ 11 (ct_X11_need hG E 1) clX11 rfl k_0 mo_X11_need w_863 vo_X11_need.1 vo_X11_need.2 rfl rfl (by decide) (Nat.le_of_ble_eq_true rfl) dX11_put_43 rfl (fun _ _ h => absurd h.1 (by decide)) ?_
      rintro _ _ ⟨_, rfl, rfl⟩
      have hc1 : (0 ≤ x1 ∧ x1 ≤ (bL (sB P) b : Int) - 1) ∧ (0 ≤ x2 ∧ x2 ≤ 99) := by omega
      obtain ⟨p, rfl⟩ : ∃ p : Nat, x1 = (p : Int) := ⟨x1.toNat, by omega⟩
      obtain ⟨v, rfl⟩ : ∃ v : Nat, x2 = (v : Int) := ⟨x2.toNat, by omega⟩
      refine at_aload_n 47 X rfl rfl dX11_put_46 rfl ?_
      refine m_getM 50 X (s) f_X11_93 k_0 rn_0_15 hI_E.now dX11_put_47 rfl ?_
      refine m_getR 53 X f_X11_135 (kX9 hs) (rX9_7 hs) dX11_put_50 rfl ?_
      refine at_iload_n 54 X rfl rfl dX11_put_53 rfl ?_
      refine at_iload_n 55 X rfl rfl dX11_put_54 rfl ?_
      refine at_callV 58 X _ 0 (ct_X0_loadOn hG E (sB P) (s + 8) (sW P) (iB_8 hs) hI_E.B hP.B hP.W.2 b p (by omega) (by omega)) clX0 rfl (kX0 (iB_8 hs)) mo_X0_loadOn w_1682 vo_X0_loadOn.1 vo_X0_loadOn.2 rfl rfl (crm Rt (by decide)) (Nat.le_of_ble_eq_true rfl) dX11_put_55 rfl ?_
      rintro _ _ ⟨rfl, rfl⟩
      have := hP.B.D (b := b) (p := p) (by omega) (by omega)
      refine at_istore 60 X dX11_put_58 rfl (by decide) ?_
      refine at_aload_n 61 X rfl rfl dX11_put_60 rfl ?_
      refine m_getR 64 X f_X11_46 k_0 r_0_7 dX11_put_61 rfl ?_
      refine at_iconst 65 X (by decide) dX11_put_64 rfl ?_
      refine at_iload_n 66 X rfl rfl dX11_put_65 rfl ?_
      refine at_iload_n 67 X rfl rfl dX11_put_66 rfl ?_
      refine at_iload 69 X rfl dX11_put_67 rfl ?_
      refine at_callV 72 X _ 2 (ct_X2_note hG E C.1 hW.1 hC.1 2 ((b : Nat) : Int) ((p : Nat) : Int) ((bD (sB P) b p : Nat) : Int)) clX2 rfl k_24 mo_X2_note w_1705 vo_X2_note.1 vo_X2_note.2 rfl rfl (crm Rt (by decide)) (Nat.le_of_ble_eq_true rfl) dX11_put_69 rfl ?_
      rintro _ _ ⟨rfl, rfl⟩
      obtain ⟨F1, hn1⟩ : ∃ F1, F1 = if C.1 < 20 then noteE E C.1 2 ((b : Nat) : Int) ((p : Nat) : Int) ((bD (sB P) b p : Nat) : Int) else E := ⟨_, rfl⟩
      rw [← hn1]
      refine at_if_ne 75 77 X dX11_put_72 rfl (by decide) (fun h72 => ?_) (fun h72 => ?_)
      · have h72 : (C.1 < 20) := ite_yes.mp h72
        rw [if_pos h72] at hn1
        have hC1 : CCh F1 24 (chW C 2 b p (bD (sB P) b p)) := by rw [hn1]; exact note_CCh (k := 2) (w := b) (a := p) (v := (bD (sB P) b p)) hC
        have hq1 : ∀ q, ¬ (24 ≤ q ∧ q ≤ 28) → F1 q = E q := fun q hq => by rw [hn1]; exact note_row hq
        have hI_F1 : CXI F1 s P L T K d := hI_E.fr2 (fun q hq => hq1 q (by omega))
        refine at_aload_n 78 X rfl rfl dX11_put_77 rfl ?_
        refine m_getM 81 X (s) f_X11_93 k_0 rn_0_15 hI_F1.now dX11_put_78 rfl ?_
        refine m_getR 84 X f_X11_135 (kX9 hs) (rX9_7 hs) dX11_put_81 rfl ?_
        refine at_iload_n 85 X rfl rfl dX11_put_84 rfl ?_
        refine at_iload_n 86 X rfl rfl dX11_put_85 rfl ?_
        refine at_iload_n 87 X rfl rfl dX11_put_86 rfl ?_
        refine at_callV 90 X _ 0 (ct_X0_setLoadX hG F1 (sB P) (s + 8) (sW P) (iB_8 hs) hI_F1.B hP.B hP.W.2 b p v (by omega) (by omega) (by omega)) clX0 rfl (kX0 (iB_8 hs)) mo_X0_setLoad w_1683 vo_X0_setLoad.1 vo_X0_setLoad.2 rfl rfl (crm Rt (by decide)) (Nat.le_of_ble_eq_true rfl) dX11_put_87 rfl ?_
        rintro _ _ ⟨rfl, rfl⟩
        refine at_aload_n 91 X rfl rfl dX11_put_90 rfl ?_
        refine at_iconst 92 X (by decide) dX11_put_91 rfl ?_
        refine m_putZ 95 X (Or.inr rfl) f_X11_100 fz_11_19 k_0 rn_0_19 dX11_put_92 rfl ?_
        refine at_iload 97 X rfl dX11_put_95 rfl ?_
        refine at_iret X Rt ?_ (by decide) (by decide) dX11_put_97
        have hx : CHX E (wr (wr (wr (wr F1 (s + 8 + 4) (b * 20 + p) ((v : Nat) : Int)) (s + 8 + 5) b (onL (setD (sB P) b p v) b : Int)) (s + 8 + 6) b (onR (setD (sB P) b p v) b : Int)) 0 19 1) s := ⟨fun q hq => by simp (disch := omega) only [wr_row]; exact hq1 q (by omega), fun k hk => by simp (disch := omega) only [wr_o]; exact congrFun (hq1 0 (by omega)) k⟩
        have hCS : CS (wr (wr (wr (wr F1 (s + 8 + 4) (b * 20 + p) ((v : Nat) : Int)) (s + 8 + 5) b (onL (setD (sB P) b p v) b : Int)) (s + 8 + 6) b (onR (setD (sB P) b p v) b : Int)) 0 19 1) s (setDP P b p v) := CS.fr (hI_F1.S.newB (fun q k1 k2 => by rw [wr_row (by omega), wr_row (by omega), wr_row (by omega)]) (CB_set hI_F1.B hP.B (by omega) (by omega))) (fun q k1 k2 => wr_row (by omega))
        refine ⟨hc0, hc1, Or.inr ⟨by assumption, by first | rfl | (simp only [Int.toNat_natCast]), _, rfl, ?_, ?_, hx, by simp (disch := omega) only [wr_o]; exact congrFun (hq1 0 (by omega)) 18⟩⟩
        · exact cxi_chg hI_E (d' := d) hCS (setB_WS hP (setD_WB hP.B (by omega))) hI_E.DX rfl hx (by simp (disch := omega) only [wr_o]; exact (congrFun (hq1 0 (by omega)) 17).trans hI_E.dy) hI_E.dl (wr_s _ _ _ _)
        · exact hC1.fr (fun q k1 k2 => by simp (disch := omega) only [wr_row])
      · have h72 : ¬ (C.1 < 20) := ite_no.mp h72
        rw [if_neg h72] at hn1
        subst hn1
        have hc20 : C.1 = 20 := by have := hW.1; omega
        refine at_iconst 76 X (by decide) dX11_put_75 rfl ?_
        refine at_iret X Rt ?_ (by decide) (by decide) dX11_put_76
        exact ⟨hc0, hc1, Or.inl ⟨hc20, rfl, rfl⟩⟩
theorem dX11_day_0 : decode cX11_day 0 = .ok (.aload_n 0, 1) := by decide +kernel
theorem dX11_day_1 : decode cX11_day 1 = .ok (.iload_n 1, 1) := by decide +kernel
theorem dX11_day_2 : decode cX11_day 2 = .ok (.invokevirtual 293, 3) := by decide +kernel
theorem dX11_day_5 : decode cX11_day 5 = .ok (.aload_n 0, 1) := by decide +kernel
theorem dX11_day_6 : decode cX11_day 6 = .ok (.getfield 171, 3) := by decide +kernel
theorem dX11_day_9 : decode cX11_day 9 = .ok (.istore_n 2, 1) := by decide +kernel
theorem dX11_day_10 : decode cX11_day 10 = .ok (.aload_n 0, 1) := by decide +kernel
theorem dX11_day_11 : decode cX11_day 11 = .ok (.iload_n 1, 1) := by decide +kernel
theorem dX11_day_12 : decode cX11_day 12 = .ok (.putfield 171, 3) := by decide +kernel
theorem dX11_day_15 : decode cX11_day 15 = .ok (.aload_n 0, 1) := by decide +kernel
theorem dX11_day_16 : decode cX11_day 16 = .ok (.iconst 1, 1) := by decide +kernel
theorem dX11_day_17 : decode cX11_day 17 = .ok (.putfield 100, 3) := by decide +kernel
theorem dX11_day_20 : decode cX11_day 20 = .ok (.iload_n 2, 1) := by decide +kernel
theorem dX11_day_21 : decode cX11_day 21 = .ok (.ireturn, 1) := by decide +kernel
theorem ct_X11_day {g : Gw} (hG : GF g) {z : Bool} (E : Mm) (s : Nat) (P : SP) (L : LW) (T K : LN) (d : Nat) (hI_E : CXI E s P L T K d) (x0 : Int) : CTX g yX11_day cX11_day 3 (some .int) 8 132 1 6 K2 z [mR 0, mI x0] (ov E) K2 z (fun r' D' => (0 ≤ x0 ∧ x0 ≤ 399) ∧ r' = some (mI ((d : Nat) : Int)) ∧ ∃ E1, D' = ov E1 ∧ CXI E1 s P L T K x0.toNat ∧ (∀ q, q ≠ 0 → E1 q = E q) ∧ E1 0 18 = E 0 18) (fun X D' => (¬ (0 ≤ x0 ∧ x0 ≤ 399) ∧ X = "java/lang/IllegalArgumentException" ∧ D' = ov (bumpE E 2))) := by
  refine CTX.mk hG (by decide +kernel) (Nat.le_of_ble_eq_true rfl) (fun κ X Rt Rx ok => ?_)
  have hs := hI_E.sa
  have hP := hI_E.WS
  have hW40 := hP.W
  have hN10 := hP.N
  have hN8 := hP.B.N
  have hX_E : CXF E E := CXF.rf
  have hwG := gNow_WG hI_E
  have hgw : gW (gNow P L d) = sW P := rfl
  have hgn : gN (gNow P L d) = sN P := rfl
  refine at_aload_n 1 X rfl rfl dX11_day_0 rfl ?_
  refine at_iload_n 2 X rfl rfl dX11_day_1 rfl ?_
  refine at_callVX 5 X Rt Rx _ 11 (ct_X11_needDay hG E x0) clX11 rfl k_0 mo_X11_needDay w_1366 vo_X11_needDay.1 vo_X11_needDay.2 rfl rfl (by decide) (Nat.le_of_ble_eq_true rfl) dX11_day_2 rfl (fun _ _ h => ⟨h.1, h.2.1, h.2.2⟩) ?_
  rintro _ _ ⟨hc0, rfl, rfl⟩
  obtain ⟨n, rfl⟩ : ∃ n : Nat, x0 = (n : Int) := ⟨x0.toNat, by omega⟩
  refine at_aload_n 6 X rfl rfl dX11_day_5 rfl ?_
  refine m_getIV 9 X ((d : Nat) : Int) hI_E.dy f_X11_171 k_0 rn_0_17 dX11_day_6 rfl ?_
  have := hI_E.dl
  refine at_istore_n 10 X rfl dX11_day_9 rfl (by decide) ?_
  refine at_aload_n 11 X rfl rfl dX11_day_10 rfl ?_
  refine at_iload_n 12 X rfl rfl dX11_day_11 rfl ?_
  refine m_putI 15 X f_X11_171 fw_11_17 k_0 rn_0_17 dX11_day_12 rfl ?_
  refine at_aload_n 16 X rfl rfl dX11_day_15 rfl ?_
  refine at_iconst 17 X (by decide) dX11_day_16 rfl ?_
  refine m_putZ 20 X (Or.inr rfl) f_X11_100 fz_11_19 k_0 rn_0_19 dX11_day_17 rfl ?_
  refine at_iload_n 21 X rfl rfl dX11_day_20 rfl ?_
  refine at_iret X Rt ?_ (by decide) (by decide) dX11_day_21
  have hx : CHX E (wr (wr E 0 17 ((n : Nat) : Int)) 0 19 1) s := ⟨fun q hq => by rw [wr_row (by omega), wr_row (by omega)], fun k hk => by rw [wr_o (by omega), wr_o (by omega)]⟩
  refine ⟨hc0, rfl, _, rfl, ?_, fun q hq => by rw [wr_row hq, wr_row hq], by rw [wr_o (by omega), wr_o (by omega)]⟩
  rw [Int.toNat_natCast]
  exact cxi_chg hI_E (hI_E.S.fr (fun q k1 k2 => by rw [wr_row (by omega), wr_row (by omega)])) hP hI_E.DX rfl hx (by rw [wr_o (by omega), wr_s]) (by omega) (wr_s _ _ _ _)
theorem dX11_undo_0 : decode cX11_undo 0 = .ok (.aload_n 0, 1) := by decide +kernel
theorem dX11_undo_1 : decode cX11_undo 1 = .ok (.getfield 46, 3) := by decide +kernel
theorem dX11_undo_4 : decode cX11_undo 4 = .ok (.getfield 177, 3) := by decide +kernel
theorem dX11_undo_7 : decode cX11_undo 7 = .ok (.ifCond .ne 5, 3) := by decide +kernel
theorem dX11_undo_10 : decode cX11_undo 10 = .ok (.iconst (-1), 1) := by decide +kernel
theorem dX11_undo_11 : decode cX11_undo 11 = .ok (.ireturn, 1) := by decide +kernel
theorem dX11_undo_12 : decode cX11_undo 12 = .ok (.aload_n 0, 1) := by decide +kernel
theorem dX11_undo_13 : decode cX11_undo 13 = .ok (.getfield 46, 3) := by decide +kernel
theorem dX11_undo_16 : decode cX11_undo 16 = .ok (.aload_n 0, 1) := by decide +kernel
theorem dX11_undo_17 : decode cX11_undo 17 = .ok (.getfield 93, 3) := by decide +kernel
theorem dX11_undo_20 : decode cX11_undo 20 = .ok (.invokevirtual 460, 3) := by decide +kernel
theorem dX11_undo_23 : decode cX11_undo 23 = .ok (.aload_n 0, 1) := by decide +kernel
theorem dX11_undo_24 : decode cX11_undo 24 = .ok (.iconst 1, 1) := by decide +kernel
theorem dX11_undo_25 : decode cX11_undo 25 = .ok (.putfield 100, 3) := by decide +kernel
theorem dX11_undo_28 : decode cX11_undo 28 = .ok (.aload_n 0, 1) := by decide +kernel
theorem dX11_undo_29 : decode cX11_undo 29 = .ok (.getfield 46, 3) := by decide +kernel
theorem dX11_undo_32 : decode cX11_undo 32 = .ok (.getfield 177, 3) := by decide +kernel
theorem dX11_undo_35 : decode cX11_undo 35 = .ok (.ireturn, 1) := by decide +kernel
theorem ct_X11_undo {g : Gw} (hG : GF g) {z : Bool} (E : Mm) (s : Nat) (P : SP) (L : LW) (T K : LN) (d : Nat) (hI_E : CXI E s P L T K d) (C : CHt) (hC : CCh E 24 C) (hW : WCh P C) : CT g yX11_undo cX11_undo 1 (some .int) 3 76 0 0 K2 z [mR 0] (ov E) K2 z (fun r' D' => (C.1 = 0 ∧ r' = some (mI (-1)) ∧ D' = ov E) ∨ (0 < C.1 ∧ r' = some (mI ((C.1 - 1 : Nat) : Int)) ∧ ∃ E1, D' = ov E1 ∧ CXI E1 s (dnP C P 1) L T K d ∧ CCh E1 24 (C.1 - 1, C.2) ∧ CHX E E1 s ∧ E1 0 18 = E 0 18)) := by
  refine CT.mk hG (by decide +kernel) (Nat.le_of_ble_eq_true rfl) (fun κ X Rt _ ok => ?_)
  have hs := hI_E.sa
  have hP := hI_E.WS
  have hW40 := hP.W
  have hN10 := hP.N
  have hN8 := hP.B.N
  have hX_E : CXF E E := CXF.rf
  have hwG := gNow_WG hI_E
  have hgw : gW (gNow P L d) = sW P := rfl
  have hgn : gN (gNow P L d) = sN P := rfl
  refine at_aload_n 1 X rfl rfl dX11_undo_0 rfl ?_
  refine m_getR 4 X f_X11_46 k_0 r_0_7 dX11_undo_1 rfl ?_
  refine m_getIV 7 X ((C.1 : Nat) : Int) hC.1 f_X11_177 k_24 rn_24_4 dX11_undo_4 rfl ?_
  refine at_if_ne 10 12 X dX11_undo_7 rfl (by decide) (fun h7 => ?_) (fun h7 => ?_)
  · have hpos : 0 < C.1 := by omega
    refine at_aload_n 13 X rfl rfl dX11_undo_12 rfl ?_
    refine m_getR 16 X f_X11_46 k_0 r_0_7 dX11_undo_13 rfl ?_
    refine at_aload_n 17 X rfl rfl dX11_undo_16 rfl ?_
    refine m_getM 20 X (s) f_X11_93 k_0 rn_0_15 hI_E.now dX11_undo_17 rfl ?_
    refine at_callV 23 X _ 2 (ct_X2_takeBack hG E C hC (by omega) s hs P hP hI_E.S hW) clX2 rfl k_24 mo_X2_takeBack w_803 vo_X2_takeBack.1 vo_X2_takeBack.2 rfl rfl (crm Rt (by decide)) (Nat.le_of_ble_eq_true rfl) dX11_undo_20 rfl ?_
    rintro _ _ ⟨rfl, F1, rfl, hS1, hC1, hq1⟩
    refine at_aload_n 24 X rfl rfl dX11_undo_23 rfl ?_
    refine at_iconst 25 X (by decide) dX11_undo_24 rfl ?_
    refine m_putZ 28 X (Or.inr rfl) f_X11_100 fz_11_19 k_0 rn_0_19 dX11_undo_25 rfl ?_
    refine at_aload_n 29 X rfl rfl dX11_undo_28 rfl ?_
    refine m_getR 32 X f_X11_46 k_0 r_0_7 dX11_undo_29 rfl ?_
    refine m_getIV 35 X (((C.1 - 1) : Nat) : Int) ((wr_o (by omega)).trans hC1.1) f_X11_177 k_24 rn_24_4 dX11_undo_32 rfl ?_
    refine at_iret X Rt ?_ (by decide) (by decide) dX11_undo_35
    have hx : CHX E (wr F1 0 19 1) s := ⟨fun q hq => by rw [wr_row (by omega)]; exact hq1 q (by omega) (by omega), fun k hk => by rw [wr_o (by omega)]; exact congrFun (hq1 0 (by omega) (by omega)) k⟩
    have hu := un_WS hP hI_E.DX hW (k := C.1 - 1) (by omega)
    refine Or.inr ⟨hpos, rfl, _, rfl, ?_, hC1.fr (fun q k1 k2 => wr_row (by omega)), hx, by rw [wr_o (by omega)]; exact congrFun (hq1 0 (by omega) (by omega)) 18⟩
    exact cxi_chg hI_E (P' := unP C (C.1 - 1) P) (hS1.fr (fun q k1 k2 => wr_row (by omega))) hu.1 hu.2 (frm_un C _ P) hx (by rw [wr_o (by omega)]; exact (congrFun (hq1 0 (by omega) (by omega)) 17).trans hI_E.dy) hI_E.dl (wr_s _ _ _ _)
  · refine at_iconst 11 X (by decide) dX11_undo_10 rfl ?_
    refine at_iret X Rt ?_ (by decide) (by decide) dX11_undo_11
    exact Or.inl ⟨by omega, rfl, rfl⟩
theorem dX11_image_0 : decode cX11_image 0 = .ok (.aload_n 0, 1) := by decide +kernel
theorem dX11_image_1 : decode cX11_image 1 = .ok (.getfield 178, 3) := by decide +kernel
theorem dX11_image_4 : decode cX11_image 4 = .ok (.iconst 3, 1) := by decide +kernel
theorem dX11_image_5 : decode cX11_image 5 = .ok (.if_icmp .lt 5, 3) := by decide +kernel
theorem dX11_image_8 : decode cX11_image 8 = .ok (.iconst (-1), 1) := by decide +kernel
theorem dX11_image_9 : decode cX11_image 9 = .ok (.ireturn, 1) := by decide +kernel
theorem dX11_image_10 : decode cX11_image 10 = .ok (.aload_n 0, 1) := by decide +kernel
theorem dX11_image_11 : decode cX11_image 11 = .ok (.getfield 52, 3) := by decide +kernel
theorem dX11_image_14 : decode cX11_image 14 = .ok (.aload_n 0, 1) := by decide +kernel
theorem dX11_image_15 : decode cX11_image 15 = .ok (.getfield 178, 3) := by decide +kernel
theorem dX11_image_18 : decode cX11_image 18 = .ok (.aaload, 1) := by decide +kernel
theorem dX11_image_19 : decode cX11_image 19 = .ok (.aload_n 0, 1) := by decide +kernel
theorem dX11_image_20 : decode cX11_image 20 = .ok (.getfield 93, 3) := by decide +kernel
theorem dX11_image_23 : decode cX11_image 23 = .ok (.aload_n 0, 1) := by decide +kernel
theorem dX11_image_24 : decode cX11_image 24 = .ok (.getfield 171, 3) := by decide +kernel
theorem dX11_image_27 : decode cX11_image 27 = .ok (.aload_n 0, 1) := by decide +kernel
theorem dX11_image_28 : decode cX11_image 28 = .ok (.getfield 46, 3) := by decide +kernel
theorem dX11_image_31 : decode cX11_image 31 = .ok (.invokevirtual 464, 3) := by decide +kernel
theorem dX11_image_34 : decode cX11_image 34 = .ok (.aload_n 0, 1) := by decide +kernel
theorem dX11_image_35 : decode cX11_image 35 = .ok (.dup, 1) := by decide +kernel
theorem dX11_image_36 : decode cX11_image 36 = .ok (.getfield 178, 3) := by decide +kernel
theorem dX11_image_39 : decode cX11_image 39 = .ok (.iconst 1, 1) := by decide +kernel
theorem dX11_image_40 : decode cX11_image 40 = .ok (.iadd, 1) := by decide +kernel
theorem dX11_image_41 : decode cX11_image 41 = .ok (.putfield 178, 3) := by decide +kernel
theorem dX11_image_44 : decode cX11_image 44 = .ok (.aload_n 0, 1) := by decide +kernel
theorem dX11_image_45 : decode cX11_image 45 = .ok (.getfield 178, 3) := by decide +kernel
theorem dX11_image_48 : decode cX11_image 48 = .ok (.ireturn, 1) := by decide +kernel
theorem ct_X11_image {g : Gw} (hG : GF g) {z : Bool} (E : Mm) (s : Nat) (P : SP) (L : LW) (T K : LN) (d : Nat) (hI_E : CXI E s P L T K d) (C : CHt) (hC : CCh E 24 C) (hW : WCh P C) (m : Nat) (hm3 : m ≤ 3) (hm : E 0 18 = ((m : Nat) : Int)) : CT g yX11_image cX11_image 1 (some .int) 3 68 0 0 K2 z [mR 0] (ov E) K2 z (fun r' D' => (m = 3 ∧ r' = some (mI (-1)) ∧ D' = ov E) ∨ (m < 3 ∧ r' = some (mI ((m + 1 : Nat) : Int)) ∧ ∃ E1, D' = ov E1 ∧ CXI E1 s P L T K d ∧ CIm E1 (98 + 9 * m) P d C ∧ E1 0 18 = ((m + 1 : Nat) : Int) ∧ (∀ q, ¬ (q = 0 ∨ (98 + 9 * m ≤ q ∧ q ≤ 98 + 9 * m + 8)) → E1 q = E q) ∧ ∀ k, k ≠ 18 → E1 0 k = E 0 k)) := by
  refine CT.mk hG (by decide +kernel) (Nat.le_of_ble_eq_true rfl) (fun κ X Rt _ ok => ?_)
  have hs := hI_E.sa
  have hP := hI_E.WS
  have hW40 := hP.W
  have hN10 := hP.N
  have hN8 := hP.B.N
  have hX_E : CXF E E := CXF.rf
  have hwG := gNow_WG hI_E
  have hgw : gW (gNow P L d) = sW P := rfl
  have hgn : gN (gNow P L d) = sN P := rfl
  refine at_aload_n 1 X rfl rfl dX11_image_0 rfl ?_
  refine m_getIV 4 X ((m : Nat) : Int) hm f_X11_178 k_0 rn_0_18 dX11_image_1 rfl ?_
  refine at_iconst 5 X (by decide) dX11_image_4 rfl ?_
  refine at_icmp_lt 8 10 X dX11_image_5 rfl (by decide) (fun h5 => ?_) (fun h5 => ?_)
  · refine at_aload_n 11 X rfl rfl dX11_image_10 rfl ?_
    refine m_getR 14 X f_X11_52 k_0 r_0_8 dX11_image_11 rfl ?_
    refine at_aload_n 15 X rfl rfl dX11_image_14 rfl ?_
    refine m_getIV 18 X ((m : Nat) : Int) hm f_X11_178 k_0 rn_0_18 dX11_image_15 rfl ?_
    refine m_aaloadV 19 X m (by omega) k_29 (by decide) (by omega) (rr_29 _ (by omega)) dX11_image_18 rfl ?_
    refine at_aload_n 20 X rfl rfl dX11_image_19 rfl ?_
    refine m_getM 23 X (s) f_X11_93 k_0 rn_0_15 hI_E.now dX11_image_20 rfl ?_
    refine at_aload_n 24 X rfl rfl dX11_image_23 rfl ?_
    refine m_getIV 27 X ((d : Nat) : Int) hI_E.dy f_X11_171 k_0 rn_0_17 dX11_image_24 rfl ?_
    have := hI_E.dl
    refine at_aload_n 28 X rfl rfl dX11_image_27 rfl ?_
    refine m_getR 31 X f_X11_46 k_0 r_0_7 dX11_image_28 rfl ?_
    refine at_callV 34 X _ 5 (ct_X5_keep hG E (98 + 9 * m) s (by omega) hs P hP hI_E.S d C hC hW.1) clX5 rfl (kX5 (show 98 + 9 * m = 98 ∨ 98 + 9 * m = 107 ∨ 98 + 9 * m = 116 by omega)) mo_X5_keep w_824 vo_X5_keep.1 vo_X5_keep.2 rfl rfl (crm Rt (by decide)) (Nat.le_of_ble_eq_true rfl) dX11_image_31 rfl ?_
    rintro _ _ ⟨rfl, F1, rfl, hIm1, hq1⟩
    refine at_aload_n 35 X rfl rfl dX11_image_34 rfl ?_
    refine at_dup 36 X (show ¬ (2 : Nat) = 1 by decide) dX11_image_35 rfl ?_
    refine m_getIV 39 X ((m : Nat) : Int) ((congrFun (hq1 0 (by omega)) 18).trans hm) f_X11_178 k_0 rn_0_18 dX11_image_36 rfl ?_
    refine at_iconst 40 X (by decide) dX11_image_39 rfl ?_
    refine at_iaddV 41 X ((m + 1 : Nat) : Int) (w32_v (by omega) (by omega) (by omega)) dX11_image_40 rfl ?_
    refine m_putI 44 X f_X11_178 fw_11_18 k_0 rn_0_18 dX11_image_41 rfl ?_
    refine at_aload_n 45 X rfl rfl dX11_image_44 rfl ?_
    refine m_getIV 48 X ((m + 1 : Nat) : Int) (wr_s _ _ _ _) f_X11_178 k_0 rn_0_18 dX11_image_45 rfl ?_
    refine at_iret X Rt ?_ (by decide) (by decide) dX11_image_48
    have h0 : ∀ k, k ≠ 18 → (wr F1 0 18 ((m + 1 : Nat) : Int)) 0 k = E 0 k := fun k hk => by rw [wr_o (by omega)]; exact congrFun (hq1 0 (by omega)) k
    have hq2 : ∀ q, ¬ (q = 0 ∨ (98 + 9 * m ≤ q ∧ q ≤ 98 + 9 * m + 8)) → (wr F1 0 18 ((m + 1 : Nat) : Int)) q = E q := fun q hq => by rw [wr_row (by omega)]; exact hq1 q (by omega)
    refine Or.inr ⟨by omega, rfl, _, rfl, ?_, hIm1.fr (fun q k1 k2 => wr_row (by omega)), wr_s _ _ _ _, hq2, h0⟩
    refine ⟨hI_E.sa, (h0 15 (by decide)).trans hI_E.now, (h0 16 (by decide)).trans hI_E.2.2.1, hI_E.S.fr (fun q k1 k2 => hq2 q (by omega)), hI_E.WS, hI_E.DX, hI_E.Lw.fr (fun q k1 k2 => hq2 q (by omega)), hI_E.WL, hI_E.Tn.fr (fun q k1 k2 => hq2 q (by omega)), hI_E.WT, hI_E.Kn.fr (fun q k1 k2 => hq2 q (by omega)), hI_E.WK, (h0 17 (by decide)).trans hI_E.dy, hI_E.dl, ?_⟩
    rcases hI_E.st with q | q
    · exact Or.inl ((h0 19 (by decide)).trans q)
    · exact Or.inr ⟨(h0 19 (by decide)).trans q.1, q.2.fr (fun q k1 k2 k3 => hq2 q (by omega))⟩
  · refine at_iconst 9 X (by decide) dX11_image_8 rfl ?_
    refine at_iret X Rt ?_ (by decide) (by decide) dX11_image_9
    exact Or.inl ⟨by omega, rfl, rfl⟩
theorem dX11_restore_0 : decode cX11_restore 0 = .ok (.aload_n 0, 1) := by decide +kernel
theorem dX11_restore_1 : decode cX11_restore 1 = .ok (.getfield 178, 3) := by decide +kernel
theorem dX11_restore_4 : decode cX11_restore 4 = .ok (.ifCond .gt 5, 3) := by decide +kernel
theorem dX11_restore_7 : decode cX11_restore 7 = .ok (.iconst (-1), 1) := by decide +kernel
theorem dX11_restore_8 : decode cX11_restore 8 = .ok (.ireturn, 1) := by decide +kernel
theorem dX11_restore_9 : decode cX11_restore 9 = .ok (.aload_n 0, 1) := by decide +kernel
theorem dX11_restore_10 : decode cX11_restore 10 = .ok (.dup, 1) := by decide +kernel
theorem dX11_restore_11 : decode cX11_restore 11 = .ok (.getfield 178, 3) := by decide +kernel
theorem dX11_restore_14 : decode cX11_restore 14 = .ok (.iconst 1, 1) := by decide +kernel
theorem dX11_restore_15 : decode cX11_restore 15 = .ok (.isub, 1) := by decide +kernel
theorem dX11_restore_16 : decode cX11_restore 16 = .ok (.putfield 178, 3) := by decide +kernel
theorem dX11_restore_19 : decode cX11_restore 19 = .ok (.aload_n 0, 1) := by decide +kernel
theorem dX11_restore_20 : decode cX11_restore 20 = .ok (.getfield 52, 3) := by decide +kernel
theorem dX11_restore_23 : decode cX11_restore 23 = .ok (.aload_n 0, 1) := by decide +kernel
theorem dX11_restore_24 : decode cX11_restore 24 = .ok (.getfield 178, 3) := by decide +kernel
theorem dX11_restore_27 : decode cX11_restore 27 = .ok (.aaload, 1) := by decide +kernel
theorem dX11_restore_28 : decode cX11_restore 28 = .ok (.aload_n 0, 1) := by decide +kernel
theorem dX11_restore_29 : decode cX11_restore 29 = .ok (.getfield 93, 3) := by decide +kernel
theorem dX11_restore_32 : decode cX11_restore 32 = .ok (.aload_n 0, 1) := by decide +kernel
theorem dX11_restore_33 : decode cX11_restore 33 = .ok (.getfield 46, 3) := by decide +kernel
theorem dX11_restore_36 : decode cX11_restore 36 = .ok (.invokevirtual 468, 3) := by decide +kernel
theorem dX11_restore_39 : decode cX11_restore 39 = .ok (.aload_n 0, 1) := by decide +kernel
theorem dX11_restore_40 : decode cX11_restore 40 = .ok (.aload_n 0, 1) := by decide +kernel
theorem dX11_restore_41 : decode cX11_restore 41 = .ok (.getfield 52, 3) := by decide +kernel
theorem dX11_restore_44 : decode cX11_restore 44 = .ok (.aload_n 0, 1) := by decide +kernel
theorem dX11_restore_45 : decode cX11_restore 45 = .ok (.getfield 178, 3) := by decide +kernel
theorem dX11_restore_48 : decode cX11_restore 48 = .ok (.aaload, 1) := by decide +kernel
theorem dX11_restore_49 : decode cX11_restore 49 = .ok (.getfield 472, 3) := by decide +kernel
theorem dX11_restore_52 : decode cX11_restore 52 = .ok (.putfield 171, 3) := by decide +kernel
theorem dX11_restore_55 : decode cX11_restore 55 = .ok (.aload_n 0, 1) := by decide +kernel
theorem dX11_restore_56 : decode cX11_restore 56 = .ok (.iconst 1, 1) := by decide +kernel
theorem dX11_restore_57 : decode cX11_restore 57 = .ok (.putfield 100, 3) := by decide +kernel
theorem dX11_restore_60 : decode cX11_restore 60 = .ok (.aload_n 0, 1) := by decide +kernel
theorem dX11_restore_61 : decode cX11_restore 61 = .ok (.getfield 178, 3) := by decide +kernel
theorem dX11_restore_64 : decode cX11_restore 64 = .ok (.ireturn, 1) := by decide +kernel
theorem ct_X11_restore {g : Gw} (hG : GF g) {z : Bool} (E : Mm) (s : Nat) (P : SP) (L : LW) (T K : LN) (d : Nat) (hI_E : CXI E s P L T K d) (m : Nat) (hm3 : m ≤ 3) (hm : E 0 18 = ((m : Nat) : Int)) (Pi : SP) (di : Nat) (Ci : CHt) (hIm : 0 < m → CIm E (98 + 9 * (m - 1)) Pi di Ci ∧ frm Pi = frm P ∧ WS Pi ∧ DX Pi ∧ di < 400 ∧ Ci.1 ≤ 20) : CT g yX11_restore cX11_restore 1 (some .int) 3 68 0 0 K2 z [mR 0] (ov E) K2 z (fun r' D' => (m = 0 ∧ r' = some (mI (-1)) ∧ D' = ov E) ∨ (0 < m ∧ r' = some (mI ((m - 1 : Nat) : Int)) ∧ ∃ E1, D' = ov E1 ∧ CXI E1 s Pi L T K di ∧ CCh E1 24 Ci ∧ E1 0 18 = ((m - 1 : Nat) : Int) ∧ CHX E E1 s)) := by
  refine CT.mk hG (by decide +kernel) (Nat.le_of_ble_eq_true rfl) (fun κ X Rt _ ok => ?_)
  have hs := hI_E.sa
  have hP := hI_E.WS
  have hW40 := hP.W
  have hN10 := hP.N
  have hN8 := hP.B.N
  have hX_E : CXF E E := CXF.rf
  have hwG := gNow_WG hI_E
  have hgw : gW (gNow P L d) = sW P := rfl
  have hgn : gN (gNow P L d) = sN P := rfl
  refine at_aload_n 1 X rfl rfl dX11_restore_0 rfl ?_
  refine m_getIV 4 X ((m : Nat) : Int) hm f_X11_178 k_0 rn_0_18 dX11_restore_1 rfl ?_
  refine at_if_gt 7 9 X dX11_restore_4 rfl (by decide) (fun h4 => ?_) (fun h4 => ?_)
  · have hpos : 0 < m := by omega
    have hIm0 := hIm hpos
    refine at_aload_n 10 X rfl rfl dX11_restore_9 rfl ?_
    refine at_dup 11 X (show ¬ (2 : Nat) = 1 by decide) dX11_restore_10 rfl ?_
    refine m_getIV 14 X ((m : Nat) : Int) hm f_X11_178 k_0 rn_0_18 dX11_restore_11 rfl ?_
    refine at_iconst 15 X (by decide) dX11_restore_14 rfl ?_
    refine at_isubV 16 X ((m - 1 : Nat) : Int) (w32_v (by omega) (by omega) (by omega)) dX11_restore_15 rfl ?_
    refine m_putI 19 X f_X11_178 fw_11_18 k_0 rn_0_18 dX11_restore_16 rfl ?_
    refine at_aload_n 20 X rfl rfl dX11_restore_19 rfl ?_
    refine m_getR 23 X f_X11_52 k_0 r_0_8 dX11_restore_20 rfl ?_
    refine at_aload_n 24 X rfl rfl dX11_restore_23 rfl ?_
    refine m_getIV 27 X ((m - 1 : Nat) : Int) (wr_s _ _ _ _) f_X11_178 k_0 rn_0_18 dX11_restore_24 rfl ?_
    refine m_aaloadV 28 X (m - 1) (by omega) k_29 (by decide) (by omega) (rr_29 _ (by omega)) dX11_restore_27 rfl ?_
    refine at_aload_n 29 X rfl rfl dX11_restore_28 rfl ?_
    refine m_getM 32 X (s) f_X11_93 k_0 rn_0_15 ((wr_o (by omega)).trans hI_E.now) dX11_restore_29 rfl ?_
    refine at_aload_n 33 X rfl rfl dX11_restore_32 rfl ?_
    refine m_getR 36 X f_X11_46 k_0 r_0_7 dX11_restore_33 rfl ?_
    refine at_callV 39 X _ 5 (ct_X5_giveBack hG (wr E 0 18 ((m - 1 : Nat) : Int)) (98 + 9 * (m - 1)) s (by omega) hs P Pi hIm0.2.2.1 (hI_E.S.fr (fun q k1 k2 => wr_row (by omega))) hIm0.2.1 di Ci (hIm0.1.fr (fun q k1 k2 => wr_row (by omega))) hIm0.2.2.2.2.2) clX5 rfl (kX5 (show 98 + 9 * (m - 1) = 98 ∨ 98 + 9 * (m - 1) = 107 ∨ 98 + 9 * (m - 1) = 116 by omega)) mo_X5_giveBack w_838 vo_X5_giveBack.1 vo_X5_giveBack.2 rfl rfl (crm Rt (by decide)) (Nat.le_of_ble_eq_true rfl) dX11_restore_36 rfl ?_
    rintro _ _ ⟨rfl, F1, rfl, hS1, hC1, hq1⟩
    have hnow_F1 : F1 0 15 = (s : Int) := (congrFun (hq1 0 (by omega) (by omega)) 15).trans ((wr_o (by omega)).trans hI_E.now)
    refine at_aload_n 40 X rfl rfl dX11_restore_39 rfl ?_
    refine at_aload_n 41 X rfl rfl dX11_restore_40 rfl ?_
    refine m_getR 44 X f_X11_52 k_0 r_0_8 dX11_restore_41 rfl ?_
    refine at_aload_n 45 X rfl rfl dX11_restore_44 rfl ?_
    refine m_getIV 48 X (((m - 1) : Nat) : Int) ((congrFun (hq1 0 (by omega) (by omega)) 18).trans (wr_s _ _ _ _)) f_X11_178 k_0 rn_0_18 dX11_restore_45 rfl ?_
    refine m_aaloadV 49 X (m - 1) (by omega) k_29 (by decide) (by omega) (rr_29 _ (by omega)) dX11_restore_48 rfl ?_
    refine m_getIV 52 X ((di : Nat) : Int) ((congrFun (hq1 (98 + 9 * (m - 1)) (by omega) (by omega)) 4).trans ((wr_o (by omega)).trans hIm0.1.2.2.1)) f_X11_472 (kX5 (show 98 + 9 * (m - 1) = 98 ∨ 98 + 9 * (m - 1) = 107 ∨ 98 + 9 * (m - 1) = 116 by omega)) (nX5_4 (show 98 + 9 * (m - 1) = 98 ∨ 98 + 9 * (m - 1) = 107 ∨ 98 + 9 * (m - 1) = 116 by omega)) dX11_restore_49 rfl ?_
    refine m_putI 55 X f_X11_171 fw_11_17 k_0 rn_0_17 dX11_restore_52 rfl ?_
    refine at_aload_n 56 X rfl rfl dX11_restore_55 rfl ?_
    refine at_iconst 57 X (by decide) dX11_restore_56 rfl ?_
    refine m_putZ 60 X (Or.inr rfl) f_X11_100 fz_11_19 k_0 rn_0_19 dX11_restore_57 rfl ?_
    refine at_aload_n 61 X rfl rfl dX11_restore_60 rfl ?_
    refine m_getIV 64 X (((m - 1) : Nat) : Int) ((wr_o (by omega)).trans ((wr_o (by omega)).trans ((congrFun (hq1 0 (by omega) (by omega)) 18).trans (wr_s _ _ _ _)))) f_X11_178 k_0 rn_0_18 dX11_restore_61 rfl ?_
    refine at_iret X Rt ?_ (by decide) (by decide) dX11_restore_64
    have hx : CHX E (wr (wr F1 0 17 ((di : Nat) : Int)) 0 19 1) s := ⟨fun q hq => by rw [wr_row (by omega), wr_row (by omega), hq1 q (by omega) (by omega), wr_row (by omega)], fun k hk => by rw [wr_o (by omega), wr_o (by omega), hq1 0 (by omega) (by omega), wr_o (by omega)]⟩
    refine Or.inr ⟨hpos, rfl, _, rfl, ?_, hC1.fr (fun q k1 k2 => by rw [wr_row (by omega), wr_row (by omega)]), ?_, hx⟩
    · exact cxi_chg hI_E (hS1.fr (fun q k1 k2 => by rw [wr_row (by omega), wr_row (by omega)])) hIm0.2.2.1 hIm0.2.2.2.1 hIm0.2.1 hx (by rw [wr_o (by omega), wr_s]) hIm0.2.2.2.2.1 (wr_s _ _ _ _)
    · rw [wr_o (by omega), wr_o (by omega), hq1 0 (by omega) (by omega), wr_s]
  · refine at_iconst 8 X (by decide) dX11_restore_7 rfl ?_
    refine at_iret X Rt ?_ (by decide) (by decide) dX11_restore_8
    exact Or.inl ⟨by omega, rfl, rfl⟩
