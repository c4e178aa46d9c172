/-! a post taken away for a while -/
def HID (E : Mm) (P : SP) (p : Nat) : Prop := ∀ q, q < sN P → (q = p → E (142 + q) 0 = -40 ∧ E (142 + q) 1 = 0) ∧ (¬ q = p → E (142 + q) 0 = (sX P q : Int) ∧ E (142 + q) 1 = (sH P q : Int))
theorem HID.RPg {E : Mm} {P : SP} {p : Nat} {mo : Int} {L : LW} (h : HID E P p) (h52 : E 125 52 = (sN P : Int)) : RPg E (hidP (gOf P mo L) p) := by
  refine ⟨h52, fun q hq => ?_⟩
  obtain ⟨h1, h2⟩ := h q hq
  show E (142 + q) 1 = ((pt1 (sH P) p 0 q : Nat) : Int) ∧ (E (142 + q) 0 = ((pt1 (sX P) p 100 q : Nat) : Int) ∨ (E (142 + q) 0 = -40 ∧ pt1 (sH P) p 0 q = 0 ∧ 100 ≤ pt1 (sX P) p 100 q))
  by_cases c : q = p
  · rw [c, pt1_s, pt1_s, ← c]
    exact ⟨(h1 c).2, Or.inr ⟨(h1 c).1, rfl, Nat.le_refl _⟩⟩
  · rw [pt1_o c, pt1_o c]
    exact ⟨(h2 c).2, Or.inl (h2 c).1⟩
theorem HID.fr {E E1 : Mm} {P : SP} {p : Nat} (h : HID E P p) (hN : sN P ≤ 10) (hf : ∀ q, 142 ≤ q → q ≤ 151 → E1 q = E q) : HID E1 P p := by
  intro q hq
  rw [hf (142 + q) (by omega) (by omega)]
  exact h q hq
theorem cw_X12_laysNow {g : Gw} (hG : GF g) {z : Bool} (E : Mm) (Q : RX) (P : SP) (L : LW) (T K : LN) (d st : Nat) (hWf : WF P L T K d st) (hR : RTW E P Q) (hlw : RLw E L) (hK : RKn E L st) (hdy : E 125 45 = (d : Int)) (p : Nat) (hp : p < sN P) (hh : HID E P p) : CT g yX12_laysNow cX12_laysNow 1 none 6 136 0 0 K2 z [mR 125] (ov E) K2 z (fun r D' => r = none ∧ ∃ E1, D' = ov E1 ∧ RSh E1 (hidP (gDay P L d) p) 24 ∧ RKn E1 L st ∧ (∀ q, ¬ (576 ≤ q ∧ q ≤ 579) → ¬ (658 ≤ q ∧ q ≤ 731) → q ≠ 125 → E1 q = E q) ∧ ∀ k, ¬ (52 ≤ k ∧ k ≤ 54) → E1 125 k = E 125 k) := by
  refine CT.mk hG (by decide +kernel) (Nat.le_of_ble_eq_true rfl) (fun κ X Rt _ ok => ?_)
  have hP := hWf.1
  refine at_aload_n 1 X rfl rfl dX12_laysNow_0 rfl ?_
  refine at_callV 4 X _ 12 (cw_X12_asTold hG E P Q hP hR) clX12 rfl k_125 mo_X12_asTold w_2162 vo_X12_asTold.1 vo_X12_asTold.2 rfl rfl (crm Rt (by decide)) (Nat.le_of_ble_eq_true rfl) dX12_laysNow_1 rfl ?_
  rintro _ _ ⟨rfl, rfl⟩
  generalize hF0 : wr (wr (wr E 125 52 (sN P : Int)) 125 53 (sLn P : Int)) 125 54 (mk (sC P) 24 : Nat) = F0
  have hq0 : ∀ q, q ≠ 125 → F0 q = E q := fun q h => by rw [← hF0]; simp (disch := omega) only [wr_row]
  have h0 : ∀ k, ¬ (52 ≤ k ∧ k ≤ 54) → F0 125 k = E 125 k := fun k h => by rw [← hF0]; simp (disch := omega) only [wr_o]
  have hN10 := hP.N
  have hL6 := hP.Ln
  have h52 : F0 125 52 = (sN P : Int) := by rw [← hF0]; simp (disch := omega) only [wr_s, wr_o]
  have h53 : F0 125 53 = (sLn P : Int) := by rw [← hF0]; simp (disch := omega) only [wr_s, wr_o]
  have h54 : F0 125 54 = (mk (sC P) 24 : Nat) := by rw [← hF0]; simp (disch := omega) only [wr_s, wr_o]
  have hG1 : RPg F0 (hidP (gDay P L d) p) := (hh.fr hN10 (fun q a b => hq0 q (by omega))).RPg h52
  have hG2 : RLg F0 (hidP (gDay P L d) p) (sLn P) (xLx Q) (xLr Q) := ⟨h53, by omega, fun k hk => by rw [hq0 (209 + k) (by omega)]; exact hR.2.2.2.2.2.1.1 k hk, fun c hc => by have hc' : c < sW P := hc; have := hP.W; exact hR.2.2.2.2.2.1.2 c (by omega)⟩
  refine at_aload_n 5 X rfl rfl dX12_laysNow_4 rfl ?_
  refine at_aload_n 6 X rfl rfl dX12_laysNow_5 rfl ?_
  refine m_getIV 9 X ((d : Nat) : Int) ((h0 45 (by omega)).trans hdy) f_X12_267 k_125 rn_125_45 dX12_laysNow_6 rfl ?_
  refine at_callV 12 X _ 12 (cw_X12_lays hG F0 P Q hP (hR.fr (fun q hq => hq0 q (by omega)) hP) (hidP (gDay P L d) p) (hidP_WR (gOf_WG hP hWf.2.2.1 (moonP_in P d).2)) rfl hG1 _ _ _ hG2 h54 (hlw.fr hWf.2.2.1.2.1 (h0 28 (by omega)) (fun q a b => hq0 q (by omega))) st (by have := hWf.2.2.2.2.2.2; omega) (hK.fr (h0 30 (by omega)) (hq0 578 (by decide)) (hq0 579 (by decide))) d hWf.2.2.2.2.2.1 (fun _ _ => rfl) (fun _ _ => rfl)) clX12 rfl k_125 mo_X12_lays w_2166 vo_X12_lays.1 vo_X12_lays.2 rfl rfl (crm Rt (by decide)) (Nat.le_of_ble_eq_true rfl) dX12_laysNow_9 rfl ?_
  rintro _ _ ⟨rfl, F1, rfl, hs_F1, hK_F1, hq_F1⟩
  refine at_vret X Rt ?_ (Nat.le_refl _) (Nat.le_refl _) dX12_laysNow_12
  exact ⟨rfl, F1, rfl, hs_F1, hK_F1, fun q h1 h2 h3 => (hq_F1 q h1 h2).trans (hq0 q h3), fun k hk => by rw [hq_F1 125 (by omega) (by omega)]; exact h0 k hk⟩
theorem cw_X12_runsNow {g : Gw} (hG : GF g) {z : Bool} (E : Mm) (Q : RX) (P : SP) (L : LW) (T K : LN) (d st : Nat) (hWf : WF P L T K d st) (hR : RTW E P Q) (hlw : RLw E L) (hK : RKn E L st) (hdy : E 125 45 = (d : Int)) (p : Nat) (hp : p < sN P) (hh : HID E P p) (hmv : RMv E T) : CT g yX12_runsNow cX12_runsNow 1 (some .int) 7 156 0 0 K2 z [mR 125] (ov E) K2 z (fun r D' => r = some (mI (dN (dyP (hidP (gDay P L d) p) (sB P) T 24) : Nat)) ∧ ∃ E1, D' = ov E1 ∧ RKn E1 L st ∧ (∀ q, ¬ (576 ≤ q ∧ q ≤ 579) → ¬ (658 ≤ q ∧ q ≤ 784) → q ≠ 125 → E1 q = E q) ∧ ∀ k, ¬ (52 ≤ k ∧ k ≤ 54) → k ≠ 60 → E1 125 k = E 125 k) := by
  refine CT.mk hG (by decide +kernel) (Nat.le_of_ble_eq_true rfl) (fun κ X Rt _ ok => ?_)
  have hP := hWf.1
  refine at_aload_n 1 X rfl rfl dX12_runsNow_0 rfl ?_
  refine at_callV 4 X _ 12 (cw_X12_laysNow hG E Q P L T K d st hWf hR hlw hK hdy p hp hh) clX12 rfl k_125 mo_X12_laysNow w_2158 vo_X12_laysNow.1 vo_X12_laysNow.2 rfl rfl (crm Rt (by decide)) (Nat.le_of_ble_eq_true rfl) dX12_runsNow_1 rfl ?_
  rintro _ _ ⟨rfl, F1, rfl, hs1, hK1, hq1, hk1⟩
  refine at_aload_n 5 X rfl rfl dX12_runsNow_4 rfl ?_
  refine at_callV 8 X _ 12 (cw_X12_runs hG F1 P Q hP (hR.fr (fun q hq => hq1 q (by omega) (by omega) (by omega)) hP) (hidP (gDay P L d) p) T ⟨(hk1 43 (by omega)).trans hmv.1, fun i hi => by have := hWf.2.2.2.1.1; rw [hq1 (581 + i) (by omega) (by omega) (by omega)]; exact hmv.2 i hi⟩ hWf.2.2.2.1 (fun h c hh hc => (hs1 h c hh hc).2)) clX12 rfl k_125 mo_X12_runs w_2205 vo_X12_runs.1 vo_X12_runs.2 rfl rfl (crm Rt (by decide)) (Nat.le_of_ble_eq_true rfl) dX12_runsNow_5 rfl ?_
  rintro _ _ ⟨rfl, F2, rfl, hd2, hh2, hf2⟩
  refine at_iret X Rt ?_ (Nat.le_refl _) (Nat.le_refl _) dX12_runsNow_8
  exact ⟨rfl, F2, rfl, hK1.fr (hf2.2 30 (by decide)) (hf2.1 578 (by omega) (by omega) (by omega)) (hf2.1 579 (by omega) (by omega) (by omega)), fun q h1 h2 h3 => (hf2.1 q (by omega) (by omega) (by omega)).trans (hq1 q (by omega) (by omega) h3), fun k h1 h2 => (hf2.2 k h2).trans (hk1 k h1)⟩
theorem dX12_worth_0 : decode cX12_worth 0 = .ok (.aload_n 0, 1) := by decide +kernel
theorem dX12_worth_1 : decode cX12_worth 1 = .ok (.iconst 0, 1) := by decide +kernel
theorem dX12_worth_2 : decode cX12_worth 2 = .ok (.putfield 152, 3) := by decide +kernel
theorem dX12_worth_5 : decode cX12_worth 5 = .ok (.aload_n 0, 1) := by decide +kernel
theorem dX12_worth_6 : decode cX12_worth 6 = .ok (.aload_n 0, 1) := by decide +kernel
theorem dX12_worth_7 : decode cX12_worth 7 = .ok (.iload_n 1, 1) := by decide +kernel
theorem dX12_worth_8 : decode cX12_worth 8 = .ok (.invokevirtual 321, 3) := by decide +kernel
theorem dX12_worth_11 : decode cX12_worth 11 = .ok (.ifCond .ne 7, 3) := by decide +kernel
theorem dX12_worth_14 : decode cX12_worth 14 = .ok (.iconst 1, 1) := by decide +kernel
theorem dX12_worth_15 : decode cX12_worth 15 = .ok (.goto 4, 3) := by decide +kernel
theorem dX12_worth_18 : decode cX12_worth 18 = .ok (.iconst 0, 1) := by decide +kernel
theorem dX12_worth_19 : decode cX12_worth 19 = .ok (.iconst 1, 1) := by decide +kernel
theorem dX12_worth_20 : decode cX12_worth 20 = .ok (.iconst 1, 1) := by decide +kernel
theorem dX12_worth_21 : decode cX12_worth 21 = .ok (.invokevirtual 244, 3) := by decide +kernel
theorem dX12_worth_24 : decode cX12_worth 24 = .ok (.ifCond .eq 5, 3) := by decide +kernel
theorem dX12_worth_27 : decode cX12_worth 27 = .ok (.iconst 0, 1) := by decide +kernel
theorem dX12_worth_28 : decode cX12_worth 28 = .ok (.ireturn, 1) := by decide +kernel
theorem dX12_worth_29 : decode cX12_worth 29 = .ok (.aload_n 0, 1) := by decide +kernel
theorem dX12_worth_30 : decode cX12_worth 30 = .ok (.invokevirtual 400, 3) := by decide +kernel
theorem dX12_worth_33 : decode cX12_worth 33 = .ok (.istore_n 2, 1) := by decide +kernel
theorem dX12_worth_34 : decode cX12_worth 34 = .ok (.aload_n 0, 1) := by decide +kernel
theorem dX12_worth_35 : decode cX12_worth 35 = .ok (.getfield 31, 3) := by decide +kernel
theorem dX12_worth_38 : decode cX12_worth 38 = .ok (.iload_n 1, 1) := by decide +kernel
theorem dX12_worth_39 : decode cX12_worth 39 = .ok (.aaload, 1) := by decide +kernel
theorem dX12_worth_40 : decode cX12_worth 40 = .ok (.iconst 1, 1) := by decide +kernel
theorem dX12_worth_41 : decode cX12_worth 41 = .ok (.iaload, 1) := by decide +kernel
theorem dX12_worth_42 : decode cX12_worth 42 = .ok (.istore_n 3, 1) := by decide +kernel
theorem dX12_worth_43 : decode cX12_worth 43 = .ok (.aload_n 0, 1) := by decide +kernel
theorem dX12_worth_44 : decode cX12_worth 44 = .ok (.getfield 31, 3) := by decide +kernel
theorem dX12_worth_47 : decode cX12_worth 47 = .ok (.iload_n 1, 1) := by decide +kernel
theorem dX12_worth_48 : decode cX12_worth 48 = .ok (.aaload, 1) := by decide +kernel
theorem dX12_worth_49 : decode cX12_worth 49 = .ok (.iconst 0, 1) := by decide +kernel
theorem dX12_worth_50 : decode cX12_worth 50 = .ok (.iaload, 1) := by decide +kernel
theorem dX12_worth_51 : decode cX12_worth 51 = .ok (.istore 4, 2) := by decide +kernel
theorem dX12_worth_53 : decode cX12_worth 53 = .ok (.aload_n 0, 1) := by decide +kernel
theorem dX12_worth_54 : decode cX12_worth 54 = .ok (.getfield 31, 3) := by decide +kernel
theorem dX12_worth_57 : decode cX12_worth 57 = .ok (.iload_n 1, 1) := by decide +kernel
theorem dX12_worth_58 : decode cX12_worth 58 = .ok (.aaload, 1) := by decide +kernel
theorem dX12_worth_59 : decode cX12_worth 59 = .ok (.iconst 0, 1) := by decide +kernel
theorem dX12_worth_60 : decode cX12_worth 60 = .ok (.bipush (-40), 2) := by decide +kernel
theorem dX12_worth_62 : decode cX12_worth 62 = .ok (.iastore, 1) := by decide +kernel
theorem dX12_worth_63 : decode cX12_worth 63 = .ok (.aload_n 0, 1) := by decide +kernel
theorem dX12_worth_64 : decode cX12_worth 64 = .ok (.getfield 31, 3) := by decide +kernel
theorem dX12_worth_67 : decode cX12_worth 67 = .ok (.iload_n 1, 1) := by decide +kernel
theorem dX12_worth_68 : decode cX12_worth 68 = .ok (.aaload, 1) := by decide +kernel
theorem dX12_worth_69 : decode cX12_worth 69 = .ok (.iconst 1, 1) := by decide +kernel
theorem dX12_worth_70 : decode cX12_worth 70 = .ok (.iconst 0, 1) := by decide +kernel
theorem dX12_worth_71 : decode cX12_worth 71 = .ok (.iastore, 1) := by decide +kernel
theorem dX12_worth_72 : decode cX12_worth 72 = .ok (.aload_n 0, 1) := by decide +kernel
theorem dX12_worth_73 : decode cX12_worth 73 = .ok (.invokevirtual 400, 3) := by decide +kernel
theorem dX12_worth_76 : decode cX12_worth 76 = .ok (.istore 5, 2) := by decide +kernel
theorem dX12_worth_78 : decode cX12_worth 78 = .ok (.aload_n 0, 1) := by decide +kernel
theorem dX12_worth_79 : decode cX12_worth 79 = .ok (.getfield 31, 3) := by decide +kernel
theorem dX12_worth_82 : decode cX12_worth 82 = .ok (.iload_n 1, 1) := by decide +kernel
theorem dX12_worth_83 : decode cX12_worth 83 = .ok (.aaload, 1) := by decide +kernel
theorem dX12_worth_84 : decode cX12_worth 84 = .ok (.iconst 0, 1) := by decide +kernel
theorem dX12_worth_85 : decode cX12_worth 85 = .ok (.iload 4, 2) := by decide +kernel
theorem dX12_worth_87 : decode cX12_worth 87 = .ok (.iastore, 1) := by decide +kernel
theorem dX12_worth_88 : decode cX12_worth 88 = .ok (.aload_n 0, 1) := by decide +kernel
theorem dX12_worth_89 : decode cX12_worth 89 = .ok (.getfield 31, 3) := by decide +kernel
theorem dX12_worth_92 : decode cX12_worth 92 = .ok (.iload_n 1, 1) := by decide +kernel
theorem dX12_worth_93 : decode cX12_worth 93 = .ok (.aaload, 1) := by decide +kernel
theorem dX12_worth_94 : decode cX12_worth 94 = .ok (.iconst 1, 1) := by decide +kernel
theorem dX12_worth_95 : decode cX12_worth 95 = .ok (.iload_n 3, 1) := by decide +kernel
theorem dX12_worth_96 : decode cX12_worth 96 = .ok (.iastore, 1) := by decide +kernel
theorem dX12_worth_97 : decode cX12_worth 97 = .ok (.iload 5, 2) := by decide +kernel
theorem dX12_worth_99 : decode cX12_worth 99 = .ok (.iload_n 2, 1) := by decide +kernel
theorem dX12_worth_100 : decode cX12_worth 100 = .ok (.isub, 1) := by decide +kernel
theorem dX12_worth_101 : decode cX12_worth 101 = .ok (.ireturn, 1) := by decide +kernel
theorem ct_X12_worth {g : Gw} (hG : GF g) {z : Bool} (E : Mm) (Q : RX) (P : SP) (L : LW) (T K : LN) (d st : Nat) (hWf : WF P L T K d st) (hI_E : RXI E Q P L T K d st) (x0 : Int) : CT g yX12_worth cX12_worth 6 (some .int) 8 176 0 0 K2 z [mR 125, mI x0] (ov E) K2 z (fun r' D' => ((0 ≤ x0 ∧ x0 ≤ (sN P : Int) - 1) ∧ r' = some (mI (((dN (dyP (hidP (gDay P L d) x0.toNat) (sB P) T 24) : Nat) : Int) - ((dN (dyP (gDay P L d) (sB P) T 24) : Nat) : Int))) ∧ ∃ E1, D' = ov E1 ∧ RXO E E1 Q P L T K d st) ∨ (¬ (0 ≤ x0 ∧ x0 ≤ (sN P : Int) - 1) ∧ r' = some (mI 0) ∧ D' = ov (badR E 1 1))) := by
  refine CT.mk hG (by decide +kernel) (Nat.le_of_ble_eq_true rfl) (fun κ X Rt _ ok => ?_)
  have hP := hWf.1
  have hN8 := hP.B.N
  have hW40 := hP.W
  have hN11 := hP.N
  have hwN : gN (gDay P L d) ≤ 11 := Nat.le_trans hP.N (by decide)
  have hgw : gW (gDay P L d) = sW P := rfl
  have hDI24 := dyP_DI (G := (gDay P L d)) hP.B hWf.2.2.2.1 (Nat.le_refl 24)
  refine at_aload_n 1 X rfl rfl dX12_worth_0 rfl ?_
  refine at_iconst 2 X (by decide) dX12_worth_1 rfl ?_
  refine m_putI 5 X f_X12_152 fw_12_0 k_125 rn_125_0 dX12_worth_2 rfl ?_
  have hO_E0 := RXO.z hWf hI_E
  generalize hE0 : wr E 125 0 0 = E0 at hO_E0 ⊢
  have hR_E0 := hO_E0.1.1
  refine at_aload_n 6 X rfl rfl dX12_worth_5 rfl ?_
  refine at_aload_n 7 X rfl rfl dX12_worth_6 rfl ?_
  refine at_iload_n 8 X rfl rfl dX12_worth_7 rfl ?_
  refine at_callV 11 X _ 12 (ct_X12_isPost hG E0 P Q hP hR_E0 x0) clX12 rfl k_125 mo_X12_isPost w_2114 vo_X12_isPost.1 vo_X12_isPost.2 rfl rfl (crm Rt (by decide)) (Nat.le_of_ble_eq_true rfl) dX12_worth_8 rfl ?_
  rintro _ _ ⟨rfl, rfl⟩
  refine at_if_ne 14 18 X dX12_worth_11 rfl (by decide) (fun h11 => ?_) (fun h11 => ?_)
  · have h11 : (0 ≤ x0 ∧ x0 ≤ (sN P : Int) - 1) := ite_yes.mp h11
    refine at_iconst 19 X (by decide) dX12_worth_18 rfl ?_
    refine at_iconst 20 X (by decide) dX12_worth_19 rfl ?_
    refine at_iconst 21 X (by decide) dX12_worth_20 rfl ?_
    refine at_callV 24 X _ 12 (ct_bad0 hG E0 1 1 (by decide) hO_E0.2.2.1) clX12 rfl k_125 mo_X12_bad w_1960 vo_X12_bad.1 vo_X12_bad.2 rfl rfl (crm Rt (by decide)) (Nat.le_of_ble_eq_true rfl) dX12_worth_21 rfl ?_
    rintro _ _ ⟨rfl, rfl⟩
    have hc0 : 0 ≤ x0 ∧ x0 ≤ (sN P : Int) - 1 := by omega
    refine at_if_eq 27 29 X dX12_worth_24 rfl (by decide) (fun h24 => ?_) (fun h24 => ?_)
    · obtain ⟨p, rfl⟩ : ∃ p : Nat, x0 = (p : Int) := ⟨x0.toNat, by omega⟩
      refine at_aload_n 30 X rfl rfl dX12_worth_29 rfl ?_
      refine at_callV 33 X _ 12 (ct_X12_runsNow hG E0 Q P L T K d st hWf hO_E0.1) clX12 rfl k_125 mo_X12_runsNow w_2201 vo_X12_runsNow.1 vo_X12_runsNow.2 rfl rfl (crm Rt (by decide)) (Nat.le_of_ble_eq_true rfl) dX12_worth_30 rfl ?_
      rintro _ _ ⟨rfl, F1, rfl, hI_F1, hY_F1, hs_F1, hd_F1, hr_F1, h0_F1, h7_F1⟩
      have hO_F1 := hO_E0.nx hI_F1 hY_F1 h0_F1 h7_F1
      have hR_F1 := hI_F1.1
      refine at_istore_n 34 X rfl dX12_worth_33 rfl (by decide) ?_
      refine at_aload_n 35 X rfl rfl dX12_worth_34 rfl ?_
      refine m_getR 38 X f_X12_31 k_125 r_125_14 dX12_worth_35 rfl ?_
      refine at_iload_n 39 X rfl rfl dX12_worth_38 rfl ?_
      refine m_aaloadV 40 X p (by omega) k_141 (by decide) (by omega) (rr_141 _ (by omega)) dX12_worth_39 rfl ?_
      refine at_iconst 41 X (by decide) dX12_worth_40 rfl ?_
      refine m_ialoadV 42 X 1 (by omega) ((sH P p : Nat) : Int) (hR_F1.2.1 p (by omega)).2 (kr_141 _ (by omega)) (er_141 _ (by omega)) (by omega) dX12_worth_41 rfl ?_
      refine at_istore_n 43 X rfl dX12_worth_42 rfl (by decide) ?_
      refine at_aload_n 44 X rfl rfl dX12_worth_43 rfl ?_
      refine m_getR 47 X f_X12_31 k_125 r_125_14 dX12_worth_44 rfl ?_
      refine at_iload_n 48 X rfl rfl dX12_worth_47 rfl ?_
      refine m_aaloadV 49 X p (by omega) k_141 (by decide) (by omega) (rr_141 _ (by omega)) dX12_worth_48 rfl ?_
      refine at_iconst 50 X (by decide) dX12_worth_49 rfl ?_
      refine m_ialoadV 51 X 0 (by omega) ((sX P p : Nat) : Int) (hR_F1.2.1 p (by omega)).1 (kr_141 _ (by omega)) (er_141 _ (by omega)) (by omega) dX12_worth_50 rfl ?_
      refine at_istore 53 X dX12_worth_51 rfl (by decide) ?_
      refine at_aload_n 54 X rfl rfl dX12_worth_53 rfl ?_
      refine m_getR 57 X f_X12_31 k_125 r_125_14 dX12_worth_54 rfl ?_
      refine at_iload_n 58 X rfl rfl dX12_worth_57 rfl ?_
      refine m_aaloadV 59 X p (by omega) k_141 (by decide) (by omega) (rr_141 _ (by omega)) dX12_worth_58 rfl ?_
      refine at_iconst 60 X (by decide) dX12_worth_59 rfl ?_
      refine at_bipush 62 X (by decide) (by decide) dX12_worth_60 rfl ?_
      refine m_iastoreV 63 X 0 (by omega) (kr_141 _ (by omega)) (er_141 _ (by omega)) (by omega) dX12_worth_62 rfl ?_
      refine at_aload_n 64 X rfl rfl dX12_worth_63 rfl ?_
      refine m_getR 67 X f_X12_31 k_125 r_125_14 dX12_worth_64 rfl ?_
      refine at_iload_n 68 X rfl rfl dX12_worth_67 rfl ?_
      refine m_aaloadV 69 X p (by omega) k_141 (by decide) (by omega) (rr_141 _ (by omega)) dX12_worth_68 rfl ?_
      refine at_iconst 70 X (by decide) dX12_worth_69 rfl ?_
      refine at_iconst 71 X (by decide) dX12_worth_70 rfl ?_
      refine m_iastoreV 72 X 1 (by omega) (kr_141 _ (by omega)) (er_141 _ (by omega)) (by omega) dX12_worth_71 rfl ?_
      refine at_aload_n 73 X rfl rfl dX12_worth_72 rfl ?_
      have hrow : ∀ q, q ≠ 142 + p → (wr (wr F1 (142 + p) 0 (-40)) (142 + p) 1 0) q = F1 q := fun q h => by rw [wr_row h, wr_row h]
      have hN10 := hP.N
      have hW1 : RTW (wr (wr F1 (142 + p) 0 (-40)) (142 + p) 1 0) P Q := hR_F1.w.fr3 (fun q hq => hrow q (by omega)) hP
      have hH1 : HID (wr (wr F1 (142 + p) 0 (-40)) (142 + p) 1 0) P p := fun q hq => ⟨fun e => by rw [e]; exact ⟨by simp (disch := omega) only [wr_o, wr_s], wr_s _ _ _ _⟩, fun e => by rw [hrow (142 + q) (by omega)]; exact hR_F1.2.1 q hq⟩
      have hlw1 : RLw (wr (wr F1 (142 + p) 0 (-40)) (142 + p) 1 0) L := hO_F1.1.2.1.fr hWf.2.2.1.2.1 (congrFun (hrow 125 (by omega)) 28) (fun q a b => hrow q (by omega))
      have hK1 : RKn (wr (wr F1 (142 + p) 0 (-40)) (142 + p) 1 0) L st := hO_F1.1.2.2.1.fr (congrFun (hrow 125 (by omega)) 30) (hrow 578 (by omega)) (hrow 579 (by omega))
      have hmv1 : RMv (wr (wr F1 (142 + p) 0 (-40)) (142 + p) 1 0) T := ⟨(congrFun (hrow 125 (by omega)) 43).trans hO_F1.1.2.2.2.1.1, fun i hi => by have := hWf.2.2.2.1.1; rw [hrow (581 + i) (by omega)]; exact hO_F1.1.2.2.2.1.2 i hi⟩
      have hdy1 : (wr (wr F1 (142 + p) 0 (-40)) (142 + p) 1 0) 125 45 = (d : Int) := (congrFun (hrow 125 (by omega)) 45).trans hO_F1.1.2.2.2.2.2
      refine at_callV 76 X _ 12 (cw_X12_runsNow hG (wr (wr F1 (142 + p) 0 (-40)) (142 + p) 1 0) Q P L T K d st hWf hW1 hlw1 hK1 hdy1 p (by omega) hH1 hmv1) clX12 rfl k_125 mo_X12_runsNow w_2201 vo_X12_runsNow.1 vo_X12_runsNow.2 rfl rfl (crm Rt (by decide)) (Nat.le_of_ble_eq_true rfl) dX12_worth_73 rfl ?_
      rintro _ _ ⟨rfl, F2, rfl, hK_F2, hq_F2, hs_F2⟩
      refine at_istore 78 X dX12_worth_76 rfl (by decide) ?_
      refine at_aload_n 79 X rfl rfl dX12_worth_78 rfl ?_
      refine m_getR 82 X f_X12_31 k_125 r_125_14 dX12_worth_79 rfl ?_
      refine at_iload_n 83 X rfl rfl dX12_worth_82 rfl ?_
      refine m_aaloadV 84 X p (by omega) k_141 (by decide) (by omega) (rr_141 _ (by omega)) dX12_worth_83 rfl ?_
      refine at_iconst 85 X (by decide) dX12_worth_84 rfl ?_
      refine at_iload 87 X rfl dX12_worth_85 rfl ?_
      refine m_iastoreV 88 X 0 (by omega) (kr_141 _ (by omega)) (er_141 _ (by omega)) (by omega) dX12_worth_87 rfl ?_
      refine at_aload_n 89 X rfl rfl dX12_worth_88 rfl ?_
      refine m_getR 92 X f_X12_31 k_125 r_125_14 dX12_worth_89 rfl ?_
      refine at_iload_n 93 X rfl rfl dX12_worth_92 rfl ?_
      refine m_aaloadV 94 X p (by omega) k_141 (by decide) (by omega) (rr_141 _ (by omega)) dX12_worth_93 rfl ?_
      refine at_iconst 95 X (by decide) dX12_worth_94 rfl ?_
      refine at_iload_n 96 X rfl rfl dX12_worth_95 rfl ?_
      refine m_iastoreV 97 X 1 (by omega) (kr_141 _ (by omega)) (er_141 _ (by omega)) (by omega) dX12_worth_96 rfl ?_
      have hDh := dyP_DI (G := hidP (gDay P L d) p) hP.B hWf.2.2.2.1 (Nat.le_refl 24)
      have hd1 := hDh.2.1
      have hd2 := hDI24.2.1
      have hd3 := cntp_le (fun b => decide (dP (dyP (hidP (gDay P L d) p) (sB P) T 24) b = -1)) (bN (sB P))
      have hd4 := cntp_le (fun b => decide (dP (dyP (gDay P L d) (sB P) T 24) b = -1)) (bN (sB P))
      refine at_iload 99 X rfl dX12_worth_97 rfl ?_
      refine at_iload_n 100 X rfl rfl dX12_worth_99 rfl ?_
      refine at_isubV 101 X (((dN (dyP (hidP (gDay P L d) p) (sB P) T 24) : Nat) : Int) - ((dN (dyP (gDay P L d) (sB P) T 24) : Nat) : Int)) (w32_v rfl (by omega) (by omega)) dX12_worth_100 rfl ?_
      refine at_iret X Rt ?_ (Nat.le_refl _) (Nat.le_refl _) dX12_worth_101
      have hrow2 : ∀ q, ¬ (576 ≤ q ∧ q ≤ 579) → ¬ (658 ≤ q ∧ q ≤ 784) → q ≠ 125 → (wr (wr F2 (142 + p) 0 ((sX P p : Nat) : Int)) (142 + p) 1 ((sH P p : Nat) : Int)) q = F1 q := by
        intro q h1 h2 h3
        by_cases c : q = 142 + p
        · funext j
          rw [c]
          rcases (show j = 1 ∨ j = 0 ∨ 2 ≤ j by omega) with e | e | e
          · rw [e, wr_s]; exact (hR_F1.2.1 p (by omega)).2.symm
          · rw [e, wr_o (by omega), wr_s]; exact (hR_F1.2.1 p (by omega)).1.symm
          · rw [wr_o (by omega), wr_o (by omega), hq_F2 (142 + p) (by omega) (by omega) (by omega), wr_o (by omega), wr_o (by omega)]
        · rw [wr_row c, wr_row c, hq_F2 q h1 h2 h3, wr_row c, wr_row c]
      have hslot2 : ∀ k, ¬ (52 ≤ k ∧ k ≤ 54) → k ≠ 60 → (wr (wr F2 (142 + p) 0 ((sX P p : Nat) : Int)) (142 + p) 1 ((sH P p : Nat) : Int)) 125 k = F1 125 k := fun k h1 h2 => by rw [wr_o (by omega), wr_o (by omega), hs_F2 k h1 h2, wr_o (by omega), wr_o (by omega)]
      have hXf : RXF P F1 (wr (wr F2 (142 + p) 0 ((sX P p : Nat) : Int)) (142 + p) 1 ((sH P p : Nat) : Int)) := ⟨fun q hq => hrow2 q (by omega) (by omega) (by omega), fun k hk => hslot2 k (by omega) (by omega)⟩
      have hKf : RKn (wr (wr F2 (142 + p) 0 ((sX P p : Nat) : Int)) (142 + p) 1 ((sH P p : Nat) : Int)) L st := hK_F2.fr (by rw [wr_o (by omega), wr_o (by omega)]) (by rw [wr_row (by omega), wr_row (by omega)]) (by rw [wr_row (by omega), wr_row (by omega)])
      exact Or.inl ⟨hc0, rfl, _, rfl, hO_F1.nx (hO_F1.1.fr hWf hXf hKf) hXf (hslot2 0 (by omega) (by omega)) (hrow2 127 (by omega) (by omega) (by omega))⟩
    · exact absurd h24 (by decide)
  · have h11 : ¬ (0 ≤ x0 ∧ x0 ≤ (sN P : Int) - 1) := ite_no.mp h11
    refine at_iconst 15 X (by decide) dX12_worth_14 rfl ?_
    refine at_goto 19 X dX12_worth_15 (by decide) ?_
    refine at_iconst 20 X (by decide) dX12_worth_19 rfl ?_
    refine at_iconst 21 X (by decide) dX12_worth_20 rfl ?_
    refine at_callV 24 X _ 12 (ct_bad1 hG E0 1 1 (by decide) hO_E0.2.2.1 (by decide)) clX12 rfl k_125 mo_X12_bad w_1960 vo_X12_bad.1 vo_X12_bad.2 rfl rfl (crm Rt (by decide)) (Nat.le_of_ble_eq_true rfl) dX12_worth_21 rfl ?_
    rintro _ _ ⟨rfl, rfl⟩
    have hb : ¬ (0 ≤ x0 ∧ x0 ≤ (sN P : Int) - 1) := by omega
    refine at_if_eq 27 29 X dX12_worth_24 rfl (by decide) (fun h24 => ?_) (fun h24 => ?_)
    · exact absurd h24 (by decide)
    · refine at_iconst 28 X (by decide) dX12_worth_27 rfl ?_
      refine at_iret X Rt ?_ (Nat.le_refl _) (Nat.le_refl _) dX12_worth_28
      exact Or.inr (⟨hb, rfl, congrArg ov (badR_of hE0)⟩)
