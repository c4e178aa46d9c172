theorem ct_X0_setLoadX {g : Gw} (hG : GF g) {z : Bool} (E : Mm) (B : BM) (a W : Nat) (ha : a = 76 ∨ a = 91) (hB : CB E a B) (hW : WB W B) (hW4 : W ≤ 40) (b p m : Nat) (hb : b < bN B) (hp : p < bL B b) (hm : m ≤ 99) : CT g yX0_setLoad cX0_setLoad 4 none 1 31 0 0 K2 z [mR a, mI ((b : Nat) : Int), mI ((p : Nat) : Int), mI ((m : Nat) : Int)] (ov E) K2 z (fun r D' => r = none ∧ D' = ov (wr (wr (wr E (a + 4) (b * 20 + p) (m : Int)) (a + 5) b (onL (setD B b p m) b : Int)) (a + 6) b (onR (setD B b p m) b : Int))) := by
  refine CT.mk hG (by decide +kernel) (Nat.le_of_ble_eq_true rfl) (fun κ X Rt _ ok => ?_)
  have hN8 := hW.N
  refine at_aload_n 1 X rfl rfl dX0_setLoad_0 rfl ?_
  refine at_iload_n 2 X rfl rfl dX0_setLoad_1 rfl ?_
  refine at_iload_n 3 X rfl rfl dX0_setLoad_2 rfl ?_
  refine at_callV 6 X _ 0 (ct_X0_isCell hG E _ ha b p) clX0 rfl (kX0 ha) mo_X0_isCell w_811 vo_X0_isCell.1 vo_X0_isCell.2 rfl rfl (crm Rt (by decide)) (Nat.le_of_ble_eq_true rfl) dX0_setLoad_3 rfl ?_
  rintro _ _ ⟨rfl, rfl⟩
  have := hW.L hb
  refine at_if_eq 9 26 X dX0_setLoad_6 rfl (by decide) (fun h6 => ?_) (fun h6 => ?_)
  · have h6 : ¬ (b < 8 ∧ p < 20) := ite_no.mp h6
    exfalso; have := hW.L hb; omega
  · have h6 : (b < 8 ∧ p < 20) := ite_yes.mp h6
    refine at_aload_n 10 X rfl rfl dX0_setLoad_9 rfl ?_
    refine m_getR 13 X f_X0_21 (kX0 ha) (rX0_3 ha) dX0_setLoad_10 rfl ?_
    refine at_iload_n 14 X rfl rfl dX0_setLoad_13 rfl ?_
    refine at_bipush 16 X (by decide) (by decide) dX0_setLoad_14 rfl ?_
    refine at_imulV 17 X ((b * 20 : Nat) : Int) (w32_v (by omega) (by omega) (by omega)) dX0_setLoad_16 rfl ?_
    refine at_iload_n 18 X rfl rfl dX0_setLoad_17 rfl ?_
    refine at_iaddV 19 X ((b * 20 + p : Nat) : Int) (w32_v (by omega) (by omega) (by omega)) dX0_setLoad_18 rfl ?_
    refine at_iload_n 20 X rfl rfl dX0_setLoad_19 rfl ?_
    refine m_iastoreV 21 X (b * 20 + p) (by omega) (kX0_3 ha) (eX0_3 ha) (by omega) dX0_setLoad_20 rfl ?_
    refine at_aload_n 22 X rfl rfl dX0_setLoad_21 rfl ?_
    refine at_iload_n 23 X rfl rfl dX0_setLoad_22 rfl ?_
    refine at_callV 26 X _ 0 (ct_X0_weigh hG (wr E (a + 4) (b * 20 + p) ((m : Nat) : Int)) (setD B b p m) a b ha (by omega) ((wr_o (by omega)).trans (hB.L hb)) ((wr_o (by omega)).trans (hB.H hb)) (fun q hq => if k : q = p then by subst k; rw [wr_s, setD_s] else by rw [wr_o (by omega), setD_o (by omega)]; exact hB.D hb hq) (hW.L hb) (hW.H hb).2 (fun q hq => if k : q = p then by subst k; rw [setD_s]; exact hm else by rw [setD_o (by omega)]; exact hW.D hb hq)) clX0 rfl (kX0 ha) mo_X0_weigh w_815 vo_X0_weigh.1 vo_X0_weigh.2 rfl rfl (crm Rt (by decide)) (Nat.le_of_ble_eq_true rfl) dX0_setLoad_23 rfl ?_
    rintro _ _ ⟨rfl, rfl⟩
    refine at_vret X Rt ?_ (Nat.le_refl _) (Nat.le_refl _) dX0_setLoad_26
    exact ⟨rfl, rfl⟩
theorem CS.beams {E E1 : Mm} {s : Nat} {P : SP} (h : CS E s P) (hf : ∀ q, s ≤ q → q ≤ s + 7 → E1 q = E q) (hB : CB E1 (s + 8) (sB P)) : CS E1 s P := by
  unfold CS at h ⊢
  rw [hf s (by omega) (by omega), hf (s + 1) (by omega) (by omega), hf (s + 2) (by omega) (by omega), hf (s + 3) (by omega) (by omega), hf (s + 4) (by omega) (by omega), hf (s + 5) (by omega) (by omega), hf (s + 6) (by omega) (by omega), hf (s + 7) (by omega) (by omega)]
  obtain ⟨h1, h2, h3, h4, h5, h6, h7, h8, h9, h10, h11, h12⟩ := h
  exact ⟨h1, h2, h3, h4, h5, h6, h7, h8, h9, h10, h11, hB⟩
/-- a load taken off and put back leaves all as it was -/
theorem set_back {E E2 : Mm} {a b p W : Nat} {B : BM} (hB : CB E a B) (hW : WB W B) (hb : b < bN B) (hp : p < bL B b) (hq : ∀ q, a + 4 ≤ q → q ≤ a + 6 → E2 q = (wr (wr (wr E (a + 4) (b * 20 + p) ((0 : Nat) : Int)) (a + 5) b (onL (setD B b p 0) b : Int)) (a + 6) b (onR (setD B b p 0) b : Int)) q) : ∀ q, a + 4 ≤ q → q ≤ a + 6 → (wr (wr (wr E2 (a + 4) (b * 20 + p) (bD B b p : Int)) (a + 5) b (onL B b : Int)) (a + 6) b (onR B b : Int)) q = E q := by
  intro q h1 h2
  funext j
  rcases (show q = a + 4 ∨ q = a + 5 ∨ q = a + 6 by omega) with rfl | rfl | rfl
  · rw [wr_o (by omega), wr_o (by omega)]
    by_cases c : j = b * 20 + p
    · subst c; rw [wr_s, hB.D hb hp]
    · rw [wr_o (Or.inr c), hq _ h1 h2, wr_o (by omega), wr_o (by omega), wr_o (Or.inr c)]
  · rw [wr_o (by omega)]
    by_cases c : j = b
    · subst c; rw [wr_s, hB.l hb]
    · rw [wr_o (Or.inr c), wr_o (by omega), hq _ h1 h2, wr_o (by omega), wr_o (Or.inr c), wr_o (by omega)]
  · by_cases c : j = b
    · subst c; rw [wr_s, hB.r hb]
    · rw [wr_o (Or.inr c), wr_o (by omega), wr_o (by omega), hq _ h1 h2, wr_o (Or.inr c), wr_o (by omega), wr_o (by omega)]
/-- the cell without whose load fewest fall, so far, and how many -/
noncomputable def lgP (G : GP) (B : BM) (T : LN) (b : Nat) : Nat → Int × Int := itr (fun p q => if 0 < bD B b p ∧ ((dN (dyP G (setD B b p 0) T 24) : Nat) : Int) < q.2 then ((p : Int), ((dN (dyP G (setD B b p 0) T 24) : Nat) : Int)) else q) (-1, 9)
theorem lgP_s (G : GP) (B : BM) (T : LN) (b p : Nat) : lgP G B T b (p + 1) = if 0 < bD B b p ∧ ((dN (dyP G (setD B b p 0) T 24) : Nat) : Int) < (lgP G B T b p).2 then ((p : Int), ((dN (dyP G (setD B b p 0) T 24) : Nat) : Int)) else lgP G B T b p := rfl
theorem dX11_lighter_0 : decode cX11_lighter 0 = .ok (.aload_n 0, 1) := by decide +kernel
theorem dX11_lighter_1 : decode cX11_lighter 1 = .ok (.iload_n 1, 1) := by decide +kernel
theorem dX11_lighter_2 : decode cX11_lighter 2 = .ok (.invokevirtual 208, 3) := by decide +kernel
theorem dX11_lighter_5 : decode cX11_lighter 5 = .ok (.aload_n 0, 1) := by decide +kernel
theorem dX11_lighter_6 : decode cX11_lighter 6 = .ok (.invokevirtual 227, 3) := by decide +kernel
theorem dX11_lighter_9 : decode cX11_lighter 9 = .ok (.iconst (-1), 1) := by decide +kernel
theorem dX11_lighter_10 : decode cX11_lighter 10 = .ok (.istore_n 2, 1) := by decide +kernel
theorem dX11_lighter_11 : decode cX11_lighter 11 = .ok (.bipush 9, 2) := by decide +kernel
theorem dX11_lighter_13 : decode cX11_lighter 13 = .ok (.istore_n 3, 1) := by decide +kernel
theorem dX11_lighter_14 : decode cX11_lighter 14 = .ok (.iconst 0, 1) := by decide +kernel
theorem dX11_lighter_15 : decode cX11_lighter 15 = .ok (.istore 4, 2) := by decide +kernel
theorem dX11_lighter_17 : decode cX11_lighter 17 = .ok (.iload 4, 2) := by decide +kernel
theorem dX11_lighter_19 : decode cX11_lighter 19 = .ok (.aload_n 0, 1) := by decide +kernel
theorem dX11_lighter_20 : decode cX11_lighter 20 = .ok (.getfield 93, 3) := by decide +kernel
theorem dX11_lighter_23 : decode cX11_lighter 23 = .ok (.getfield 135, 3) := by decide +kernel
theorem dX11_lighter_26 : decode cX11_lighter 26 = .ok (.getfield 214, 3) := by decide +kernel
theorem dX11_lighter_29 : decode cX11_lighter 29 = .ok (.iload_n 1, 1) := by decide +kernel
theorem dX11_lighter_30 : decode cX11_lighter 30 = .ok (.iaload, 1) := by decide +kernel
theorem dX11_lighter_31 : decode cX11_lighter 31 = .ok (.if_icmp .ge 103, 3) := by decide +kernel
theorem dX11_lighter_34 : decode cX11_lighter 34 = .ok (.aload_n 0, 1) := by decide +kernel
theorem dX11_lighter_35 : decode cX11_lighter 35 = .ok (.getfield 93, 3) := by decide +kernel
theorem dX11_lighter_38 : decode cX11_lighter 38 = .ok (.getfield 135, 3) := by decide +kernel
theorem dX11_lighter_41 : decode cX11_lighter 41 = .ok (.iload_n 1, 1) := by decide +kernel
theorem dX11_lighter_42 : decode cX11_lighter 42 = .ok (.iload 4, 2) := by decide +kernel
theorem dX11_lighter_44 : decode cX11_lighter 44 = .ok (.invokevirtual 446, 3) := by decide +kernel
theorem dX11_lighter_47 : decode cX11_lighter 47 = .ok (.istore 5, 2) := by decide +kernel
theorem dX11_lighter_49 : decode cX11_lighter 49 = .ok (.iload 5, 2) := by decide +kernel
theorem dX11_lighter_51 : decode cX11_lighter 51 = .ok (.ifCond .le 77, 3) := by decide +kernel
theorem dX11_lighter_54 : decode cX11_lighter 54 = .ok (.aload_n 0, 1) := by decide +kernel
theorem dX11_lighter_55 : decode cX11_lighter 55 = .ok (.getfield 93, 3) := by decide +kernel
theorem dX11_lighter_58 : decode cX11_lighter 58 = .ok (.getfield 135, 3) := by decide +kernel
theorem dX11_lighter_61 : decode cX11_lighter 61 = .ok (.iload_n 1, 1) := by decide +kernel
theorem dX11_lighter_62 : decode cX11_lighter 62 = .ok (.iload 4, 2) := by decide +kernel
theorem dX11_lighter_64 : decode cX11_lighter 64 = .ok (.iconst 0, 1) := by decide +kernel
theorem dX11_lighter_65 : decode cX11_lighter 65 = .ok (.invokevirtual 449, 3) := by decide +kernel
theorem dX11_lighter_68 : decode cX11_lighter 68 = .ok (.aload_n 0, 1) := by decide +kernel
theorem dX11_lighter_69 : decode cX11_lighter 69 = .ok (.getfield 73, 3) := by decide +kernel
theorem dX11_lighter_72 : decode cX11_lighter 72 = .ok (.aload_n 0, 1) := by decide +kernel
theorem dX11_lighter_73 : decode cX11_lighter 73 = .ok (.getfield 59, 3) := by decide +kernel
theorem dX11_lighter_76 : decode cX11_lighter 76 = .ok (.aload_n 0, 1) := by decide +kernel
theorem dX11_lighter_77 : decode cX11_lighter 77 = .ok (.getfield 93, 3) := by decide +kernel
theorem dX11_lighter_80 : decode cX11_lighter 80 = .ok (.getfield 135, 3) := by decide +kernel
theorem dX11_lighter_83 : decode cX11_lighter 83 = .ok (.aload_n 0, 1) := by decide +kernel
theorem dX11_lighter_84 : decode cX11_lighter 84 = .ok (.getfield 33, 3) := by decide +kernel
theorem dX11_lighter_87 : decode cX11_lighter 87 = .ok (.iconst 0, 1) := by decide +kernel
theorem dX11_lighter_88 : decode cX11_lighter 88 = .ok (.invokevirtual 350, 3) := by decide +kernel
theorem dX11_lighter_91 : decode cX11_lighter 91 = .ok (.aload_n 0, 1) := by decide +kernel
theorem dX11_lighter_92 : decode cX11_lighter 92 = .ok (.getfield 93, 3) := by decide +kernel
theorem dX11_lighter_95 : decode cX11_lighter 95 = .ok (.getfield 135, 3) := by decide +kernel
theorem dX11_lighter_98 : decode cX11_lighter 98 = .ok (.iload_n 1, 1) := by decide +kernel
theorem dX11_lighter_99 : decode cX11_lighter 99 = .ok (.iload 4, 2) := by decide +kernel
theorem dX11_lighter_101 : decode cX11_lighter 101 = .ok (.iload 5, 2) := by decide +kernel
theorem dX11_lighter_103 : decode cX11_lighter 103 = .ok (.invokevirtual 449, 3) := by decide +kernel
theorem dX11_lighter_106 : decode cX11_lighter 106 = .ok (.aload_n 0, 1) := by decide +kernel
theorem dX11_lighter_107 : decode cX11_lighter 107 = .ok (.getfield 73, 3) := by decide +kernel
theorem dX11_lighter_110 : decode cX11_lighter 110 = .ok (.getfield 287, 3) := by decide +kernel
theorem dX11_lighter_113 : decode cX11_lighter 113 = .ok (.iload_n 3, 1) := by decide +kernel
theorem dX11_lighter_114 : decode cX11_lighter 114 = .ok (.if_icmp .ge 14, 3) := by decide +kernel
theorem dX11_lighter_117 : decode cX11_lighter 117 = .ok (.aload_n 0, 1) := by decide +kernel
theorem dX11_lighter_118 : decode cX11_lighter 118 = .ok (.getfield 73, 3) := by decide +kernel
theorem dX11_lighter_121 : decode cX11_lighter 121 = .ok (.getfield 287, 3) := by decide +kernel
theorem dX11_lighter_124 : decode cX11_lighter 124 = .ok (.istore_n 3, 1) := by decide +kernel
theorem dX11_lighter_125 : decode cX11_lighter 125 = .ok (.iload 4, 2) := by decide +kernel
theorem dX11_lighter_127 : decode cX11_lighter 127 = .ok (.istore_n 2, 1) := by decide +kernel
theorem dX11_lighter_128 : decode cX11_lighter 128 = .ok (.iinc 4 1, 3) := by decide +kernel
theorem dX11_lighter_131 : decode cX11_lighter 131 = .ok (.goto (-114), 3) := by decide +kernel
theorem dX11_lighter_134 : decode cX11_lighter 134 = .ok (.iload_n 2, 1) := by decide +kernel
theorem dX11_lighter_135 : decode cX11_lighter 135 = .ok (.ireturn, 1) := by decide +kernel
theorem ct_X11_lighter {g : Gw} (hG : GF g) {z : Bool} (E : Mm) (s : Nat) (P : SP) (L : LW) (T K : LN) (d : Nat) (hI_E : CXI E s P L T K d) (x0 : Int) : CTX g yX11_lighter cX11_lighter 6 (some .int) 7 146 1 6 K2 z [mR 0, mI x0] (ov E) K2 z (fun r' D' => (0 ≤ x0 ∧ x0 ≤ (bN (sB P) : Int) - 1) ∧ r' = some (mI ((lgP (gNow P L d) (sB P) T x0.toNat (bL (sB P) x0.toNat)).1)) ∧ ∃ E1, D' = ov E1 ∧ CXI E1 s P L T K d ∧ CXF E E1) (fun X D' => (¬ (0 ≤ x0 ∧ x0 ≤ (bN (sB P) : Int) - 1) ∧ X = "java/util/NoSuchElementException" ∧ D' = ov (bumpE E 1))) := by
  refine CTX.mk hG (by decide +kernel) (Nat.le_of_ble_eq_true rfl) (fun κ X Rt Rx ok => ?_)
  have hs := hI_E.sa
  have hP := hI_E.WS
  have hW40 := hP.W
  have hN10 := hP.N
  have hN8 := hP.B.N
  have hX_E : CXF E E := CXF.rf
  have hwG := gNow_WG hI_E
  have hgw : gW (gNow P L d) = sW P := rfl
  have hgn : gN (gNow P L d) = sN P := rfl
  refine at_aload_n 1 X rfl rfl dX11_lighter_0 rfl ?_
  refine at_iload_n 2 X rfl rfl dX11_lighter_1 rfl ?_
  refine at_callVX 5 X Rt Rx _ 11 (ct_X11_needBeamP hG E s P L T K d hI_E x0) clX11 rfl k_0 mo_X11_needBeam w_1239 vo_X11_needBeam.1 vo_X11_needBeam.2 rfl rfl (by decide) (Nat.le_of_ble_eq_true rfl) dX11_lighter_2 rfl (fun _ _ h => ⟨h.1, h.2.1, h.2.2⟩) ?_
  rintro _ _ ⟨hc0, rfl, rfl⟩
  obtain ⟨b, rfl⟩ : ∃ b : Nat, x0 = (b : Int) := ⟨x0.toNat, by omega⟩
  refine at_aload_n 6 X rfl rfl dX11_lighter_5 rfl ?_
  refine at_callV 9 X _ 11 (ct_X11_refresh hG E s P L T K d hI_E) clX11 rfl k_0 mo_X11_refresh w_665 vo_X11_refresh.1 vo_X11_refresh.2 rfl rfl (crm Rt (by decide)) (Nat.le_of_ble_eq_true rfl) dX11_lighter_6 rfl ?_
  rintro _ _ ⟨rfl, F1, rfl, hI_F1, hF_F1, hXn_F1⟩
  have hX_F1 := hX_E.tr hXn_F1
  refine at_iconst 10 X (by decide) dX11_lighter_9 rfl ?_
  refine at_istore_n 11 X rfl dX11_lighter_10 rfl (by decide) ?_
  refine at_bipush 13 X (by decide) (by decide) dX11_lighter_11 rfl ?_
  refine at_istore_n 14 X rfl dX11_lighter_13 rfl (by decide) ?_
  refine at_iconst 15 X (by decide) dX11_lighter_14 rfl ?_
  refine at_istore 17 X dX11_lighter_15 rfl (by decide) ?_
  have J17 : ∀ (f17 : Nat) (F : Mm) (p : Nat) (v : Int) (m : Int), 20 - p < f17 → (p ≤ bL (sB P) b) → (v = (lgP (gNow P L d) (sB P) T b p).1) → (m = (lgP (gNow P L d) (sB P) T b p).2) → (m ≤ 9) → (CXI F s P L T K d) → (FRS F P L T d) → (CXF E F) → AT g κ K2 z 1 6 17 [(0, mR 0), (1, mI ((b : Nat) : Int)), (2, mI v), (3, mI m), (4, mI ((p : Nat) : Int))] [] (ov F) := by
    intro f17
    induction f17 with
    | zero => intro F p v m hf17; omega
    | succ f17 ih17 =>
    intro F p v m hf17 hp hv hm hm9 hI_F hF_F hX_F
    refine at_iload 19 X rfl dX11_lighter_17 rfl ?_
    refine at_aload_n 20 X rfl rfl dX11_lighter_19 rfl ?_
    refine m_getM 23 X (s) f_X11_93 k_0 rn_0_15 hI_F.now dX11_lighter_20 rfl ?_
    refine m_getR 26 X f_X11_135 (kX9 hs) (rX9_7 hs) dX11_lighter_23 rfl ?_
    refine m_getR 29 X f_X11_214 (kX0 (iB_8 hs)) (rX0_1 (iB_8 hs)) dX11_lighter_26 rfl ?_
    refine at_iload_n 30 X rfl rfl dX11_lighter_29 rfl ?_
    refine m_ialoadV 31 X b (by omega) ((bL (sB P) b : Nat) : Int) (hI_F.B.L (b := b) (by omega)) (kX0_1 (iB_8 hs)) (eX0_1 (iB_8 hs)) (by omega) dX11_lighter_30 rfl ?_
    have := hP.B.L (b := b) (by omega)
    refine at_icmp_ge 34 134 X dX11_lighter_31 rfl (by decide) (fun h31 => ?_) (fun h31 => ?_)
    · refine at_iload_n 135 X rfl rfl dX11_lighter_134 rfl ?_
      refine at_iret X Rt ?_ (by decide) (by decide) dX11_lighter_135
      exact ⟨hc0, (by (try simp only [Int.toNat_natCast]); rw [hv, show bL (sB P) b = p by omega]), _, rfl, hI_F, hX_F⟩
    · refine at_aload_n 35 X rfl rfl dX11_lighter_34 rfl ?_
      refine m_getM 38 X (s) f_X11_93 k_0 rn_0_15 hI_F.now dX11_lighter_35 rfl ?_
      refine m_getR 41 X f_X11_135 (kX9 hs) (rX9_7 hs) dX11_lighter_38 rfl ?_
      refine at_iload_n 42 X rfl rfl dX11_lighter_41 rfl ?_
      refine at_iload 44 X rfl dX11_lighter_42 rfl ?_
      refine at_callV 47 X _ 0 (ct_X0_loadOn hG F (sB P) (s + 8) (sW P) (iB_8 hs) hI_F.B hP.B hP.W.2 b p (by omega) (by omega)) clX0 rfl (kX0 (iB_8 hs)) mo_X0_loadOn w_1682 vo_X0_loadOn.1 vo_X0_loadOn.2 rfl rfl (crm Rt (by decide)) (Nat.le_of_ble_eq_true rfl) dX11_lighter_44 rfl ?_
      rintro _ _ ⟨rfl, rfl⟩
      have := hP.B.D (b := b) (p := p) (by omega) (by omega)
      refine at_istore 49 X dX11_lighter_47 rfl (by decide) ?_
      refine at_iload 51 X rfl dX11_lighter_49 rfl ?_
      refine at_if_le 54 128 X dX11_lighter_51 rfl (by decide) (fun h51 => ?_) (fun h51 => ?_)
      · refine at_iincV 131 X ((p + 1 : Nat) : Int) (w32_v (by omega) (by omega) (by omega)) rfl dX11_lighter_128 rfl (by decide) ?_
        refine at_goto 17 X dX11_lighter_131 (by decide) ?_
        exact at_sub _ (by exact ⟨rfl, rfl, rfl, rfl, rfl, trivial⟩) (ih17 F (p + 1) v m (by first | omega | (simp only [] at *; omega)) (by first | omega | assumption) (by rw [lgP_s, ← hm]; split <;> first | assumption | rfl | (rename_i hx; exfalso; omega)) (by rw [lgP_s, ← hm]; split <;> first | assumption | rfl | (rename_i hx; exfalso; omega)) (by omega) hI_F hF_F hX_F)
      · refine at_aload_n 55 X rfl rfl dX11_lighter_54 rfl ?_
        refine m_getM 58 X (s) f_X11_93 k_0 rn_0_15 hI_F.now dX11_lighter_55 rfl ?_
        refine m_getR 61 X f_X11_135 (kX9 hs) (rX9_7 hs) dX11_lighter_58 rfl ?_
        refine at_iload_n 62 X rfl rfl dX11_lighter_61 rfl ?_
        refine at_iload 64 X rfl dX11_lighter_62 rfl ?_
        refine at_iconst 65 X (by decide) dX11_lighter_64 rfl ?_
        refine at_callV 68 X _ 0 (ct_X0_setLoadX hG F (sB P) (s + 8) (sW P) (iB_8 hs) hI_F.B hP.B hP.W.2 b p 0 (by omega) (by omega) (by decide)) clX0 rfl (kX0 (iB_8 hs)) mo_X0_setLoad w_1683 vo_X0_setLoad.1 vo_X0_setLoad.2 rfl rfl (crm Rt (by decide)) (Nat.le_of_ble_eq_true rfl) dX11_lighter_65 rfl ?_
        rintro _ _ ⟨rfl, rfl⟩
        generalize hF1 : wr (wr (wr F (s + 8 + 4) (b * 20 + p) ((0 : Nat) : Int)) (s + 8 + 5) b (onL (setD (sB P) b p 0) b : Int)) (s + 8 + 6) b (onR (setD (sB P) b p 0) b : Int) = F1
        have hB1 : CB F1 (s + 8) (setD (sB P) b p 0) := by rw [← hF1]; exact CB_set hI_F.B hP.B (by omega) (by omega)
        have hq1 : ∀ q, q ≠ s + 8 + 4 → q ≠ s + 8 + 5 → q ≠ s + 8 + 6 → F1 q = F q := fun q h1 h2 h3 => by rw [← hF1, wr_row h3, wr_row h2, wr_row h1]
        have hnow1 : F1 0 15 = (s : Int) := by rw [hq1 0 (by omega) (by omega) (by omega)]; exact hI_F.now
        have hg1 : CG F1 30 (gNow P L d) := hF_F.1.fr (fun q h1 h2 h3 => hq1 q (by omega) (by omega) (by omega))
        have hl1 : CL F1 4 L := hI_F.Lw.fr (fun q h1 h2 => hq1 q (by omega) (by omega) (by omega))
        have hN1 : CN F1 12 T := hI_F.Tn.fr (fun q h1 h2 => hq1 q (by omega) (by omega) (by omega))
        refine at_aload_n 69 X rfl rfl dX11_lighter_68 rfl ?_
        refine m_getR 72 X f_X11_73 k_0 r_0_12 dX11_lighter_69 rfl ?_
        refine at_aload_n 73 X rfl rfl dX11_lighter_72 rfl ?_
        refine m_getR 76 X f_X11_59 k_0 r_0_9 dX11_lighter_73 rfl ?_
        refine at_aload_n 77 X rfl rfl dX11_lighter_76 rfl ?_
        refine m_getM 80 X (s) f_X11_93 k_0 rn_0_15 hnow1 dX11_lighter_77 rfl ?_
        refine m_getR 83 X f_X11_135 (kX9 hs) (rX9_7 hs) dX11_lighter_80 rfl ?_
        refine at_aload_n 84 X rfl rfl dX11_lighter_83 rfl ?_
        refine m_getR 87 X f_X11_33 k_0 r_0_4 dX11_lighter_84 rfl ?_
        refine at_iconst 88 X (by decide) dX11_lighter_87 rfl ?_
        refine at_callV 91 X _ 3 (ct_X3_go hG F1 54 (Or.inr rfl) 30 (Or.inl rfl) (gNow P L d) hwG hg1 hl1 (setD (sB P) b p 0) (s + 8) (iB_8 hs) hB1 (setD_WB hP.B (by decide)) T hN1 hI_F.WT 0 (by decide)) clX3 rfl k_54 mo_X3_go w_715 vo_X3_go.1 vo_X3_go.2 rfl rfl (crm Rt (by decide)) (Nat.le_of_ble_eq_true rfl) dX11_lighter_88 rfl ?_
        rintro _ _ ⟨rfl, F2, n, rfl, hn, hn2, hdn, hg2, hq2⟩
        have hn24 : n = 24 := by
          rcases hn2 with h | h
          · exact h
          · exact absurd (Nat.and_zero _) h
        subst hn24
        have hq12 : ∀ q, ¬ (54 ≤ q ∧ q ≤ 59) → q ≠ 38 → q ≠ 7 → F2 q = F1 q := fun q h1 h2 h3 => hq2 q (by omega) (by omega) (by omega) (by omega) (by omega) (by omega) (by omega) h3
        have hnow2 : F2 0 15 = (s : Int) := by rw [hq12 0 (by decide) (by decide) (by decide)]; exact hnow1
        have hB2 : CB F2 (s + 8) (setD (sB P) b p 0) := hB1.fr (fun q h1 h2 => hq12 q (by omega) (by omega) (by omega))
        refine at_aload_n 92 X rfl rfl dX11_lighter_91 rfl ?_
        refine m_getM 95 X (s) f_X11_93 k_0 rn_0_15 hnow2 dX11_lighter_92 rfl ?_
        refine m_getR 98 X f_X11_135 (kX9 hs) (rX9_7 hs) dX11_lighter_95 rfl ?_
        refine at_iload_n 99 X rfl rfl dX11_lighter_98 rfl ?_
        refine at_iload 101 X rfl dX11_lighter_99 rfl ?_
        refine at_iload 103 X rfl dX11_lighter_101 rfl ?_
        refine at_callV 106 X _ 0 (ct_X0_setLoadX hG F2 (setD (sB P) b p 0) (s + 8) (sW P) (iB_8 hs) hB2 (setD_WB hP.B (by decide)) hP.W.2 b p (bD (sB P) b p) (show b < bN (sB P) by omega) (show p < bL (sB P) b by omega) (hP.B.D (by omega) (by omega))) clX0 rfl (kX0 (iB_8 hs)) mo_X0_setLoad w_1683 vo_X0_setLoad.1 vo_X0_setLoad.2 rfl rfl (crm Rt (by decide)) (Nat.le_of_ble_eq_true rfl) dX11_lighter_103 rfl ?_
        rintro _ _ ⟨rfl, rfl⟩
        rw [setD_back]
        generalize hF3 : wr (wr (wr F2 (s + 8 + 4) (b * 20 + p) (bD (sB P) b p : Int)) (s + 8 + 5) b (onL (sB P) b : Int)) (s + 8 + 6) b (onR (sB P) b : Int) = F3
        have hq3 : ∀ q, ¬ (54 ≤ q ∧ q ≤ 59) → q ≠ 38 → q ≠ 7 → F3 q = F q := fun q h1 h2 h3 => by
          by_cases c : s + 8 + 4 ≤ q ∧ q ≤ s + 8 + 6
          · rw [← hF3]
            exact set_back hI_F.B hP.B (by omega) (by omega) (fun q k1 k2 => by rw [hq12 q (by omega) (by omega) (by omega), ← hF1]) q c.1 c.2
          · rw [← hF3, wr_row (by omega), wr_row (by omega), wr_row (by omega), hq12 q h1 h2 h3, hq1 q (by omega) (by omega) (by omega)]
        have hd3 : CDn F3 54 (gNow P L d) (setD (sB P) b p 0) T 24 := hdn.fr (fun q h1 h2 => by rw [← hF3, wr_row (by omega), wr_row (by omega), wr_row (by omega)])
        have hg3 : CG F3 30 (gNow P L d) := hg2.fr (fun q h1 h2 h3 => by rw [← hF3, wr_row (by omega), wr_row (by omega), wr_row (by omega)])
        have hX3 : CXF F F3 := CXF.of (fun q h => hq3 q (by omega) (by omega) (by omega))
        have hF_F3 : FRS F3 P L T d := ⟨hg3, by have := hF_F.2.1; unfold CKd at this ⊢; rw [hq3 (30 + 3) (by decide) (by decide) (by decide)]; exact this, hF_F.2.2.fr (fun q h1 h2 => hq3 q (by omega) (by omega) (by omega))⟩
        have hI_F3 : CXI F3 s P L T K d := hI_F.fr hX3 (by rw [hq3 0 (by decide) (by decide) (by decide)]; rcases hI_F.st with h | h; exact Or.inl h; exact Or.inr ⟨h.1, hF_F3⟩)
        have hX_F3 : CXF E F3 := hX_F.tr hX3
        have hDL := dyP_DI (G := gNow P L d) (setD_WB (b := b) (p := p) (m := 0) hP.B (by decide)) hI_F.WT (Nat.le_refl 24)
        have hdl8 : dN (dyP (gNow P L d) (setD (sB P) b p 0) T 24) ≤ 8 := by rw [hDL.2.1]; exact Nat.le_trans (cntp_le _ _) hN8
        refine at_aload_n 107 X rfl rfl dX11_lighter_106 rfl ?_
        refine m_getR 110 X f_X11_73 k_0 r_0_12 dX11_lighter_107 rfl ?_
        refine m_getIV 113 X ((dN (dyP (gNow P L d) (setD (sB P) b p 0) T 24) : Nat) : Int) hd3.1.2.2.2.1 f_X11_287 k_54 rn_54_5 dX11_lighter_110 rfl ?_
        refine at_iload_n 114 X rfl rfl dX11_lighter_113 rfl ?_
        refine at_icmp_ge 117 128 X dX11_lighter_114 rfl (by decide) (fun h114 => ?_) (fun h114 => ?_)
        · refine at_iincV 131 X ((p + 1 : Nat) : Int) (w32_v (by omega) (by omega) (by omega)) rfl dX11_lighter_128 rfl (by decide) ?_
          refine at_goto 17 X dX11_lighter_131 (by decide) ?_
          exact at_sub _ (by exact ⟨rfl, rfl, rfl, rfl, rfl, trivial⟩) (ih17 F3 (p + 1) v m (by first | omega | (simp only [] at *; omega)) (by first | omega | assumption) (by rw [lgP_s, ← hm]; split <;> first | assumption | rfl | (rename_i hx; exfalso; omega)) (by rw [lgP_s, ← hm]; split <;> first | assumption | rfl | (rename_i hx; exfalso; omega)) (by omega) hI_F3 hF_F3 hX_F3)
        · refine at_aload_n 118 X rfl rfl dX11_lighter_117 rfl ?_
          refine m_getR 121 X f_X11_73 k_0 r_0_12 dX11_lighter_118 rfl ?_
          refine m_getIV 124 X ((dN (dyP (gNow P L d) (setD (sB P) b p 0) T 24) : Nat) : Int) hd3.1.2.2.2.1 f_X11_287 k_54 rn_54_5 dX11_lighter_121 rfl ?_
          refine at_istore_n 125 X rfl dX11_lighter_124 rfl (by decide) ?_
          refine at_iload 127 X rfl dX11_lighter_125 rfl ?_
          refine at_istore_n 128 X rfl dX11_lighter_127 rfl (by decide) ?_
          refine at_iincV 131 X ((p + 1 : Nat) : Int) (w32_v (by omega) (by omega) (by omega)) rfl dX11_lighter_128 rfl (by decide) ?_
          refine at_goto 17 X dX11_lighter_131 (by decide) ?_
          exact at_sub _ (by exact ⟨rfl, rfl, rfl, rfl, rfl, trivial⟩) (ih17 F3 (p + 1) ((p : Nat) : Int) ((dN (dyP (gNow P L d) (setD (sB P) b p 0) T 24) : Nat) : Int) (by first | omega | (simp only [] at *; omega)) (by first | omega | assumption) (by rw [lgP_s, ← hm]; split <;> first | assumption | rfl | (rename_i hx; exfalso; omega)) (by rw [lgP_s, ← hm]; split <;> first | assumption | rfl | (rename_i hx; exfalso; omega)) (by omega) hI_F3 hF_F3 hX_F3)
  exact at_sub _ (by exact ⟨rfl, rfl, rfl, rfl, rfl, trivial⟩) (J17 _ F1 0 (-1) 9 (Nat.lt_succ_self _) (by first | omega | assumption | rfl) rfl rfl (by first | omega | assumption | rfl) hI_F1 hF_F1 hX_F1)
