/-- a street with other beams -/
def upB (P : SP) (B : BM) : SP := (P.1, P.2.1, P.2.2.1, P.2.2.2.1, P.2.2.2.2.1, B)
theorem upB_WS {P : SP} {B : BM} (h : WS P) (hB : WB (sW P) B) : WS (upB P B) := by
  obtain ⟨h1, h2, h3, h4, h5, h6, h7, h8, h9, -⟩ := h
  exact ⟨h1, h2, h3, h4, h5, h6, h7, h8, h9, hB⟩
theorem RTS_set {F F1 : Mm} {P : SP} {Q : RX} {b p m : Nat} (h : RTS F P Q) (e : wr F (246 + b) p (m : Int) = F1) (hP : WS P) (hb : b < bN (sB P)) : RTS F1 (upB P (setD (sB P) b p m)) Q := by
  have hN := hP.N
  have hM := hP.M
  have hC := hP.Cn
  have hL := hP.Ln
  have hB := hP.B.N
  have hf : ∀ q, q ≠ 246 + b → F1 q = F q := fun q hq => by rw [← e]; exact wr_row hq
  obtain ⟨h1, h2, h3, h4, h5, h6, h7⟩ := h
  refine ⟨?_, fun p hp => ?_, ⟨h3.1, fun k hk => ?_, h3.2.2⟩, fun m hm => ?_, ⟨fun k hk => ?_, h5.2⟩, ⟨fun k hk => ?_, h6.2⟩, fun c hc => ?_⟩
  · unfold RTo at h1 ⊢
    rw [hf 129 (by omega)]
    exact h1
  · have hp' : p < sN P := hp
    rw [hf (142 + p) (by omega)]; exact h2 p hp
  · have := h3.1
    rw [hf (167 + k) (by omega)]; exact h3.2.1 k hk
  · have hm' : m < sM P := hm
    rw [hf (184 + m) (by omega)]; exact h4 m hm
  · have hk' : k < sCn P := hk
    rw [hf (195 + k) (by omega)]; exact h5.1 k hk
  · have hk' : k < sLn P := hk
    rw [hf (209 + k) (by omega)]; exact h6.1 k hk
  · have hc' : c < bN (sB P) := hc
    obtain ⟨g1, g2, g3, g4⟩ := h7 c hc'
    rw [hf (228 + c) (by omega)]
    refine ⟨g1, g2, g3, fun j hj => ?_⟩
    show F1 (246 + c) j = ((if c = b ∧ j = p then m else bD (sB P) c j : Nat) : Int)
    by_cases k : c = b ∧ j = p
    · rw [if_pos k, k.1, k.2, ← e, wr_s]
    · rw [if_neg k, ← e, wr_o (by omega)]
      exact g4 j hj
theorem ct_runsD {g : Gw} (hG : GF g) {z : Bool} (E : Mm) (P : SP) (Q : RX) (hP : WS P) (B' : BM) (hB' : WB (sW P) B') (hR_E : RTS E (upB P B') Q) (G : GP) (T : LN) (hm_E : RMv E T) (hT : WT (sW P) B' T) (hbr_E : ∀ h c, h < 24 → c < sW P → E (708 + h) c = bOn G h c) : CT g yX12_runs cX12_runs 3 (some .int) 2 47 0 0 K2 z [mR 125] (ov E) K2 z (fun r D' => r = some (mI (dN (dyP G B' T 24) : Nat)) ∧ ∃ E1, D' = ov E1 ∧ RD E1 B' (dyP G B' T 24) ∧ RHr E1 G B' T (sW P) 24 ∧ ((∀ q, ¬ (733 ≤ q ∧ q ≤ 756) → ¬ (758 ≤ q ∧ q ≤ 784) → q ≠ 125 → E1 q = E q) ∧ ∀ k, k ≠ 60 → E1 125 k = E 125 k)) :=
  ct_X12_runs hG E (upB P B') Q (upB_WS hP hB') hR_E G T hm_E hT hbr_E
theorem dX12_lighter_0 : decode cX12_lighter 0 = .ok (.aload_n 0, 1) := by decide +kernel
theorem dX12_lighter_1 : decode cX12_lighter 1 = .ok (.iconst 0, 1) := by decide +kernel
theorem dX12_lighter_2 : decode cX12_lighter 2 = .ok (.putfield 152, 3) := by decide +kernel
theorem dX12_lighter_5 : decode cX12_lighter 5 = .ok (.aload_n 0, 1) := by decide +kernel
theorem dX12_lighter_6 : decode cX12_lighter 6 = .ok (.aload_n 0, 1) := by decide +kernel
theorem dX12_lighter_7 : decode cX12_lighter 7 = .ok (.iload_n 1, 1) := by decide +kernel
theorem dX12_lighter_8 : decode cX12_lighter 8 = .ok (.invokevirtual 324, 3) := by decide +kernel
theorem dX12_lighter_11 : decode cX12_lighter 11 = .ok (.ifCond .ne 7, 3) := by decide +kernel
theorem dX12_lighter_14 : decode cX12_lighter 14 = .ok (.iconst 1, 1) := by decide +kernel
theorem dX12_lighter_15 : decode cX12_lighter 15 = .ok (.goto 4, 3) := by decide +kernel
theorem dX12_lighter_18 : decode cX12_lighter 18 = .ok (.iconst 0, 1) := by decide +kernel
theorem dX12_lighter_19 : decode cX12_lighter 19 = .ok (.iconst 1, 1) := by decide +kernel
theorem dX12_lighter_20 : decode cX12_lighter 20 = .ok (.iconst 1, 1) := by decide +kernel
theorem dX12_lighter_21 : decode cX12_lighter 21 = .ok (.invokevirtual 244, 3) := by decide +kernel
theorem dX12_lighter_24 : decode cX12_lighter 24 = .ok (.ifCond .eq 5, 3) := by decide +kernel
theorem dX12_lighter_27 : decode cX12_lighter 27 = .ok (.iconst 0, 1) := by decide +kernel
theorem dX12_lighter_28 : decode cX12_lighter 28 = .ok (.ireturn, 1) := by decide +kernel
theorem dX12_lighter_29 : decode cX12_lighter 29 = .ok (.iconst (-1), 1) := by decide +kernel
theorem dX12_lighter_30 : decode cX12_lighter 30 = .ok (.istore_n 2, 1) := by decide +kernel
theorem dX12_lighter_31 : decode cX12_lighter 31 = .ok (.iconst 0, 1) := by decide +kernel
theorem dX12_lighter_32 : decode cX12_lighter 32 = .ok (.istore_n 3, 1) := by decide +kernel
theorem dX12_lighter_33 : decode cX12_lighter 33 = .ok (.aload_n 0, 1) := by decide +kernel
theorem dX12_lighter_34 : decode cX12_lighter 34 = .ok (.invokevirtual 378, 3) := by decide +kernel
theorem dX12_lighter_37 : decode cX12_lighter 37 = .ok (.iconst 0, 1) := by decide +kernel
theorem dX12_lighter_38 : decode cX12_lighter 38 = .ok (.istore 4, 2) := by decide +kernel
theorem dX12_lighter_40 : decode cX12_lighter 40 = .ok (.iload 4, 2) := by decide +kernel
theorem dX12_lighter_42 : decode cX12_lighter 42 = .ok (.aload_n 0, 1) := by decide +kernel
theorem dX12_lighter_43 : decode cX12_lighter 43 = .ok (.getfield 61, 3) := by decide +kernel
theorem dX12_lighter_46 : decode cX12_lighter 46 = .ok (.iload_n 1, 1) := by decide +kernel
theorem dX12_lighter_47 : decode cX12_lighter 47 = .ok (.aaload, 1) := by decide +kernel
theorem dX12_lighter_48 : decode cX12_lighter 48 = .ok (.iconst 1, 1) := by decide +kernel
theorem dX12_lighter_49 : decode cX12_lighter 49 = .ok (.iaload, 1) := by decide +kernel
theorem dX12_lighter_50 : decode cX12_lighter 50 = .ok (.if_icmp .ge 75, 3) := by decide +kernel
theorem dX12_lighter_53 : decode cX12_lighter 53 = .ok (.aload_n 0, 1) := by decide +kernel
theorem dX12_lighter_54 : decode cX12_lighter 54 = .ok (.getfield 67, 3) := by decide +kernel
theorem dX12_lighter_57 : decode cX12_lighter 57 = .ok (.iload_n 1, 1) := by decide +kernel
theorem dX12_lighter_58 : decode cX12_lighter 58 = .ok (.aaload, 1) := by decide +kernel
theorem dX12_lighter_59 : decode cX12_lighter 59 = .ok (.iload 4, 2) := by decide +kernel
theorem dX12_lighter_61 : decode cX12_lighter 61 = .ok (.iaload, 1) := by decide +kernel
theorem dX12_lighter_62 : decode cX12_lighter 62 = .ok (.istore 5, 2) := by decide +kernel
theorem dX12_lighter_64 : decode cX12_lighter 64 = .ok (.iload 5, 2) := by decide +kernel
theorem dX12_lighter_66 : decode cX12_lighter 66 = .ok (.ifCond .ne 6, 3) := by decide +kernel
theorem dX12_lighter_69 : decode cX12_lighter 69 = .ok (.goto 50, 3) := by decide +kernel
theorem dX12_lighter_72 : decode cX12_lighter 72 = .ok (.aload_n 0, 1) := by decide +kernel
theorem dX12_lighter_73 : decode cX12_lighter 73 = .ok (.getfield 67, 3) := by decide +kernel
theorem dX12_lighter_76 : decode cX12_lighter 76 = .ok (.iload_n 1, 1) := by decide +kernel
theorem dX12_lighter_77 : decode cX12_lighter 77 = .ok (.aaload, 1) := by decide +kernel
theorem dX12_lighter_78 : decode cX12_lighter 78 = .ok (.iload 4, 2) := by decide +kernel
theorem dX12_lighter_80 : decode cX12_lighter 80 = .ok (.iconst 0, 1) := by decide +kernel
theorem dX12_lighter_81 : decode cX12_lighter 81 = .ok (.iastore, 1) := by decide +kernel
theorem dX12_lighter_82 : decode cX12_lighter 82 = .ok (.aload_n 0, 1) := by decide +kernel
theorem dX12_lighter_83 : decode cX12_lighter 83 = .ok (.invokevirtual 397, 3) := by decide +kernel
theorem dX12_lighter_86 : decode cX12_lighter 86 = .ok (.istore 6, 2) := by decide +kernel
theorem dX12_lighter_88 : decode cX12_lighter 88 = .ok (.aload_n 0, 1) := by decide +kernel
theorem dX12_lighter_89 : decode cX12_lighter 89 = .ok (.getfield 67, 3) := by decide +kernel
theorem dX12_lighter_92 : decode cX12_lighter 92 = .ok (.iload_n 1, 1) := by decide +kernel
theorem dX12_lighter_93 : decode cX12_lighter 93 = .ok (.aaload, 1) := by decide +kernel
theorem dX12_lighter_94 : decode cX12_lighter 94 = .ok (.iload 4, 2) := by decide +kernel
theorem dX12_lighter_96 : decode cX12_lighter 96 = .ok (.iload 5, 2) := by decide +kernel
theorem dX12_lighter_98 : decode cX12_lighter 98 = .ok (.iastore, 1) := by decide +kernel
theorem dX12_lighter_99 : decode cX12_lighter 99 = .ok (.iload_n 2, 1) := by decide +kernel
theorem dX12_lighter_100 : decode cX12_lighter 100 = .ok (.iconst (-1), 1) := by decide +kernel
theorem dX12_lighter_101 : decode cX12_lighter 101 = .ok (.if_icmp .eq 12, 3) := by decide +kernel
theorem dX12_lighter_104 : decode cX12_lighter 104 = .ok (.iload 6, 2) := by decide +kernel
theorem dX12_lighter_106 : decode cX12_lighter 106 = .ok (.iload_n 3, 1) := by decide +kernel
theorem dX12_lighter_107 : decode cX12_lighter 107 = .ok (.if_icmp .lt 6, 3) := by decide +kernel
theorem dX12_lighter_110 : decode cX12_lighter 110 = .ok (.goto 9, 3) := by decide +kernel
theorem dX12_lighter_113 : decode cX12_lighter 113 = .ok (.iload 4, 2) := by decide +kernel
theorem dX12_lighter_115 : decode cX12_lighter 115 = .ok (.istore_n 2, 1) := by decide +kernel
theorem dX12_lighter_116 : decode cX12_lighter 116 = .ok (.iload 6, 2) := by decide +kernel
theorem dX12_lighter_118 : decode cX12_lighter 118 = .ok (.istore_n 3, 1) := by decide +kernel
theorem dX12_lighter_119 : decode cX12_lighter 119 = .ok (.iinc 4 1, 3) := by decide +kernel
theorem dX12_lighter_122 : decode cX12_lighter 122 = .ok (.goto (-82), 3) := by decide +kernel
theorem dX12_lighter_125 : decode cX12_lighter 125 = .ok (.iload_n 2, 1) := by decide +kernel
theorem dX12_lighter_126 : decode cX12_lighter 126 = .ok (.ireturn, 1) := by decide +kernel
theorem ct_X12_lighter {g : Gw} (hG : GF g) {z : Bool} (E : Mm) (Q : RX) (P : SP) (L : LW) (T K : LN) (d st : Nat) (hWf : WF P L T K d st) (hI_E : RXI E Q P L T K d st) (x0 : Int) : CT g yX12_lighter cX12_lighter 7 (some .int) 7 156 0 0 K2 z [mR 125, mI x0] (ov E) K2 z (fun r' D' => ((0 ≤ x0 ∧ x0 ≤ (bN (sB P) : Int) - 1) ∧ r' = some (mI ((lgP (gDay P L d) (sB P) T x0.toNat (bL (sB P) x0.toNat)).1)) ∧ ∃ E1, D' = ov E1 ∧ RXO E E1 Q P L T K d st) ∨ (¬ (0 ≤ x0 ∧ x0 ≤ (bN (sB P) : Int) - 1) ∧ r' = some (mI 0) ∧ D' = ov (badR E 1 1))) := by
  refine CT.mk hG (by decide +kernel) (Nat.le_of_ble_eq_true rfl) (fun κ X Rt _ ok => ?_)
  have hP := hWf.1
  have hN8 := hP.B.N
  have hW40 := hP.W
  have hN11 := hP.N
  have hwN : gN (gDay P L d) ≤ 11 := Nat.le_trans hP.N (by decide)
  have hgw : gW (gDay P L d) = sW P := rfl
  have hDI24 := dyP_DI (G := (gDay P L d)) hP.B hWf.2.2.2.1 (Nat.le_refl 24)
  refine at_aload_n 1 X rfl rfl dX12_lighter_0 rfl ?_
  refine at_iconst 2 X (by decide) dX12_lighter_1 rfl ?_
  refine m_putI 5 X f_X12_152 fw_12_0 k_125 rn_125_0 dX12_lighter_2 rfl ?_
  have hO_E0 := RXO.z hWf hI_E
  generalize hE0 : wr E 125 0 0 = E0 at hO_E0 ⊢
  have hR_E0 := hO_E0.1.1
  refine at_aload_n 6 X rfl rfl dX12_lighter_5 rfl ?_
  refine at_aload_n 7 X rfl rfl dX12_lighter_6 rfl ?_
  refine at_iload_n 8 X rfl rfl dX12_lighter_7 rfl ?_
  refine at_callV 11 X _ 12 (ct_X12_isBeam hG E0 P Q hP hR_E0 x0) clX12 rfl k_125 mo_X12_isBeam w_2122 vo_X12_isBeam.1 vo_X12_isBeam.2 rfl rfl (crm Rt (by decide)) (Nat.le_of_ble_eq_true rfl) dX12_lighter_8 rfl ?_
  rintro _ _ ⟨rfl, rfl⟩
  refine at_if_ne 14 18 X dX12_lighter_11 rfl (by decide) (fun h11 => ?_) (fun h11 => ?_)
  · have h11 : (0 ≤ x0 ∧ x0 ≤ (bN (sB P) : Int) - 1) := ite_yes.mp h11
    refine at_iconst 19 X (by decide) dX12_lighter_18 rfl ?_
    refine at_iconst 20 X (by decide) dX12_lighter_19 rfl ?_
    refine at_iconst 21 X (by decide) dX12_lighter_20 rfl ?_
    refine at_callV 24 X _ 12 (ct_bad0 hG E0 1 1 (by decide) hO_E0.2.2.1) clX12 rfl k_125 mo_X12_bad w_1960 vo_X12_bad.1 vo_X12_bad.2 rfl rfl (crm Rt (by decide)) (Nat.le_of_ble_eq_true rfl) dX12_lighter_21 rfl ?_
    rintro _ _ ⟨rfl, rfl⟩
    have hc0 : 0 ≤ x0 ∧ x0 ≤ (bN (sB P) : Int) - 1 := by omega
    refine at_if_eq 27 29 X dX12_lighter_24 rfl (by decide) (fun h24 => ?_) (fun h24 => ?_)
    · obtain ⟨b, rfl⟩ : ∃ b : Nat, x0 = (b : Int) := ⟨x0.toNat, by omega⟩
      have hlb := hP.B.L (b := b) (by omega)
      have hxb := hP.B.X (b := b) (by omega)
      refine at_iconst 30 X (by decide) dX12_lighter_29 rfl ?_
      refine at_istore_n 31 X rfl dX12_lighter_30 rfl (by decide) ?_
      refine at_iconst 32 X (by decide) dX12_lighter_31 rfl ?_
      refine at_istore_n 33 X rfl dX12_lighter_32 rfl (by decide) ?_
      refine at_aload_n 34 X rfl rfl dX12_lighter_33 rfl ?_
      refine at_callV 37 X _ 12 (ct_X12_laysNow hG E0 Q P L T K d st hWf hO_E0.1) clX12 rfl k_125 mo_X12_laysNow w_2158 vo_X12_laysNow.1 vo_X12_laysNow.2 rfl rfl (crm Rt (by decide)) (Nat.le_of_ble_eq_true rfl) dX12_lighter_34 rfl ?_
      rintro _ _ ⟨rfl, F1, rfl, hI_F1, hY_F1, hs_F1, hz_F1, hv_F1, h0_F1, h7_F1⟩
      have hO_F1 := hO_E0.nx hI_F1 hY_F1 h0_F1 h7_F1
      have hR_F1 := hI_F1.1
      refine at_iconst 38 X (by decide) dX12_lighter_37 rfl ?_
      refine at_istore 40 X dX12_lighter_38 rfl (by decide) ?_
      have J40 : ∀ (f40 : Nat) (F : Mm) (p : Nat) (v : Int) (m : Int), 21 - p < f40 → (p ≤ bL (sB P) b) → (v = (lgP (gDay P L d) (sB P) T b p).1) → ((v = -1 ∧ (lgP (gDay P L d) (sB P) T b p).2 = 9) ∨ (0 ≤ v ∧ m = (lgP (gDay P L d) (sB P) T b p).2 ∧ 0 ≤ m ∧ m ≤ 8)) → (RXO E F Q P L T K d st) → (RSh F (gDay P L d) 24) → AT g κ K2 z 0 0 40 [(0, mR 125), (1, mI ((b : Nat) : Int)), (2, mI v), (3, mI m), (4, mI ((p : Nat) : Int))] [] (ov F) := by
        intro f40
        induction f40 with
        | zero => intro F p v m hf40; omega
        | succ f40 ih40 =>
        intro F p v m hf40 hp hv hm hO_F hs_F
        refine at_iload 42 X rfl dX12_lighter_40 rfl ?_
        have hR_F := hO_F.1.1
        refine at_aload_n 43 X rfl rfl dX12_lighter_42 rfl ?_
        refine m_getR 46 X f_X12_61 k_125 r_125_24 dX12_lighter_43 rfl ?_
        refine at_iload_n 47 X rfl rfl dX12_lighter_46 rfl ?_
        refine m_aaloadV 48 X b (by omega) k_227 (by decide) (by omega) (rr_227 _ (by omega)) dX12_lighter_47 rfl ?_
        refine at_iconst 49 X (by decide) dX12_lighter_48 rfl ?_
        refine m_ialoadV 50 X 1 (by omega) ((bL (sB P) b : Nat) : Int) (hR_F.2.2.2.2.2.2 b (by omega)).2.1 (kr_227 _ (by omega)) (er_227 _ (by omega)) (by omega) dX12_lighter_49 rfl ?_
        have := hP.B.L (b := b) (by omega)
        refine at_icmp_ge 53 125 X dX12_lighter_50 rfl (by decide) (fun h50 => ?_) (fun h50 => ?_)
        · refine at_iload_n 126 X rfl rfl dX12_lighter_125 rfl ?_
          refine at_iret X Rt ?_ (Nat.le_refl _) (Nat.le_refl _) dX12_lighter_126
          exact Or.inl ⟨hc0, (by (try simp only [Int.toNat_natCast]); rw [hv, show bL (sB P) b = p by omega]), _, rfl, hO_F⟩
        · refine at_aload_n 54 X rfl rfl dX12_lighter_53 rfl ?_
          refine m_getR 57 X f_X12_67 k_125 r_125_26 dX12_lighter_54 rfl ?_
          refine at_iload_n 58 X rfl rfl dX12_lighter_57 rfl ?_
          refine m_aaloadV 59 X b (by omega) k_245 (by decide) (by omega) (rr_245 _ (by omega)) dX12_lighter_58 rfl ?_
          refine at_iload 61 X rfl dX12_lighter_59 rfl ?_
          refine m_ialoadV 62 X p (by omega) ((bD (sB P) b p : Nat) : Int) ((hR_F.2.2.2.2.2.2 b (by omega)).2.2.2 p (by omega)) (kr_245 _ (by omega)) (er_245 _ (by omega)) (by omega) dX12_lighter_61 rfl ?_
          have := hP.B.D (b := b) (p := p) (by omega) (by omega)
          refine at_istore 64 X dX12_lighter_62 rfl (by decide) ?_
          refine at_iload 66 X rfl dX12_lighter_64 rfl ?_
          refine at_if_ne 69 72 X dX12_lighter_66 rfl (by decide) (fun h66 => ?_) (fun h66 => ?_)
          · refine at_aload_n 73 X rfl rfl dX12_lighter_72 rfl ?_
            refine m_getR 76 X f_X12_67 k_125 r_125_26 dX12_lighter_73 rfl ?_
            refine at_iload_n 77 X rfl rfl dX12_lighter_76 rfl ?_
            refine m_aaloadV 78 X b (by omega) k_245 (by decide) (by omega) (rr_245 _ (by omega)) dX12_lighter_77 rfl ?_
            refine at_iload 80 X rfl dX12_lighter_78 rfl ?_
            refine at_iconst 81 X (by decide) dX12_lighter_80 rfl ?_
            refine m_iastoreV 82 X p (by omega) (kr_245 _ (by omega)) (er_245 _ (by omega)) (by omega) dX12_lighter_81 rfl ?_
            refine at_aload_n 83 X rfl rfl dX12_lighter_82 rfl ?_
            generalize hF1 : wr F (246 + b) p 0 = F1
            have hR1 : RTS F1 (upB P (setD (sB P) b p 0)) Q := RTS_set (m := 0) hO_F.1.1 hF1 hP (by omega)
            have hq1 : ∀ q, q ≠ 246 + b → F1 q = F q := fun q hq => by rw [← hF1]; exact wr_row hq
            refine at_callV 86 X _ 12 (ct_runsD hG F1 P Q hP (setD (sB P) b p 0) (setD_WB hP.B (by decide)) hR1 (gDay P L d) T ⟨by rw [hq1 125 (by omega)]; exact hO_F.1.2.2.2.1.1, fun i hi => by have := hWf.2.2.2.1.1; rw [hq1 (581 + i) (by omega)]; exact hO_F.1.2.2.2.1.2 i hi⟩ hWf.2.2.2.1 (fun h c hh hc => by rw [hq1 (708 + h) (by omega)]; exact (hs_F h c hh hc).2)) clX12 rfl k_125 mo_X12_runs w_2205 vo_X12_runs.1 vo_X12_runs.2 rfl rfl (crm Rt (by decide)) (Nat.le_of_ble_eq_true rfl) dX12_lighter_83 rfl ?_
            rintro _ _ ⟨rfl, F2, rfl, hd2, hh2, hf2⟩
            have hDL := dyP_DI (G := (gDay P L d)) (setD_WB (b := b) (p := p) (m := 0) hP.B (by decide)) hWf.2.2.2.1 (Nat.le_refl 24)
            have hdl8 : dN (dyP (gDay P L d) (setD (sB P) b p 0) T 24) ≤ 8 := by rw [hDL.2.1]; exact Nat.le_trans (cntp_le _ _) hN8
            refine at_istore 88 X dX12_lighter_86 rfl (by decide) ?_
            refine at_aload_n 89 X rfl rfl dX12_lighter_88 rfl ?_
            refine m_getR 92 X f_X12_67 k_125 r_125_26 dX12_lighter_89 rfl ?_
            refine at_iload_n 93 X rfl rfl dX12_lighter_92 rfl ?_
            refine m_aaloadV 94 X b (by omega) k_245 (by decide) (by omega) (rr_245 _ (by omega)) dX12_lighter_93 rfl ?_
            refine at_iload 96 X rfl dX12_lighter_94 rfl ?_
            refine at_iload 98 X rfl dX12_lighter_96 rfl ?_
            refine m_iastoreV 99 X p (by omega) (kr_245 _ (by omega)) (er_245 _ (by omega)) (by omega) dX12_lighter_98 rfl ?_
            generalize hF3 : wr F2 (246 + b) p ((bD (sB P) b p : Nat) : Int) = F3
            have hb3 : F3 (246 + b) = F (246 + b) := by
              funext j
              rw [← hF3]
              by_cases c : j = p
              · subst c; rw [wr_s]; exact (hR_F.2.2.2.2.2.2 b (by omega)).2.2.2 j (by omega) |>.symm
              · rw [wr_o (Or.inr c), hf2.1 (246 + b) (by omega) (by omega) (by omega), ← hF1, wr_o (Or.inr c)]
            have hq3 : ∀ q, ¬ (733 ≤ q ∧ q ≤ 756) → ¬ (758 ≤ q ∧ q ≤ 784) → q ≠ 125 → F3 q = F q := fun q h1 h2 h3 => by
              by_cases c : q = 246 + b
              · rw [c]; exact hb3
              · rw [← hF3, wr_row c, hf2.1 q h1 h2 h3, hq1 q c]
            have hk3 : ∀ k, k ≠ 60 → F3 125 k = F 125 k := fun k hk => by rw [← hF3, wr_o (by omega), hf2.2 k hk, hq1 125 (by omega)]
            have hX3 : RXF P F F3 := ⟨fun q h => hq3 q (by omega) (by omega) (by omega), fun k h => hk3 k (by omega)⟩
            have hO_F3 := hO_F.nx (hO_F.1.fr hWf hX3 (hO_F.1.2.2.1.fr (hk3 30 (by decide)) (hq3 578 (by omega) (by omega) (by omega)) (hq3 579 (by omega) (by omega) (by omega)))) hX3 (hk3 0 (by decide)) (hq3 127 (by omega) (by omega) (by omega))
            have hs_F3 : RSh F3 (gDay P L d) 24 := fun h c hh hc => by rw [hq3 (683 + h) (by omega) (by omega) (by omega), hq3 (708 + h) (by omega) (by omega) (by omega)]; exact hs_F h c hh hc
            refine at_iload_n 100 X rfl rfl dX12_lighter_99 rfl ?_
            refine at_iconst 101 X (by decide) dX12_lighter_100 rfl ?_
            refine at_icmp_eq 104 113 X dX12_lighter_101 rfl (by decide) (fun h101 => ?_) (fun h101 => ?_)
            · refine at_iload 115 X rfl dX12_lighter_113 rfl ?_
              refine at_istore_n 116 X rfl dX12_lighter_115 rfl (by decide) ?_
              refine at_iload 118 X rfl dX12_lighter_116 rfl ?_
              refine at_istore_n 119 X rfl dX12_lighter_118 rfl (by decide) ?_
              refine at_iincV 122 X ((p + 1 : Nat) : Int) (w32_v (by omega) (by omega) (by omega)) rfl dX12_lighter_119 rfl (by decide) ?_
              refine at_goto 40 X dX12_lighter_122 (by decide) ?_
              exact at_sub _ (by exact ⟨rfl, rfl, rfl, rfl, rfl, trivial⟩) (ih40 F3 (p + 1) ((p : Nat) : Int) ((dN (dyP (gDay P L d) (setD (sB P) b p 0) T 24) : Nat) : Int) (by first | omega | (simp only [] at *; omega)) (by first | omega | assumption) (by rw [lgP_s]; split <;> first | assumption | rfl | omega | (rename_i hx; exfalso; omega)) (by rw [lgP_s]; split <;> first | assumption | (rename_i hx; exfalso; omega) | (right; exact ⟨by omega, rfl, by omega, by omega⟩) | omega) hO_F3 hs_F3)
            · refine at_iload 106 X rfl dX12_lighter_104 rfl ?_
              refine at_iload_n 107 X rfl rfl dX12_lighter_106 rfl ?_
              refine at_icmp_lt 110 113 X dX12_lighter_107 rfl (by decide) (fun h107 => ?_) (fun h107 => ?_)
              · refine at_iload 115 X rfl dX12_lighter_113 rfl ?_
                refine at_istore_n 116 X rfl dX12_lighter_115 rfl (by decide) ?_
                refine at_iload 118 X rfl dX12_lighter_116 rfl ?_
                refine at_istore_n 119 X rfl dX12_lighter_118 rfl (by decide) ?_
                refine at_iincV 122 X ((p + 1 : Nat) : Int) (w32_v (by omega) (by omega) (by omega)) rfl dX12_lighter_119 rfl (by decide) ?_
                refine at_goto 40 X dX12_lighter_122 (by decide) ?_
                exact at_sub _ (by exact ⟨rfl, rfl, rfl, rfl, rfl, trivial⟩) (ih40 F3 (p + 1) ((p : Nat) : Int) ((dN (dyP (gDay P L d) (setD (sB P) b p 0) T 24) : Nat) : Int) (by first | omega | (simp only [] at *; omega)) (by first | omega | assumption) (by rw [lgP_s]; split <;> first | assumption | rfl | omega | (rename_i hx; exfalso; omega)) (by rw [lgP_s]; split <;> first | assumption | (rename_i hx; exfalso; omega) | (right; exact ⟨by omega, rfl, by omega, by omega⟩) | omega) hO_F3 hs_F3)
              · refine at_goto 119 X dX12_lighter_110 (by decide) ?_
                refine at_iincV 122 X ((p + 1 : Nat) : Int) (w32_v (by omega) (by omega) (by omega)) rfl dX12_lighter_119 rfl (by decide) ?_
                refine at_goto 40 X dX12_lighter_122 (by decide) ?_
                exact at_sub _ (by exact ⟨rfl, rfl, rfl, rfl, rfl, trivial⟩) (ih40 F3 (p + 1) v m (by first | omega | (simp only [] at *; omega)) (by first | omega | assumption) (by rw [lgP_s]; split <;> first | assumption | rfl | omega | (rename_i hx; exfalso; omega)) (by rw [lgP_s]; split <;> first | assumption | (rename_i hx; exfalso; omega) | (right; exact ⟨by omega, rfl, by omega, by omega⟩) | omega) hO_F3 hs_F3)
          · refine at_goto 119 X dX12_lighter_69 (by decide) ?_
            refine at_iincV 122 X ((p + 1 : Nat) : Int) (w32_v (by omega) (by omega) (by omega)) rfl dX12_lighter_119 rfl (by decide) ?_
            refine at_goto 40 X dX12_lighter_122 (by decide) ?_
            exact at_sub _ (by exact ⟨rfl, rfl, rfl, rfl, rfl, trivial⟩) (ih40 F (p + 1) v m (by first | omega | (simp only [] at *; omega)) (by first | omega | assumption) (by rw [lgP_s]; split <;> first | assumption | rfl | omega | (rename_i hx; exfalso; omega)) (by rw [lgP_s]; split <;> first | assumption | (rename_i hx; exfalso; omega) | (right; exact ⟨by omega, rfl, by omega, by omega⟩) | omega) hO_F hs_F)
      exact at_sub _ (by exact ⟨rfl, rfl, rfl, rfl, rfl, trivial⟩) (J40 _ F1 0 (-1) 0 (Nat.lt_succ_self _) (by first | omega | assumption | rfl) rfl (Or.inl ⟨rfl, rfl⟩) hO_F1 hs_F1)
    · exact absurd h24 (by decide)
  · have h11 : ¬ (0 ≤ x0 ∧ x0 ≤ (bN (sB P) : Int) - 1) := ite_no.mp h11
    refine at_iconst 15 X (by decide) dX12_lighter_14 rfl ?_
    refine at_goto 19 X dX12_lighter_15 (by decide) ?_
    refine at_iconst 20 X (by decide) dX12_lighter_19 rfl ?_
    refine at_iconst 21 X (by decide) dX12_lighter_20 rfl ?_
    refine at_callV 24 X _ 12 (ct_bad1 hG E0 1 1 (by decide) hO_E0.2.2.1 (by decide)) clX12 rfl k_125 mo_X12_bad w_1960 vo_X12_bad.1 vo_X12_bad.2 rfl rfl (crm Rt (by decide)) (Nat.le_of_ble_eq_true rfl) dX12_lighter_21 rfl ?_
    rintro _ _ ⟨rfl, rfl⟩
    have hb : ¬ (0 ≤ x0 ∧ x0 ≤ (bN (sB P) : Int) - 1) := by omega
    refine at_if_eq 27 29 X dX12_lighter_24 rfl (by decide) (fun h24 => ?_) (fun h24 => ?_)
    · exact absurd h24 (by decide)
    · refine at_iconst 28 X (by decide) dX12_lighter_27 rfl ?_
      refine at_iret X Rt ?_ (Nat.le_refl _) (Nat.le_refl _) dX12_lighter_28
      exact Or.inr (⟨hb, rfl, congrArg ov (badR_of hE0)⟩)
