/-- the reference while it asks whether a beam stands under clouds -/
def OD (E0 F : Mm) (P : SP) (Q : RX) (L : LW) (d st : Nat) : Prop := RPg F (gDay P L d) ∧ RLg F (gDay P L d) (sLn P) (xLx Q) (xLr Q) ∧ RRw F (gDay P L d) 24 ∧ RKn F L st ∧ (∀ q, ¬ (576 ≤ q ∧ q ≤ 579) → ¬ (658 ≤ q ∧ q ≤ 731) → q ≠ 125 → F q = E0 q) ∧ ∀ k, ¬ (52 ≤ k ∧ k ≤ 54) → F 125 k = E0 125 k
theorem OD.fin {E E0 F : Mm} {Q : RX} {P : SP} {L : LW} {T K : LN} {d st : Nat} (hWf : WF P L T K d st) (hO : RXO E E0 Q P L T K d st) (h : OD E0 F P Q L d st) : RXO E F Q P L T K d st := by
  obtain ⟨-, -, -, h4, h5, h6⟩ := h
  have hX : RXF P E0 F := ⟨fun q hq => h5 q (by omega) (by omega) (by omega), fun k hk => h6 k (by omega)⟩
  exact hO.nx (hO.1.fr hWf hX h4) hX (h6 0 (by omega)) (h5 127 (by omega) (by omega) (by omega))
theorem OD.cl {E0 F F1 : Mm} {Q : RX} {P : SP} {L : LW} {d st : Nat} {C : Int} (hP : WS P) (h : OD E0 F P Q L d st) (e : wr F 125 54 C = F1) : OD E0 F1 P Q L d st := by
  obtain ⟨h1, h2, h3, h4, h5, h6⟩ := h
  have hq : ∀ q, q ≠ 125 → F1 q = F q := fun q hq => by rw [← e]; exact wr_row hq
  have hk : ∀ k, k ≠ 54 → F1 125 k = F 125 k := fun k hk => by rw [← e]; exact wr_o (Or.inr hk)
  have hN := hP.N
  have hL := hP.Ln
  refine ⟨⟨(hk 52 (by decide)).trans h1.1, fun p hp => ?_⟩, ⟨(hk 53 (by decide)).trans h2.1, h2.2.1, fun k hk => ?_, h2.2.2.2⟩, fun t c ht hc => ?_, ?_, fun q a b c => (hq q c).trans (h5 q a b c), fun k a => (hk k (by omega)).trans (h6 k a)⟩
  · have hp' : p < sN P := hp
    rw [hq (142 + p) (by omega)]; exact h1.2 p hp
  · rw [hq (209 + k) (by omega)]; exact h2.2.2.1 k hk
  · rw [hq (658 + t) (by omega)]; exact h3 t c ht hc
  · exact h4.fr (hk 30 (by decide)) (hq 578 (by decide)) (hq 579 (by decide))
theorem dX12_standsBy_0 : decode cX12_standsBy 0 = .ok (.aload_n 0, 1) := by decide +kernel
theorem dX12_standsBy_1 : decode cX12_standsBy 1 = .ok (.iload_n 3, 1) := by decide +kernel
theorem dX12_standsBy_2 : decode cX12_standsBy 2 = .ok (.putfield 339, 3) := by decide +kernel
theorem dX12_standsBy_5 : decode cX12_standsBy 5 = .ok (.aload_n 0, 1) := by decide +kernel
theorem dX12_standsBy_6 : decode cX12_standsBy 6 = .ok (.invokevirtual 369, 3) := by decide +kernel
theorem dX12_standsBy_9 : decode cX12_standsBy 9 = .ok (.aload_n 0, 1) := by decide +kernel
theorem dX12_standsBy_10 : decode cX12_standsBy 10 = .ok (.iload_n 1, 1) := by decide +kernel
theorem dX12_standsBy_11 : decode cX12_standsBy 11 = .ok (.aload_n 0, 1) := by decide +kernel
theorem dX12_standsBy_12 : decode cX12_standsBy 12 = .ok (.getfield 61, 3) := by decide +kernel
theorem dX12_standsBy_15 : decode cX12_standsBy 15 = .ok (.iload_n 1, 1) := by decide +kernel
theorem dX12_standsBy_16 : decode cX12_standsBy 16 = .ok (.aaload, 1) := by decide +kernel
theorem dX12_standsBy_17 : decode cX12_standsBy 17 = .ok (.iconst 0, 1) := by decide +kernel
theorem dX12_standsBy_18 : decode cX12_standsBy 18 = .ok (.iaload, 1) := by decide +kernel
theorem dX12_standsBy_19 : decode cX12_standsBy 19 = .ok (.iload_n 2, 1) := by decide +kernel
theorem dX12_standsBy_20 : decode cX12_standsBy 20 = .ok (.invokevirtual 413, 3) := by decide +kernel
theorem dX12_standsBy_23 : decode cX12_standsBy 23 = .ok (.ireturn, 1) := by decide +kernel
theorem ct_X12_standsBy {g : Gw} (hG : GF g) {z : Bool} (E : Mm) (E0 : Mm) (Q : RX) (P : SP) (L : LW) (T K : LN) (d st : Nat) (hWf : WF P L T K d st) (hI : RXI E0 Q P L T K d st) (hOD : OD E0 E P Q L d st) (b h : Nat) (hb : b < bN (sB P)) (hh : h < 24) (C : Nat → Bool) : CT g yX12_standsBy cX12_standsBy 4 (some .boolean) 5 115 0 0 K2 z [mR 125, mI ((b : Nat) : Int), mI ((h : Nat) : Int), mI ((mk C 24 : Nat) : Int)] (ov E) K2 z (fun r D' => r = some (mI (if stP (setC (gDay P L d) C) (sB P) b (bX (sB P) b) h = true then 1 else 0)) ∧ ∃ E1, D' = ov E1 ∧ OD E0 E1 P Q L d st) := by
  refine CT.mk hG (by decide +kernel) (Nat.le_of_ble_eq_true rfl) (fun κ X Rt _ ok => ?_)
  have hP := hWf.1
  have hN8 := hP.B.N
  have hW40 := hP.W
  have hN10 := hP.N
  have hL6 := hP.Ln
  have hst : st < 2147483648 := by have := hWf.2.2.2.2.2.2; omega
  refine at_aload_n 1 X rfl rfl dX12_standsBy_0 rfl ?_
  refine at_iload_n 2 X rfl rfl dX12_standsBy_1 rfl ?_
  refine m_putI 5 X f_X12_339 fw_12_54 k_125 rn_125_54 dX12_standsBy_2 rfl ?_
  refine at_aload_n 6 X rfl rfl dX12_standsBy_5 rfl ?_
  generalize hF1 : wr E 125 54 ((mk C 24 : Nat) : Int) = F1
  have hod := hOD.cl hP hF1
  have hc1 : F1 125 54 = (mk C 24 : Nat) := by rw [← hF1]; exact wr_s _ _ _ _
  obtain ⟨h1, h2, h3, h4, h5, h6⟩ := hod
  have hR1 : RTS F1 P Q := hI.1.fr (fun q hq => h5 q (by omega) (by omega) (by omega)) hP
  have hwA := setC_WG C (gOf_WG hP hWf.2.2.1 (moonP_in P d).2)
  refine at_callV 9 X _ 12 (ct_X12_laysShades hG F1 P Q hP hR1 (setC (gDay P L d) C) hwA.R rfl h1 _ _ _ h2 hc1 h3 (hI.2.1.fr hWf.2.2.1.2.1 (h6 28 (by omega)) (fun q a b => h5 q (by omega) (by omega) (by omega))) st hst h4) clX12 rfl k_125 mo_X12_laysShades w_2174 vo_X12_laysShades.1 vo_X12_laysShades.2 rfl rfl (crm Rt (by decide)) (Nat.le_of_ble_eq_true rfl) dX12_standsBy_6 rfl ?_
  rintro _ _ ⟨rfl, F2, rfl, hs_F2, hK_F2, hq_F2⟩
  have hR_F2 : RTS F2 P Q := hR1.fr (fun q hq => hq_F2 q (by omega) (by omega) (by omega)) hP
  have hlb := hP.B.L (b := b) hb
  have hxb := hP.B.X (b := b) hb
  refine at_aload_n 10 X rfl rfl dX12_standsBy_9 rfl ?_
  refine at_iload_n 11 X rfl rfl dX12_standsBy_10 rfl ?_
  refine at_aload_n 12 X rfl rfl dX12_standsBy_11 rfl ?_
  refine m_getR 15 X f_X12_61 k_125 r_125_24 dX12_standsBy_12 rfl ?_
  refine at_iload_n 16 X rfl rfl dX12_standsBy_15 rfl ?_
  refine m_aaloadV 17 X b (by omega) k_227 (by decide) (by omega) (rr_227 _ (by omega)) dX12_standsBy_16 rfl ?_
  refine at_iconst 18 X (by decide) dX12_standsBy_17 rfl ?_
  refine m_ialoadV 19 X 0 (by omega) ((bX (sB P) b : Nat) : Int) (hR_F2.2.2.2.2.2.2 b (by omega)).1 (kr_227 _ (by omega)) (er_227 _ (by omega)) (by omega) dX12_standsBy_18 rfl ?_
  have := hP.B.X (b := b) (by omega)
  refine at_iload_n 20 X rfl rfl dX12_standsBy_19 rfl ?_
  refine at_callV 23 X _ 12 (ct_X12_standsAt hG F2 P Q hP hR_F2 (setC (gDay P L d) C) rfl b (bX (sB P) b) h (by omega) (fun c hc => (hs_F2 h c (by omega) hc).2) (by omega) (by omega)) clX12 rfl k_125 mo_X12_standsAt w_2273 vo_X12_standsAt.1 vo_X12_standsAt.2 rfl rfl (crm Rt (by decide)) (Nat.le_of_ble_eq_true rfl) dX12_standsBy_20 rfl ?_
  rintro _ _ ⟨rfl, rfl⟩
  refine at_zret X Rt ?_ (by first | decide | (split <;> decide)) (Nat.le_refl _) (Nat.le_refl _) dX12_standsBy_23
  exact ⟨rfl, F2, rfl, ⟨by rw [hq_F2 125 (by omega) (by omega) (by omega)]; exact h1.1, fun p hp => by have hp' : p < sN P := hp; rw [hq_F2 (142 + p) (by omega) (by omega) (by omega)]; exact h1.2 p hp⟩, ⟨by rw [hq_F2 125 (by omega) (by omega) (by omega)]; exact h2.1, h2.2.1, fun k hk => by rw [hq_F2 (209 + k) (by omega) (by omega) (by omega)]; exact h2.2.2.1 k hk, h2.2.2.2⟩, fun t c ht hc => by rw [hq_F2 (658 + t) (by omega) (by omega) (by omega)]; exact h3 t c ht hc, hK_F2, fun q a b c => (hq_F2 q (by omega) (by omega) (by omega)).trans (h5 q a b c), fun k hk => by rw [hq_F2 125 (by omega) (by omega) (by omega)]; exact h6 k hk⟩
theorem dX12_odds_0 : decode cX12_odds 0 = .ok (.aload_n 0, 1) := by decide +kernel
theorem dX12_odds_1 : decode cX12_odds 1 = .ok (.iconst 0, 1) := by decide +kernel
theorem dX12_odds_2 : decode cX12_odds 2 = .ok (.putfield 152, 3) := by decide +kernel
theorem dX12_odds_5 : decode cX12_odds 5 = .ok (.aload_n 0, 1) := by decide +kernel
theorem dX12_odds_6 : decode cX12_odds 6 = .ok (.aload_n 0, 1) := by decide +kernel
theorem dX12_odds_7 : decode cX12_odds 7 = .ok (.iload_n 1, 1) := by decide +kernel
theorem dX12_odds_8 : decode cX12_odds 8 = .ok (.invokevirtual 324, 3) := by decide +kernel
theorem dX12_odds_11 : decode cX12_odds 11 = .ok (.ifCond .ne 7, 3) := by decide +kernel
theorem dX12_odds_14 : decode cX12_odds 14 = .ok (.iconst 1, 1) := by decide +kernel
theorem dX12_odds_15 : decode cX12_odds 15 = .ok (.goto 4, 3) := by decide +kernel
theorem dX12_odds_18 : decode cX12_odds 18 = .ok (.iconst 0, 1) := by decide +kernel
theorem dX12_odds_19 : decode cX12_odds 19 = .ok (.iconst 1, 1) := by decide +kernel
theorem dX12_odds_20 : decode cX12_odds 20 = .ok (.iconst 1, 1) := by decide +kernel
theorem dX12_odds_21 : decode cX12_odds 21 = .ok (.invokevirtual 244, 3) := by decide +kernel
theorem dX12_odds_24 : decode cX12_odds 24 = .ok (.ifCond .ne 65, 3) := by decide +kernel
theorem dX12_odds_27 : decode cX12_odds 27 = .ok (.aload_n 0, 1) := by decide +kernel
theorem dX12_odds_28 : decode cX12_odds 28 = .ok (.iload_n 2, 1) := by decide +kernel
theorem dX12_odds_29 : decode cX12_odds 29 = .ok (.invokestatic 314, 3) := by decide +kernel
theorem dX12_odds_32 : decode cX12_odds 32 = .ok (.ifCond .eq 44, 3) := by decide +kernel
theorem dX12_odds_35 : decode cX12_odds 35 = .ok (.iload_n 3, 1) := by decide +kernel
theorem dX12_odds_36 : decode cX12_odds 36 = .ok (.invokestatic 314, 3) := by decide +kernel
theorem dX12_odds_39 : decode cX12_odds 39 = .ok (.ifCond .eq 37, 3) := by decide +kernel
theorem dX12_odds_42 : decode cX12_odds 42 = .ok (.iload_n 2, 1) := by decide +kernel
theorem dX12_odds_43 : decode cX12_odds 43 = .ok (.iload_n 3, 1) := by decide +kernel
theorem dX12_odds_44 : decode cX12_odds 44 = .ok (.if_icmp .gt 32, 3) := by decide +kernel
theorem dX12_odds_47 : decode cX12_odds 47 = .ok (.iload_n 3, 1) := by decide +kernel
theorem dX12_odds_48 : decode cX12_odds 48 = .ok (.iload_n 2, 1) := by decide +kernel
theorem dX12_odds_49 : decode cX12_odds 49 = .ok (.isub, 1) := by decide +kernel
theorem dX12_odds_50 : decode cX12_odds 50 = .ok (.bipush 11, 2) := by decide +kernel
theorem dX12_odds_52 : decode cX12_odds 52 = .ok (.if_icmp .gt 24, 3) := by decide +kernel
theorem dX12_odds_55 : decode cX12_odds 55 = .ok (.iload 4, 2) := by decide +kernel
theorem dX12_odds_57 : decode cX12_odds 57 = .ok (.iconst 0, 1) := by decide +kernel
theorem dX12_odds_58 : decode cX12_odds 58 = .ok (.bipush 16, 2) := by decide +kernel
theorem dX12_odds_60 : decode cX12_odds 60 = .ok (.invokestatic 186, 3) := by decide +kernel
theorem dX12_odds_63 : decode cX12_odds 63 = .ok (.ifCond .eq 13, 3) := by decide +kernel
theorem dX12_odds_66 : decode cX12_odds 66 = .ok (.iload 5, 2) := by decide +kernel
theorem dX12_odds_68 : decode cX12_odds 68 = .ok (.iconst 0, 1) := by decide +kernel
theorem dX12_odds_69 : decode cX12_odds 69 = .ok (.iconst 1, 1) := by decide +kernel
theorem dX12_odds_70 : decode cX12_odds 70 = .ok (.invokestatic 186, 3) := by decide +kernel
theorem dX12_odds_73 : decode cX12_odds 73 = .ok (.ifCond .ne 7, 3) := by decide +kernel
theorem dX12_odds_76 : decode cX12_odds 76 = .ok (.iconst 1, 1) := by decide +kernel
theorem dX12_odds_77 : decode cX12_odds 77 = .ok (.goto 4, 3) := by decide +kernel
theorem dX12_odds_80 : decode cX12_odds 80 = .ok (.iconst 0, 1) := by decide +kernel
theorem dX12_odds_81 : decode cX12_odds 81 = .ok (.iconst 2, 1) := by decide +kernel
theorem dX12_odds_82 : decode cX12_odds 82 = .ok (.iconst 2, 1) := by decide +kernel
theorem dX12_odds_83 : decode cX12_odds 83 = .ok (.invokevirtual 244, 3) := by decide +kernel
theorem dX12_odds_86 : decode cX12_odds 86 = .ok (.ifCond .eq 5, 3) := by decide +kernel
theorem dX12_odds_89 : decode cX12_odds 89 = .ok (.lconst 0, 1) := by decide +kernel
theorem dX12_odds_90 : decode cX12_odds 90 = .ok (.lreturn, 1) := by decide +kernel
theorem dX12_odds_91 : decode cX12_odds 91 = .ok (.aload_n 0, 1) := by decide +kernel
theorem dX12_odds_92 : decode cX12_odds 92 = .ok (.invokevirtual 372, 3) := by decide +kernel
theorem dX12_odds_95 : decode cX12_odds 95 = .ok (.aload_n 0, 1) := by decide +kernel
theorem dX12_odds_96 : decode cX12_odds 96 = .ok (.aload_n 0, 1) := by decide +kernel
theorem dX12_odds_97 : decode cX12_odds 97 = .ok (.getfield 267, 3) := by decide +kernel
theorem dX12_odds_100 : decode cX12_odds 100 = .ok (.invokevirtual 366, 3) := by decide +kernel
theorem dX12_odds_103 : decode cX12_odds 103 = .ok (.lconst 1, 1) := by decide +kernel
theorem dX12_odds_104 : decode cX12_odds 104 = .ok (.lstore 6, 2) := by decide +kernel
theorem dX12_odds_106 : decode cX12_odds 106 = .ok (.lconst 1, 1) := by decide +kernel
theorem dX12_odds_107 : decode cX12_odds 107 = .ok (.lstore 8, 2) := by decide +kernel
theorem dX12_odds_109 : decode cX12_odds 109 = .ok (.iload_n 2, 1) := by decide +kernel
theorem dX12_odds_110 : decode cX12_odds 110 = .ok (.istore 10, 2) := by decide +kernel
theorem dX12_odds_112 : decode cX12_odds 112 = .ok (.iload 10, 2) := by decide +kernel
theorem dX12_odds_114 : decode cX12_odds 114 = .ok (.iload_n 3, 1) := by decide +kernel
theorem dX12_odds_115 : decode cX12_odds 115 = .ok (.if_icmp .gt 60, 3) := by decide +kernel
theorem dX12_odds_118 : decode cX12_odds 118 = .ok (.aload_n 0, 1) := by decide +kernel
theorem dX12_odds_119 : decode cX12_odds 119 = .ok (.iload_n 1, 1) := by decide +kernel
theorem dX12_odds_120 : decode cX12_odds 120 = .ok (.iload 10, 2) := by decide +kernel
theorem dX12_odds_122 : decode cX12_odds 122 = .ok (.iconst 0, 1) := by decide +kernel
theorem dX12_odds_123 : decode cX12_odds 123 = .ok (.invokevirtual 448, 3) := by decide +kernel
theorem dX12_odds_126 : decode cX12_odds 126 = .ok (.ifCond .ne 7, 3) := by decide +kernel
theorem dX12_odds_129 : decode cX12_odds 129 = .ok (.iload 5, 2) := by decide +kernel
theorem dX12_odds_131 : decode cX12_odds 131 = .ok (.i2l, 1) := by decide +kernel
theorem dX12_odds_132 : decode cX12_odds 132 = .ok (.lreturn, 1) := by decide +kernel
theorem dX12_odds_133 : decode cX12_odds 133 = .ok (.aload_n 0, 1) := by decide +kernel
theorem dX12_odds_134 : decode cX12_odds 134 = .ok (.iload_n 1, 1) := by decide +kernel
theorem dX12_odds_135 : decode cX12_odds 135 = .ok (.iload 10, 2) := by decide +kernel
theorem dX12_odds_137 : decode cX12_odds 137 = .ok (.iconst 1, 1) := by decide +kernel
theorem dX12_odds_138 : decode cX12_odds 138 = .ok (.iload 10, 2) := by decide +kernel
theorem dX12_odds_140 : decode cX12_odds 140 = .ok (.ishl, 1) := by decide +kernel
theorem dX12_odds_141 : decode cX12_odds 141 = .ok (.invokevirtual 448, 3) := by decide +kernel
theorem dX12_odds_144 : decode cX12_odds 144 = .ok (.ifCond .eq 6, 3) := by decide +kernel
theorem dX12_odds_147 : decode cX12_odds 147 = .ok (.goto 22, 3) := by decide +kernel
theorem dX12_odds_150 : decode cX12_odds 150 = .ok (.lload 6, 2) := by decide +kernel
theorem dX12_odds_152 : decode cX12_odds 152 = .ok (.bipush 16, 2) := by decide +kernel
theorem dX12_odds_154 : decode cX12_odds 154 = .ok (.iload 4, 2) := by decide +kernel
theorem dX12_odds_156 : decode cX12_odds 156 = .ok (.isub, 1) := by decide +kernel
theorem dX12_odds_157 : decode cX12_odds 157 = .ok (.i2l, 1) := by decide +kernel
theorem dX12_odds_158 : decode cX12_odds 158 = .ok (.lmul, 1) := by decide +kernel
theorem dX12_odds_159 : decode cX12_odds 159 = .ok (.lstore 6, 2) := by decide +kernel
theorem dX12_odds_161 : decode cX12_odds 161 = .ok (.lload 8, 2) := by decide +kernel
theorem dX12_odds_163 : decode cX12_odds 163 = .ok (.ldc2_w 451, 3) := by decide +kernel
theorem dX12_odds_166 : decode cX12_odds 166 = .ok (.lmul, 1) := by decide +kernel
theorem dX12_odds_167 : decode cX12_odds 167 = .ok (.lstore 8, 2) := by decide +kernel
theorem dX12_odds_169 : decode cX12_odds 169 = .ok (.iinc 10 1, 3) := by decide +kernel
theorem dX12_odds_172 : decode cX12_odds 172 = .ok (.goto (-60), 3) := by decide +kernel
theorem dX12_odds_175 : decode cX12_odds 175 = .ok (.lload 6, 2) := by decide +kernel
theorem dX12_odds_177 : decode cX12_odds 177 = .ok (.lload 8, 2) := by decide +kernel
theorem dX12_odds_179 : decode cX12_odds 179 = .ok (.iload 5, 2) := by decide +kernel
theorem dX12_odds_181 : decode cX12_odds 181 = .ok (.invokestatic 403, 3) := by decide +kernel
theorem dX12_odds_184 : decode cX12_odds 184 = .ok (.lreturn, 1) := by decide +kernel
theorem ct_X12_odds {g : Gw} (hG : GF g) {z : Bool} (E : Mm) (Q : RX) (P : SP) (L : LW) (T K : LN) (d st : Nat) (hWf : WF P L T K d st) (hI_E : RXI E Q P L T K d st) (x0 x1 x2 x3 x4 : Int) : CT g yX12_odds cX12_odds 11 (some .long) 6 138 0 0 K2 z [mR 125, mI x0, mI x1, mI x2, mI x3, mI x4] (ov E) K2 z (fun r' D' => ((0 ≤ x0 ∧ x0 ≤ (bN (sB P) : Int) - 1) ∧ ((0 ≤ x1 ∧ x1 ≤ 23) ∧ (0 ≤ x2 ∧ x2 ≤ 23) ∧ x1 ≤ x2 ∧ x2 - x1 ≤ 11 ∧ (0 ≤ x3 ∧ x3 ≤ 16) ∧ (0 ≤ x4 ∧ x4 ≤ 1)) ∧ r' = some (mL (odA (gDay P L d) (sB P) x0.toNat x1.toNat x2.toNat x3.toNat x4)) ∧ ∃ E1, D' = ov E1 ∧ RXO E E1 Q P L T K d st) ∨ (¬ (0 ≤ x0 ∧ x0 ≤ (bN (sB P) : Int) - 1) ∧ r' = some (mL 0) ∧ D' = ov (badR E 1 1)) ∨ ((0 ≤ x0 ∧ x0 ≤ (bN (sB P) : Int) - 1) ∧ ¬ ((0 ≤ x1 ∧ x1 ≤ 23) ∧ (0 ≤ x2 ∧ x2 ≤ 23) ∧ x1 ≤ x2 ∧ x2 - x1 ≤ 11 ∧ (0 ≤ x3 ∧ x3 ≤ 16) ∧ (0 ≤ x4 ∧ x4 ≤ 1)) ∧ r' = some (mL 0) ∧ D' = ov (badR E 2 2))) := by
  refine CT.mk hG (by decide +kernel) (Nat.le_of_ble_eq_true rfl) (fun κ X Rt _ ok => ?_)
  have hP := hWf.1
  have hN8 := hP.B.N
  have hW40 := hP.W
  have hN11 := hP.N
  have hwN : gN (gDay P L d) ≤ 11 := Nat.le_trans hP.N (by decide)
  have hgw : gW (gDay P L d) = sW P := rfl
  have hDI24 := dyP_DI (G := (gDay P L d)) hP.B hWf.2.2.2.1 (Nat.le_refl 24)
  refine at_aload_n 1 X rfl rfl dX12_odds_0 rfl ?_
  refine at_iconst 2 X (by decide) dX12_odds_1 rfl ?_
  refine m_putI 5 X f_X12_152 fw_12_0 k_125 rn_125_0 dX12_odds_2 rfl ?_
  have hO_E0 := RXO.z hWf hI_E
  generalize hE0 : wr E 125 0 0 = E0 at hO_E0 ⊢
  have hR_E0 := hO_E0.1.1
  refine at_aload_n 6 X rfl rfl dX12_odds_5 rfl ?_
  refine at_aload_n 7 X rfl rfl dX12_odds_6 rfl ?_
  refine at_iload_n 8 X rfl rfl dX12_odds_7 rfl ?_
  refine at_callV 11 X _ 12 (ct_X12_isBeam hG E0 P Q hP hR_E0 x0) clX12 rfl k_125 mo_X12_isBeam w_2122 vo_X12_isBeam.1 vo_X12_isBeam.2 rfl rfl (crm Rt (by decide)) (Nat.le_of_ble_eq_true rfl) dX12_odds_8 rfl ?_
  rintro _ _ ⟨rfl, rfl⟩
  refine at_if_ne 14 18 X dX12_odds_11 rfl (by decide) (fun h11 => ?_) (fun h11 => ?_)
  · have h11 : (0 ≤ x0 ∧ x0 ≤ (bN (sB P) : Int) - 1) := ite_yes.mp h11
    refine at_iconst 19 X (by decide) dX12_odds_18 rfl ?_
    refine at_iconst 20 X (by decide) dX12_odds_19 rfl ?_
    refine at_iconst 21 X (by decide) dX12_odds_20 rfl ?_
    refine at_callV 24 X _ 12 (ct_bad0 hG E0 1 1 (by decide) hO_E0.2.2.1) clX12 rfl k_125 mo_X12_bad w_1960 vo_X12_bad.1 vo_X12_bad.2 rfl rfl (crm Rt (by decide)) (Nat.le_of_ble_eq_true rfl) dX12_odds_21 rfl ?_
    rintro _ _ ⟨rfl, rfl⟩
    have hc0 : 0 ≤ x0 ∧ x0 ≤ (bN (sB P) : Int) - 1 := by omega
    refine at_if_ne 27 89 X dX12_odds_24 rfl (by decide) (fun h24 => ?_) (fun h24 => ?_)
    · exact absurd h24 (by decide)
    · refine at_aload_n 28 X rfl rfl dX12_odds_27 rfl ?_
      refine at_iload_n 29 X rfl rfl dX12_odds_28 rfl ?_
      refine at_callS 32 X (ct_X12_isHour hG E0 x1) mo_X12_isHour w_2074 so_X12_isHour rfl rfl (crm Rt (by decide)) (Nat.le_of_ble_eq_true rfl) dX12_odds_29 rfl ?_
      rintro _ _ ⟨rfl, rfl⟩
      refine at_if_eq 35 76 X dX12_odds_32 rfl (by decide) (fun h32 => ?_) (fun h32 => ?_)
      · have h32 : ¬ (0 ≤ x1 ∧ x1 ≤ 23) := ite_no.mp h32
        refine at_iconst 77 X (by decide) dX12_odds_76 rfl ?_
        refine at_goto 81 X dX12_odds_77 (by decide) ?_
        refine at_iconst 82 X (by decide) dX12_odds_81 rfl ?_
        refine at_iconst 83 X (by decide) dX12_odds_82 rfl ?_
        refine at_callV 86 X _ 12 (ct_bad1 hG E0 2 2 (by decide) hO_E0.2.2.1 (by decide)) clX12 rfl k_125 mo_X12_bad w_1960 vo_X12_bad.1 vo_X12_bad.2 rfl rfl (crm Rt (by decide)) (Nat.le_of_ble_eq_true rfl) dX12_odds_83 rfl ?_
        rintro _ _ ⟨rfl, rfl⟩
        have hb : ¬ ((0 ≤ x1 ∧ x1 ≤ 23) ∧ (0 ≤ x2 ∧ x2 ≤ 23) ∧ x1 ≤ x2 ∧ x2 - x1 ≤ 11 ∧ (0 ≤ x3 ∧ x3 ≤ 16) ∧ (0 ≤ x4 ∧ x4 ≤ 1)) := by omega
        refine at_if_eq 89 91 X dX12_odds_86 rfl (by decide) (fun h86 => ?_) (fun h86 => ?_)
        · exact absurd h86 (by decide)
        · refine at_lconst 90 X (v := 0) (by decide) (by decide) dX12_odds_89 rfl ?_
          refine at_lret X Rt ?_ (Nat.le_refl _) (Nat.le_refl _) dX12_odds_90
          exact Or.inr (Or.inr (⟨hc0, hb, rfl, congrArg ov (badR_of hE0)⟩))
      · have h32 : (0 ≤ x1 ∧ x1 ≤ 23) := ite_yes.mp h32
        refine at_iload_n 36 X rfl rfl dX12_odds_35 rfl ?_
        refine at_callS 39 X (ct_X12_isHour hG E0 x2) mo_X12_isHour w_2074 so_X12_isHour rfl rfl (crm Rt (by decide)) (Nat.le_of_ble_eq_true rfl) dX12_odds_36 rfl ?_
        rintro _ _ ⟨rfl, rfl⟩
        refine at_if_eq 42 76 X dX12_odds_39 rfl (by decide) (fun h39 => ?_) (fun h39 => ?_)
        · have h39 : ¬ (0 ≤ x2 ∧ x2 ≤ 23) := ite_no.mp h39
          refine at_iconst 77 X (by decide) dX12_odds_76 rfl ?_
          refine at_goto 81 X dX12_odds_77 (by decide) ?_
          refine at_iconst 82 X (by decide) dX12_odds_81 rfl ?_
          refine at_iconst 83 X (by decide) dX12_odds_82 rfl ?_
          refine at_callV 86 X _ 12 (ct_bad1 hG E0 2 2 (by decide) hO_E0.2.2.1 (by decide)) clX12 rfl k_125 mo_X12_bad w_1960 vo_X12_bad.1 vo_X12_bad.2 rfl rfl (crm Rt (by decide)) (Nat.le_of_ble_eq_true rfl) dX12_odds_83 rfl ?_
          rintro _ _ ⟨rfl, rfl⟩
          have hb : ¬ ((0 ≤ x1 ∧ x1 ≤ 23) ∧ (0 ≤ x2 ∧ x2 ≤ 23) ∧ x1 ≤ x2 ∧ x2 - x1 ≤ 11 ∧ (0 ≤ x3 ∧ x3 ≤ 16) ∧ (0 ≤ x4 ∧ x4 ≤ 1)) := by omega
          refine at_if_eq 89 91 X dX12_odds_86 rfl (by decide) (fun h86 => ?_) (fun h86 => ?_)
          · exact absurd h86 (by decide)
          · refine at_lconst 90 X (v := 0) (by decide) (by decide) dX12_odds_89 rfl ?_
            refine at_lret X Rt ?_ (Nat.le_refl _) (Nat.le_refl _) dX12_odds_90
            exact Or.inr (Or.inr (⟨hc0, hb, rfl, congrArg ov (badR_of hE0)⟩))
        · have h39 : (0 ≤ x2 ∧ x2 ≤ 23) := ite_yes.mp h39
          refine at_iload_n 43 X rfl rfl dX12_odds_42 rfl ?_
          refine at_iload_n 44 X rfl rfl dX12_odds_43 rfl ?_
          refine at_icmp_gt 47 76 X dX12_odds_44 rfl (by decide) (fun h44 => ?_) (fun h44 => ?_)
          · refine at_iconst 77 X (by decide) dX12_odds_76 rfl ?_
            refine at_goto 81 X dX12_odds_77 (by decide) ?_
            refine at_iconst 82 X (by decide) dX12_odds_81 rfl ?_
            refine at_iconst 83 X (by decide) dX12_odds_82 rfl ?_
            refine at_callV 86 X _ 12 (ct_bad1 hG E0 2 2 (by decide) hO_E0.2.2.1 (by decide)) clX12 rfl k_125 mo_X12_bad w_1960 vo_X12_bad.1 vo_X12_bad.2 rfl rfl (crm Rt (by decide)) (Nat.le_of_ble_eq_true rfl) dX12_odds_83 rfl ?_
            rintro _ _ ⟨rfl, rfl⟩
            have hb : ¬ ((0 ≤ x1 ∧ x1 ≤ 23) ∧ (0 ≤ x2 ∧ x2 ≤ 23) ∧ x1 ≤ x2 ∧ x2 - x1 ≤ 11 ∧ (0 ≤ x3 ∧ x3 ≤ 16) ∧ (0 ≤ x4 ∧ x4 ≤ 1)) := by omega
            refine at_if_eq 89 91 X dX12_odds_86 rfl (by decide) (fun h86 => ?_) (fun h86 => ?_)
            · exact absurd h86 (by decide)
            · refine at_lconst 90 X (v := 0) (by decide) (by decide) dX12_odds_89 rfl ?_
              refine at_lret X Rt ?_ (Nat.le_refl _) (Nat.le_refl _) dX12_odds_90
              exact Or.inr (Or.inr (⟨hc0, hb, rfl, congrArg ov (badR_of hE0)⟩))
          · refine at_iload_n 48 X rfl rfl dX12_odds_47 rfl ?_
            refine at_iload_n 49 X rfl rfl dX12_odds_48 rfl ?_
            refine at_isubV 50 X (x2 - x1) (w32_v rfl (by omega) (by omega)) dX12_odds_49 rfl ?_
            refine at_bipush 52 X (by decide) (by decide) dX12_odds_50 rfl ?_
            refine at_icmp_gt 55 76 X dX12_odds_52 rfl (by decide) (fun h52 => ?_) (fun h52 => ?_)
            · refine at_iconst 77 X (by decide) dX12_odds_76 rfl ?_
              refine at_goto 81 X dX12_odds_77 (by decide) ?_
              refine at_iconst 82 X (by decide) dX12_odds_81 rfl ?_
              refine at_iconst 83 X (by decide) dX12_odds_82 rfl ?_
              refine at_callV 86 X _ 12 (ct_bad1 hG E0 2 2 (by decide) hO_E0.2.2.1 (by decide)) clX12 rfl k_125 mo_X12_bad w_1960 vo_X12_bad.1 vo_X12_bad.2 rfl rfl (crm Rt (by decide)) (Nat.le_of_ble_eq_true rfl) dX12_odds_83 rfl ?_
              rintro _ _ ⟨rfl, rfl⟩
              have hb : ¬ ((0 ≤ x1 ∧ x1 ≤ 23) ∧ (0 ≤ x2 ∧ x2 ≤ 23) ∧ x1 ≤ x2 ∧ x2 - x1 ≤ 11 ∧ (0 ≤ x3 ∧ x3 ≤ 16) ∧ (0 ≤ x4 ∧ x4 ≤ 1)) := by omega
              refine at_if_eq 89 91 X dX12_odds_86 rfl (by decide) (fun h86 => ?_) (fun h86 => ?_)
              · exact absurd h86 (by decide)
              · refine at_lconst 90 X (v := 0) (by decide) (by decide) dX12_odds_89 rfl ?_
                refine at_lret X Rt ?_ (Nat.le_refl _) (Nat.le_refl _) dX12_odds_90
                exact Or.inr (Or.inr (⟨hc0, hb, rfl, congrArg ov (badR_of hE0)⟩))
            · refine at_iload 57 X rfl dX12_odds_55 rfl ?_
              refine at_iconst 58 X (by decide) dX12_odds_57 rfl ?_
              refine at_bipush 60 X (by decide) (by decide) dX12_odds_58 rfl ?_
              refine at_callS 63 X (ct_X12_in hG _ _ _) mo_X12_in w_1957 so_X12_in rfl rfl (crm Rt (by decide)) (Nat.le_of_ble_eq_true rfl) dX12_odds_60 rfl ?_
              rintro _ _ ⟨rfl, rfl⟩
              refine at_if_eq 66 76 X dX12_odds_63 rfl (by decide) (fun h63 => ?_) (fun h63 => ?_)
              · have h63 : ¬ (0 ≤ x3 ∧ x3 ≤ 16) := ite_no.mp h63
                refine at_iconst 77 X (by decide) dX12_odds_76 rfl ?_
                refine at_goto 81 X dX12_odds_77 (by decide) ?_
                refine at_iconst 82 X (by decide) dX12_odds_81 rfl ?_
                refine at_iconst 83 X (by decide) dX12_odds_82 rfl ?_
                refine at_callV 86 X _ 12 (ct_bad1 hG E0 2 2 (by decide) hO_E0.2.2.1 (by decide)) clX12 rfl k_125 mo_X12_bad w_1960 vo_X12_bad.1 vo_X12_bad.2 rfl rfl (crm Rt (by decide)) (Nat.le_of_ble_eq_true rfl) dX12_odds_83 rfl ?_
                rintro _ _ ⟨rfl, rfl⟩
                have hb : ¬ ((0 ≤ x1 ∧ x1 ≤ 23) ∧ (0 ≤ x2 ∧ x2 ≤ 23) ∧ x1 ≤ x2 ∧ x2 - x1 ≤ 11 ∧ (0 ≤ x3 ∧ x3 ≤ 16) ∧ (0 ≤ x4 ∧ x4 ≤ 1)) := by omega
                refine at_if_eq 89 91 X dX12_odds_86 rfl (by decide) (fun h86 => ?_) (fun h86 => ?_)
                · exact absurd h86 (by decide)
                · refine at_lconst 90 X (v := 0) (by decide) (by decide) dX12_odds_89 rfl ?_
                  refine at_lret X Rt ?_ (Nat.le_refl _) (Nat.le_refl _) dX12_odds_90
                  exact Or.inr (Or.inr (⟨hc0, hb, rfl, congrArg ov (badR_of hE0)⟩))
              · have h63 : (0 ≤ x3 ∧ x3 ≤ 16) := ite_yes.mp h63
                refine at_iload 68 X rfl dX12_odds_66 rfl ?_
                refine at_iconst 69 X (by decide) dX12_odds_68 rfl ?_
                refine at_iconst 70 X (by decide) dX12_odds_69 rfl ?_
                refine at_callS 73 X (ct_X12_in hG _ _ _) mo_X12_in w_1957 so_X12_in rfl rfl (crm Rt (by decide)) (Nat.le_of_ble_eq_true rfl) dX12_odds_70 rfl ?_
                rintro _ _ ⟨rfl, rfl⟩
                refine at_if_ne 76 80 X dX12_odds_73 rfl (by decide) (fun h73 => ?_) (fun h73 => ?_)
                · have h73 : (0 ≤ x4 ∧ x4 ≤ 1) := ite_yes.mp h73
                  refine at_iconst 81 X (by decide) dX12_odds_80 rfl ?_
                  refine at_iconst 82 X (by decide) dX12_odds_81 rfl ?_
                  refine at_iconst 83 X (by decide) dX12_odds_82 rfl ?_
                  refine at_callV 86 X _ 12 (ct_bad0 hG E0 2 2 (by decide) hO_E0.2.2.1) clX12 rfl k_125 mo_X12_bad w_1960 vo_X12_bad.1 vo_X12_bad.2 rfl rfl (crm Rt (by decide)) (Nat.le_of_ble_eq_true rfl) dX12_odds_83 rfl ?_
                  rintro _ _ ⟨rfl, rfl⟩
                  have hc1 : (0 ≤ x1 ∧ x1 ≤ 23) ∧ (0 ≤ x2 ∧ x2 ≤ 23) ∧ x1 ≤ x2 ∧ x2 - x1 ≤ 11 ∧ (0 ≤ x3 ∧ x3 ≤ 16) ∧ (0 ≤ x4 ∧ x4 ≤ 1) := by omega
                  refine at_if_eq 89 91 X dX12_odds_86 rfl (by decide) (fun h86 => ?_) (fun h86 => ?_)
                  · obtain ⟨b, rfl⟩ : ∃ b : Nat, x0 = (b : Int) := ⟨x0.toNat, by omega⟩
                    obtain ⟨f, rfl⟩ : ∃ f : Nat, x1 = (f : Int) := ⟨x1.toNat, by omega⟩
                    obtain ⟨t, rfl⟩ : ∃ t : Nat, x2 = (t : Int) := ⟨x2.toNat, by omega⟩
                    obtain ⟨q, rfl⟩ : ∃ q : Nat, x3 = (q : Int) := ⟨x3.toNat, by omega⟩
                    refine at_aload_n 92 X rfl rfl dX12_odds_91 rfl ?_
                    refine at_callV 95 X _ 12 (ct_X12_asTold hG E0 P Q hP hO_E0.1.1) clX12 rfl k_125 mo_X12_asTold w_2162 vo_X12_asTold.1 vo_X12_asTold.2 rfl rfl (crm Rt (by decide)) (Nat.le_of_ble_eq_true rfl) dX12_odds_92 rfl ?_
                    rintro _ _ ⟨rfl, rfl⟩
                    generalize hF0 : wr (wr (wr E0 125 52 (sN P : Int)) 125 53 (sLn P : Int)) 125 54 (mk (sC P) 24 : Nat) = F0
                    have hq0 : ∀ q, q ≠ 125 → F0 q = E0 q := fun q h => by rw [← hF0]; simp (disch := omega) only [wr_row]
                    have h0 : ∀ k, ¬ (52 ≤ k ∧ k ≤ 54) → F0 125 k = E0 125 k := fun k h => by rw [← hF0]; simp (disch := omega) only [wr_o]
                    have h52 : F0 125 52 = (sN P : Int) := by rw [← hF0]; simp (disch := omega) only [wr_s, wr_o]
                    have h54 : F0 125 54 = (mk (sC P) 24 : Nat) := (by rw [← hF0]; simp (disch := omega) only [wr_s, wr_o])
                    have hG0 := told_G (E1 := F0) (mo := moonP P d) (L := L) hO_E0.1.1 hP h52 (by rw [← hF0]; simp (disch := omega) only [wr_s, wr_o]) h54 (fun q h => hq0 q (by omega))
                    have h45 : F0 125 45 = (d : Int) := (h0 45 (by omega)).trans hO_E0.1.2.2.2.2.2
                    refine at_aload_n 96 X rfl rfl dX12_odds_95 rfl ?_
                    refine at_aload_n 97 X rfl rfl dX12_odds_96 rfl ?_
                    refine m_getIV 100 X ((d : Nat) : Int) h45 f_X12_267 k_125 rn_125_45 dX12_odds_97 rfl ?_
                    refine at_callV 103 X _ 12 (ct_X12_laysRaw hG F0 P Q hP (hO_E0.1.1.fr (fun q hq => hq0 q (by omega)) hP) (gDay P L d) (gOf_WG hP hWf.2.2.1 (moonP_in P d).2).R hG0.1 d hWf.2.2.2.2.2.1 rfl (fun _ _ => rfl) (fun _ _ => rfl)) clX12 rfl k_125 mo_X12_laysRaw w_2170 vo_X12_laysRaw.1 vo_X12_laysRaw.2 rfl rfl (crm Rt (by decide)) (Nat.le_of_ble_eq_true rfl) dX12_odds_100 rfl ?_
                    rintro _ _ ⟨rfl, F1, rfl, hrw_F1, hq_F1⟩
                    have hod_F1 : OD E0 F1 P Q L d st := ⟨⟨by rw [hq_F1 125 (by omega)]; exact hG0.1.1, fun p hp => by have hp' : p < sN P := hp; rw [hq_F1 (142 + p) (by omega)]; exact hG0.1.2 p hp⟩, ⟨by rw [hq_F1 125 (by omega)]; exact hG0.2.1.1, hG0.2.1.2.1, fun k hk => by have := hP.Ln; rw [hq_F1 (209 + k) (by omega)]; exact hG0.2.1.2.2.1 k hk, hG0.2.1.2.2.2⟩, hrw_F1, hO_E0.1.2.2.1.fr (by rw [hq_F1 125 (by omega)]; exact h0 30 (by omega)) ((hq_F1 578 (by omega)).trans (hq0 578 (by omega))) ((hq_F1 579 (by omega)).trans (hq0 579 (by omega))), fun q a b c => (hq_F1 q (by omega)).trans (hq0 q c), fun k hk => by rw [hq_F1 125 (by omega)]; exact h0 k hk⟩
                    refine at_lconst 104 X (v := 1) (by decide) (by decide) dX12_odds_103 rfl ?_
                    refine at_lstore 106 X dX12_odds_104 rfl (by decide) ?_
                    refine at_lconst 107 X (v := 1) (by decide) (by decide) dX12_odds_106 rfl ?_
                    refine at_lstore 109 X dX12_odds_107 rfl (by decide) ?_
                    refine at_iload_n 110 X rfl rfl dX12_odds_109 rfl ?_
                    refine at_istore 112 X dX12_odds_110 rfl (by decide) ?_
                    have J112 : ∀ (f112 : Nat) (F : Mm) (h : Nat) (pa : Nat) (pb : Nat), 26 - h < f112 → (f ≤ h ∧ h ≤ t + 1) → ((∀ j, j < h - f → ¬ (!ns0 (gDay P L d) (sB P) b (f + j)) = true)) → (pa = (odP (gDay P L d) (sB P) b f q (h - f)).1) → (pb = (odP (gDay P L d) (sB P) b f q (h - f)).2) → (pa ≤ 16 ^ (h - f)) → (pb ≤ 16 ^ (h - f)) → (1 ≤ pb) → (OD E0 F P Q L d st) → AT g κ K2 z 0 0 112 [(0, mR 125), (1, mI ((b : Nat) : Int)), (3, mI ((t : Nat) : Int)), (4, mI ((q : Nat) : Int)), (5, mI x4), (6, mL ((pa : Nat) : Int)), (8, mL ((pb : Nat) : Int)), (10, mI ((h : Nat) : Int))] [] (ov F) := by
                      intro f112
                      induction f112 with
                      | zero => intro F h pa pb hf112; omega
                      | succ f112 ih112 =>
                      intro F h pa pb hf112 hh hno hpa hpb hpa2 hpb2 hpb1 hod_F
                      refine at_iload 114 X rfl dX12_odds_112 rfl ?_
                      have hpi := p16 (i := h - f) (by omega)
                      refine at_iload_n 115 X rfl rfl dX12_odds_114 rfl ?_
                      refine at_icmp_gt 118 175 X dX12_odds_115 rfl (by decide) (fun h115 => ?_) (fun h115 => ?_)
                      · refine at_lload 177 X rfl dX12_odds_175 rfl ?_
                        refine at_lload 179 X rfl dX12_odds_177 rfl ?_
                        refine at_iload 181 X rfl dX12_odds_179 rfl ?_
                        refine at_callS 184 X (ct_X12_least hG F ((pa : Nat) : Int) pb x4 (by omega) (by omega) (by omega)) mo_X12_least w_2222 so_X12_least rfl rfl (crm Rt (by decide)) (Nat.le_of_ble_eq_true rfl) dX12_odds_181 rfl ?_
                        rintro _ _ ⟨rfl, rfl⟩
                        refine at_lret X Rt ?_ (Nat.le_refl _) (Nat.le_refl _) dX12_odds_184
                        exact Or.inl ⟨hc0, hc1, (by show _ = some (mL (odA (gDay P L d) (sB P) b f t q x4)); unfold odA; rw [if_pos (fst_none (fun j hj => hno j (by omega))), hpa, hpb, show h = t + 1 by omega]), _, rfl, OD.fin hWf hO_E0 hod_F⟩
                      · refine at_aload_n 119 X rfl rfl dX12_odds_118 rfl ?_
                        refine at_iload_n 120 X rfl rfl dX12_odds_119 rfl ?_
                        refine at_iload 122 X rfl dX12_odds_120 rfl ?_
                        refine at_iconstV 123 X (by decide) ((mk (fun _ => false) 24 : Nat) : Int) (mk_0r (fun _ _ => rfl)) dX12_odds_122 rfl ?_
                        refine at_callV 126 X _ 12 (ct_X12_standsBy hG F E0 Q P L T K d st hWf hO_E0.1 hod_F b h (by omega) (by omega) (fun _ => false)) clX12 rfl k_125 mo_X12_standsBy w_2344 vo_X12_standsBy.1 vo_X12_standsBy.2 rfl rfl (crm Rt (by decide)) (Nat.le_of_ble_eq_true rfl) dX12_odds_123 rfl ?_
                        rintro _ _ ⟨rfl, F1, rfl, hod_F1⟩
                        refine at_if_ne 129 133 X dX12_odds_126 rfl (by decide) (fun h126 => ?_) (fun h126 => ?_)
                        · have h126 : (stP (setC (gDay P L d) (fun _ => false)) (sB P) b (bX (sB P) b) h = true) := ite_yes.mp h126
                          refine at_aload_n 134 X rfl rfl dX12_odds_133 rfl ?_
                          refine at_iload_n 135 X rfl rfl dX12_odds_134 rfl ?_
                          refine at_iload 137 X rfl dX12_odds_135 rfl ?_
                          refine at_iconst 138 X (by decide) dX12_odds_137 rfl ?_
                          refine at_iload 140 X rfl dX12_odds_138 rfl ?_
                          refine at_ishlV 141 X ((mk (fun i => decide (i = h)) 24 : Nat) : Int) ((ishl1 (by omega)).trans (by rw [mk1_24 (by omega)])) dX12_odds_140 rfl ?_
                          refine at_callV 144 X _ 12 (ct_X12_standsBy hG F1 E0 Q P L T K d st hWf hO_E0.1 hod_F1 b h (by omega) (by omega) (fun i => decide (i = h))) clX12 rfl k_125 mo_X12_standsBy w_2344 vo_X12_standsBy.1 vo_X12_standsBy.2 rfl rfl (crm Rt (by decide)) (Nat.le_of_ble_eq_true rfl) dX12_odds_141 rfl ?_
                          rintro _ _ ⟨rfl, F2, rfl, hod_F2⟩
                          refine at_if_eq 147 150 X dX12_odds_144 rfl (by decide) (fun h144 => ?_) (fun h144 => ?_)
                          · have h144 : ¬ (stP (setC (gDay P L d) (fun i => decide (i = h))) (sB P) b (bX (sB P) b) h = true) := ite_no.mp h144
                            have hm1 := Nat.mul_le_mul hpa2 (show 16 - q ≤ 16 by omega)
                            refine at_lload 152 X rfl dX12_odds_150 rfl ?_
                            refine at_bipush 154 X (by decide) (by decide) dX12_odds_152 rfl ?_
                            refine at_iload 156 X rfl dX12_odds_154 rfl ?_
                            refine at_isubV 157 X ((16 - q : Nat) : Int) (w32_v (by omega) (by omega) (by omega)) dX12_odds_156 rfl ?_
                            refine at_i2l 158 X dX12_odds_157 rfl ?_
                            refine at_lmulV 159 X ((pa * (16 - q) : Nat) : Int) (w64_v (Int.natCast_mul _ _).symm (by omega) (by omega)) dX12_odds_158 rfl ?_
                            refine at_lstore 161 X dX12_odds_159 rfl (by decide) ?_
                            refine at_lload 163 X rfl dX12_odds_161 rfl ?_
                            refine at_ldc2 166 X (n := 16) w_2348 (by decide) (by decide) dX12_odds_163 rfl ?_
                            refine at_lmulV 167 X ((pb * 16 : Nat) : Int) (w64_v (by omega) (by omega) (by omega)) dX12_odds_166 rfl ?_
                            refine at_lstore 169 X dX12_odds_167 rfl (by decide) ?_
                            refine at_iincV 172 X ((h + 1 : Nat) : Int) (w32_v (by omega) (by omega) (by omega)) rfl dX12_odds_169 rfl (by decide) ?_
                            refine at_goto 112 X dX12_odds_172 (by decide) ?_
                            exact at_sub _ (by exact ⟨rfl, rfl, rfl, rfl, rfl, rfl, rfl, rfl, trivial⟩) (ih112 F2 (h + 1) (pa * (16 - q)) (pb * 16) (by first | omega | (simp only [] at *; omega)) (by omega) (fun j hj => if e : j < h - f then hno j e else by rw [show f + j = h by omega, Bool.not_eq_true, Bool.not_eq_false']; exact h126) (by rw [show h + 1 - f = (h - f) + 1 by omega, odP_s, show f + (h - f) = h by omega]; first | (rw [if_pos (show nsC (gDay P L d) (sB P) b h = true from h144)]; assumption) | (rw [if_neg (show ¬ nsC (gDay P L d) (sB P) b h = true from h144), ← hpa])) (by rw [show h + 1 - f = (h - f) + 1 by omega, odP_s, show f + (h - f) = h by omega]; first | (rw [if_pos (show nsC (gDay P L d) (sB P) b h = true from h144)]; assumption) | (rw [if_neg (show ¬ nsC (gDay P L d) (sB P) b h = true from h144), ← hpb])) (by rw [show h + 1 - f = (h - f) + 1 by omega, p16_s]; omega) (by rw [show h + 1 - f = (h - f) + 1 by omega, p16_s]; omega) (by omega) hod_F2)
                          · have h144 : (stP (setC (gDay P L d) (fun i => decide (i = h))) (sB P) b (bX (sB P) b) h = true) := ite_yes.mp h144
                            refine at_goto 169 X dX12_odds_147 (by decide) ?_
                            refine at_iincV 172 X ((h + 1 : Nat) : Int) (w32_v (by omega) (by omega) (by omega)) rfl dX12_odds_169 rfl (by decide) ?_
                            refine at_goto 112 X dX12_odds_172 (by decide) ?_
                            exact at_sub _ (by exact ⟨rfl, rfl, rfl, rfl, rfl, rfl, rfl, rfl, trivial⟩) (ih112 F2 (h + 1) pa pb (by first | omega | (simp only [] at *; omega)) (by omega) (fun j hj => if e : j < h - f then hno j e else by rw [show f + j = h by omega, Bool.not_eq_true, Bool.not_eq_false']; exact h126) (by rw [show h + 1 - f = (h - f) + 1 by omega, odP_s, show f + (h - f) = h by omega]; first | (rw [if_pos (show nsC (gDay P L d) (sB P) b h = true from h144)]; assumption) | (rw [if_neg (show ¬ nsC (gDay P L d) (sB P) b h = true from h144), ← hpa])) (by rw [show h + 1 - f = (h - f) + 1 by omega, odP_s, show f + (h - f) = h by omega]; first | (rw [if_pos (show nsC (gDay P L d) (sB P) b h = true from h144)]; assumption) | (rw [if_neg (show ¬ nsC (gDay P L d) (sB P) b h = true from h144), ← hpb])) (by rw [show h + 1 - f = (h - f) + 1 by omega, p16_s]; omega) (by rw [show h + 1 - f = (h - f) + 1 by omega, p16_s]; omega) (by omega) hod_F2)
                        · have h126 : ¬ (stP (setC (gDay P L d) (fun _ => false)) (sB P) b (bX (sB P) b) h = true) := ite_no.mp h126
                          refine at_iload 131 X rfl dX12_odds_129 rfl ?_
                          refine at_i2l 132 X dX12_odds_131 rfl ?_
                          refine at_lret X Rt ?_ (Nat.le_refl _) (Nat.le_refl _) dX12_odds_132
                          exact Or.inl ⟨hc0, hc1, (by show _ = some (mL (odA (gDay P L d) (sB P) b f t q x4)); unfold odA; rw [if_neg (by rw [fst_at (q := fun i => !ns0 (gDay P L d) (sB P) b (f + i)) hno (show (!ns0 (gDay P L d) (sB P) b (f + (h - f))) = true by rw [show f + (h - f) = h by omega, Bool.not_eq_true', ← Bool.not_eq_true]; exact h126) (by omega)]; omega)]; rcases (show x4 = 0 ∨ x4 = 1 by omega) with rfl | rfl <;> rfl), _, rfl, OD.fin hWf hO_E0 hod_F1⟩
                    exact at_sub _ (by exact ⟨rfl, rfl, rfl, rfl, rfl, rfl, rfl, rfl, trivial⟩) (J112 _ F1 f 1 1 (Nat.lt_succ_self _) (by omega) (fun j hj => by omega) (by rw [Nat.sub_self]; rfl) (by rw [Nat.sub_self]; rfl) (by rw [Nat.sub_self]; decide) (by rw [Nat.sub_self]; decide) (by first | omega | assumption | rfl) hod_F1)
                  · exact absurd h86 (by decide)
                · have h73 : ¬ (0 ≤ x4 ∧ x4 ≤ 1) := ite_no.mp h73
                  refine at_iconst 77 X (by decide) dX12_odds_76 rfl ?_
                  refine at_goto 81 X dX12_odds_77 (by decide) ?_
                  refine at_iconst 82 X (by decide) dX12_odds_81 rfl ?_
                  refine at_iconst 83 X (by decide) dX12_odds_82 rfl ?_
                  refine at_callV 86 X _ 12 (ct_bad1 hG E0 2 2 (by decide) hO_E0.2.2.1 (by decide)) clX12 rfl k_125 mo_X12_bad w_1960 vo_X12_bad.1 vo_X12_bad.2 rfl rfl (crm Rt (by decide)) (Nat.le_of_ble_eq_true rfl) dX12_odds_83 rfl ?_
                  rintro _ _ ⟨rfl, rfl⟩
                  have hb : ¬ ((0 ≤ x1 ∧ x1 ≤ 23) ∧ (0 ≤ x2 ∧ x2 ≤ 23) ∧ x1 ≤ x2 ∧ x2 - x1 ≤ 11 ∧ (0 ≤ x3 ∧ x3 ≤ 16) ∧ (0 ≤ x4 ∧ x4 ≤ 1)) := by omega
                  refine at_if_eq 89 91 X dX12_odds_86 rfl (by decide) (fun h86 => ?_) (fun h86 => ?_)
                  · exact absurd h86 (by decide)
                  · refine at_lconst 90 X (v := 0) (by decide) (by decide) dX12_odds_89 rfl ?_
                    refine at_lret X Rt ?_ (Nat.le_refl _) (Nat.le_refl _) dX12_odds_90
                    exact Or.inr (Or.inr (⟨hc0, hb, rfl, congrArg ov (badR_of hE0)⟩))
  · have h11 : ¬ (0 ≤ x0 ∧ x0 ≤ (bN (sB P) : Int) - 1) := ite_no.mp h11
    refine at_iconst 15 X (by decide) dX12_odds_14 rfl ?_
    refine at_goto 19 X dX12_odds_15 (by decide) ?_
    refine at_iconst 20 X (by decide) dX12_odds_19 rfl ?_
    refine at_iconst 21 X (by decide) dX12_odds_20 rfl ?_
    refine at_callV 24 X _ 12 (ct_bad1 hG E0 1 1 (by decide) hO_E0.2.2.1 (by decide)) clX12 rfl k_125 mo_X12_bad w_1960 vo_X12_bad.1 vo_X12_bad.2 rfl rfl (crm Rt (by decide)) (Nat.le_of_ble_eq_true rfl) dX12_odds_21 rfl ?_
    rintro _ _ ⟨rfl, rfl⟩
    have hb : ¬ (0 ≤ x0 ∧ x0 ≤ (bN (sB P) : Int) - 1) := by omega
    refine at_if_ne 27 89 X dX12_odds_24 rfl (by decide) (fun h24 => ?_) (fun h24 => ?_)
    · refine at_lconst 90 X (v := 0) (by decide) (by decide) dX12_odds_89 rfl ?_
      refine at_lret X Rt ?_ (Nat.le_refl _) (Nat.le_refl _) dX12_odds_90
      exact Or.inr (Or.inl ⟨hb, rfl, congrArg ov (badR_of hE0)⟩)
    · exact absurd h24 (by decide)
