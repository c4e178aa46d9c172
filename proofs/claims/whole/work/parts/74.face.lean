theorem cover_CG {E E1 : Mm} {a : Nat} {G : GP} {C : Nat → Bool} (hg : CG E a G) (hc : E1 a 11 = (mk C 24 : Nat) ∧ ∀ t, t < 24 → E1 (a + 7) t = lcl C t) (hk : ∀ j, j < 1920 → E1 (a + 8) j = -1) (ho : ∀ j, j ≠ 11 → E1 a j = E a j) (hf : ∀ q, q ≠ a → q ≠ a + 7 → q ≠ a + 8 → E1 q = E q) : CG E1 a (setC G C) := by
  obtain ⟨q1, q2, q3, q4, q5, q6, q7⟩ := hg.1
  refine ⟨⟨?_, ?_, ?_, ?_, ?_, fun p hp => ?_, fun t ht => ?_⟩, hc, fun t p ht hp => ?_, fun m t c ht hc => Or.inl (hk _ (kix_lt ht hc))⟩
  · rw [ho 8 (by decide)]; exact q1
  · rw [ho 9 (by decide)]; exact q2
  · rw [ho 10 (by decide)]; exact q3
  · rw [ho 12 (by decide)]; exact q4
  · rw [ho 13 (by decide)]; exact q5
  · rw [hf _ (by omega) (by omega) (by omega), hf _ (by omega) (by omega) (by omega)]; exact q6 p hp
  · rw [hf _ (by omega) (by omega) (by omega), hf _ (by omega) (by omega) (by omega)]; exact q7 t ht
  · rw [hf _ (by omega) (by omega) (by omega)]; exact hg.2.2.1 t p ht hp
theorem setC_WG {G : GP} (C : Nat → Bool) (h : WG G) : WG (setC G C) := h
def ns0 (G : GP) (B : BM) (b h : Nat) : Bool := stP (setC G (fun _ => false)) B b (bX B b) h
def nsC (G : GP) (B : BM) (b h : Nat) : Bool := stP (setC G (fun i => decide (i = h))) B b (bX B b) h
def odP (G : GP) (B : BM) (b f q : Nat) : Nat → Nat × Nat := itr (fun i p => if nsC G B b (f + i) = true then p else (p.1 * (16 - q), p.2 * 16)) (1, 1)
theorem odP_s (G : GP) (B : BM) (b f q i : Nat) : odP G B b f q (i + 1) = if nsC G B b (f + i) = true then odP G B b f q i else ((odP G B b f q i).1 * (16 - q), (odP G B b f q i).2 * 16) := rfl
def odA (G : GP) (B : BM) (b f t q : Nat) (wh : Int) : Int := if fstP (fun i => !ns0 G B b (f + i)) (t + 1 - f) = -1 then ltmP ((odP G B b f q (t + 1 - f)).1 : Nat) (odP G B b f q (t + 1 - f)).2 wh else ltmP 0 1 wh
theorem p16 {i : Nat} (h : i ≤ 12) : 16 ^ i ≤ 281474976710656 := Nat.pow_le_pow_right (n := 16) (by decide) h
theorem p16_s (i : Nat) : 16 ^ (i + 1) = 16 ^ i * 16 := Nat.pow_succ 16 i
/-- a seed, drawn so often -/
def sdN (sd : Int) : Nat → Int := itr (fun _ v => w32 (w32 (v * 1103515245) + 12345)) sd
def drB (sd : Int) (q h : Nat) : Bool := decide (iand (iushr (sdN sd (h + 1)) 16) 15 < (q : Int))
def drC (P : SP) (sd : Int) (q : Nat) : Nat → Bool := fun h => sC P h || drB sd q h
theorem mk1_24 {h : Nat} (hh : h < 24) : 2 ^ h = mk (fun i => decide (i = h)) 24 := mk_eq (p2_lt hh) (fun j _ => by
  rw [Nat.testBit_two_pow]
  exact decide_eq_decide.mpr ⟨fun q => q.symm, fun q => q.symm⟩)
theorem dX11_odds_0 : decode cX11_odds 0 = .ok (.aload_n 0, 1) := by decide +kernel
theorem dX11_odds_1 : decode cX11_odds 1 = .ok (.iload_n 1, 1) := by decide +kernel
theorem dX11_odds_2 : decode cX11_odds 2 = .ok (.invokevirtual 208, 3) := by decide +kernel
theorem dX11_odds_5 : decode cX11_odds 5 = .ok (.aload_n 0, 1) := by decide +kernel
theorem dX11_odds_6 : decode cX11_odds 6 = .ok (.iload_n 2, 1) := by decide +kernel
theorem dX11_odds_7 : decode cX11_odds 7 = .ok (.iload_n 3, 1) := by decide +kernel
theorem dX11_odds_8 : decode cX11_odds 8 = .ok (.invokevirtual 296, 3) := by decide +kernel
theorem dX11_odds_11 : decode cX11_odds 11 = .ok (.aload_n 0, 1) := by decide +kernel
theorem dX11_odds_12 : decode cX11_odds 12 = .ok (.iload_n 3, 1) := by decide +kernel
theorem dX11_odds_13 : decode cX11_odds 13 = .ok (.iload_n 2, 1) := by decide +kernel
theorem dX11_odds_14 : decode cX11_odds 14 = .ok (.isub, 1) := by decide +kernel
theorem dX11_odds_15 : decode cX11_odds 15 = .ok (.bipush 12, 2) := by decide +kernel
theorem dX11_odds_17 : decode cX11_odds 17 = .ok (.if_icmp .ge 18, 3) := by decide +kernel
theorem dX11_odds_20 : decode cX11_odds 20 = .ok (.iload 4, 2) := by decide +kernel
theorem dX11_odds_22 : decode cX11_odds 22 = .ok (.iconst 0, 1) := by decide +kernel
theorem dX11_odds_23 : decode cX11_odds 23 = .ok (.bipush 16, 2) := by decide +kernel
theorem dX11_odds_25 : decode cX11_odds 25 = .ok (.invokestatic 253, 3) := by decide +kernel
theorem dX11_odds_28 : decode cX11_odds 28 = .ok (.ifCond .eq 7, 3) := by decide +kernel
theorem dX11_odds_31 : decode cX11_odds 31 = .ok (.iconst 1, 1) := by decide +kernel
theorem dX11_odds_32 : decode cX11_odds 32 = .ok (.goto 4, 3) := by decide +kernel
theorem dX11_odds_35 : decode cX11_odds 35 = .ok (.iconst 0, 1) := by decide +kernel
theorem dX11_odds_36 : decode cX11_odds 36 = .ok (.invokevirtual 164, 3) := by decide +kernel
theorem dX11_odds_39 : decode cX11_odds 39 = .ok (.aload_n 0, 1) := by decide +kernel
theorem dX11_odds_40 : decode cX11_odds 40 = .ok (.iload 5, 2) := by decide +kernel
theorem dX11_odds_42 : decode cX11_odds 42 = .ok (.iconst 1, 1) := by decide +kernel
theorem dX11_odds_43 : decode cX11_odds 43 = .ok (.invokevirtual 199, 3) := by decide +kernel
theorem dX11_odds_46 : decode cX11_odds 46 = .ok (.aload_n 0, 1) := by decide +kernel
theorem dX11_odds_47 : decode cX11_odds 47 = .ok (.invokevirtual 309, 3) := by decide +kernel
theorem dX11_odds_50 : decode cX11_odds 50 = .ok (.aload_n 0, 1) := by decide +kernel
theorem dX11_odds_51 : decode cX11_odds 51 = .ok (.getfield 93, 3) := by decide +kernel
theorem dX11_odds_54 : decode cX11_odds 54 = .ok (.getfield 135, 3) := by decide +kernel
theorem dX11_odds_57 : decode cX11_odds 57 = .ok (.getfield 211, 3) := by decide +kernel
theorem dX11_odds_60 : decode cX11_odds 60 = .ok (.iload_n 1, 1) := by decide +kernel
theorem dX11_odds_61 : decode cX11_odds 61 = .ok (.iaload, 1) := by decide +kernel
theorem dX11_odds_62 : decode cX11_odds 62 = .ok (.istore 6, 2) := by decide +kernel
theorem dX11_odds_64 : decode cX11_odds 64 = .ok (.aload_n 0, 1) := by decide +kernel
theorem dX11_odds_65 : decode cX11_odds 65 = .ok (.getfield 63, 3) := by decide +kernel
theorem dX11_odds_68 : decode cX11_odds 68 = .ok (.iconst 0, 1) := by decide +kernel
theorem dX11_odds_69 : decode cX11_odds 69 = .ok (.invokevirtual 406, 3) := by decide +kernel
theorem dX11_odds_72 : decode cX11_odds 72 = .ok (.iload_n 2, 1) := by decide +kernel
theorem dX11_odds_73 : decode cX11_odds 73 = .ok (.istore 7, 2) := by decide +kernel
theorem dX11_odds_75 : decode cX11_odds 75 = .ok (.iload 7, 2) := by decide +kernel
theorem dX11_odds_77 : decode cX11_odds 77 = .ok (.iload_n 3, 1) := by decide +kernel
theorem dX11_odds_78 : decode cX11_odds 78 = .ok (.if_icmp .gt 39, 3) := by decide +kernel
theorem dX11_odds_81 : decode cX11_odds 81 = .ok (.aload_n 0, 1) := by decide +kernel
theorem dX11_odds_82 : decode cX11_odds 82 = .ok (.getfield 63, 3) := by decide +kernel
theorem dX11_odds_85 : decode cX11_odds 85 = .ok (.aload_n 0, 1) := by decide +kernel
theorem dX11_odds_86 : decode cX11_odds 86 = .ok (.getfield 93, 3) := by decide +kernel
theorem dX11_odds_89 : decode cX11_odds 89 = .ok (.getfield 135, 3) := by decide +kernel
theorem dX11_odds_92 : decode cX11_odds 92 = .ok (.iload_n 1, 1) := by decide +kernel
theorem dX11_odds_93 : decode cX11_odds 93 = .ok (.iload 6, 2) := by decide +kernel
theorem dX11_odds_95 : decode cX11_odds 95 = .ok (.iload 7, 2) := by decide +kernel
theorem dX11_odds_97 : decode cX11_odds 97 = .ok (.invokevirtual 409, 3) := by decide +kernel
theorem dX11_odds_100 : decode cX11_odds 100 = .ok (.ifCond .ne 11, 3) := by decide +kernel
theorem dX11_odds_103 : decode cX11_odds 103 = .ok (.lconst 0, 1) := by decide +kernel
theorem dX11_odds_104 : decode cX11_odds 104 = .ok (.lconst 1, 1) := by decide +kernel
theorem dX11_odds_105 : decode cX11_odds 105 = .ok (.iload 5, 2) := by decide +kernel
theorem dX11_odds_107 : decode cX11_odds 107 = .ok (.invokestatic 267, 3) := by decide +kernel
theorem dX11_odds_110 : decode cX11_odds 110 = .ok (.lreturn, 1) := by decide +kernel
theorem dX11_odds_111 : decode cX11_odds 111 = .ok (.iinc 7 1, 3) := by decide +kernel
theorem dX11_odds_114 : decode cX11_odds 114 = .ok (.goto (-39), 3) := by decide +kernel
theorem dX11_odds_117 : decode cX11_odds 117 = .ok (.lconst 1, 1) := by decide +kernel
theorem dX11_odds_118 : decode cX11_odds 118 = .ok (.lstore 7, 2) := by decide +kernel
theorem dX11_odds_120 : decode cX11_odds 120 = .ok (.lconst 1, 1) := by decide +kernel
theorem dX11_odds_121 : decode cX11_odds 121 = .ok (.lstore 9, 2) := by decide +kernel
theorem dX11_odds_123 : decode cX11_odds 123 = .ok (.iload_n 2, 1) := by decide +kernel
theorem dX11_odds_124 : decode cX11_odds 124 = .ok (.istore 11, 2) := by decide +kernel
theorem dX11_odds_126 : decode cX11_odds 126 = .ok (.iload 11, 2) := by decide +kernel
theorem dX11_odds_128 : decode cX11_odds 128 = .ok (.iload_n 3, 1) := by decide +kernel
theorem dX11_odds_129 : decode cX11_odds 129 = .ok (.if_icmp .gt 61, 3) := by decide +kernel
theorem dX11_odds_132 : decode cX11_odds 132 = .ok (.aload_n 0, 1) := by decide +kernel
theorem dX11_odds_133 : decode cX11_odds 133 = .ok (.getfield 63, 3) := by decide +kernel
theorem dX11_odds_136 : decode cX11_odds 136 = .ok (.iconst 1, 1) := by decide +kernel
theorem dX11_odds_137 : decode cX11_odds 137 = .ok (.iload 11, 2) := by decide +kernel
theorem dX11_odds_139 : decode cX11_odds 139 = .ok (.ishl, 1) := by decide +kernel
theorem dX11_odds_140 : decode cX11_odds 140 = .ok (.invokevirtual 406, 3) := by decide +kernel
theorem dX11_odds_143 : decode cX11_odds 143 = .ok (.aload_n 0, 1) := by decide +kernel
theorem dX11_odds_144 : decode cX11_odds 144 = .ok (.getfield 63, 3) := by decide +kernel
theorem dX11_odds_147 : decode cX11_odds 147 = .ok (.aload_n 0, 1) := by decide +kernel
theorem dX11_odds_148 : decode cX11_odds 148 = .ok (.getfield 93, 3) := by decide +kernel
theorem dX11_odds_151 : decode cX11_odds 151 = .ok (.getfield 135, 3) := by decide +kernel
theorem dX11_odds_154 : decode cX11_odds 154 = .ok (.iload_n 1, 1) := by decide +kernel
theorem dX11_odds_155 : decode cX11_odds 155 = .ok (.iload 6, 2) := by decide +kernel
theorem dX11_odds_157 : decode cX11_odds 157 = .ok (.iload 11, 2) := by decide +kernel
theorem dX11_odds_159 : decode cX11_odds 159 = .ok (.invokevirtual 409, 3) := by decide +kernel
theorem dX11_odds_162 : decode cX11_odds 162 = .ok (.ifCond .ne 22, 3) := by decide +kernel
theorem dX11_odds_165 : decode cX11_odds 165 = .ok (.lload 7, 2) := by decide +kernel
theorem dX11_odds_167 : decode cX11_odds 167 = .ok (.bipush 16, 2) := by decide +kernel
theorem dX11_odds_169 : decode cX11_odds 169 = .ok (.iload 4, 2) := by decide +kernel
theorem dX11_odds_171 : decode cX11_odds 171 = .ok (.isub, 1) := by decide +kernel
theorem dX11_odds_172 : decode cX11_odds 172 = .ok (.i2l, 1) := by decide +kernel
theorem dX11_odds_173 : decode cX11_odds 173 = .ok (.lmul, 1) := by decide +kernel
theorem dX11_odds_174 : decode cX11_odds 174 = .ok (.lstore 7, 2) := by decide +kernel
theorem dX11_odds_176 : decode cX11_odds 176 = .ok (.lload 9, 2) := by decide +kernel
theorem dX11_odds_178 : decode cX11_odds 178 = .ok (.ldc2_w 413, 3) := by decide +kernel
theorem dX11_odds_181 : decode cX11_odds 181 = .ok (.lmul, 1) := by decide +kernel
theorem dX11_odds_182 : decode cX11_odds 182 = .ok (.lstore 9, 2) := by decide +kernel
theorem dX11_odds_184 : decode cX11_odds 184 = .ok (.iinc 11 1, 3) := by decide +kernel
theorem dX11_odds_187 : decode cX11_odds 187 = .ok (.goto (-61), 3) := by decide +kernel
theorem dX11_odds_190 : decode cX11_odds 190 = .ok (.lload 7, 2) := by decide +kernel
theorem dX11_odds_192 : decode cX11_odds 192 = .ok (.lload 9, 2) := by decide +kernel
theorem dX11_odds_194 : decode cX11_odds 194 = .ok (.iload 5, 2) := by decide +kernel
theorem dX11_odds_196 : decode cX11_odds 196 = .ok (.invokestatic 267, 3) := by decide +kernel
theorem dX11_odds_199 : decode cX11_odds 199 = .ok (.lreturn, 1) := by decide +kernel
theorem ct_X11_odds {g : Gw} (hG : GF g) {z : Bool} (E : Mm) (s : Nat) (P : SP) (L : LW) (T K : LN) (d : Nat) (hI_E : CXI E s P L T K d) (x0 x1 x2 x3 x4 : Int) : CTX g yX11_odds cX11_odds 12 (some .long) 8 133 4 24 K2 z [mR 0, mI x0, mI x1, mI x2, mI x3, mI x4] (ov E) K2 z (fun r' D' => (0 ≤ x0 ∧ x0 ≤ (bN (sB P) : Int) - 1) ∧ (0 ≤ x1 ∧ x1 ≤ x2 ∧ x2 < 24) ∧ (x2 - x1 < 12 ∧ 0 ≤ x3 ∧ x3 ≤ 16) ∧ (0 ≤ x4 ∧ x4 ≤ 1) ∧ r' = some (mL (odA (gNow P L d) (sB P) x0.toNat x1.toNat x2.toNat x3.toNat x4)) ∧ ∃ E1, D' = ov E1 ∧ CXI E1 s P L T K d ∧ CXF E E1) (fun X D' => (¬ (0 ≤ x0 ∧ x0 ≤ (bN (sB P) : Int) - 1) ∧ X = "java/util/NoSuchElementException" ∧ D' = ov (bumpE E 1)) ∨ ((0 ≤ x0 ∧ x0 ≤ (bN (sB P) : Int) - 1) ∧ ¬ (0 ≤ x1 ∧ x1 ≤ x2 ∧ x2 < 24) ∧ X = "java/lang/IllegalArgumentException" ∧ D' = ov (bumpE E 2)) ∨ ((0 ≤ x0 ∧ x0 ≤ (bN (sB P) : Int) - 1) ∧ (0 ≤ x1 ∧ x1 ≤ x2 ∧ x2 < 24) ∧ ¬ (x2 - x1 < 12 ∧ 0 ≤ x3 ∧ x3 ≤ 16) ∧ X = "java/lang/IllegalArgumentException" ∧ D' = ov (bumpE E 2)) ∨ ((0 ≤ x0 ∧ x0 ≤ (bN (sB P) : Int) - 1) ∧ (0 ≤ x1 ∧ x1 ≤ x2 ∧ x2 < 24) ∧ (x2 - x1 < 12 ∧ 0 ≤ x3 ∧ x3 ≤ 16) ∧ ¬ (0 ≤ x4 ∧ x4 ≤ 1) ∧ X = "java/lang/IllegalArgumentException" ∧ D' = ov (bumpE E 2))) := by
  refine CTX.mk hG (by decide +kernel) (Nat.le_of_ble_eq_true rfl) (fun κ X Rt Rx ok => ?_)
  have hs := hI_E.sa
  have hP := hI_E.WS
  have hW40 := hP.W
  have hN10 := hP.N
  have hN8 := hP.B.N
  have hX_E : CXF E E := CXF.rf
  have hwG := gNow_WG hI_E
  have hgw : gW (gNow P L d) = sW P := rfl
  have hgn : gN (gNow P L d) = sN P := rfl
  refine at_aload_n 1 X rfl rfl dX11_odds_0 rfl ?_
  refine at_iload_n 2 X rfl rfl dX11_odds_1 rfl ?_
  refine at_callVX 5 X Rt Rx _ 11 (ct_X11_needBeamP hG E s P L T K d hI_E x0) clX11 rfl k_0 mo_X11_needBeam w_1239 vo_X11_needBeam.1 vo_X11_needBeam.2 rfl rfl (by decide) (Nat.le_of_ble_eq_true rfl) dX11_odds_2 rfl (fun _ _ h => Or.inl ⟨h.1, h.2.1, h.2.2⟩) ?_
  rintro _ _ ⟨hc0, rfl, rfl⟩
  refine at_aload_n 6 X rfl rfl dX11_odds_5 rfl ?_
  refine at_iload_n 7 X rfl rfl dX11_odds_6 rfl ?_
  refine at_iload_n 8 X rfl rfl dX11_odds_7 rfl ?_
  refine at_callVX 11 X Rt Rx _ 11 (ct_X11_needHours hG E x1 x2) clX11 rfl k_0 mo_X11_needHours w_1377 vo_X11_needHours.1 vo_X11_needHours.2 rfl rfl (by decide) (Nat.le_of_ble_eq_true rfl) dX11_odds_8 rfl (fun _ _ h => Or.inr (Or.inl ⟨hc0, h.1, h.2.1, h.2.2⟩)) ?_
  rintro _ _ ⟨hc1, rfl, rfl⟩
  refine at_aload_n 12 X rfl rfl dX11_odds_11 rfl ?_
  refine at_iload_n 13 X rfl rfl dX11_odds_12 rfl ?_
  refine at_iload_n 14 X rfl rfl dX11_odds_13 rfl ?_
  refine at_isubV 15 X (x2 - x1) (w32_v rfl (by omega) (by omega)) dX11_odds_14 rfl ?_
  refine at_bipush 17 X (by decide) (by decide) dX11_odds_15 rfl ?_
  refine at_icmp_ge 20 35 X dX11_odds_17 rfl (by decide) (fun h17 => ?_) (fun h17 => ?_)
  · refine at_iconst 36 X (by decide) dX11_odds_35 rfl ?_
    refine at_callVX 39 X Rt Rx _ 11 (ct_X11_need hG E 0) clX11 rfl k_0 mo_X11_need w_863 vo_X11_need.1 vo_X11_need.2 rfl rfl (by decide) (Nat.le_of_ble_eq_true rfl) dX11_odds_36 rfl (fun _ _ h => Or.inr (Or.inr (Or.inl ⟨hc0, hc1, (by omega), h.2.1, h.2.2⟩))) ?_
    rintro _ _ ⟨hq, _, _⟩
    exact absurd rfl hq
  · refine at_iload 22 X rfl dX11_odds_20 rfl ?_
    refine at_iconst 23 X (by decide) dX11_odds_22 rfl ?_
    refine at_bipush 25 X (by decide) (by decide) dX11_odds_23 rfl ?_
    refine at_callS 28 X (ct_X11_isWithin hG _ _ _) mo_X11_isWithin w_1211 so_X11_isWithin rfl rfl (crm Rt (by decide)) (Nat.le_of_ble_eq_true rfl) dX11_odds_25 rfl ?_
    rintro _ _ ⟨rfl, rfl⟩
    refine at_if_eq 31 35 X dX11_odds_28 rfl (by decide) (fun h28 => ?_) (fun h28 => ?_)
    · have h28 : ¬ (0 ≤ x3 ∧ x3 ≤ 16) := ite_no.mp h28
      refine at_iconst 36 X (by decide) dX11_odds_35 rfl ?_
      refine at_callVX 39 X Rt Rx _ 11 (ct_X11_need hG E 0) clX11 rfl k_0 mo_X11_need w_863 vo_X11_need.1 vo_X11_need.2 rfl rfl (by decide) (Nat.le_of_ble_eq_true rfl) dX11_odds_36 rfl (fun _ _ h => Or.inr (Or.inr (Or.inl ⟨hc0, hc1, (by omega), h.2.1, h.2.2⟩))) ?_
      rintro _ _ ⟨hq, _, _⟩
      exact absurd rfl hq
    · have h28 : (0 ≤ x3 ∧ x3 ≤ 16) := ite_yes.mp h28
      refine at_iconst 32 X (by decide) dX11_odds_31 rfl ?_
      refine at_goto 36 X dX11_odds_32 (by decide) ?_
      refine at_callVX 39 X Rt Rx _ 11 (ct_X11_need hG E 1) clX11 rfl k_0 mo_X11_need w_863 vo_X11_need.1 vo_X11_need.2 rfl rfl (by decide) (Nat.le_of_ble_eq_true rfl) dX11_odds_36 rfl (fun _ _ h => absurd h.1 (by decide)) ?_
      rintro _ _ ⟨_, rfl, rfl⟩
      have hc2 : x2 - x1 < 12 ∧ 0 ≤ x3 ∧ x3 ≤ 16 := by omega
      refine at_aload_n 40 X rfl rfl dX11_odds_39 rfl ?_
      refine at_iload 42 X rfl dX11_odds_40 rfl ?_
      refine at_iconst 43 X (by decide) dX11_odds_42 rfl ?_
      refine at_callVX 46 X Rt Rx _ 11 (ct_X11_needWhat hG E x4 1) clX11 rfl k_0 mo_X11_needWhat w_1228 vo_X11_needWhat.1 vo_X11_needWhat.2 rfl rfl (by decide) (Nat.le_of_ble_eq_true rfl) dX11_odds_43 rfl (fun _ _ h => Or.inr (Or.inr (Or.inr (⟨hc0, hc1, hc2, h.1, h.2.1, h.2.2⟩)))) ?_
      rintro _ _ ⟨hc3, rfl, rfl⟩
      obtain ⟨b, rfl⟩ : ∃ b : Nat, x0 = (b : Int) := ⟨x0.toNat, by omega⟩
      obtain ⟨f, rfl⟩ : ∃ f : Nat, x1 = (f : Int) := ⟨x1.toNat, by omega⟩
      obtain ⟨t, rfl⟩ : ∃ t : Nat, x2 = (t : Int) := ⟨x2.toNat, by omega⟩
      obtain ⟨q, rfl⟩ : ∃ q : Nat, x3 = (q : Int) := ⟨x3.toNat, by omega⟩
      refine at_aload_n 47 X rfl rfl dX11_odds_46 rfl ?_
      refine at_callV 50 X _ 11 (ct_X11_prepareTrial hG E s P L T K d hI_E) clX11 rfl k_0 mo_X11_prepareTrial w_1433 vo_X11_prepareTrial.1 vo_X11_prepareTrial.2 rfl rfl (crm Rt (by decide)) (Nat.le_of_ble_eq_true rfl) dX11_odds_47 rfl ?_
      rintro _ _ ⟨rfl, F1, rfl, hgt_F1, hq_F1⟩
      have hT3 := hI_E.tried (E1 := F1) (fun q h1 _ _ => hq_F1 q h1)
      have hI_F1 := hT3.1
      have hX_F1 : CXF E F1 := hX_E.tr hT3.2.2
      refine at_aload_n 51 X rfl rfl dX11_odds_50 rfl ?_
      refine m_getM 54 X (s) f_X11_93 k_0 rn_0_15 hI_F1.now dX11_odds_51 rfl ?_
      refine m_getR 57 X f_X11_135 (kX9 hs) (rX9_7 hs) dX11_odds_54 rfl ?_
      refine m_getR 60 X f_X11_211 (kX0 (iB_8 hs)) (rX0_0 (iB_8 hs)) dX11_odds_57 rfl ?_
      refine at_iload_n 61 X rfl rfl dX11_odds_60 rfl ?_
      have hxl := hP.B.X (b := b) (by omega)
      have hlb := hP.B.L (b := b) (by omega)
      refine m_ialoadV 62 X b (by omega) ((bX (sB P) b : Nat) : Int) (hI_F1.B.X (b := b) (by omega)) (kX0_0 (iB_8 hs)) (eX0_0 (iB_8 hs)) (by omega) dX11_odds_61 rfl ?_
      have := hP.B.X (b := b) (by omega)
      refine at_istore 64 X dX11_odds_62 rfl (by decide) ?_
      refine at_aload_n 65 X rfl rfl dX11_odds_64 rfl ?_
      refine m_getR 68 X f_X11_63 k_0 r_0_10 dX11_odds_65 rfl ?_
      refine at_iconstV 69 X (by decide) ((mk (fun _ => false) 24 : Nat) : Int) (mk_0r (fun _ _ => rfl)) dX11_odds_68 rfl ?_
      refine at_callV 72 X _ 4 (ct_X4_cover hG F1 39 (Or.inr rfl) (fun _ => false)) clX4 rfl k_39 mo_X4_cover w_1577 vo_X4_cover.1 vo_X4_cover.2 rfl rfl (crm Rt (by decide)) (Nat.le_of_ble_eq_true rfl) dX11_odds_69 rfl ?_
      rintro _ _ ⟨rfl, F2, rfl, hc_F2, hk_F2, ho_F2, hqc_F2⟩
      have hgt0 := cover_CG hgt_F1 hc_F2 hk_F2 ho_F2 hqc_F2
      have hgt_F2 : CG F2 39 (setC (gNow P L d) (fun _ => false)) := hgt0
      have hT3 := hI_F1.tried (E1 := F2) (fun q h1 _ _ => hqc_F2 q (by omega) (by omega) (by omega))
      have hI_F2 := hT3.1
      have hX_F2 : CXF E F2 := hX_F1.tr hT3.2.2
      refine at_iload_n 73 X rfl rfl dX11_odds_72 rfl ?_
      refine at_istore 75 X dX11_odds_73 rfl (by decide) ?_
      have J75 : ∀ (f75 : Nat) (F : Mm) (h : Nat), 25 - h < f75 → (f ≤ h ∧ h ≤ t + 1) → ((∀ j, j < h - f → ¬ (!ns0 (gNow P L d) (sB P) b (f + j)) = true)) → (CXI F s P L T K d) → (CXF E F) → (CG F 39 (setC (gNow P L d) (fun _ => false))) → AT g κ K2 z 4 24 75 [(0, mR 0), (1, mI ((b : Nat) : Int)), (2, mI ((f : Nat) : Int)), (3, mI ((t : Nat) : Int)), (4, mI ((q : Nat) : Int)), (5, mI x4), (6, mI ((bX (sB P) b : Nat) : Int)), (7, mI ((h : Nat) : Int))] [] (ov F) := by
        intro f75
        induction f75 with
        | zero => intro F h hf75; omega
        | succ f75 ih75 =>
        intro F h hf75 hh hno hI_F hX_F hgt_F
        refine at_iload 77 X rfl dX11_odds_75 rfl ?_
        refine at_iload_n 78 X rfl rfl dX11_odds_77 rfl ?_
        refine at_icmp_gt 81 117 X dX11_odds_78 rfl (by decide) (fun h78 => ?_) (fun h78 => ?_)
        · refine at_lconst 118 X (v := 1) (by decide) (by decide) dX11_odds_117 rfl ?_
          refine at_lstore 120 X dX11_odds_118 rfl (by decide) ?_
          refine at_lconst 121 X (v := 1) (by decide) (by decide) dX11_odds_120 rfl ?_
          refine at_lstore 123 X dX11_odds_121 rfl (by decide) ?_
          refine at_iload_n 124 X rfl rfl dX11_odds_123 rfl ?_
          refine at_istore 126 X dX11_odds_124 rfl (by decide) ?_
          have J126 : ∀ (f126 : Nat) (F2 : Mm) (h : Nat) (pa : Nat) (pb : Nat) (C : Nat → Bool), 25 - h < f126 → (f ≤ h ∧ h ≤ t + 1) → (pa = (odP (gNow P L d) (sB P) b f q (h - f)).1) → (pb = (odP (gNow P L d) (sB P) b f q (h - f)).2) → (pa ≤ 16 ^ (h - f)) → (pb ≤ 16 ^ (h - f)) → (1 ≤ pb) → (CXI F2 s P L T K d) → (CXF E F2) → (CG F2 39 (setC (gNow P L d) C)) → AT g κ K2 z 4 24 126 [(0, mR 0), (1, mI ((b : Nat) : Int)), (3, mI ((t : Nat) : Int)), (4, mI ((q : Nat) : Int)), (5, mI x4), (6, mI ((bX (sB P) b : Nat) : Int)), (7, mL ((pa : Nat) : Int)), (9, mL ((pb : Nat) : Int)), (11, mI ((h : Nat) : Int))] [] (ov F2) := by
            intro f126
            induction f126 with
            | zero => intro F2 h pa pb C hf126; omega
            | succ f126 ih126 =>
            intro F2 h pa pb C hf126 hh2 hpa hpb hpa2 hpb2 hpb1 hI_F2 hX_F2 hgt_F2
            refine at_iload 128 X rfl dX11_odds_126 rfl ?_
            refine at_iload_n 129 X rfl rfl dX11_odds_128 rfl ?_
            have hpi := p16 (i := h - f) (by omega)
            refine at_icmp_gt 132 190 X dX11_odds_129 rfl (by decide) (fun h129 => ?_) (fun h129 => ?_)
            · refine at_lload 192 X rfl dX11_odds_190 rfl ?_
              refine at_lload 194 X rfl dX11_odds_192 rfl ?_
              refine at_iload 196 X rfl dX11_odds_194 rfl ?_
              refine at_callS 199 X (ct_X11_inLeastTerms hG F2 ((pa : Nat) : Int) pb x4 (by omega) (by omega) (by omega)) mo_X11_inLeastTerms w_1328 so_X11_inLeastTerms rfl rfl (crm Rt (by decide)) (Nat.le_of_ble_eq_true rfl) dX11_odds_196 rfl ?_
              rintro _ _ ⟨rfl, rfl⟩
              refine at_lret X Rt ?_ (by decide) (by decide) dX11_odds_199
              exact ⟨hc0, hc1, hc2, hc3, (by (try simp only [Int.toNat_natCast]); unfold odA; first | (rw [if_neg (by rw [fst_at (q := fun i => !ns0 (gNow P L d) (sB P) b (f + i)) hno (show (!ns0 (gNow P L d) (sB P) b (f + (h - f))) = true by rw [show f + (h - f) = h by omega, Bool.not_eq_true', ← Bool.not_eq_true]; exact h100) (by omega)]; omega)]; done) | (rw [if_pos (fst_none (fun j hj => hno j (by omega))), hpa, hpb, show h = t + 1 by omega])), _, rfl, hI_F2, hX_F2⟩
            · refine at_aload_n 133 X rfl rfl dX11_odds_132 rfl ?_
              refine m_getR 136 X f_X11_63 k_0 r_0_10 dX11_odds_133 rfl ?_
              refine at_iconst 137 X (by decide) dX11_odds_136 rfl ?_
              refine at_iload 139 X rfl dX11_odds_137 rfl ?_
              refine at_ishlV 140 X ((mk (fun i => decide (i = h)) 24 : Nat) : Int) ((ishl1 (by omega)).trans (by rw [mk1_24 (by omega)])) dX11_odds_139 rfl ?_
              refine at_callV 143 X _ 4 (ct_X4_cover hG F2 39 (Or.inr rfl) (fun i => decide (i = h))) clX4 rfl k_39 mo_X4_cover w_1577 vo_X4_cover.1 vo_X4_cover.2 rfl rfl (crm Rt (by decide)) (Nat.le_of_ble_eq_true rfl) dX11_odds_140 rfl ?_
              rintro _ _ ⟨rfl, F3, rfl, hc_F3, hk_F3, ho_F3, hqc_F3⟩
              have hgt0 := cover_CG hgt_F2 hc_F3 hk_F3 ho_F3 hqc_F3
              have hgt_F3 : CG F3 39 (setC (gNow P L d) (fun i => decide (i = h))) := hgt0
              have hT3 := hI_F2.tried (E1 := F3) (fun q h1 _ _ => hqc_F3 q (by omega) (by omega) (by omega))
              have hI_F3 := hT3.1
              have hX_F3 : CXF E F3 := hX_F2.tr hT3.2.2
              refine at_aload_n 144 X rfl rfl dX11_odds_143 rfl ?_
              refine m_getR 147 X f_X11_63 k_0 r_0_10 dX11_odds_144 rfl ?_
              refine at_aload_n 148 X rfl rfl dX11_odds_147 rfl ?_
              refine m_getM 151 X (s) f_X11_93 k_0 rn_0_15 hI_F3.now dX11_odds_148 rfl ?_
              refine m_getR 154 X f_X11_135 (kX9 hs) (rX9_7 hs) dX11_odds_151 rfl ?_
              refine at_iload_n 155 X rfl rfl dX11_odds_154 rfl ?_
              refine at_iload 157 X rfl dX11_odds_155 rfl ?_
              refine at_iload 159 X rfl dX11_odds_157 rfl ?_
              refine at_callV 162 X _ 4 (ct_X4_holdsUp hG F3 39 (Or.inr rfl) (setC (gNow P L d) (fun i => decide (i = h))) (setC_WG _ hwG) hgt_F3 hI_F3.Lw (sB P) (s + 8) (iB_8 hs) hI_F3.B hP.B b (bX (sB P) b) h (by omega) (by omega) (by omega)) clX4 rfl k_39 mo_X4_holdsUp w_1578 vo_X4_holdsUp.1 vo_X4_holdsUp.2 rfl rfl (crm Rt (by decide)) (Nat.le_of_ble_eq_true rfl) dX11_odds_159 rfl ?_
              rintro _ _ ⟨rfl, F4, rfl, hgt_F4, hq_F4⟩
              have hT3 := hI_F3.tried (E1 := F4) (fun q h1 _ h3 => hq_F4 q (by omega) h3)
              have hI_F4 := hT3.1
              have hX_F4 : CXF E F4 := hX_F3.tr hT3.2.2
              refine at_if_ne 165 184 X dX11_odds_162 rfl (by decide) (fun h162 => ?_) (fun h162 => ?_)
              · have h162 : (stP (setC (gNow P L d) (fun i => decide (i = h))) (sB P) b (bX (sB P) b) h = true) := ite_yes.mp h162
                refine at_iincV 187 X ((h + 1 : Nat) : Int) (w32_v (by omega) (by omega) (by omega)) rfl dX11_odds_184 rfl (by decide) ?_
                refine at_goto 126 X dX11_odds_187 (by decide) ?_
                exact at_sub _ (by exact ⟨rfl, rfl, rfl, rfl, rfl, rfl, rfl, rfl, rfl, trivial⟩) (ih126 F4 (h + 1) pa pb (fun i => decide (i = h)) (by first | omega | (simp only [] at *; omega)) (by omega) (by rw [show h + 1 - f = (h - f) + 1 by omega, odP_s, show f + (h - f) = h by omega]; first | (rw [if_pos (show nsC (gNow P L d) (sB P) b h = true from h162)]; assumption) | (rw [if_neg (show ¬ nsC (gNow P L d) (sB P) b h = true from h162), ← hpa])) (by rw [show h + 1 - f = (h - f) + 1 by omega, odP_s, show f + (h - f) = h by omega]; first | (rw [if_pos (show nsC (gNow P L d) (sB P) b h = true from h162)]; assumption) | (rw [if_neg (show ¬ nsC (gNow P L d) (sB P) b h = true from h162), ← hpb])) (by rw [show h + 1 - f = (h - f) + 1 by omega, p16_s]; omega) (by rw [show h + 1 - f = (h - f) + 1 by omega, p16_s]; omega) (by omega) hI_F4 hX_F4 hgt_F4)
              · have h162 : ¬ (stP (setC (gNow P L d) (fun i => decide (i = h))) (sB P) b (bX (sB P) b) h = true) := ite_no.mp h162
                refine at_lload 167 X rfl dX11_odds_165 rfl ?_
                refine at_bipush 169 X (by decide) (by decide) dX11_odds_167 rfl ?_
                refine at_iload 171 X rfl dX11_odds_169 rfl ?_
                refine at_isubV 172 X ((16 - q : Nat) : Int) (w32_v (by omega) (by omega) (by omega)) dX11_odds_171 rfl ?_
                refine at_i2l 173 X dX11_odds_172 rfl ?_
                have hm1 := Nat.mul_le_mul hpa2 (show 16 - q ≤ 16 by omega)
                refine at_lmulV 174 X ((pa * (16 - q) : Nat) : Int) (w64_v (Int.natCast_mul _ _).symm (by omega) (by omega)) dX11_odds_173 rfl ?_
                refine at_lstore 176 X dX11_odds_174 rfl (by decide) ?_
                refine at_lload 178 X rfl dX11_odds_176 rfl ?_
                refine at_ldc2 181 X (n := 16) w_1579 (by decide) (by decide) dX11_odds_178 rfl ?_
                refine at_lmulV 182 X ((pb * 16 : Nat) : Int) (w64_v (by omega) (by omega) (by omega)) dX11_odds_181 rfl ?_
                refine at_lstore 184 X dX11_odds_182 rfl (by decide) ?_
                refine at_iincV 187 X ((h + 1 : Nat) : Int) (w32_v (by omega) (by omega) (by omega)) rfl dX11_odds_184 rfl (by decide) ?_
                refine at_goto 126 X dX11_odds_187 (by decide) ?_
                exact at_sub _ (by exact ⟨rfl, rfl, rfl, rfl, rfl, rfl, rfl, rfl, rfl, trivial⟩) (ih126 F4 (h + 1) (pa * (16 - q)) (pb * 16) (fun i => decide (i = h)) (by first | omega | (simp only [] at *; omega)) (by omega) (by rw [show h + 1 - f = (h - f) + 1 by omega, odP_s, show f + (h - f) = h by omega]; first | (rw [if_pos (show nsC (gNow P L d) (sB P) b h = true from h162)]; assumption) | (rw [if_neg (show ¬ nsC (gNow P L d) (sB P) b h = true from h162), ← hpa])) (by rw [show h + 1 - f = (h - f) + 1 by omega, odP_s, show f + (h - f) = h by omega]; first | (rw [if_pos (show nsC (gNow P L d) (sB P) b h = true from h162)]; assumption) | (rw [if_neg (show ¬ nsC (gNow P L d) (sB P) b h = true from h162), ← hpb])) (by rw [show h + 1 - f = (h - f) + 1 by omega, p16_s]; omega) (by rw [show h + 1 - f = (h - f) + 1 by omega, p16_s]; omega) (by omega) hI_F4 hX_F4 hgt_F4)
          exact at_sub _ (by exact ⟨rfl, rfl, rfl, rfl, rfl, rfl, rfl, rfl, rfl, trivial⟩) (J126 _ F f 1 1 (fun _ => false) (Nat.lt_succ_self _) (by omega) (by rw [Nat.sub_self]; rfl) (by rw [Nat.sub_self]; rfl) (by rw [Nat.sub_self]; decide) (by rw [Nat.sub_self]; decide) (by first | omega | assumption | rfl) hI_F hX_F hgt_F)
        · refine at_aload_n 82 X rfl rfl dX11_odds_81 rfl ?_
          refine m_getR 85 X f_X11_63 k_0 r_0_10 dX11_odds_82 rfl ?_
          refine at_aload_n 86 X rfl rfl dX11_odds_85 rfl ?_
          refine m_getM 89 X (s) f_X11_93 k_0 rn_0_15 hI_F.now dX11_odds_86 rfl ?_
          refine m_getR 92 X f_X11_135 (kX9 hs) (rX9_7 hs) dX11_odds_89 rfl ?_
          refine at_iload_n 93 X rfl rfl dX11_odds_92 rfl ?_
          refine at_iload 95 X rfl dX11_odds_93 rfl ?_
          refine at_iload 97 X rfl dX11_odds_95 rfl ?_
          refine at_callV 100 X _ 4 (ct_X4_holdsUp hG F 39 (Or.inr rfl) (setC (gNow P L d) (fun _ => false)) (setC_WG _ hwG) hgt_F hI_F.Lw (sB P) (s + 8) (iB_8 hs) hI_F.B hP.B b (bX (sB P) b) h (by omega) (by omega) (by omega)) clX4 rfl k_39 mo_X4_holdsUp w_1578 vo_X4_holdsUp.1 vo_X4_holdsUp.2 rfl rfl (crm Rt (by decide)) (Nat.le_of_ble_eq_true rfl) dX11_odds_97 rfl ?_
          rintro _ _ ⟨rfl, F5, rfl, hgt_F5, hq_F5⟩
          have hT3 := hI_F.tried (E1 := F5) (fun q h1 _ h3 => hq_F5 q (by omega) h3)
          have hI_F5 := hT3.1
          have hX_F5 : CXF E F5 := hX_F.tr hT3.2.2
          refine at_if_ne 103 111 X dX11_odds_100 rfl (by decide) (fun h100 => ?_) (fun h100 => ?_)
          · have h100 : (stP (setC (gNow P L d) (fun _ => false)) (sB P) b (bX (sB P) b) h = true) := ite_yes.mp h100
            refine at_iincV 114 X ((h + 1 : Nat) : Int) (w32_v (by omega) (by omega) (by omega)) rfl dX11_odds_111 rfl (by decide) ?_
            refine at_goto 75 X dX11_odds_114 (by decide) ?_
            exact at_sub _ (by exact ⟨rfl, rfl, rfl, rfl, rfl, rfl, rfl, rfl, trivial⟩) (ih75 F5 (h + 1) (by first | omega | (simp only [] at *; omega)) (by omega) (fun j hj => if e : j < h - f then hno j e else by rw [show f + j = h by omega, Bool.not_eq_true, Bool.not_eq_false']; exact h100) hI_F5 hX_F5 hgt_F5)
          · have h100 : ¬ (stP (setC (gNow P L d) (fun _ => false)) (sB P) b (bX (sB P) b) h = true) := ite_no.mp h100
            refine at_lconst 104 X (v := 0) (by decide) (by decide) dX11_odds_103 rfl ?_
            refine at_lconst 105 X (v := 1) (by decide) (by decide) dX11_odds_104 rfl ?_
            refine at_iload 107 X rfl dX11_odds_105 rfl ?_
            refine at_callS 110 X (ct_X11_inLeastTerms hG F5 0 1 x4 (by omega) (by omega) (by omega)) mo_X11_inLeastTerms w_1328 so_X11_inLeastTerms rfl rfl (crm Rt (by decide)) (Nat.le_of_ble_eq_true rfl) dX11_odds_107 rfl ?_
            rintro _ _ ⟨rfl, rfl⟩
            refine at_lret X Rt ?_ (by decide) (by decide) dX11_odds_110
            exact ⟨hc0, hc1, hc2, hc3, (by (try simp only [Int.toNat_natCast]); unfold odA; first | (rw [if_neg (by rw [fst_at (q := fun i => !ns0 (gNow P L d) (sB P) b (f + i)) hno (show (!ns0 (gNow P L d) (sB P) b (f + (h - f))) = true by rw [show f + (h - f) = h by omega, Bool.not_eq_true', ← Bool.not_eq_true]; exact h100) (by omega)]; omega)]; done) | (rw [if_pos (fst_none (fun j hj => hno j (by omega))), hpa, hpb, show h = t + 1 by omega])), _, rfl, hI_F5, hX_F5⟩
      exact at_sub _ (by exact ⟨rfl, rfl, rfl, rfl, rfl, rfl, rfl, rfl, trivial⟩) (J75 _ F2 f (Nat.lt_succ_self _) (by omega) (fun j hj => by omega) hI_F2 hX_F2 hgt_F2)
theorem dX11_goUnderDrawnClouds_0 : decode cX11_goUnderDrawnClouds 0 = .ok (.aload_n 0, 1) := by decide +kernel
theorem dX11_goUnderDrawnClouds_1 : decode cX11_goUnderDrawnClouds 1 = .ok (.getfield 93, 3) := by decide +kernel
theorem dX11_goUnderDrawnClouds_4 : decode cX11_goUnderDrawnClouds 4 = .ok (.getfield 369, 3) := by decide +kernel
theorem dX11_goUnderDrawnClouds_7 : decode cX11_goUnderDrawnClouds 7 = .ok (.istore_n 3, 1) := by decide +kernel
theorem dX11_goUnderDrawnClouds_8 : decode cX11_goUnderDrawnClouds 8 = .ok (.iload_n 1, 1) := by decide +kernel
theorem dX11_goUnderDrawnClouds_9 : decode cX11_goUnderDrawnClouds 9 = .ok (.istore 4, 2) := by decide +kernel
theorem dX11_goUnderDrawnClouds_11 : decode cX11_goUnderDrawnClouds 11 = .ok (.iconst 0, 1) := by decide +kernel
theorem dX11_goUnderDrawnClouds_12 : decode cX11_goUnderDrawnClouds 12 = .ok (.istore 5, 2) := by decide +kernel
theorem dX11_goUnderDrawnClouds_14 : decode cX11_goUnderDrawnClouds 14 = .ok (.iload 5, 2) := by decide +kernel
theorem dX11_goUnderDrawnClouds_16 : decode cX11_goUnderDrawnClouds 16 = .ok (.bipush 24, 2) := by decide +kernel
theorem dX11_goUnderDrawnClouds_18 : decode cX11_goUnderDrawnClouds 18 = .ok (.if_icmp .ge 40, 3) := by decide +kernel
theorem dX11_goUnderDrawnClouds_21 : decode cX11_goUnderDrawnClouds 21 = .ok (.iload 4, 2) := by decide +kernel
theorem dX11_goUnderDrawnClouds_23 : decode cX11_goUnderDrawnClouds 23 = .ok (.ldc_w 426, 3) := by decide +kernel
theorem dX11_goUnderDrawnClouds_26 : decode cX11_goUnderDrawnClouds 26 = .ok (.imul, 1) := by decide +kernel
theorem dX11_goUnderDrawnClouds_27 : decode cX11_goUnderDrawnClouds 27 = .ok (.sipush 12345, 3) := by decide +kernel
theorem dX11_goUnderDrawnClouds_30 : decode cX11_goUnderDrawnClouds 30 = .ok (.iadd, 1) := by decide +kernel
theorem dX11_goUnderDrawnClouds_31 : decode cX11_goUnderDrawnClouds 31 = .ok (.istore 4, 2) := by decide +kernel
theorem dX11_goUnderDrawnClouds_33 : decode cX11_goUnderDrawnClouds 33 = .ok (.iload 4, 2) := by decide +kernel
theorem dX11_goUnderDrawnClouds_35 : decode cX11_goUnderDrawnClouds 35 = .ok (.bipush 16, 2) := by decide +kernel
theorem dX11_goUnderDrawnClouds_37 : decode cX11_goUnderDrawnClouds 37 = .ok (.iushr, 1) := by decide +kernel
theorem dX11_goUnderDrawnClouds_38 : decode cX11_goUnderDrawnClouds 38 = .ok (.bipush 15, 2) := by decide +kernel
theorem dX11_goUnderDrawnClouds_40 : decode cX11_goUnderDrawnClouds 40 = .ok (.iand, 1) := by decide +kernel
theorem dX11_goUnderDrawnClouds_41 : decode cX11_goUnderDrawnClouds 41 = .ok (.iload_n 2, 1) := by decide +kernel
theorem dX11_goUnderDrawnClouds_42 : decode cX11_goUnderDrawnClouds 42 = .ok (.if_icmp .ge 10, 3) := by decide +kernel
theorem dX11_goUnderDrawnClouds_45 : decode cX11_goUnderDrawnClouds 45 = .ok (.iload_n 3, 1) := by decide +kernel
theorem dX11_goUnderDrawnClouds_46 : decode cX11_goUnderDrawnClouds 46 = .ok (.iconst 1, 1) := by decide +kernel
theorem dX11_goUnderDrawnClouds_47 : decode cX11_goUnderDrawnClouds 47 = .ok (.iload 5, 2) := by decide +kernel
theorem dX11_goUnderDrawnClouds_49 : decode cX11_goUnderDrawnClouds 49 = .ok (.ishl, 1) := by decide +kernel
theorem dX11_goUnderDrawnClouds_50 : decode cX11_goUnderDrawnClouds 50 = .ok (.ior, 1) := by decide +kernel
theorem dX11_goUnderDrawnClouds_51 : decode cX11_goUnderDrawnClouds 51 = .ok (.istore_n 3, 1) := by decide +kernel
theorem dX11_goUnderDrawnClouds_52 : decode cX11_goUnderDrawnClouds 52 = .ok (.iinc 5 1, 3) := by decide +kernel
theorem dX11_goUnderDrawnClouds_55 : decode cX11_goUnderDrawnClouds 55 = .ok (.goto (-41), 3) := by decide +kernel
theorem dX11_goUnderDrawnClouds_58 : decode cX11_goUnderDrawnClouds 58 = .ok (.aload_n 0, 1) := by decide +kernel
theorem dX11_goUnderDrawnClouds_59 : decode cX11_goUnderDrawnClouds 59 = .ok (.getfield 63, 3) := by decide +kernel
theorem dX11_goUnderDrawnClouds_62 : decode cX11_goUnderDrawnClouds 62 = .ok (.iload_n 3, 1) := by decide +kernel
theorem dX11_goUnderDrawnClouds_63 : decode cX11_goUnderDrawnClouds 63 = .ok (.invokevirtual 406, 3) := by decide +kernel
theorem dX11_goUnderDrawnClouds_66 : decode cX11_goUnderDrawnClouds 66 = .ok (.aload_n 0, 1) := by decide +kernel
theorem dX11_goUnderDrawnClouds_67 : decode cX11_goUnderDrawnClouds 67 = .ok (.getfield 73, 3) := by decide +kernel
theorem dX11_goUnderDrawnClouds_70 : decode cX11_goUnderDrawnClouds 70 = .ok (.aload_n 0, 1) := by decide +kernel
theorem dX11_goUnderDrawnClouds_71 : decode cX11_goUnderDrawnClouds 71 = .ok (.getfield 63, 3) := by decide +kernel
theorem dX11_goUnderDrawnClouds_74 : decode cX11_goUnderDrawnClouds 74 = .ok (.aload_n 0, 1) := by decide +kernel
theorem dX11_goUnderDrawnClouds_75 : decode cX11_goUnderDrawnClouds 75 = .ok (.getfield 93, 3) := by decide +kernel
theorem dX11_goUnderDrawnClouds_78 : decode cX11_goUnderDrawnClouds 78 = .ok (.getfield 135, 3) := by decide +kernel
theorem dX11_goUnderDrawnClouds_81 : decode cX11_goUnderDrawnClouds 81 = .ok (.aload_n 0, 1) := by decide +kernel
theorem dX11_goUnderDrawnClouds_82 : decode cX11_goUnderDrawnClouds 82 = .ok (.getfield 33, 3) := by decide +kernel
theorem dX11_goUnderDrawnClouds_85 : decode cX11_goUnderDrawnClouds 85 = .ok (.iconst 0, 1) := by decide +kernel
theorem dX11_goUnderDrawnClouds_86 : decode cX11_goUnderDrawnClouds 86 = .ok (.invokevirtual 350, 3) := by decide +kernel
theorem dX11_goUnderDrawnClouds_89 : decode cX11_goUnderDrawnClouds 89 = .ok (.return_, 1) := by decide +kernel
theorem ct_X11_goUnderDrawnClouds {g : Gw} (hG : GF g) {z : Bool} (E : Mm) (s : Nat) (P : SP) (L : LW) (T K : LN) (d : Nat) (hI_E : CXI E s P L T K d) (C0 : Nat → Bool) (hgt_E : CG E 39 (setC (gNow P L d) C0)) (sd : Int) (q : Nat) : CT g yX11_goUnderDrawnClouds cX11_goUnderDrawnClouds 6 none 5 126 0 0 K2 z [mR 0, mI sd, mI ((q : Nat) : Int)] (ov E) K2 z (fun r D' => r = none ∧ ∃ E1, D' = ov E1 ∧ CDn E1 54 (setC (gNow P L d) (drC P sd q)) (sB P) T 24 ∧ CG E1 39 (setC (gNow P L d) (drC P sd q)) ∧ ∀ q', ¬ (39 ≤ q' ∧ q' ≤ 47) → ¬ (54 ≤ q' ∧ q' ≤ 67) → q' ≠ 7 → E1 q' = E q') := by
  refine CT.mk hG (by decide +kernel) (Nat.le_of_ble_eq_true rfl) (fun κ X Rt _ ok => ?_)
  have hs := hI_E.sa
  have hP := hI_E.WS
  have hW40 := hP.W
  have hN10 := hP.N
  have hN8 := hP.B.N
  have hX_E : CXF E E := CXF.rf
  have hwG := gNow_WG hI_E
  refine at_aload_n 1 X rfl rfl dX11_goUnderDrawnClouds_0 rfl ?_
  refine m_getM 4 X (s) f_X11_93 k_0 rn_0_15 hI_E.now dX11_goUnderDrawnClouds_1 rfl ?_
  refine m_getIV 7 X ((mk (sC P) 24 : Nat) : Int) hI_E.S.C f_X11_369 (kX9 hs) (nX9_15 hs) dX11_goUnderDrawnClouds_4 rfl ?_
  have := mk24 (p := sC P) (Nat.le_refl 24)
  refine at_istore_n 8 X rfl dX11_goUnderDrawnClouds_7 rfl (by decide) ?_
  refine at_iload_n 9 X rfl rfl dX11_goUnderDrawnClouds_8 rfl ?_
  refine at_istore 11 X dX11_goUnderDrawnClouds_9 rfl (by decide) ?_
  refine at_iconst 12 X (by decide) dX11_goUnderDrawnClouds_11 rfl ?_
  refine at_istore 14 X dX11_goUnderDrawnClouds_12 rfl (by decide) ?_
  have J14 : ∀ (f14 : Nat) (h : Nat) (v : Int) (cl : Nat), 24 - h < f14 → (h ≤ 24) → (v = sdN sd h) → (cl = mk (sC P) 24 ||| mk (drB sd q) h) → AT g κ K2 z 0 0 14 [(0, mR 0), (2, mI ((q : Nat) : Int)), (3, mI ((cl : Nat) : Int)), (4, mI v), (5, mI ((h : Nat) : Int))] [] (ov E) := by
    intro f14
    induction f14 with
    | zero => intro h v cl hf14; omega
    | succ f14 ih14 =>
    intro h v cl hf14 hh hv hcl
    have hsc := mk24 (p := sC P) (Nat.le_refl 24)
    refine at_iload 16 X rfl dX11_goUnderDrawnClouds_14 rfl ?_
    refine at_bipush 18 X (by decide) (by decide) dX11_goUnderDrawnClouds_16 rfl ?_
    refine at_icmp_ge 21 58 X dX11_goUnderDrawnClouds_18 rfl (by decide) (fun h18 => ?_) (fun h18 => ?_)
    · have hcl2 : cl = mk (drC P sd q) 24 := by rw [hcl, show h = 24 by omega, mk_or]; rfl
      subst hcl2
      refine at_aload_n 59 X rfl rfl dX11_goUnderDrawnClouds_58 rfl ?_
      refine m_getR 62 X f_X11_63 k_0 r_0_10 dX11_goUnderDrawnClouds_59 rfl ?_
      refine at_iload_n 63 X rfl rfl dX11_goUnderDrawnClouds_62 rfl ?_
      refine at_callV 66 X _ 4 (ct_X4_cover hG E 39 (Or.inr rfl) (drC P sd q)) clX4 rfl k_39 mo_X4_cover w_1577 vo_X4_cover.1 vo_X4_cover.2 rfl rfl (crm Rt (by decide)) (Nat.le_of_ble_eq_true rfl) dX11_goUnderDrawnClouds_63 rfl ?_
      rintro _ _ ⟨rfl, F1, rfl, hc_F1, hk_F1, ho_F1, hqc_F1⟩
      have hgt0 := cover_CG hgt_E hc_F1 hk_F1 ho_F1 hqc_F1
      have hgt_F1 : CG F1 39 (setC (gNow P L d) (drC P sd q)) := hgt0
      have hqq_F1 : ∀ q', ¬ (39 ≤ q' ∧ q' ≤ 47) → F1 q' = E q' := fun q' h => hqc_F1 q' (by omega) (by omega) (by omega)
      have hnow_F1 : F1 0 15 = (s : Int) := by rw [hqq_F1 0 (by decide)]; exact hI_E.now
      have hl_F1 : CL F1 4 L := hI_E.Lw.fr (fun q' h1 h2 => hqq_F1 q' (by omega))
      have hB_F1 : CB F1 (s + 8) (sB P) := hI_E.B.fr (fun q' h1 h2 => hqq_F1 q' (by omega))
      have hN_F1 : CN F1 12 T := hI_E.Tn.fr (fun q' h1 h2 => hqq_F1 q' (by omega))
      refine at_aload_n 67 X rfl rfl dX11_goUnderDrawnClouds_66 rfl ?_
      refine m_getR 70 X f_X11_73 k_0 r_0_12 dX11_goUnderDrawnClouds_67 rfl ?_
      refine at_aload_n 71 X rfl rfl dX11_goUnderDrawnClouds_70 rfl ?_
      refine m_getR 74 X f_X11_63 k_0 r_0_10 dX11_goUnderDrawnClouds_71 rfl ?_
      refine at_aload_n 75 X rfl rfl dX11_goUnderDrawnClouds_74 rfl ?_
      refine m_getM 78 X (s) f_X11_93 k_0 rn_0_15 hnow_F1 dX11_goUnderDrawnClouds_75 rfl ?_
      refine m_getR 81 X f_X11_135 (kX9 hs) (rX9_7 hs) dX11_goUnderDrawnClouds_78 rfl ?_
      refine at_aload_n 82 X rfl rfl dX11_goUnderDrawnClouds_81 rfl ?_
      refine m_getR 85 X f_X11_33 k_0 r_0_4 dX11_goUnderDrawnClouds_82 rfl ?_
      refine at_iconst 86 X (by decide) dX11_goUnderDrawnClouds_85 rfl ?_
      refine at_callV 89 X _ 3 (ct_X3_go hG F1 54 (Or.inr rfl) 39 (Or.inr rfl) (setC (gNow P L d) (drC P sd q)) (setC_WG _ hwG) hgt_F1 hl_F1 (sB P) (s + 8) (iB_8 hs) hB_F1 hP.B T hN_F1 hI_E.WT 0 (by decide)) clX3 rfl k_54 mo_X3_go w_715 vo_X3_go.1 vo_X3_go.2 rfl rfl (crm Rt (by decide)) (Nat.le_of_ble_eq_true rfl) dX11_goUnderDrawnClouds_86 rfl ?_
      rintro _ _ ⟨rfl, F2, n, rfl, hn, hn2, hdn, hgt_F2, hq_F2⟩
      have hn24 : n = 24 := by
        rcases hn2 with h | h
        · exact h
        · exact absurd (Nat.and_zero _) h
      subst hn24
      refine at_vret X Rt ?_ (Nat.le_refl _) (Nat.le_refl _) dX11_goUnderDrawnClouds_89
      exact ⟨rfl, F2, rfl, hdn, hgt_F2, fun q' h1 h2 h3 => (hq_F2 q' (by omega) (by omega) (by omega) (by omega) (by omega) (by omega) (by omega) (by omega)).trans (hqq_F1 q' h1)⟩
    · refine at_iload 23 X rfl dX11_goUnderDrawnClouds_21 rfl ?_
      refine at_ldcw 26 X (n := 1103515245) w_1591 (by decide) (by decide) dX11_goUnderDrawnClouds_23 rfl ?_
      refine at_imulV 27 X (w32 (v * 1103515245)) rfl dX11_goUnderDrawnClouds_26 rfl ?_
      refine at_sipush 30 X (by decide) (by decide) dX11_goUnderDrawnClouds_27 rfl ?_
      refine at_iaddV 31 X (w32 (w32 (v * 1103515245) + 12345)) rfl dX11_goUnderDrawnClouds_30 rfl ?_
      refine at_istore 33 X dX11_goUnderDrawnClouds_31 rfl (by decide) ?_
      refine at_iload 35 X rfl dX11_goUnderDrawnClouds_33 rfl ?_
      refine at_bipush 37 X (by decide) (by decide) dX11_goUnderDrawnClouds_35 rfl ?_
      refine at_iushrV 38 X (iushr (w32 (w32 (v * 1103515245) + 12345)) 16) rfl dX11_goUnderDrawnClouds_37 rfl ?_
      refine at_bipush 40 X (by decide) (by decide) dX11_goUnderDrawnClouds_38 rfl ?_
      refine at_iandV 41 X (iand (iushr (w32 (w32 (v * 1103515245) + 12345)) 16) 15) rfl dX11_goUnderDrawnClouds_40 rfl ?_
      refine at_iload_n 42 X rfl rfl dX11_goUnderDrawnClouds_41 rfl ?_
      refine at_icmp_ge 45 52 X dX11_goUnderDrawnClouds_42 rfl (by decide) (fun h42 => ?_) (fun h42 => ?_)
      · have hdr : ¬ drB sd q h = true := by unfold drB; rw [decide_eq_true_iff]; show ¬ iand (iushr (w32 (w32 (sdN sd h * 1103515245) + 12345)) 16) 15 < (q : Int); rw [← hv]; omega
        refine at_iincV 55 X ((h + 1 : Nat) : Int) (w32_v (by omega) (by omega) (by omega)) rfl dX11_goUnderDrawnClouds_52 rfl (by decide) ?_
        refine at_goto 14 X dX11_goUnderDrawnClouds_55 (by decide) ?_
        exact at_sub _ (by exact ⟨rfl, rfl, rfl, rfl, rfl, trivial⟩) (ih14 (h + 1) (w32 (w32 (v * 1103515245) + 12345)) cl (by first | omega | (simp only [] at *; omega)) (by first | omega | assumption) (by rw [hv]; rfl) (by first | rfl | (rw [hcl, mk_f hdr])))
      · have hdr : drB sd q h = true := decide_eq_true (show iand (iushr (w32 (w32 (sdN sd h * 1103515245) + 12345)) 16) 15 < (q : Int) from by rw [← hv]; omega)
        refine at_iload_n 46 X rfl rfl dX11_goUnderDrawnClouds_45 rfl ?_
        refine at_iconst 47 X (by decide) dX11_goUnderDrawnClouds_46 rfl ?_
        refine at_iload 49 X rfl dX11_goUnderDrawnClouds_47 rfl ?_
        refine at_ishlV 50 X ((2 ^ h : Nat) : Int) (ishl1 (by omega)) dX11_goUnderDrawnClouds_49 rfl ?_
        refine at_iorV 51 X ((mk (sC P) 24 ||| mk (drB sd q) (h + 1) : Nat) : Int) (by rw [hcl]; have h1 := mk24 (p := drB sd q) (n := h) (by omega); rw [ior_nat (or31 (by omega) (by omega)) (p2_31 (by omega)), mk_t hdr, Nat.or_assoc]) dX11_goUnderDrawnClouds_50 rfl ?_
        refine at_istore_n 52 X rfl dX11_goUnderDrawnClouds_51 rfl (by decide) ?_
        refine at_iincV 55 X ((h + 1 : Nat) : Int) (w32_v (by omega) (by omega) (by omega)) rfl dX11_goUnderDrawnClouds_52 rfl (by decide) ?_
        refine at_goto 14 X dX11_goUnderDrawnClouds_55 (by decide) ?_
        exact at_sub _ (by exact ⟨rfl, rfl, rfl, rfl, rfl, trivial⟩) (ih14 (h + 1) (w32 (w32 (v * 1103515245) + 12345)) (mk (sC P) 24 ||| mk (drB sd q) (h + 1)) (by first | omega | (simp only [] at *; omega)) (by first | omega | assumption) (by rw [hv]; rfl) (by first | rfl | (rw [hcl, mk_f hdr])))
  exact at_sub _ (by exact ⟨rfl, rfl, rfl, rfl, rfl, trivial⟩) (J14 _ 0 sd (mk (sC P) 24) (Nat.lt_succ_self _) (by first | omega | assumption | rfl) rfl (by rw [mk_0, Nat.or_zero]))
theorem dX11_drawn_0 : decode cX11_drawn 0 = .ok (.aload_n 0, 1) := by decide +kernel
theorem dX11_drawn_1 : decode cX11_drawn 1 = .ok (.iload_n 2, 1) := by decide +kernel
theorem dX11_drawn_2 : decode cX11_drawn 2 = .ok (.iconst 0, 1) := by decide +kernel
theorem dX11_drawn_3 : decode cX11_drawn 3 = .ok (.bipush 16, 2) := by decide +kernel
theorem dX11_drawn_5 : decode cX11_drawn 5 = .ok (.invokestatic 253, 3) := by decide +kernel
theorem dX11_drawn_8 : decode cX11_drawn 8 = .ok (.invokevirtual 164, 3) := by decide +kernel
theorem dX11_drawn_11 : decode cX11_drawn 11 = .ok (.aload_n 0, 1) := by decide +kernel
theorem dX11_drawn_12 : decode cX11_drawn 12 = .ok (.invokevirtual 309, 3) := by decide +kernel
theorem dX11_drawn_15 : decode cX11_drawn 15 = .ok (.aload_n 0, 1) := by decide +kernel
theorem dX11_drawn_16 : decode cX11_drawn 16 = .ok (.iload_n 1, 1) := by decide +kernel
theorem dX11_drawn_17 : decode cX11_drawn 17 = .ok (.iload_n 2, 1) := by decide +kernel
theorem dX11_drawn_18 : decode cX11_drawn 18 = .ok (.invokevirtual 415, 3) := by decide +kernel
theorem dX11_drawn_21 : decode cX11_drawn 21 = .ok (.aload_n 0, 1) := by decide +kernel
theorem dX11_drawn_22 : decode cX11_drawn 22 = .ok (.getfield 73, 3) := by decide +kernel
theorem dX11_drawn_25 : decode cX11_drawn 25 = .ok (.getfield 284, 3) := by decide +kernel
theorem dX11_drawn_28 : decode cX11_drawn 28 = .ok (.ireturn, 1) := by decide +kernel
theorem ct_X11_drawn {g : Gw} (hG : GF g) {z : Bool} (E : Mm) (s : Nat) (P : SP) (L : LW) (T K : LN) (d : Nat) (hI_E : CXI E s P L T K d) (x0 x1 : Int) : CTX g yX11_drawn cX11_drawn 3 (some .int) 7 151 1 6 K2 z [mR 0, mI x0, mI x1] (ov E) K2 z (fun r' D' => (0 ≤ x1 ∧ x1 ≤ 16) ∧ r' = some (mI (mk (fun k => decide (¬ dF (dyP (setC (gNow P L d) (drC P x0 x1.toNat)) (sB P) T 24) k = -1)) 8 : Nat)) ∧ ∃ E1, D' = ov E1 ∧ CXI E1 s P L T K d ∧ CXF E E1) (fun X D' => (¬ (0 ≤ x1 ∧ x1 ≤ 16) ∧ X = "java/lang/IllegalArgumentException" ∧ D' = ov (bumpE E 2))) := by
  refine CTX.mk hG (by decide +kernel) (Nat.le_of_ble_eq_true rfl) (fun κ X Rt Rx ok => ?_)
  have hs := hI_E.sa
  have hP := hI_E.WS
  have hW40 := hP.W
  have hN10 := hP.N
  have hN8 := hP.B.N
  have hX_E : CXF E E := CXF.rf
  have hwG := gNow_WG hI_E
  have hgw : gW (gNow P L d) = sW P := rfl
  have hgn : gN (gNow P L d) = sN P := rfl
  refine at_aload_n 1 X rfl rfl dX11_drawn_0 rfl ?_
  refine at_iload_n 2 X rfl rfl dX11_drawn_1 rfl ?_
  refine at_iconst 3 X (by decide) dX11_drawn_2 rfl ?_
  refine at_bipush 5 X (by decide) (by decide) dX11_drawn_3 rfl ?_
  refine at_callS 8 X (ct_X11_isWithin hG _ _ _) mo_X11_isWithin w_1211 so_X11_isWithin rfl rfl (crm Rt (by decide)) (Nat.le_of_ble_eq_true rfl) dX11_drawn_5 rfl ?_
  rintro _ _ ⟨rfl, rfl⟩
  refine at_callVX 11 X Rt Rx _ 11 (ct_X11_need hG E (if 0 ≤ x1 ∧ x1 ≤ 16 then 1 else 0)) clX11 rfl k_0 mo_X11_need w_863 vo_X11_need.1 vo_X11_need.2 rfl rfl (by decide) (Nat.le_of_ble_eq_true rfl) dX11_drawn_8 rfl (fun _ _ h => ⟨(fun q => ite_no.mp h.1 (by omega)), h.2.1, h.2.2⟩) ?_
  rintro _ _ ⟨hq, rfl, rfl⟩
  have hc0 : 0 ≤ x1 ∧ x1 ≤ 16 := by have := ite_yes.mp hq; omega
  obtain ⟨q, rfl⟩ : ∃ q : Nat, x1 = (q : Int) := ⟨x1.toNat, by omega⟩
  refine at_aload_n 12 X rfl rfl dX11_drawn_11 rfl ?_
  refine at_callV 15 X _ 11 (ct_X11_prepareTrial hG E s P L T K d hI_E) clX11 rfl k_0 mo_X11_prepareTrial w_1433 vo_X11_prepareTrial.1 vo_X11_prepareTrial.2 rfl rfl (crm Rt (by decide)) (Nat.le_of_ble_eq_true rfl) dX11_drawn_12 rfl ?_
  rintro _ _ ⟨rfl, F1, rfl, hgt_F1, hq_F1⟩
  have hT3 := hI_E.tried (E1 := F1) (fun q h1 _ _ => hq_F1 q h1)
  have hI_F1 := hT3.1
  have hX_F1 : CXF E F1 := hX_E.tr hT3.2.2
  refine at_aload_n 16 X rfl rfl dX11_drawn_15 rfl ?_
  refine at_iload_n 17 X rfl rfl dX11_drawn_16 rfl ?_
  refine at_iload_n 18 X rfl rfl dX11_drawn_17 rfl ?_
  refine at_callV 21 X _ 11 (ct_X11_goUnderDrawnClouds hG F1 s P L T K d hI_F1 (sC P) hgt_F1 x0 q) clX11 rfl k_0 mo_X11_goUnderDrawnClouds w_1587 vo_X11_goUnderDrawnClouds.1 vo_X11_goUnderDrawnClouds.2 rfl rfl (crm Rt (by decide)) (Nat.le_of_ble_eq_true rfl) dX11_drawn_18 rfl ?_
  rintro _ _ ⟨rfl, F2, rfl, hdn_F2, hgt_F2, hq_F2⟩
  have hT3 := hI_F1.tried (E1 := F2) hq_F2
  have hI_F2 := hT3.1
  have hX_F2 : CXF E F2 := hX_F1.tr hT3.2.2
  refine at_aload_n 22 X rfl rfl dX11_drawn_21 rfl ?_
  refine m_getR 25 X f_X11_73 k_0 r_0_12 dX11_drawn_22 rfl ?_
  refine m_getIV 28 X ((mk (fun k => decide (¬ dF (dyP (setC (gNow P L d) (drC P x0 q)) (sB P) T 24) k = -1)) 8 : Nat) : Int) hdn_F2.1.2.2.2.2 f_X11_284 k_54 rn_54_6 dX11_drawn_25 rfl ?_
  have hmk8 := mk_le (p := fun k => decide (¬ dF (dyP (setC (gNow P L d) (drC P x0 q)) (sB P) T 24) k = -1)) (n := 8) (k := 8) (Nat.le_refl 8)
  refine at_iret X Rt ?_ (by decide) (by decide) dX11_drawn_28
  exact ⟨hc0, (by rfl), _, rfl, hI_F2, hX_F2⟩
noncomputable def spD (P : SP) (L : LW) (T : LN) (d : Nat) (sd : Int) (q i : Nat) : DS := dyP (setC (gNow P L d) (drC P (w32 (sd + (i : Int))) q)) (sB P) T 24
noncomputable def spL (P : SP) (L : LW) (T : LN) (d : Nat) (sd : Int) (q : Nat) : Nat → Int := itr (fun i v => if v ≤ (dN (spD P L T d sd q i) : Int) then v else (dN (spD P L T d sd q i) : Int)) 8
noncomputable def spM (P : SP) (L : LW) (T : LN) (d : Nat) (sd : Int) (q : Nat) : Nat → Int := itr (fun i v => if v < (dN (spD P L T d sd q i) : Int) then (dN (spD P L T d sd q i) : Int) else v) 0
noncomputable def spB (P : SP) (L : LW) (T : LN) (d : Nat) (sd : Int) (q b : Nat) : Nat → Nat := cntp (fun i => decide (¬ dF (spD P L T d sd q i) b = -1))
theorem dX11_span_0 : decode cX11_span 0 = .ok (.aload_n 0, 1) := by decide +kernel
theorem dX11_span_1 : decode cX11_span 1 = .ok (.iload_n 2, 1) := by decide +kernel
theorem dX11_span_2 : decode cX11_span 2 = .ok (.iconst 1, 1) := by decide +kernel
theorem dX11_span_3 : decode cX11_span 3 = .ok (.bipush 40, 2) := by decide +kernel
theorem dX11_span_5 : decode cX11_span 5 = .ok (.invokestatic 253, 3) := by decide +kernel
theorem dX11_span_8 : decode cX11_span 8 = .ok (.ifCond .eq 17, 3) := by decide +kernel
theorem dX11_span_11 : decode cX11_span 11 = .ok (.iload_n 3, 1) := by decide +kernel
theorem dX11_span_12 : decode cX11_span 12 = .ok (.iconst 0, 1) := by decide +kernel
theorem dX11_span_13 : decode cX11_span 13 = .ok (.bipush 16, 2) := by decide +kernel
theorem dX11_span_15 : decode cX11_span 15 = .ok (.invokestatic 253, 3) := by decide +kernel
theorem dX11_span_18 : decode cX11_span 18 = .ok (.ifCond .eq 7, 3) := by decide +kernel
theorem dX11_span_21 : decode cX11_span 21 = .ok (.iconst 1, 1) := by decide +kernel
theorem dX11_span_22 : decode cX11_span 22 = .ok (.goto 4, 3) := by decide +kernel
theorem dX11_span_25 : decode cX11_span 25 = .ok (.iconst 0, 1) := by decide +kernel
theorem dX11_span_26 : decode cX11_span 26 = .ok (.invokevirtual 164, 3) := by decide +kernel
theorem dX11_span_29 : decode cX11_span 29 = .ok (.aload_n 0, 1) := by decide +kernel
theorem dX11_span_30 : decode cX11_span 30 = .ok (.iload 4, 2) := by decide +kernel
theorem dX11_span_32 : decode cX11_span 32 = .ok (.iconst 2, 1) := by decide +kernel
theorem dX11_span_33 : decode cX11_span 33 = .ok (.invokevirtual 199, 3) := by decide +kernel
theorem dX11_span_36 : decode cX11_span 36 = .ok (.aload_n 0, 1) := by decide +kernel
theorem dX11_span_37 : decode cX11_span 37 = .ok (.iload 5, 2) := by decide +kernel
theorem dX11_span_39 : decode cX11_span 39 = .ok (.iconst 0, 1) := by decide +kernel
theorem dX11_span_40 : decode cX11_span 40 = .ok (.aload_n 0, 1) := by decide +kernel
theorem dX11_span_41 : decode cX11_span 41 = .ok (.getfield 93, 3) := by decide +kernel
theorem dX11_span_44 : decode cX11_span 44 = .ok (.getfield 135, 3) := by decide +kernel
theorem dX11_span_47 : decode cX11_span 47 = .ok (.getfield 139, 3) := by decide +kernel
theorem dX11_span_50 : decode cX11_span 50 = .ok (.iconst 1, 1) := by decide +kernel
theorem dX11_span_51 : decode cX11_span 51 = .ok (.isub, 1) := by decide +kernel
theorem dX11_span_52 : decode cX11_span 52 = .ok (.invokestatic 253, 3) := by decide +kernel
theorem dX11_span_55 : decode cX11_span 55 = .ok (.invokevirtual 164, 3) := by decide +kernel
theorem dX11_span_58 : decode cX11_span 58 = .ok (.aload_n 0, 1) := by decide +kernel
theorem dX11_span_59 : decode cX11_span 59 = .ok (.invokevirtual 309, 3) := by decide +kernel
theorem dX11_span_62 : decode cX11_span 62 = .ok (.bipush 8, 2) := by decide +kernel
theorem dX11_span_64 : decode cX11_span 64 = .ok (.istore 6, 2) := by decide +kernel
theorem dX11_span_66 : decode cX11_span 66 = .ok (.iconst 0, 1) := by decide +kernel
theorem dX11_span_67 : decode cX11_span 67 = .ok (.istore 7, 2) := by decide +kernel
theorem dX11_span_69 : decode cX11_span 69 = .ok (.iconst 0, 1) := by decide +kernel
theorem dX11_span_70 : decode cX11_span 70 = .ok (.istore 8, 2) := by decide +kernel
theorem dX11_span_72 : decode cX11_span 72 = .ok (.iconst 0, 1) := by decide +kernel
theorem dX11_span_73 : decode cX11_span 73 = .ok (.istore 9, 2) := by decide +kernel
theorem dX11_span_75 : decode cX11_span 75 = .ok (.iload 9, 2) := by decide +kernel
theorem dX11_span_77 : decode cX11_span 77 = .ok (.iload_n 2, 1) := by decide +kernel
theorem dX11_span_78 : decode cX11_span 78 = .ok (.if_icmp .ge 63, 3) := by decide +kernel
theorem dX11_span_81 : decode cX11_span 81 = .ok (.aload_n 0, 1) := by decide +kernel
theorem dX11_span_82 : decode cX11_span 82 = .ok (.iload_n 1, 1) := by decide +kernel
theorem dX11_span_83 : decode cX11_span 83 = .ok (.iload 9, 2) := by decide +kernel
theorem dX11_span_85 : decode cX11_span 85 = .ok (.iadd, 1) := by decide +kernel
theorem dX11_span_86 : decode cX11_span 86 = .ok (.iload_n 3, 1) := by decide +kernel
theorem dX11_span_87 : decode cX11_span 87 = .ok (.invokevirtual 415, 3) := by decide +kernel
theorem dX11_span_90 : decode cX11_span 90 = .ok (.iload 6, 2) := by decide +kernel
theorem dX11_span_92 : decode cX11_span 92 = .ok (.aload_n 0, 1) := by decide +kernel
theorem dX11_span_93 : decode cX11_span 93 = .ok (.getfield 73, 3) := by decide +kernel
theorem dX11_span_96 : decode cX11_span 96 = .ok (.getfield 287, 3) := by decide +kernel
theorem dX11_span_99 : decode cX11_span 99 = .ok (.invokestatic 418, 3) := by decide +kernel
theorem dX11_span_102 : decode cX11_span 102 = .ok (.istore 6, 2) := by decide +kernel
theorem dX11_span_104 : decode cX11_span 104 = .ok (.iload 7, 2) := by decide +kernel
theorem dX11_span_106 : decode cX11_span 106 = .ok (.aload_n 0, 1) := by decide +kernel
theorem dX11_span_107 : decode cX11_span 107 = .ok (.getfield 73, 3) := by decide +kernel
theorem dX11_span_110 : decode cX11_span 110 = .ok (.getfield 287, 3) := by decide +kernel
theorem dX11_span_113 : decode cX11_span 113 = .ok (.invokestatic 423, 3) := by decide +kernel
theorem dX11_span_116 : decode cX11_span 116 = .ok (.istore 7, 2) := by decide +kernel
theorem dX11_span_118 : decode cX11_span 118 = .ok (.iload 8, 2) := by decide +kernel
theorem dX11_span_120 : decode cX11_span 120 = .ok (.aload_n 0, 1) := by decide +kernel
theorem dX11_span_121 : decode cX11_span 121 = .ok (.getfield 73, 3) := by decide +kernel
theorem dX11_span_124 : decode cX11_span 124 = .ok (.getfield 284, 3) := by decide +kernel
theorem dX11_span_127 : decode cX11_span 127 = .ok (.iload 5, 2) := by decide +kernel
theorem dX11_span_129 : decode cX11_span 129 = .ok (.ishr, 1) := by decide +kernel
theorem dX11_span_130 : decode cX11_span 130 = .ok (.iconst 1, 1) := by decide +kernel
theorem dX11_span_131 : decode cX11_span 131 = .ok (.iand, 1) := by decide +kernel
theorem dX11_span_132 : decode cX11_span 132 = .ok (.iadd, 1) := by decide +kernel
theorem dX11_span_133 : decode cX11_span 133 = .ok (.istore 8, 2) := by decide +kernel
theorem dX11_span_135 : decode cX11_span 135 = .ok (.iinc 9 1, 3) := by decide +kernel
theorem dX11_span_138 : decode cX11_span 138 = .ok (.goto (-63), 3) := by decide +kernel
theorem dX11_span_141 : decode cX11_span 141 = .ok (.iload 4, 2) := by decide +kernel
theorem dX11_span_143 : decode cX11_span 143 = .ok (.lookupswitch 31 #[(0, 25), (1, 28)], 25) := by decide +kernel
theorem dX11_span_168 : decode cX11_span 168 = .ok (.iload 6, 2) := by decide +kernel
theorem dX11_span_170 : decode cX11_span 170 = .ok (.ireturn, 1) := by decide +kernel
theorem dX11_span_171 : decode cX11_span 171 = .ok (.iload 7, 2) := by decide +kernel
theorem dX11_span_173 : decode cX11_span 173 = .ok (.ireturn, 1) := by decide +kernel
theorem dX11_span_174 : decode cX11_span 174 = .ok (.iload 8, 2) := by decide +kernel
theorem dX11_span_176 : decode cX11_span 176 = .ok (.ireturn, 1) := by decide +kernel
theorem ct_X11_span {g : Gw} (hG : GF g) {z : Bool} (E : Mm) (s : Nat) (P : SP) (L : LW) (T K : LN) (d : Nat) (hI_E : CXI E s P L T K d) (x0 x1 x2 x3 x4 : Int) : CTX g yX11_span cX11_span 10 (some .int) 8 151 3 18 K2 z [mR 0, mI x0, mI x1, mI x2, mI x3, mI x4] (ov E) K2 z (fun r' D' => ((1 ≤ x1 ∧ x1 ≤ 40) ∧ (0 ≤ x2 ∧ x2 ≤ 16)) ∧ (0 ≤ x3 ∧ x3 ≤ 2) ∧ (0 ≤ x4 ∧ x4 ≤ (bN (sB P) : Int) - 1) ∧ r' = some (mI (if x3 = 0 then spL P L T d x0 x2.toNat x1.toNat else if x3 = 1 then spM P L T d x0 x2.toNat x1.toNat else (spB P L T d x0 x2.toNat x4.toNat x1.toNat : Nat))) ∧ ∃ E1, D' = ov E1 ∧ CXI E1 s P L T K d ∧ CXF E E1) (fun X D' => (¬ ((1 ≤ x1 ∧ x1 ≤ 40) ∧ (0 ≤ x2 ∧ x2 ≤ 16)) ∧ X = "java/lang/IllegalArgumentException" ∧ D' = ov (bumpE E 2)) ∨ (((1 ≤ x1 ∧ x1 ≤ 40) ∧ (0 ≤ x2 ∧ x2 ≤ 16)) ∧ ¬ (0 ≤ x3 ∧ x3 ≤ 2) ∧ X = "java/lang/IllegalArgumentException" ∧ D' = ov (bumpE E 2)) ∨ (((1 ≤ x1 ∧ x1 ≤ 40) ∧ (0 ≤ x2 ∧ x2 ≤ 16)) ∧ (0 ≤ x3 ∧ x3 ≤ 2) ∧ ¬ (0 ≤ x4 ∧ x4 ≤ (bN (sB P) : Int) - 1) ∧ X = "java/lang/IllegalArgumentException" ∧ D' = ov (bumpE E 2))) := by
  refine CTX.mk hG (by decide +kernel) (Nat.le_of_ble_eq_true rfl) (fun κ X Rt Rx ok => ?_)
  have hs := hI_E.sa
  have hP := hI_E.WS
  have hW40 := hP.W
  have hN10 := hP.N
  have hN8 := hP.B.N
  have hX_E : CXF E E := CXF.rf
  have hwG := gNow_WG hI_E
  have hgw : gW (gNow P L d) = sW P := rfl
  have hgn : gN (gNow P L d) = sN P := rfl
  refine at_aload_n 1 X rfl rfl dX11_span_0 rfl ?_
  refine at_iload_n 2 X rfl rfl dX11_span_1 rfl ?_
  refine at_iconst 3 X (by decide) dX11_span_2 rfl ?_
  refine at_bipush 5 X (by decide) (by decide) dX11_span_3 rfl ?_
  refine at_callS 8 X (ct_X11_isWithin hG _ _ _) mo_X11_isWithin w_1211 so_X11_isWithin rfl rfl (crm Rt (by decide)) (Nat.le_of_ble_eq_true rfl) dX11_span_5 rfl ?_
  rintro _ _ ⟨rfl, rfl⟩
  refine at_if_eq 11 25 X dX11_span_8 rfl (by decide) (fun h8 => ?_) (fun h8 => ?_)
  · have h8 : ¬ (1 ≤ x1 ∧ x1 ≤ 40) := ite_no.mp h8
    refine at_iconst 26 X (by decide) dX11_span_25 rfl ?_
    refine at_callVX 29 X Rt Rx _ 11 (ct_X11_need hG E 0) clX11 rfl k_0 mo_X11_need w_863 vo_X11_need.1 vo_X11_need.2 rfl rfl (by decide) (Nat.le_of_ble_eq_true rfl) dX11_span_26 rfl (fun _ _ h => Or.inl ⟨(by omega), h.2.1, h.2.2⟩) ?_
    rintro _ _ ⟨hq, _, _⟩
    exact absurd rfl hq
  · have h8 : (1 ≤ x1 ∧ x1 ≤ 40) := ite_yes.mp h8
    refine at_iload_n 12 X rfl rfl dX11_span_11 rfl ?_
    refine at_iconst 13 X (by decide) dX11_span_12 rfl ?_
    refine at_bipush 15 X (by decide) (by decide) dX11_span_13 rfl ?_
    refine at_callS 18 X (ct_X11_isWithin hG _ _ _) mo_X11_isWithin w_1211 so_X11_isWithin rfl rfl (crm Rt (by decide)) (Nat.le_of_ble_eq_true rfl) dX11_span_15 rfl ?_
    rintro _ _ ⟨rfl, rfl⟩
    refine at_if_eq 21 25 X dX11_span_18 rfl (by decide) (fun h18 => ?_) (fun h18 => ?_)
    · have h18 : ¬ (0 ≤ x2 ∧ x2 ≤ 16) := ite_no.mp h18
      refine at_iconst 26 X (by decide) dX11_span_25 rfl ?_
      refine at_callVX 29 X Rt Rx _ 11 (ct_X11_need hG E 0) clX11 rfl k_0 mo_X11_need w_863 vo_X11_need.1 vo_X11_need.2 rfl rfl (by decide) (Nat.le_of_ble_eq_true rfl) dX11_span_26 rfl (fun _ _ h => Or.inl ⟨(by omega), h.2.1, h.2.2⟩) ?_
      rintro _ _ ⟨hq, _, _⟩
      exact absurd rfl hq
    · have h18 : (0 ≤ x2 ∧ x2 ≤ 16) := ite_yes.mp h18
      refine at_iconst 22 X (by decide) dX11_span_21 rfl ?_
      refine at_goto 26 X dX11_span_22 (by decide) ?_
      refine at_callVX 29 X Rt Rx _ 11 (ct_X11_need hG E 1) clX11 rfl k_0 mo_X11_need w_863 vo_X11_need.1 vo_X11_need.2 rfl rfl (by decide) (Nat.le_of_ble_eq_true rfl) dX11_span_26 rfl (fun _ _ h => absurd h.1 (by decide)) ?_
      rintro _ _ ⟨_, rfl, rfl⟩
      have hc0 : (1 ≤ x1 ∧ x1 ≤ 40) ∧ (0 ≤ x2 ∧ x2 ≤ 16) := by omega
      refine at_aload_n 30 X rfl rfl dX11_span_29 rfl ?_
      refine at_iload 32 X rfl dX11_span_30 rfl ?_
      refine at_iconst 33 X (by decide) dX11_span_32 rfl ?_
      refine at_callVX 36 X Rt Rx _ 11 (ct_X11_needWhat hG E x3 2) clX11 rfl k_0 mo_X11_needWhat w_1228 vo_X11_needWhat.1 vo_X11_needWhat.2 rfl rfl (by decide) (Nat.le_of_ble_eq_true rfl) dX11_span_33 rfl (fun _ _ h => Or.inr (Or.inl ⟨hc0, h.1, h.2.1, h.2.2⟩)) ?_
      rintro _ _ ⟨hc1, rfl, rfl⟩
      refine at_aload_n 37 X rfl rfl dX11_span_36 rfl ?_
      refine at_iload 39 X rfl dX11_span_37 rfl ?_
      refine at_iconst 40 X (by decide) dX11_span_39 rfl ?_
      refine at_aload_n 41 X rfl rfl dX11_span_40 rfl ?_
      refine m_getM 44 X (s) f_X11_93 k_0 rn_0_15 hI_E.now dX11_span_41 rfl ?_
      refine m_getR 47 X f_X11_135 (kX9 hs) (rX9_7 hs) dX11_span_44 rfl ?_
      refine m_getIV 50 X ((bN (sB P) : Nat) : Int) hI_E.B.N f_X11_139 (kX0 (iB_8 hs)) (nX0_6 (iB_8 hs)) dX11_span_47 rfl ?_
      have := hP.B.N
      refine at_iconst 51 X (by decide) dX11_span_50 rfl ?_
      refine at_isubV 52 X (((bN (sB P) : Nat) : Int) - 1) (w32_v rfl (by omega) (by omega)) dX11_span_51 rfl ?_
      refine at_callS 55 X (ct_X11_isWithin hG _ _ _) mo_X11_isWithin w_1211 so_X11_isWithin rfl rfl (crm Rt (by decide)) (Nat.le_of_ble_eq_true rfl) dX11_span_52 rfl ?_
      rintro _ _ ⟨rfl, rfl⟩
      refine at_callVX 58 X Rt Rx _ 11 (ct_X11_need hG E (if 0 ≤ x4 ∧ x4 ≤ (((bN (sB P) : Nat) : Int) - 1) then 1 else 0)) clX11 rfl k_0 mo_X11_need w_863 vo_X11_need.1 vo_X11_need.2 rfl rfl (by decide) (Nat.le_of_ble_eq_true rfl) dX11_span_55 rfl (fun _ _ h => Or.inr (Or.inr (⟨hc0, hc1, (fun q => ite_no.mp h.1 (by omega)), h.2.1, h.2.2⟩))) ?_
      rintro _ _ ⟨hq, rfl, rfl⟩
      have hc2 : 0 ≤ x4 ∧ x4 ≤ (bN (sB P) : Int) - 1 := by have := ite_yes.mp hq; omega
      obtain ⟨n, rfl⟩ : ∃ n : Nat, x1 = (n : Int) := ⟨x1.toNat, by omega⟩
      obtain ⟨q, rfl⟩ : ∃ q : Nat, x2 = (q : Int) := ⟨x2.toNat, by omega⟩
      obtain ⟨b, rfl⟩ : ∃ b : Nat, x4 = (b : Int) := ⟨x4.toNat, by omega⟩
      refine at_aload_n 59 X rfl rfl dX11_span_58 rfl ?_
      refine at_callV 62 X _ 11 (ct_X11_prepareTrial hG E s P L T K d hI_E) clX11 rfl k_0 mo_X11_prepareTrial w_1433 vo_X11_prepareTrial.1 vo_X11_prepareTrial.2 rfl rfl (crm Rt (by decide)) (Nat.le_of_ble_eq_true rfl) dX11_span_59 rfl ?_
      rintro _ _ ⟨rfl, F1, rfl, hgt_F1, hq_F1⟩
      have hT3 := hI_E.tried (E1 := F1) (fun q h1 _ _ => hq_F1 q h1)
      have hI_F1 := hT3.1
      have hX_F1 : CXF E F1 := hX_E.tr hT3.2.2
      refine at_bipush 64 X (by decide) (by decide) dX11_span_62 rfl ?_
      refine at_istore 66 X dX11_span_64 rfl (by decide) ?_
      refine at_iconst 67 X (by decide) dX11_span_66 rfl ?_
      refine at_istore 69 X dX11_span_67 rfl (by decide) ?_
      refine at_iconst 70 X (by decide) dX11_span_69 rfl ?_
      refine at_istore 72 X dX11_span_70 rfl (by decide) ?_
      refine at_iconst 73 X (by decide) dX11_span_72 rfl ?_
      refine at_istore 75 X dX11_span_73 rfl (by decide) ?_
      have J75 : ∀ (f75 : Nat) (F : Mm) (i : Nat) (v : Int) (m : Int) (k : Int) (C : Nat → Bool), 40 - i < f75 → (i ≤ n) → (v = spL P L T d x0 q i) → (m = spM P L T d x0 q i) → (k = (spB P L T d x0 q b i : Nat)) → (CXI F s P L T K d) → (CXF E F) → (CG F 39 (setC (gNow P L d) C)) → AT g κ K2 z 3 18 75 [(0, mR 0), (1, mI x0), (2, mI ((n : Nat) : Int)), (3, mI ((q : Nat) : Int)), (4, mI x3), (5, mI ((b : Nat) : Int)), (6, mI v), (7, mI m), (8, mI k), (9, mI ((i : Nat) : Int))] [] (ov F) := by
        intro f75
        induction f75 with
        | zero => intro F i v m k C hf75; omega
        | succ f75 ih75 =>
        intro F i v m k C hf75 hi hv hm hk hI_F hX_F hgt_F
        refine at_iload 77 X rfl dX11_span_75 rfl ?_
        have hkl := cntp_le (fun i => decide (¬ dF (spD P L T d x0 q i) b = -1)) i
        have hkl2 : spB P L T d x0 q b i ≤ i := hkl
        refine at_iload_n 78 X rfl rfl dX11_span_77 rfl ?_
        refine at_icmp_ge 81 141 X dX11_span_78 rfl (by decide) (fun h78 => ?_) (fun h78 => ?_)
        · refine at_iload 143 X rfl dX11_span_141 rfl ?_
          rcases (show x3 = 0 ∨ x3 = 1 ∨ x3 = 2 by omega) with h143 | h143 | h143
          · refine at_lsw (off := 25) 168 X dX11_span_143 (by decide) (by rw [h143]; rfl) (by decide) ?_
            refine at_iload 170 X rfl dX11_span_168 rfl ?_
            refine at_iret X Rt ?_ (by decide) (by decide) dX11_span_170
            exact ⟨hc0, hc1, hc2, (by (try simp only [Int.toNat_natCast]); rw [show n = i by omega]; first | (rw [if_pos (show x3 = 0 by omega), hv]; done) | (rw [if_neg (show ¬ x3 = 0 by omega), if_pos (show x3 = 1 by omega), hm]; done) | (rw [if_neg (show ¬ x3 = 0 by omega), if_neg (show ¬ x3 = 1 by omega), hk]; done)), _, rfl, hI_F, hX_F⟩
          · refine at_lsw (off := 28) 171 X dX11_span_143 (by decide) (by rw [h143]; rfl) (by decide) ?_
            refine at_iload 173 X rfl dX11_span_171 rfl ?_
            refine at_iret X Rt ?_ (by decide) (by decide) dX11_span_173
            exact ⟨hc0, hc1, hc2, (by (try simp only [Int.toNat_natCast]); rw [show n = i by omega]; first | (rw [if_pos (show x3 = 0 by omega), hv]; done) | (rw [if_neg (show ¬ x3 = 0 by omega), if_pos (show x3 = 1 by omega), hm]; done) | (rw [if_neg (show ¬ x3 = 0 by omega), if_neg (show ¬ x3 = 1 by omega), hk]; done)), _, rfl, hI_F, hX_F⟩
          · refine at_lsw (off := 31) 174 X dX11_span_143 (by decide) (by rw [h143]; rfl) (by decide) ?_
            refine at_iload 176 X rfl dX11_span_174 rfl ?_
            refine at_iret X Rt ?_ (by decide) (by decide) dX11_span_176
            exact ⟨hc0, hc1, hc2, (by (try simp only [Int.toNat_natCast]); rw [show n = i by omega]; first | (rw [if_pos (show x3 = 0 by omega), hv]; done) | (rw [if_neg (show ¬ x3 = 0 by omega), if_pos (show x3 = 1 by omega), hm]; done) | (rw [if_neg (show ¬ x3 = 0 by omega), if_neg (show ¬ x3 = 1 by omega), hk]; done)), _, rfl, hI_F, hX_F⟩
        · refine at_aload_n 82 X rfl rfl dX11_span_81 rfl ?_
          refine at_iload_n 83 X rfl rfl dX11_span_82 rfl ?_
          refine at_iload 85 X rfl dX11_span_83 rfl ?_
          refine at_iaddV 86 X (w32 (x0 + (i : Int))) rfl dX11_span_85 rfl ?_
          refine at_iload_n 87 X rfl rfl dX11_span_86 rfl ?_
          refine at_callV 90 X _ 11 (ct_X11_goUnderDrawnClouds hG F s P L T K d hI_F C hgt_F (w32 (x0 + (i : Int))) q) clX11 rfl k_0 mo_X11_goUnderDrawnClouds w_1587 vo_X11_goUnderDrawnClouds.1 vo_X11_goUnderDrawnClouds.2 rfl rfl (crm Rt (by decide)) (Nat.le_of_ble_eq_true rfl) dX11_span_87 rfl ?_
          rintro _ _ ⟨rfl, F2, rfl, hdn_F2, hgt_F2, hq_F2⟩
          have hT3 := hI_F.tried (E1 := F2) hq_F2
          have hI_F2 := hT3.1
          have hX_F2 : CXF E F2 := hX_F.tr hT3.2.2
          refine at_iload 92 X rfl dX11_span_90 rfl ?_
          refine at_aload_n 93 X rfl rfl dX11_span_92 rfl ?_
          refine m_getR 96 X f_X11_73 k_0 r_0_12 dX11_span_93 rfl ?_
          refine m_getIV 99 X ((dN (dyP (setC (gNow P L d) (drC P (w32 (x0 + (i : Int))) q)) (sB P) T 24) : Nat) : Int) hdn_F2.1.2.2.2.1 f_X11_287 k_54 rn_54_5 dX11_span_96 rfl ?_
          have hDD := dyP_DI (G := (setC (gNow P L d) (drC P (w32 (x0 + (i : Int))) q))) hP.B hI_F2.WT (Nat.le_refl 24)
          have hdd8 : dN (dyP (setC (gNow P L d) (drC P (w32 (x0 + (i : Int))) q)) (sB P) T 24) ≤ 8 := by rw [hDD.2.1]; exact Nat.le_trans (cntp_le _ _) hN8
          refine at_minV 102 X (if v ≤ ((dN (dyP (setC (gNow P L d) (drC P (w32 (x0 + (i : Int))) q)) (sB P) T 24) : Nat) : Int) then v else ((dN (dyP (setC (gNow P L d) (drC P (w32 (x0 + (i : Int))) q)) (sB P) T 24) : Nat) : Int)) rfl w_1599 (by rw [Rt.1]; exact ⟨by decide, by decide, by decide, by decide⟩) dX11_span_99 rfl ?_
          refine at_istore 104 X dX11_span_102 rfl (by decide) ?_
          refine at_iload 106 X rfl dX11_span_104 rfl ?_
          refine at_aload_n 107 X rfl rfl dX11_span_106 rfl ?_
          refine m_getR 110 X f_X11_73 k_0 r_0_12 dX11_span_107 rfl ?_
          refine m_getIV 113 X ((dN (dyP (setC (gNow P L d) (drC P (w32 (x0 + (i : Int))) q)) (sB P) T 24) : Nat) : Int) hdn_F2.1.2.2.2.1 f_X11_287 k_54 rn_54_5 dX11_span_110 rfl ?_
          have hDD := dyP_DI (G := (setC (gNow P L d) (drC P (w32 (x0 + (i : Int))) q))) hP.B hI_F2.WT (Nat.le_refl 24)
          have hdd8 : dN (dyP (setC (gNow P L d) (drC P (w32 (x0 + (i : Int))) q)) (sB P) T 24) ≤ 8 := by rw [hDD.2.1]; exact Nat.le_trans (cntp_le _ _) hN8
          refine at_maxV 116 X (if m < ((dN (dyP (setC (gNow P L d) (drC P (w32 (x0 + (i : Int))) q)) (sB P) T 24) : Nat) : Int) then ((dN (dyP (setC (gNow P L d) (drC P (w32 (x0 + (i : Int))) q)) (sB P) T 24) : Nat) : Int) else m) rfl w_1600 (by rw [Rt.1]; exact ⟨by decide, by decide, by decide, by decide⟩) dX11_span_113 rfl ?_
          refine at_istore 118 X dX11_span_116 rfl (by decide) ?_
          refine at_iload 120 X rfl dX11_span_118 rfl ?_
          refine at_aload_n 121 X rfl rfl dX11_span_120 rfl ?_
          refine m_getR 124 X f_X11_73 k_0 r_0_12 dX11_span_121 rfl ?_
          refine m_getIV 127 X ((mk (fun k => decide (¬ dF (dyP (setC (gNow P L d) (drC P (w32 (x0 + (i : Int))) q)) (sB P) T 24) k = -1)) 8 : Nat) : Int) hdn_F2.1.2.2.2.2 f_X11_284 k_54 rn_54_6 dX11_span_124 rfl ?_
          have hmk8 := mk_le (p := fun k => decide (¬ dF (dyP (setC (gNow P L d) (drC P (w32 (x0 + (i : Int))) q)) (sB P) T 24) k = -1)) (n := 8) (k := 8) (Nat.le_refl 8)
          refine at_iload 129 X rfl dX11_span_127 rfl ?_
          refine at_ishrV 130 X (ishr ((mk (fun k => decide (¬ dF (dyP (setC (gNow P L d) (drC P (w32 (x0 + (i : Int))) q)) (sB P) T 24) k = -1)) 8 : Nat) : Int) ((b : Nat) : Int)) rfl dX11_span_129 rfl ?_
          refine at_iconst 131 X (by decide) dX11_span_130 rfl ?_
          refine at_iandV 132 X (if decide (¬ dF (dyP (setC (gNow P L d) (drC P (w32 (x0 + (i : Int))) q)) (sB P) T 24) b = -1) = true then 1 else 0) ((ibit (by omega) (by omega)).trans (by rw [mk_in (by omega)])) dX11_span_131 rfl ?_
          refine at_iaddV 133 X (k + (if decide (¬ dF (dyP (setC (gNow P L d) (drC P (w32 (x0 + (i : Int))) q)) (sB P) T 24) b = -1) = true then 1 else 0)) (w32_v rfl (by omega) (by omega)) dX11_span_132 rfl ?_
          refine at_istore 135 X dX11_span_133 rfl (by decide) ?_
          refine at_iincV 138 X ((i + 1 : Nat) : Int) (w32_v (by omega) (by omega) (by omega)) rfl dX11_span_135 rfl (by decide) ?_
          refine at_goto 75 X dX11_span_138 (by decide) ?_
          exact at_sub _ (by exact ⟨rfl, rfl, rfl, rfl, rfl, rfl, rfl, rfl, rfl, rfl, trivial⟩) (ih75 F2 (i + 1) (if v ≤ ((dN (dyP (setC (gNow P L d) (drC P (w32 (x0 + (i : Int))) q)) (sB P) T 24) : Nat) : Int) then v else ((dN (dyP (setC (gNow P L d) (drC P (w32 (x0 + (i : Int))) q)) (sB P) T 24) : Nat) : Int)) (if m < ((dN (dyP (setC (gNow P L d) (drC P (w32 (x0 + (i : Int))) q)) (sB P) T 24) : Nat) : Int) then ((dN (dyP (setC (gNow P L d) (drC P (w32 (x0 + (i : Int))) q)) (sB P) T 24) : Nat) : Int) else m) (k + (if decide (¬ dF (dyP (setC (gNow P L d) (drC P (w32 (x0 + (i : Int))) q)) (sB P) T 24) b = -1) = true then 1 else 0)) (drC P (w32 (x0 + (i : Int))) q) (by first | omega | (simp only [] at *; omega)) (by first | omega | assumption) (by rw [hv]; rfl) (by rw [hm]; rfl) (by rw [hk]; unfold spB; rw [cntp_s]; unfold spD; split <;> omega) hI_F2 hX_F2 hgt_F2)
      exact at_sub _ (by exact ⟨rfl, rfl, rfl, rfl, rfl, rfl, rfl, rfl, rfl, rfl, trivial⟩) (J75 _ F1 0 8 0 0 (sC P) (Nat.lt_succ_self _) (by first | omega | assumption | rfl) rfl rfl rfl hI_F1 hX_F1 hgt_F1)
