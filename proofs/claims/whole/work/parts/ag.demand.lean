def DMx (F : Mm) (G : GP) (B : BM) (T : LN) (w h : Nat) : Prop := ∃ nl nd : Nat, F 62 6 = (nl : Int) ∧ F 62 7 = (nd : Int) ∧ NB G B T w false h nl ∧ NB G B T w true h nd
/-- all but what is demanded and weighed stays -/
def DMf (a : Nat) (E F : Mm) : Prop := (∀ q, q ≠ 62 → q ≠ 66 → q ≠ 67 → q ≠ a + 8 → q ≠ 7 → F q = E q) ∧ ∀ k, k ≠ 6 → k ≠ 7 → F 62 k = E 62 k
theorem DMf.tr {a : Nat} {E F F1 : Mm} (h : DMf a E F) (h2 : DMf a F F1) : DMf a E F1 := ⟨fun q h3 h4 h5 h6 h7 => (h2.1 q h3 h4 h5 h6 h7).trans (h.1 q h3 h4 h5 h6 h7), fun k h3 h4 => (h2.2 k h3 h4).trans (h.2 k h3 h4)⟩
theorem DMf.of {a : Nat} {E F : Mm} (ha : a = 30 ∨ a = 39) (h : ∀ q, q ≠ a + 8 → q ≠ 7 → F q = E q) : DMf a E F := ⟨fun q _ _ _ h6 h7 => h q h6 h7, fun k _ _ => by rw [h 62 (by omega) (by decide)]⟩
theorem dX6_demand_0 : decode cX6_demand 0 = .ok (.aload_n 0, 1) := by decide +kernel
theorem dX6_demand_1 : decode cX6_demand 1 = .ok (.lconst 0, 1) := by decide +kernel
theorem dX6_demand_2 : decode cX6_demand 2 = .ok (.putfield 86, 3) := by decide +kernel
theorem dX6_demand_5 : decode cX6_demand 5 = .ok (.aload_n 0, 1) := by decide +kernel
theorem dX6_demand_6 : decode cX6_demand 6 = .ok (.lconst 0, 1) := by decide +kernel
theorem dX6_demand_7 : decode cX6_demand 7 = .ok (.putfield 89, 3) := by decide +kernel
theorem dX6_demand_10 : decode cX6_demand 10 = .ok (.aload_n 2, 1) := by decide +kernel
theorem dX6_demand_11 : decode cX6_demand 11 = .ok (.getfield 62, 3) := by decide +kernel
theorem dX6_demand_14 : decode cX6_demand 14 = .ok (.iconst 0, 1) := by decide +kernel
theorem dX6_demand_15 : decode cX6_demand 15 = .ok (.aload_n 0, 1) := by decide +kernel
theorem dX6_demand_16 : decode cX6_demand 16 = .ok (.getfield 22, 3) := by decide +kernel
theorem dX6_demand_19 : decode cX6_demand 19 = .ok (.iconst 0, 1) := by decide +kernel
theorem dX6_demand_20 : decode cX6_demand 20 = .ok (.bipush 8, 2) := by decide +kernel
theorem dX6_demand_22 : decode cX6_demand 22 = .ok (.invokestatic 92, 3) := by decide +kernel
theorem dX6_demand_25 : decode cX6_demand 25 = .ok (.iconst 0, 1) := by decide +kernel
theorem dX6_demand_26 : decode cX6_demand 26 = .ok (.istore 5, 2) := by decide +kernel
theorem dX6_demand_28 : decode cX6_demand 28 = .ok (.iload 5, 2) := by decide +kernel
theorem dX6_demand_30 : decode cX6_demand 30 = .ok (.bipush 24, 2) := by decide +kernel
theorem dX6_demand_32 : decode cX6_demand 32 = .ok (.if_icmp .ge 179, 3) := by decide +kernel
theorem dX6_demand_35 : decode cX6_demand 35 = .ok (.iconst 0, 1) := by decide +kernel
theorem dX6_demand_36 : decode cX6_demand 36 = .ok (.istore 6, 2) := by decide +kernel
theorem dX6_demand_38 : decode cX6_demand 38 = .ok (.iload 6, 2) := by decide +kernel
theorem dX6_demand_40 : decode cX6_demand 40 = .ok (.aload_n 3, 1) := by decide +kernel
theorem dX6_demand_41 : decode cX6_demand 41 = .ok (.getfield 69, 3) := by decide +kernel
theorem dX6_demand_44 : decode cX6_demand 44 = .ok (.if_icmp .ge 40, 3) := by decide +kernel
theorem dX6_demand_47 : decode cX6_demand 47 = .ok (.aload_n 3, 1) := by decide +kernel
theorem dX6_demand_48 : decode cX6_demand 48 = .ok (.getfield 98, 3) := by decide +kernel
theorem dX6_demand_51 : decode cX6_demand 51 = .ok (.iload 6, 2) := by decide +kernel
theorem dX6_demand_53 : decode cX6_demand 53 = .ok (.iaload, 1) := by decide +kernel
theorem dX6_demand_54 : decode cX6_demand 54 = .ok (.iload 5, 2) := by decide +kernel
theorem dX6_demand_56 : decode cX6_demand 56 = .ok (.if_icmp .ne 22, 3) := by decide +kernel
theorem dX6_demand_59 : decode cX6_demand 59 = .ok (.aload_n 0, 1) := by decide +kernel
theorem dX6_demand_60 : decode cX6_demand 60 = .ok (.getfield 22, 3) := by decide +kernel
theorem dX6_demand_63 : decode cX6_demand 63 = .ok (.aload_n 3, 1) := by decide +kernel
theorem dX6_demand_64 : decode cX6_demand 64 = .ok (.getfield 75, 3) := by decide +kernel
theorem dX6_demand_67 : decode cX6_demand 67 = .ok (.iload 6, 2) := by decide +kernel
theorem dX6_demand_69 : decode cX6_demand 69 = .ok (.iaload, 1) := by decide +kernel
theorem dX6_demand_70 : decode cX6_demand 70 = .ok (.aload_n 3, 1) := by decide +kernel
theorem dX6_demand_71 : decode cX6_demand 71 = .ok (.getfield 72, 3) := by decide +kernel
theorem dX6_demand_74 : decode cX6_demand 74 = .ok (.iload 6, 2) := by decide +kernel
theorem dX6_demand_76 : decode cX6_demand 76 = .ok (.iaload, 1) := by decide +kernel
theorem dX6_demand_77 : decode cX6_demand 77 = .ok (.iastore, 1) := by decide +kernel
theorem dX6_demand_78 : decode cX6_demand 78 = .ok (.iinc 6 1, 3) := by decide +kernel
theorem dX6_demand_81 : decode cX6_demand 81 = .ok (.goto (-43), 3) := by decide +kernel
theorem dX6_demand_84 : decode cX6_demand 84 = .ok (.aload_n 0, 1) := by decide +kernel
theorem dX6_demand_85 : decode cX6_demand 85 = .ok (.aload_n 2, 1) := by decide +kernel
theorem dX6_demand_86 : decode cX6_demand 86 = .ok (.iload 4, 2) := by decide +kernel
theorem dX6_demand_88 : decode cX6_demand 88 = .ok (.invokevirtual 101, 3) := by decide +kernel
theorem dX6_demand_91 : decode cX6_demand 91 = .ok (.iconst 0, 1) := by decide +kernel
theorem dX6_demand_92 : decode cX6_demand 92 = .ok (.istore 6, 2) := by decide +kernel
theorem dX6_demand_94 : decode cX6_demand 94 = .ok (.iload 6, 2) := by decide +kernel
theorem dX6_demand_96 : decode cX6_demand 96 = .ok (.aload_n 1, 1) := by decide +kernel
theorem dX6_demand_97 : decode cX6_demand 97 = .ok (.getfield 48, 3) := by decide +kernel
theorem dX6_demand_100 : decode cX6_demand 100 = .ok (.if_icmp .ge 105, 3) := by decide +kernel
theorem dX6_demand_103 : decode cX6_demand 103 = .ok (.aload_n 0, 1) := by decide +kernel
theorem dX6_demand_104 : decode cX6_demand 104 = .ok (.getfield 25, 3) := by decide +kernel
theorem dX6_demand_107 : decode cX6_demand 107 = .ok (.iload 6, 2) := by decide +kernel
theorem dX6_demand_109 : decode cX6_demand 109 = .ok (.laload, 1) := by decide +kernel
theorem dX6_demand_110 : decode cX6_demand 110 = .ok (.lconst 0, 1) := by decide +kernel
theorem dX6_demand_111 : decode cX6_demand 111 = .ok (.lcmp, 1) := by decide +kernel
theorem dX6_demand_112 : decode cX6_demand 112 = .ok (.ifCond .le 87, 3) := by decide +kernel
theorem dX6_demand_115 : decode cX6_demand 115 = .ok (.aload_n 0, 1) := by decide +kernel
theorem dX6_demand_116 : decode cX6_demand 116 = .ok (.dup, 1) := by decide +kernel
theorem dX6_demand_117 : decode cX6_demand 117 = .ok (.getfield 86, 3) := by decide +kernel
theorem dX6_demand_120 : decode cX6_demand 120 = .ok (.aload_n 1, 1) := by decide +kernel
theorem dX6_demand_121 : decode cX6_demand 121 = .ok (.iload 6, 2) := by decide +kernel
theorem dX6_demand_123 : decode cX6_demand 123 = .ok (.iload 5, 2) := by decide +kernel
theorem dX6_demand_125 : decode cX6_demand 125 = .ok (.iconst 0, 1) := by decide +kernel
theorem dX6_demand_126 : decode cX6_demand 126 = .ok (.invokevirtual 82, 3) := by decide +kernel
theorem dX6_demand_129 : decode cX6_demand 129 = .ok (.i2l, 1) := by decide +kernel
theorem dX6_demand_130 : decode cX6_demand 130 = .ok (.ldc2_w 105, 3) := by decide +kernel
theorem dX6_demand_133 : decode cX6_demand 133 = .ok (.lmul, 1) := by decide +kernel
theorem dX6_demand_134 : decode cX6_demand 134 = .ok (.aload_n 0, 1) := by decide +kernel
theorem dX6_demand_135 : decode cX6_demand 135 = .ok (.getfield 25, 3) := by decide +kernel
theorem dX6_demand_138 : decode cX6_demand 138 = .ok (.iload 6, 2) := by decide +kernel
theorem dX6_demand_140 : decode cX6_demand 140 = .ok (.laload, 1) := by decide +kernel
theorem dX6_demand_141 : decode cX6_demand 141 = .ok (.lcmp, 1) := by decide +kernel
theorem dX6_demand_142 : decode cX6_demand 142 = .ok (.ifCond .ge 10, 3) := by decide +kernel
theorem dX6_demand_145 : decode cX6_demand 145 = .ok (.lconst 1, 1) := by decide +kernel
theorem dX6_demand_146 : decode cX6_demand 146 = .ok (.iload 6, 2) := by decide +kernel
theorem dX6_demand_148 : decode cX6_demand 148 = .ok (.lshl, 1) := by decide +kernel
theorem dX6_demand_149 : decode cX6_demand 149 = .ok (.goto 4, 3) := by decide +kernel
theorem dX6_demand_152 : decode cX6_demand 152 = .ok (.lconst 0, 1) := by decide +kernel
theorem dX6_demand_153 : decode cX6_demand 153 = .ok (.lor, 1) := by decide +kernel
theorem dX6_demand_154 : decode cX6_demand 154 = .ok (.putfield 86, 3) := by decide +kernel
theorem dX6_demand_157 : decode cX6_demand 157 = .ok (.aload_n 0, 1) := by decide +kernel
theorem dX6_demand_158 : decode cX6_demand 158 = .ok (.dup, 1) := by decide +kernel
theorem dX6_demand_159 : decode cX6_demand 159 = .ok (.getfield 89, 3) := by decide +kernel
theorem dX6_demand_162 : decode cX6_demand 162 = .ok (.aload_n 1, 1) := by decide +kernel
theorem dX6_demand_163 : decode cX6_demand 163 = .ok (.iload 6, 2) := by decide +kernel
theorem dX6_demand_165 : decode cX6_demand 165 = .ok (.iload 5, 2) := by decide +kernel
theorem dX6_demand_167 : decode cX6_demand 167 = .ok (.iconst 1, 1) := by decide +kernel
theorem dX6_demand_168 : decode cX6_demand 168 = .ok (.invokevirtual 82, 3) := by decide +kernel
theorem dX6_demand_171 : decode cX6_demand 171 = .ok (.i2l, 1) := by decide +kernel
theorem dX6_demand_172 : decode cX6_demand 172 = .ok (.ldc2_w 105, 3) := by decide +kernel
theorem dX6_demand_175 : decode cX6_demand 175 = .ok (.lmul, 1) := by decide +kernel
theorem dX6_demand_176 : decode cX6_demand 176 = .ok (.aload_n 0, 1) := by decide +kernel
theorem dX6_demand_177 : decode cX6_demand 177 = .ok (.getfield 25, 3) := by decide +kernel
theorem dX6_demand_180 : decode cX6_demand 180 = .ok (.iload 6, 2) := by decide +kernel
theorem dX6_demand_182 : decode cX6_demand 182 = .ok (.laload, 1) := by decide +kernel
theorem dX6_demand_183 : decode cX6_demand 183 = .ok (.lcmp, 1) := by decide +kernel
theorem dX6_demand_184 : decode cX6_demand 184 = .ok (.ifCond .ge 10, 3) := by decide +kernel
theorem dX6_demand_187 : decode cX6_demand 187 = .ok (.lconst 1, 1) := by decide +kernel
theorem dX6_demand_188 : decode cX6_demand 188 = .ok (.iload 6, 2) := by decide +kernel
theorem dX6_demand_190 : decode cX6_demand 190 = .ok (.lshl, 1) := by decide +kernel
theorem dX6_demand_191 : decode cX6_demand 191 = .ok (.goto 4, 3) := by decide +kernel
theorem dX6_demand_194 : decode cX6_demand 194 = .ok (.lconst 0, 1) := by decide +kernel
theorem dX6_demand_195 : decode cX6_demand 195 = .ok (.lor, 1) := by decide +kernel
theorem dX6_demand_196 : decode cX6_demand 196 = .ok (.putfield 89, 3) := by decide +kernel
theorem dX6_demand_199 : decode cX6_demand 199 = .ok (.iinc 6 1, 3) := by decide +kernel
theorem dX6_demand_202 : decode cX6_demand 202 = .ok (.goto (-108), 3) := by decide +kernel
theorem dX6_demand_205 : decode cX6_demand 205 = .ok (.iinc 5 1, 3) := by decide +kernel
theorem dX6_demand_208 : decode cX6_demand 208 = .ok (.goto (-180), 3) := by decide +kernel
theorem dX6_demand_211 : decode cX6_demand 211 = .ok (.return_, 1) := by decide +kernel
theorem ct_X6_demand {g : Gw} (hG : GF g) {z : Bool} (E : Mm) (a : Nat) (ha : a = 30 ∨ a = 39) (G : GP) (hw : WG G) (hg_E : CG E a G) (hl_E : CL E 4 (gLw G)) (B : BM) (s : Nat) (hs : s = 76 ∨ s = 91) (hB_E : CB E s B) (hW : WB (gW G) B) (T : LN) (hT_E : CN E 12 T) (hT : WT (gW G) B T) (w : Nat) (hw8 : w < 256) : CT g yX6_demand cX6_demand 7 none 2 53 0 0 K2 z [mR 62, mR a, mR s, mR 12, mI ((w : Nat) : Int)] (ov E) K2 z (fun r' D' => r' = none ∧ ∃ E1, D' = ov E1 ∧ CG E1 a G ∧ DMx E1 G B T w 24 ∧ DMf a E E1) := by
  refine CT.mk hG (by decide +kernel) (Nat.le_of_ble_eq_true rfl) (fun κ X Rt _ ok => ?_)
  have hf_E : ∀ q, q ≠ a + 8 → q ≠ 7 → E q = E q := fun _ _ _ => rfl
  have hW40 := hw.W
  have hN11 := hw.N
  have hT16 := hT.1
  have hN8 := hW.N
  refine at_aload_n 1 X rfl rfl dX6_demand_0 rfl ?_
  refine at_lconst 2 X (v := 0) (by decide) (by decide) dX6_demand_1 rfl ?_
  refine m_putL 5 X f_X6_86 fw_6_6 k_62 rn_62_6 dX6_demand_2 rfl ?_
  refine at_aload_n 6 X rfl rfl dX6_demand_5 rfl ?_
  refine at_lconst 7 X (v := 0) (by decide) (by decide) dX6_demand_6 rfl ?_
  refine m_putL 10 X f_X6_89 fw_6_7 k_62 rn_62_7 dX6_demand_7 rfl ?_
  refine at_aload_n 11 X rfl rfl dX6_demand_10 rfl ?_
  refine m_getR 14 X f_X6_62 (kX0 hs) (rX0_0 hs) dX6_demand_11 rfl ?_
  refine at_iconst 15 X (by decide) dX6_demand_14 rfl ?_
  refine at_aload_n 16 X rfl rfl dX6_demand_15 rfl ?_
  refine m_getR 19 X f_X6_22 k_62 r_62_3 dX6_demand_16 rfl ?_
  refine at_iconst 20 X (by decide) dX6_demand_19 rfl ?_
  refine at_bipush 22 X (by decide) (by decide) dX6_demand_20 rfl ?_
  refine m_copyI 25 X (sp := 0) (dp := 0) (n := 8) rfl rfl rfl (kX0_0 hs) (eX0_0 hs) k_66 e_66 (by decide) (by decide) (by decide) (by decide) w_1462 (by rw [Rt.1]; decide) (by rw [Rt.1]; decide) dX6_demand_22 rfl ?_
  refine at_iconst 26 X (by decide) dX6_demand_25 rfl ?_
  refine at_istore 28 X dX6_demand_26 rfl (by decide) ?_
  have J28 : ∀ (f28 : Nat) (F : Mm) (h : Nat), 24 - h < f28 → (h ≤ 24) → ((∀ b, b < bN B → F 66 b = (plW B T h b : Int))) → (DMx F G B T w h) → (CG F a G) → (CL F 4 (gLw G)) → (DMf a E F) → AT g κ K2 z 0 0 28 [(0, mR 62), (1, mR a), (2, mR s), (3, mR 12), (4, mI ((w : Nat) : Int)), (5, mI ((h : Nat) : Int))] [] (ov F) := by
    intro f28
    induction f28 with
    | zero => intro F h hf28; omega
    | succ f28 ih28 =>
    intro F h hf28 hh h66_F hd_F hg_F hl_F hf_F
    refine at_iload 30 X rfl dX6_demand_28 rfl ?_
    refine at_bipush 32 X (by decide) (by decide) dX6_demand_30 rfl ?_
    refine at_icmp_ge 35 211 X dX6_demand_32 rfl (by decide) (fun h32 => ?_) (fun h32 => ?_)
    · refine at_vret X Rt ?_ (Nat.le_refl _) (Nat.le_refl _) dX6_demand_211
      exact ⟨rfl, F, rfl, hg_F, by rw [← show h = 24 by omega]; exact hd_F, hf_F⟩
    · have hN_F : CN F 12 T := hT_E.fr (fun q _ _ => hf_F.1 q (by omega) (by omega) (by omega) (by omega) (by omega))
      have hB_F : CB F s B := hB_E.fr (fun q _ _ => hf_F.1 q (by omega) (by omega) (by omega) (by omega) (by omega))
      refine at_iconst 36 X (by decide) dX6_demand_35 rfl ?_
      refine at_istore 38 X dX6_demand_36 rfl (by decide) ?_
      have J38 : ∀ (f38 : Nat) (F2 : Mm) (i : Nat), 16 - i < f38 → (i ≤ T.1) → ((∀ b, b < bN B → F2 66 b = (mvW T h (plW B T h) i b : Int))) → (DMx F2 G B T w h) → (CG F2 a G) → (CL F2 4 (gLw G)) → (DMf a E F2) → AT g κ K2 z 0 0 38 [(0, mR 62), (1, mR a), (2, mR s), (3, mR 12), (4, mI ((w : Nat) : Int)), (5, mI ((h : Nat) : Int)), (6, mI ((i : Nat) : Int))] [] (ov F2) := by
        intro f38
        induction f38 with
        | zero => intro F2 i hf38; omega
        | succ f38 ih38 =>
        intro F2 i hf38 hi h66_F2 hd_F2 hg_F2 hl_F2 hf_F2
        refine at_iload 40 X rfl dX6_demand_38 rfl ?_
        refine at_aload_n 41 X rfl rfl dX6_demand_40 rfl ?_
        have hN_F2 : CN F2 12 T := hT_E.fr (fun q _ _ => hf_F2.1 q (by omega) (by omega) (by omega) (by omega) (by omega))
        have hB_F2 : CB F2 s B := hB_E.fr (fun q _ _ => hf_F2.1 q (by omega) (by omega) (by omega) (by omega) (by omega))
        refine m_getIV 44 X ((T.1 : Nat) : Int) hN_F2.n f_X6_69 k_12 rn_12_3 dX6_demand_41 rfl ?_
        refine at_icmp_ge 47 84 X dX6_demand_44 rfl (by decide) (fun h44 => ?_) (fun h44 => ?_)
        · refine at_aload_n 85 X rfl rfl dX6_demand_84 rfl ?_
          refine at_aload_n 86 X rfl rfl dX6_demand_85 rfl ?_
          refine at_iload 88 X rfl dX6_demand_86 rfl ?_
          refine at_callV 91 X _ 6 (ct_X6_weighWatched hG F2 B s hs hB_F2 (gW G) hW hW40 w hw8 (plW B T (h + 1)) (fun b hb => ⟨by rw [h66_F2 b hb, plW_s, show i = T.1 by omega], plW_in hW hT _ b hb⟩)) clX6 rfl k_62 mo_X6_weighWatched w_1463 vo_X6_weighWatched.1 vo_X6_weighWatched.2 rfl rfl (crm Rt (by decide)) (Nat.le_of_ble_eq_true rfl) dX6_demand_88 rfl ?_
          rintro _ _ ⟨rfl, F4, rfl, h67_F4, hq_F4⟩
          have hg_F4 : CG F4 a G := hg_F2.fr (fun q _ _ _ => hq_F4 q (by omega))
          have hl_F4 : CL F4 4 (gLw G) := hl_F2.fr (fun q _ _ => hq_F4 q (by omega))
          have h66_F4 : ∀ b, b < bN B → F4 66 b = (plW B T (h + 1) b : Int) := fun b hb => by rw [hq_F4 66 (by decide), h66_F2 b hb, plW_s, show i = T.1 by omega]
          have hd_F4 : DMx F4 G B T w h := by unfold DMx; rw [hq_F4 62 (by decide)]; exact hd_F2
          have hf_F4 : DMf a E F4 := hf_F2.tr ⟨fun q _ _ h5 _ _ => hq_F4 q h5, fun k _ _ => by rw [hq_F4 62 (by decide)]⟩
          refine at_iconst 92 X (by decide) dX6_demand_91 rfl ?_
          refine at_istore 94 X dX6_demand_92 rfl (by decide) ?_
          have J94 : ∀ (f94 : Nat) (F3 : Mm) (x : Nat), 40 - x < f94 → (x ≤ gW G) → ((∀ b, b < bN B → F3 66 b = (plW B T (h + 1) b : Int))) → ((∀ c, c < 40 → F3 67 c = wtW B w (plW B T (h + 1)) c (bN B))) → (DMx F3 G B T w (h + 1)) → (CG F3 a G) → (CL F3 4 (gLw G)) → (DMf a E F3) → AT g κ K2 z 0 0 94 [(0, mR 62), (1, mR a), (2, mR s), (3, mR 12), (4, mI ((w : Nat) : Int)), (5, mI ((h : Nat) : Int)), (6, mI ((x : Nat) : Int))] [] (ov F3) := by
            intro f94
            induction f94 with
            | zero => intro F3 x hf94; omega
            | succ f94 ih94 =>
            intro F3 x hf94 hx h66_F3 h67_F3 hd_F3 hg_F3 hl_F3 hf_F3
            refine at_iload 96 X rfl dX6_demand_94 rfl ?_
            refine at_aload_n 97 X rfl rfl dX6_demand_96 rfl ?_
            refine m_getIV 100 X ((gW G : Nat) : Int) hg_F3.1.W f_X6_48 (kX4 ha) (nX4_9 ha) dX6_demand_97 rfl ?_
            have := hw.W
            refine at_icmp_ge 103 205 X dX6_demand_100 rfl (by decide) (fun h100 => ?_) (fun h100 => ?_)
            · refine at_iincV 208 X ((h + 1 : Nat) : Int) (w32_v (by omega) (by omega) (by omega)) rfl dX6_demand_205 rfl (by decide) ?_
              refine at_goto 28 X dX6_demand_208 (by decide) ?_
              exact at_sub _ (by exact ⟨rfl, rfl, rfl, rfl, rfl, rfl, trivial⟩) (ih28 F3 (h + 1) (by first | omega | (simp only [] at *; omega)) (by first | omega | assumption) h66_F3 hd_F3 hg_F3 hl_F3 hf_F3)
            · have hd0 := hd_F3
              obtain ⟨nl, nd, h6_F3, h7_F3, hnl, hnd⟩ := hd0
              refine at_aload_n 104 X rfl rfl dX6_demand_103 rfl ?_
              refine m_getR 107 X f_X6_25 k_62 r_62_4 dX6_demand_104 rfl ?_
              refine at_iload 109 X rfl dX6_demand_107 rfl ?_
              refine m_laloadV 110 X x (by omega) (wtW B w (plW B T (h + 1)) x (bN B)) (h67_F3 x (by omega)) k_67 e_67 (by omega) dX6_demand_109 rfl ?_
              have hr67 := wtW_in (w := w) hW (plW B T (h + 1)) x (n := bN B) (by omega)
              refine at_lconst 111 X (v := 0) (by decide) (by decide) dX6_demand_110 rfl ?_
              refine at_lif_le 112 115 199 X dX6_demand_111 rfl dX6_demand_112 rfl (by decide) (fun h111 => ?_) (fun h111 => ?_)
              · refine at_iincV 202 X ((x + 1 : Nat) : Int) (w32_v (by omega) (by omega) (by omega)) rfl dX6_demand_199 rfl (by decide) ?_
                refine at_goto 94 X dX6_demand_202 (by decide) ?_
                exact at_sub _ (by exact ⟨rfl, rfl, rfl, rfl, rfl, rfl, rfl, trivial⟩) (ih94 F3 (x + 1) (by first | omega | (simp only [] at *; omega)) (by first | omega | assumption) (by first | exact h66_F3 | exact (fun b hb => by rw [wr_row (by decide)]; exact h66_F6 b hb)) (by first | exact h67_F3 | exact (fun c hc => by rw [wr_row (by decide)]; exact h67_F6 c hc)) (by first | exact hd_F3 | exact ⟨_, _, (wr_o (by decide)).trans h6_F6, wr_s _ _ _ _, hn6, hn7⟩) (by first | exact hg_F3 | exact hg_F6.fr (fun q _ _ _ => wr_row (by omega))) (by first | exact hl_F3 | exact hl_F6.fr (fun q _ _ => wr_row (by omega))) (by first | exact hf_F3 | exact hf_F6.tr ⟨fun q h1 _ _ _ _ => wr_row h1, fun k _ h2 => wr_o (by omega)⟩))
              · refine at_aload_n 116 X rfl rfl dX6_demand_115 rfl ?_
                refine at_dup 117 X (show ¬ (2 : Nat) = 1 by decide) dX6_demand_116 rfl ?_
                refine m_getLV 120 X ((nl : Nat) : Int) h6_F3 f_X6_86 k_62 rn_62_6 dX6_demand_117 rfl ?_
                refine at_aload_n 121 X rfl rfl dX6_demand_120 rfl ?_
                refine at_iload 123 X rfl dX6_demand_121 rfl ?_
                refine at_iload 125 X rfl dX6_demand_123 rfl ?_
                refine at_iconst 126 X (by decide) dX6_demand_125 rfl ?_
                refine at_callV 129 X _ 4 (ct_X4_borneIf hG F3 a ha G hw (hg_F3.fr (fun q _ _ _ => by first | rfl | (simp (disch := omega) only [wr_row]))) (hl_F3.fr (fun q _ _ => by first | rfl | (simp (disch := omega) only [wr_row]))) false h x (by omega) (by omega)) clX4 rfl (kX4 ha) mo_X4_borneIf w_1452 vo_X4_borneIf.1 vo_X4_borneIf.2 rfl rfl (crm Rt (by decide)) (Nat.le_of_ble_eq_true rfl) dX6_demand_126 rfl ?_
                rintro _ _ ⟨rfl, F5, rfl, hg_F5, hq_F5⟩
                have hbiF5 := bIf_in G false h x
                have hl_F5 : CL F5 4 (gLw G) := (hl_F3.fr (fun q _ _ => by first | rfl | (simp (disch := omega) only [wr_row]))).fr (fun q _ _ => hq_F5 q (by omega) (by omega))
                have h66_F5 : ∀ b, b < bN B → F5 66 b = (plW B T (h + 1) b : Int) := fun b hb => by rw [hq_F5 66 (by omega) (by decide)]; first | exact h66_F3 b hb | (simp (disch := omega) only [wr_o]; exact h66_F3 b hb)
                have h67_F5 : ∀ c, c < 40 → F5 67 c = wtW B w (plW B T (h + 1)) c (bN B) := fun c hc => by rw [hq_F5 67 (by omega) (by decide)]; first | exact h67_F3 c hc | (simp (disch := omega) only [wr_o]; exact h67_F3 c hc)
                have h6_F5 : F5 62 6 = ((nl : Nat) : Int) := by rw [hq_F5 62 (by omega) (by decide)]; first | exact h6_F3 | (simp (disch := omega) only [wr_s, wr_o]; done) | (simp (disch := omega) only [wr_s, wr_o]; exact h6_F3)
                have h7_F5 : F5 62 7 = ((nd : Nat) : Int) := by rw [hq_F5 62 (by omega) (by decide)]; first | exact h7_F3 | (simp (disch := omega) only [wr_o]; exact h7_F3)
                have hf_F5 : DMf a E F5 := (hf_F3.tr ⟨fun q h1 _ _ _ _ => by first | rfl | (simp (disch := omega) only [wr_row]), fun k h1 h2 => by first | rfl | (simp (disch := omega) only [wr_o])⟩).tr (DMf.of ha hq_F5)
                refine at_i2l 130 X dX6_demand_129 rfl ?_
                refine at_ldc2 133 X (n := 232792560) w_1468 (by decide) (by decide) dX6_demand_130 rfl ?_
                refine at_lmulV 134 X (bIf G false h x * 232792560) (w64_v rfl (by omega) (by omega)) dX6_demand_133 rfl ?_
                refine at_aload_n 135 X rfl rfl dX6_demand_134 rfl ?_
                refine m_getR 138 X f_X6_25 k_62 r_62_4 dX6_demand_135 rfl ?_
                refine at_iload 140 X rfl dX6_demand_138 rfl ?_
                refine m_laloadV 141 X x (by omega) (wtW B w (plW B T (h + 1)) x (bN B)) (h67_F5 x (by omega)) k_67 e_67 (by omega) dX6_demand_140 rfl ?_
                have hr67 := wtW_in (w := w) hW (plW B T (h + 1)) x (n := bN B) (by omega)
                refine at_lif_ge 142 145 152 X dX6_demand_141 rfl dX6_demand_142 rfl (by decide) (fun h141 => ?_) (fun h141 => ?_)
                · have hn6 : NB G B T w false (h + 1) nl := hnl
                  refine at_lconst 153 X (v := 0) (by decide) (by decide) dX6_demand_152 rfl ?_
                  refine at_lorV 154 X ((nl : Nat) : Int) ((lor_nat (n := 0) (by have := hnl.1; omega) (by decide)).trans (by rw [Nat.or_zero])) dX6_demand_153 rfl ?_
                  refine m_putL 157 X f_X6_86 fw_6_6 k_62 rn_62_6 dX6_demand_154 rfl ?_
                  refine at_aload_n 158 X rfl rfl dX6_demand_157 rfl ?_
                  refine at_dup 159 X (show ¬ (2 : Nat) = 1 by decide) dX6_demand_158 rfl ?_
                  refine m_getLV 162 X ((nd : Nat) : Int) ((wr_o (by omega)).trans h7_F5) f_X6_89 k_62 rn_62_7 dX6_demand_159 rfl ?_
                  refine at_aload_n 163 X rfl rfl dX6_demand_162 rfl ?_
                  refine at_iload 165 X rfl dX6_demand_163 rfl ?_
                  refine at_iload 167 X rfl dX6_demand_165 rfl ?_
                  refine at_iconst 168 X (by decide) dX6_demand_167 rfl ?_
                  refine at_callV 171 X _ 4 (ct_X4_borneIf hG (wr F5 62 6 ((nl : Nat) : Int)) a ha G hw (hg_F5.fr (fun q _ _ _ => by first | rfl | (simp (disch := omega) only [wr_row]))) (hl_F5.fr (fun q _ _ => by first | rfl | (simp (disch := omega) only [wr_row]))) true h x (by omega) (by omega)) clX4 rfl (kX4 ha) mo_X4_borneIf w_1452 vo_X4_borneIf.1 vo_X4_borneIf.2 rfl rfl (crm Rt (by decide)) (Nat.le_of_ble_eq_true rfl) dX6_demand_168 rfl ?_
                  rintro _ _ ⟨rfl, F6, rfl, hg_F6, hq_F6⟩
                  have hbiF6 := bIf_in G true h x
                  have hl_F6 : CL F6 4 (gLw G) := (hl_F5.fr (fun q _ _ => by first | rfl | (simp (disch := omega) only [wr_row]))).fr (fun q _ _ => hq_F6 q (by omega) (by omega))
                  have h66_F6 : ∀ b, b < bN B → F6 66 b = (plW B T (h + 1) b : Int) := fun b hb => by rw [hq_F6 66 (by omega) (by decide)]; first | exact h66_F5 b hb | (simp (disch := omega) only [wr_o]; exact h66_F5 b hb)
                  have h67_F6 : ∀ c, c < 40 → F6 67 c = wtW B w (plW B T (h + 1)) c (bN B) := fun c hc => by rw [hq_F6 67 (by omega) (by decide)]; first | exact h67_F5 c hc | (simp (disch := omega) only [wr_o]; exact h67_F5 c hc)
                  have h6_F6 : F6 62 6 = ((nl : Nat) : Int) := by rw [hq_F6 62 (by omega) (by decide)]; first | exact h6_F5 | (simp (disch := omega) only [wr_s, wr_o]; done) | (simp (disch := omega) only [wr_s, wr_o]; exact h6_F5)
                  have h7_F6 : F6 62 7 = ((nd : Nat) : Int) := by rw [hq_F6 62 (by omega) (by decide)]; first | exact h7_F5 | (simp (disch := omega) only [wr_o]; exact h7_F5)
                  have hf_F6 : DMf a E F6 := (hf_F5.tr ⟨fun q h1 _ _ _ _ => by first | rfl | (simp (disch := omega) only [wr_row]), fun k h1 h2 => by first | rfl | (simp (disch := omega) only [wr_o])⟩).tr (DMf.of ha hq_F6)
                  refine at_i2l 172 X dX6_demand_171 rfl ?_
                  refine at_ldc2 175 X (n := 232792560) w_1468 (by decide) (by decide) dX6_demand_172 rfl ?_
                  refine at_lmulV 176 X (bIf G true h x * 232792560) (w64_v rfl (by omega) (by omega)) dX6_demand_175 rfl ?_
                  refine at_aload_n 177 X rfl rfl dX6_demand_176 rfl ?_
                  refine m_getR 180 X f_X6_25 k_62 r_62_4 dX6_demand_177 rfl ?_
                  refine at_iload 182 X rfl dX6_demand_180 rfl ?_
                  refine m_laloadV 183 X x (by omega) (wtW B w (plW B T (h + 1)) x (bN B)) (h67_F6 x (by omega)) k_67 e_67 (by omega) dX6_demand_182 rfl ?_
                  have hr67 := wtW_in (w := w) hW (plW B T (h + 1)) x (n := bN B) (by omega)
                  refine at_lif_ge 184 187 194 X dX6_demand_183 rfl dX6_demand_184 rfl (by decide) (fun h183 => ?_) (fun h183 => ?_)
                  · have hn7 : NB G B T w true (h + 1) nd := hnd
                    refine at_lconst 195 X (v := 0) (by decide) (by decide) dX6_demand_194 rfl ?_
                    refine at_lorV 196 X ((nd : Nat) : Int) ((lor_nat (n := 0) (by have := hnd.1; omega) (by decide)).trans (by rw [Nat.or_zero])) dX6_demand_195 rfl ?_
                    refine m_putL 199 X f_X6_89 fw_6_7 k_62 rn_62_7 dX6_demand_196 rfl ?_
                    refine at_iincV 202 X ((x + 1 : Nat) : Int) (w32_v (by omega) (by omega) (by omega)) rfl dX6_demand_199 rfl (by decide) ?_
                    refine at_goto 94 X dX6_demand_202 (by decide) ?_
                    exact at_sub _ (by exact ⟨rfl, rfl, rfl, rfl, rfl, rfl, rfl, trivial⟩) (ih94 (wr F6 62 7 ((nd : Nat) : Int)) (x + 1) (by first | omega | (simp only [] at *; omega)) (by first | omega | assumption) (by first | exact h66_F3 | exact (fun b hb => by rw [wr_row (by decide)]; exact h66_F6 b hb)) (by first | exact h67_F3 | exact (fun c hc => by rw [wr_row (by decide)]; exact h67_F6 c hc)) (by first | exact hd_F3 | exact ⟨_, _, (wr_o (by decide)).trans h6_F6, wr_s _ _ _ _, hn6, hn7⟩) (by first | exact hg_F3 | exact hg_F6.fr (fun q _ _ _ => wr_row (by omega))) (by first | exact hl_F3 | exact hl_F6.fr (fun q _ _ => wr_row (by omega))) (by first | exact hf_F3 | exact hf_F6.tr ⟨fun q h1 _ _ _ _ => wr_row h1, fun k _ h2 => wr_o (by omega)⟩))
                  · have hn7 := hnd.or hW40 (by omega) h111 (by omega)
                    refine at_lconst 188 X (v := 1) (by decide) (by decide) dX6_demand_187 rfl ?_
                    refine at_iload 190 X rfl dX6_demand_188 rfl ?_
                    refine at_lshlV 191 X ((2 ^ x : Nat) : Int) (lshl1 (by omega)) dX6_demand_190 rfl ?_
                    refine at_goto 195 X dX6_demand_191 (by decide) ?_
                    refine at_lorV 196 X ((nd ||| 2 ^ x : Nat) : Int) (lor_nat (by have := hnd.1; omega) (by have := p2_40 (x := x) (by omega); omega)) dX6_demand_195 rfl ?_
                    refine m_putL 199 X f_X6_89 fw_6_7 k_62 rn_62_7 dX6_demand_196 rfl ?_
                    refine at_iincV 202 X ((x + 1 : Nat) : Int) (w32_v (by omega) (by omega) (by omega)) rfl dX6_demand_199 rfl (by decide) ?_
                    refine at_goto 94 X dX6_demand_202 (by decide) ?_
                    exact at_sub _ (by exact ⟨rfl, rfl, rfl, rfl, rfl, rfl, rfl, trivial⟩) (ih94 (wr F6 62 7 ((nd ||| 2 ^ x : Nat) : Int)) (x + 1) (by first | omega | (simp only [] at *; omega)) (by first | omega | assumption) (by first | exact h66_F3 | exact (fun b hb => by rw [wr_row (by decide)]; exact h66_F6 b hb)) (by first | exact h67_F3 | exact (fun c hc => by rw [wr_row (by decide)]; exact h67_F6 c hc)) (by first | exact hd_F3 | exact ⟨_, _, (wr_o (by decide)).trans h6_F6, wr_s _ _ _ _, hn6, hn7⟩) (by first | exact hg_F3 | exact hg_F6.fr (fun q _ _ _ => wr_row (by omega))) (by first | exact hl_F3 | exact hl_F6.fr (fun q _ _ => wr_row (by omega))) (by first | exact hf_F3 | exact hf_F6.tr ⟨fun q h1 _ _ _ _ => wr_row h1, fun k _ h2 => wr_o (by omega)⟩))
                · have hn6 := hnl.or hW40 (by omega) h111 (by omega)
                  refine at_lconst 146 X (v := 1) (by decide) (by decide) dX6_demand_145 rfl ?_
                  refine at_iload 148 X rfl dX6_demand_146 rfl ?_
                  refine at_lshlV 149 X ((2 ^ x : Nat) : Int) (lshl1 (by omega)) dX6_demand_148 rfl ?_
                  refine at_goto 153 X dX6_demand_149 (by decide) ?_
                  refine at_lorV 154 X ((nl ||| 2 ^ x : Nat) : Int) (lor_nat (by have := hnl.1; omega) (by have := p2_40 (x := x) (by omega); omega)) dX6_demand_153 rfl ?_
                  refine m_putL 157 X f_X6_86 fw_6_6 k_62 rn_62_6 dX6_demand_154 rfl ?_
                  refine at_aload_n 158 X rfl rfl dX6_demand_157 rfl ?_
                  refine at_dup 159 X (show ¬ (2 : Nat) = 1 by decide) dX6_demand_158 rfl ?_
                  refine m_getLV 162 X ((nd : Nat) : Int) ((wr_o (by omega)).trans h7_F5) f_X6_89 k_62 rn_62_7 dX6_demand_159 rfl ?_
                  refine at_aload_n 163 X rfl rfl dX6_demand_162 rfl ?_
                  refine at_iload 165 X rfl dX6_demand_163 rfl ?_
                  refine at_iload 167 X rfl dX6_demand_165 rfl ?_
                  refine at_iconst 168 X (by decide) dX6_demand_167 rfl ?_
                  refine at_callV 171 X _ 4 (ct_X4_borneIf hG (wr F5 62 6 ((nl ||| 2 ^ x : Nat) : Int)) a ha G hw (hg_F5.fr (fun q _ _ _ => by first | rfl | (simp (disch := omega) only [wr_row]))) (hl_F5.fr (fun q _ _ => by first | rfl | (simp (disch := omega) only [wr_row]))) true h x (by omega) (by omega)) clX4 rfl (kX4 ha) mo_X4_borneIf w_1452 vo_X4_borneIf.1 vo_X4_borneIf.2 rfl rfl (crm Rt (by decide)) (Nat.le_of_ble_eq_true rfl) dX6_demand_168 rfl ?_
                  rintro _ _ ⟨rfl, F6, rfl, hg_F6, hq_F6⟩
                  have hbiF6 := bIf_in G true h x
                  have hl_F6 : CL F6 4 (gLw G) := (hl_F5.fr (fun q _ _ => by first | rfl | (simp (disch := omega) only [wr_row]))).fr (fun q _ _ => hq_F6 q (by omega) (by omega))
                  have h66_F6 : ∀ b, b < bN B → F6 66 b = (plW B T (h + 1) b : Int) := fun b hb => by rw [hq_F6 66 (by omega) (by decide)]; first | exact h66_F5 b hb | (simp (disch := omega) only [wr_o]; exact h66_F5 b hb)
                  have h67_F6 : ∀ c, c < 40 → F6 67 c = wtW B w (plW B T (h + 1)) c (bN B) := fun c hc => by rw [hq_F6 67 (by omega) (by decide)]; first | exact h67_F5 c hc | (simp (disch := omega) only [wr_o]; exact h67_F5 c hc)
                  have h6_F6 : F6 62 6 = ((nl ||| 2 ^ x : Nat) : Int) := by rw [hq_F6 62 (by omega) (by decide)]; first | exact h6_F5 | (simp (disch := omega) only [wr_s, wr_o]; done) | (simp (disch := omega) only [wr_s, wr_o]; exact h6_F5)
                  have h7_F6 : F6 62 7 = ((nd : Nat) : Int) := by rw [hq_F6 62 (by omega) (by decide)]; first | exact h7_F5 | (simp (disch := omega) only [wr_o]; exact h7_F5)
                  have hf_F6 : DMf a E F6 := (hf_F5.tr ⟨fun q h1 _ _ _ _ => by first | rfl | (simp (disch := omega) only [wr_row]), fun k h1 h2 => by first | rfl | (simp (disch := omega) only [wr_o])⟩).tr (DMf.of ha hq_F6)
                  refine at_i2l 172 X dX6_demand_171 rfl ?_
                  refine at_ldc2 175 X (n := 232792560) w_1468 (by decide) (by decide) dX6_demand_172 rfl ?_
                  refine at_lmulV 176 X (bIf G true h x * 232792560) (w64_v rfl (by omega) (by omega)) dX6_demand_175 rfl ?_
                  refine at_aload_n 177 X rfl rfl dX6_demand_176 rfl ?_
                  refine m_getR 180 X f_X6_25 k_62 r_62_4 dX6_demand_177 rfl ?_
                  refine at_iload 182 X rfl dX6_demand_180 rfl ?_
                  refine m_laloadV 183 X x (by omega) (wtW B w (plW B T (h + 1)) x (bN B)) (h67_F6 x (by omega)) k_67 e_67 (by omega) dX6_demand_182 rfl ?_
                  have hr67 := wtW_in (w := w) hW (plW B T (h + 1)) x (n := bN B) (by omega)
                  refine at_lif_ge 184 187 194 X dX6_demand_183 rfl dX6_demand_184 rfl (by decide) (fun h183 => ?_) (fun h183 => ?_)
                  · have hn7 : NB G B T w true (h + 1) nd := hnd
                    refine at_lconst 195 X (v := 0) (by decide) (by decide) dX6_demand_194 rfl ?_
                    refine at_lorV 196 X ((nd : Nat) : Int) ((lor_nat (n := 0) (by have := hnd.1; omega) (by decide)).trans (by rw [Nat.or_zero])) dX6_demand_195 rfl ?_
                    refine m_putL 199 X f_X6_89 fw_6_7 k_62 rn_62_7 dX6_demand_196 rfl ?_
                    refine at_iincV 202 X ((x + 1 : Nat) : Int) (w32_v (by omega) (by omega) (by omega)) rfl dX6_demand_199 rfl (by decide) ?_
                    refine at_goto 94 X dX6_demand_202 (by decide) ?_
                    exact at_sub _ (by exact ⟨rfl, rfl, rfl, rfl, rfl, rfl, rfl, trivial⟩) (ih94 (wr F6 62 7 ((nd : Nat) : Int)) (x + 1) (by first | omega | (simp only [] at *; omega)) (by first | omega | assumption) (by first | exact h66_F3 | exact (fun b hb => by rw [wr_row (by decide)]; exact h66_F6 b hb)) (by first | exact h67_F3 | exact (fun c hc => by rw [wr_row (by decide)]; exact h67_F6 c hc)) (by first | exact hd_F3 | exact ⟨_, _, (wr_o (by decide)).trans h6_F6, wr_s _ _ _ _, hn6, hn7⟩) (by first | exact hg_F3 | exact hg_F6.fr (fun q _ _ _ => wr_row (by omega))) (by first | exact hl_F3 | exact hl_F6.fr (fun q _ _ => wr_row (by omega))) (by first | exact hf_F3 | exact hf_F6.tr ⟨fun q h1 _ _ _ _ => wr_row h1, fun k _ h2 => wr_o (by omega)⟩))
                  · have hn7 := hnd.or hW40 (by omega) h111 (by omega)
                    refine at_lconst 188 X (v := 1) (by decide) (by decide) dX6_demand_187 rfl ?_
                    refine at_iload 190 X rfl dX6_demand_188 rfl ?_
                    refine at_lshlV 191 X ((2 ^ x : Nat) : Int) (lshl1 (by omega)) dX6_demand_190 rfl ?_
                    refine at_goto 195 X dX6_demand_191 (by decide) ?_
                    refine at_lorV 196 X ((nd ||| 2 ^ x : Nat) : Int) (lor_nat (by have := hnd.1; omega) (by have := p2_40 (x := x) (by omega); omega)) dX6_demand_195 rfl ?_
                    refine m_putL 199 X f_X6_89 fw_6_7 k_62 rn_62_7 dX6_demand_196 rfl ?_
                    refine at_iincV 202 X ((x + 1 : Nat) : Int) (w32_v (by omega) (by omega) (by omega)) rfl dX6_demand_199 rfl (by decide) ?_
                    refine at_goto 94 X dX6_demand_202 (by decide) ?_
                    exact at_sub _ (by exact ⟨rfl, rfl, rfl, rfl, rfl, rfl, rfl, trivial⟩) (ih94 (wr F6 62 7 ((nd ||| 2 ^ x : Nat) : Int)) (x + 1) (by first | omega | (simp only [] at *; omega)) (by first | omega | assumption) (by first | exact h66_F3 | exact (fun b hb => by rw [wr_row (by decide)]; exact h66_F6 b hb)) (by first | exact h67_F3 | exact (fun c hc => by rw [wr_row (by decide)]; exact h67_F6 c hc)) (by first | exact hd_F3 | exact ⟨_, _, (wr_o (by decide)).trans h6_F6, wr_s _ _ _ _, hn6, hn7⟩) (by first | exact hg_F3 | exact hg_F6.fr (fun q _ _ _ => wr_row (by omega))) (by first | exact hl_F3 | exact hl_F6.fr (fun q _ _ => wr_row (by omega))) (by first | exact hf_F3 | exact hf_F6.tr ⟨fun q h1 _ _ _ _ => wr_row h1, fun k _ h2 => wr_o (by omega)⟩))
          exact at_sub _ (by exact ⟨rfl, rfl, rfl, rfl, rfl, rfl, rfl, trivial⟩) (J94 _ F4 0 (Nat.lt_succ_self _) (by first | omega | assumption | rfl) h66_F4 h67_F4 (by obtain ⟨nl, nd, q1, q2, q3, q4⟩ := hd_F4; exact ⟨nl, nd, q1, q2, q3.up, q4.up⟩) hg_F4 hl_F4 hf_F4)
        · refine at_aload_n 48 X rfl rfl dX6_demand_47 rfl ?_
          refine m_getR 51 X f_X6_98 k_12 r_12_0 dX6_demand_48 rfl ?_
          refine at_iload 53 X rfl dX6_demand_51 rfl ?_
          refine m_ialoadV 54 X i (by omega) ((T.2.1 i : Nat) : Int) (hN_F2.a (i := i) (by omega)) k_13 e_13 (by omega) dX6_demand_53 rfl ?_
          have := hT.2 i (by omega)
          refine at_iload 56 X rfl dX6_demand_54 rfl ?_
          refine at_icmp_ne 59 78 X dX6_demand_56 rfl (by decide) (fun h56 => ?_) (fun h56 => ?_)
          · refine at_iincV 81 X ((i + 1 : Nat) : Int) (w32_v (by omega) (by omega) (by omega)) rfl dX6_demand_78 rfl (by decide) ?_
            refine at_goto 38 X dX6_demand_81 (by decide) ?_
            exact at_sub _ (by exact ⟨rfl, rfl, rfl, rfl, rfl, rfl, rfl, trivial⟩) (ih38 F2 (i + 1) (by first | omega | (simp only [] at *; omega)) (by first | omega | assumption) (fun b hb => by rw [mvW_s]; first | (rw [if_neg (by omega)]; exact h66_F2 b hb) | (rw [if_pos (by omega)]; exact if e : b = T.2.2.1 i then (by rw [e, wr_s, pt1_s]) else (by rw [wr_o (Or.inr e), pt1_o e]; exact h66_F2 b hb))) (by first | exact hd_F2 | (unfold DMx; simp (disch := omega) only [wr_o]; exact hd_F2)) (by first | exact hg_F2 | exact hg_F2.fr (fun q _ _ _ => wr_row (by omega))) (by first | exact hl_F2 | exact hl_F2.fr (fun q _ _ => wr_row (by omega))) (by first | exact hf_F2 | exact hf_F2.tr ⟨fun q _ h2 _ _ _ => wr_row h2, fun k _ _ => by simp (disch := omega) only [wr_o]⟩))
          · refine at_aload_n 60 X rfl rfl dX6_demand_59 rfl ?_
            refine m_getR 63 X f_X6_22 k_62 r_62_3 dX6_demand_60 rfl ?_
            refine at_aload_n 64 X rfl rfl dX6_demand_63 rfl ?_
            refine m_getR 67 X f_X6_75 k_12 r_12_1 dX6_demand_64 rfl ?_
            refine at_iload 69 X rfl dX6_demand_67 rfl ?_
            refine m_ialoadV 70 X i (by omega) ((T.2.2.1 i : Nat) : Int) (hN_F2.b (i := i) (by omega)) k_14 e_14 (by omega) dX6_demand_69 rfl ?_
            have := hT.2 i (by omega)
            refine at_aload_n 71 X rfl rfl dX6_demand_70 rfl ?_
            refine m_getR 74 X f_X6_72 k_12 r_12_2 dX6_demand_71 rfl ?_
            refine at_iload 76 X rfl dX6_demand_74 rfl ?_
            refine m_ialoadV 77 X i (by omega) ((T.2.2.2 i : Nat) : Int) (hN_F2.c (i := i) (by omega)) k_15 e_15 (by omega) dX6_demand_76 rfl ?_
            have := hT.2 i (by omega)
            refine m_iastoreV 78 X (T.2.2.1 i) (by omega) k_66 e_66 (by omega) dX6_demand_77 rfl ?_
            refine at_iincV 81 X ((i + 1 : Nat) : Int) (w32_v (by omega) (by omega) (by omega)) rfl dX6_demand_78 rfl (by decide) ?_
            refine at_goto 38 X dX6_demand_81 (by decide) ?_
            exact at_sub _ (by exact ⟨rfl, rfl, rfl, rfl, rfl, rfl, rfl, trivial⟩) (ih38 (wr F2 66 (T.2.2.1 i) ((T.2.2.2 i : Nat) : Int)) (i + 1) (by first | omega | (simp only [] at *; omega)) (by first | omega | assumption) (fun b hb => by rw [mvW_s]; first | (rw [if_neg (by omega)]; exact h66_F2 b hb) | (rw [if_pos (by omega)]; exact if e : b = T.2.2.1 i then (by rw [e, wr_s, pt1_s]) else (by rw [wr_o (Or.inr e), pt1_o e]; exact h66_F2 b hb))) (by first | exact hd_F2 | (unfold DMx; simp (disch := omega) only [wr_o]; exact hd_F2)) (by first | exact hg_F2 | exact hg_F2.fr (fun q _ _ _ => wr_row (by omega))) (by first | exact hl_F2 | exact hl_F2.fr (fun q _ _ => wr_row (by omega))) (by first | exact hf_F2 | exact hf_F2.tr ⟨fun q _ h2 _ _ _ => wr_row h2, fun k _ _ => by simp (disch := omega) only [wr_o]⟩))
      exact at_sub _ (by exact ⟨rfl, rfl, rfl, rfl, rfl, rfl, rfl, trivial⟩) (J38 _ F 0 (Nat.lt_succ_self _) (by first | omega | assumption | rfl) h66_F hd_F hg_F hl_F hf_F)
  exact at_sub _ (by exact ⟨rfl, rfl, rfl, rfl, rfl, rfl, trivial⟩) (J28 _ (cpy (wr (wr E 62 6 0) 62 7 0) (s + 1) 66 0 0 8) 0 (Nat.lt_succ_self _) (by first | omega | assumption | rfl) (fun b hb => by rw [cpy_in (by omega)]; simp (disch := omega) only [wr_o]; rw [show 0 + (b - 0) = b by omega]; exact hB_E.X hb) ⟨0, 0, by rw [cpy_row (by decide)]; simp (disch := omega) only [wr_o, wr_s]; rfl, by rw [cpy_row (by decide)]; simp (disch := omega) only [wr_o, wr_s]; rfl, NB.zero, NB.zero⟩ (hg_E.fr (fun q _ _ _ => by rw [cpy_row (by omega)]; simp (disch := omega) only [wr_row])) (hl_E.fr (fun q _ _ => by rw [cpy_row (by omega)]; simp (disch := omega) only [wr_row])) ⟨fun q h1 h2 _ _ _ => by rw [cpy_row h2]; simp (disch := omega) only [wr_row], fun k h1 h2 => by rw [cpy_row (by decide)]; simp (disch := omega) only [wr_o]⟩)
