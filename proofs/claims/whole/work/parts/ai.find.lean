theorem ct_findS {g : Gw} (hG : GF g) {z : Bool} (s : Nat) (P : SP) (L : LW) (T K : LN) (d w r m : Nat) (cl : Nat → Nat) (nl nd : Nat) (hw8 : w < 2 ^ bN (sB P)) (more n fr lo : Nat) (hmore3 : more ≤ 3) (hfr : 5 ≤ fr) (hlo : 126 ≤ lo) (ih : ∀ (E : Mm) (p : List Nat) (put first lit : Nat), FLI E s P L T K d w r m cl nl nd → PKr E cl p → put = p.length → lit = mk (LM (sLc P) (gnP (gNow P L d) (sB P) T r) (p.map cl)) 50 → put + n = more → first ≤ m → CT g yX11_findLamps cX11_findLamps 8 (some .boolean) fr lo 0 0 K2 z [mR 0, mI ((w : Nat) : Int), mI ((more : Nat) : Int), mI ((put : Nat) : Int), mI ((first : Nat) : Int), mL ((lit : Nat) : Int)] (ov E) K2 z (fun r' D' => ∃ v E1, r' = some (mI v) ∧ D' = ov E1 ∧ FLp E E1 s P L T K d w r m cl nl nd p first n v)) (E : Mm) (p : List Nat) (put first lit : Nat) (hL_E : FLI E s P L T K d w r m cl nl nd) (hpk : PKr E cl p) (hput : put = p.length) (hlit : lit = mk (LM (sLc P) (gnP (gNow P L d) (sB P) T r) (p.map cl)) 50) (hn : put + (n + 1) = more) (hfm : first ≤ m) : CT g yX11_findLamps cX11_findLamps 8 (some .boolean) (fr + 1) (lo + 27) 0 0 K2 z [mR 0, mI ((w : Nat) : Int), mI ((more : Nat) : Int), mI ((put : Nat) : Int), mI ((first : Nat) : Int), mL ((lit : Nat) : Int)] (ov E) K2 z (fun r' D' => ∃ v E1, r' = some (mI v) ∧ D' = ov E1 ∧ FLp E E1 s P L T K d w r m cl nl nd p first (n + 1) v) := by
  refine CT.mk hG (by decide +kernel) (Nat.le_of_ble_eq_true rfl) (fun κ X Rt _ ok => ?_)
  have hs := hL_E.1.sa
  have hP := hL_E.1.WS
  have hW40 := hP.W
  have hN8 := hP.B.N
  have hwG := gNow_WG hL_E.1
  have hw256 : w < 256 := by
    have h2 := Nat.pow_le_pow_right (show 0 < 2 by decide) hN8
    rw [show (2 : Nat) ^ 8 = 256 by decide] at h2
    omega
  have hlit50 := mk_lt (LM (sLc P) (gnP (gNow P L d) (sB P) T r) (p.map cl)) 50
  rw [← hlit, show (2 : Nat) ^ 50 = 1125899906842624 by decide] at hlit50
  have hmW := hL_E.2.2.1.2.1
  refine at_iload_n 1 X rfl rfl dX11_findLamps_0 rfl ?_
  refine at_iload_n 2 X rfl rfl dX11_findLamps_1 rfl ?_
  refine at_icmp_ge 5 10 X dX11_findLamps_2 rfl (by decide) (fun h2 => ?_) (fun h2 => ?_)
  · exfalso; omega
  · refine at_iload_n 6 X rfl rfl dX11_findLamps_5 rfl ?_
    refine at_iconst 7 X (by decide) dX11_findLamps_6 rfl ?_
    refine at_icmp_lt 10 74 X dX11_findLamps_7 rfl (by decide) (fun h7 => ?_) (fun h7 => ?_)
    · refine at_iload 76 X rfl dX11_findLamps_74 rfl ?_
      refine at_istore 78 X dX11_findLamps_76 rfl (by decide) ?_
      have J78 : ∀ (f78 : Nat) (F : Mm) (i : Nat), 41 - i < f78 → (first ≤ i ∧ i ≤ m) → (FLI F s P L T K d w r m cl nl nd) → (CXF E F) → ((∀ k, k < p.length → F 65 k = E 65 k)) → (FNo P L T d w r m cl p first n i) → AT g κ K2 z 0 0 78 [(0, mR 0), (1, mI ((w : Nat) : Int)), (2, mI ((more : Nat) : Int)), (3, mI ((put : Nat) : Int)), (5, mL ((lit : Nat) : Int)), (7, mI ((i : Nat) : Int))] [] (ov F) := by
        intro f78
        induction f78 with
        | zero => intro F i hf78; omega
        | succ f78 ih78 =>
        intro F i hf78 hi hL_F hX_F hpf hno
        refine at_iload 80 X rfl dX11_findLamps_78 rfl ?_
        refine at_aload_n 81 X rfl rfl dX11_findLamps_80 rfl ?_
        refine m_getR 84 X f_X11_86 k_0 r_0_14 dX11_findLamps_81 rfl ?_
        refine m_getIV 87 X ((m : Nat) : Int) hL_F.2.2.1.1 f_X11_338 k_62 rn_62_5 dX11_findLamps_84 rfl ?_
        refine at_icmp_ge 90 146 X dX11_findLamps_87 rfl (by decide) (fun h87 => ?_) (fun h87 => ?_)
        · refine at_iconst 147 X (by decide) dX11_findLamps_146 rfl ?_
          refine at_zret X Rt ?_ (by first | decide | (split <;> decide)) (Nat.le_refl _) (Nat.le_refl _) dX11_findLamps_147
          exact ⟨0, F, rfl, rfl, hL_F, hX_F, hpf, (FNo.all (E1 := F) (Eq.mp (congrArg (fun k => FNo P L T d w r m cl p first n k) (show i = m by omega)) hno))⟩
        · have hmm := hL_F.2.2.1.2.1
          obtain ⟨l0, hg0⟩ := hL_F.2.1
          have hLw := hL_F.fr (E1 := wr F 65 put ((cl i : Nat) : Int)) (fun q _ _ _ h4 => wr_row h4) ⟨l0, hg0.fr (fun q _ _ _ => wr_row (by omega))⟩
          have hgd := gd_lt (G := (gNow P L d)) (B := sB P) (T := T) hwG.W r (cl i)
          refine at_aload_n 91 X rfl rfl dX11_findLamps_90 rfl ?_
          refine m_getR 94 X f_X11_86 k_0 r_0_14 dX11_findLamps_91 rfl ?_
          refine m_getR 97 X f_X11_339 k_62 r_62_2 dX11_findLamps_94 rfl ?_
          refine at_iload_n 98 X rfl rfl dX11_findLamps_97 rfl ?_
          refine at_aload_n 99 X rfl rfl dX11_findLamps_98 rfl ?_
          refine m_getR 102 X f_X11_86 k_0 r_0_14 dX11_findLamps_99 rfl ?_
          refine m_getR 105 X f_X11_342 k_62 r_62_0 dX11_findLamps_102 rfl ?_
          refine at_iload 107 X rfl dX11_findLamps_105 rfl ?_
          refine m_ialoadV 108 X i (by omega) ((cl i : Nat) : Int) (hL_F.2.2.1.2.2.1 i (by omega)).1 k_63 e_63 (by omega) dX11_findLamps_107 rfl ?_
          refine m_iastoreV 109 X put (by omega) k_65 e_65 (by omega) dX11_findLamps_108 rfl ?_
          refine at_aload_n 110 X rfl rfl dX11_findLamps_109 rfl ?_
          refine at_iload_n 111 X rfl rfl dX11_findLamps_110 rfl ?_
          refine at_iload_n 112 X rfl rfl dX11_findLamps_111 rfl ?_
          refine at_iload_n 113 X rfl rfl dX11_findLamps_112 rfl ?_
          refine at_iconst 114 X (by decide) dX11_findLamps_113 rfl ?_
          refine at_iaddV 115 X ((put + 1 : Nat) : Int) (w32_v (by omega) (by omega) (by omega)) dX11_findLamps_114 rfl ?_
          refine at_iload 117 X rfl dX11_findLamps_115 rfl ?_
          refine at_iconst 118 X (by decide) dX11_findLamps_117 rfl ?_
          refine at_iaddV 119 X ((i + 1 : Nat) : Int) (w32_v (by omega) (by omega) (by omega)) dX11_findLamps_118 rfl ?_
          refine at_lload 121 X rfl dX11_findLamps_119 rfl ?_
          refine at_aload_n 122 X rfl rfl dX11_findLamps_121 rfl ?_
          refine m_getR 125 X f_X11_86 k_0 r_0_14 dX11_findLamps_122 rfl ?_
          refine m_getR 128 X f_X11_345 k_62 r_62_1 dX11_findLamps_125 rfl ?_
          refine at_iload 130 X rfl dX11_findLamps_128 rfl ?_
          refine m_laloadV 131 X i (by omega) ((gdP (gNow P L d) (sB P) T r (cl i) : Nat) : Int) ((wr_o (by omega)).trans (hL_F.2.2.1.2.2.1 i (by omega)).2.1) k_64 e_64 (by omega) dX11_findLamps_130 rfl ?_
          refine at_lorV 132 X ((lit ||| gdP (gNow P L d) (sB P) T r (cl i) : Nat) : Int) (lor_nat (by omega) (by omega)) dX11_findLamps_131 rfl ?_
          refine at_callV 135 X _ 11 (ih (wr F 65 put ((cl i : Nat) : Int)) (p ++ [i]) (put + 1) (i + 1) (lit ||| gdP (gNow P L d) (sB P) T r (cl i)) hLw.1 (hpk.snoc (by rw [← hput, wr_s]) (fun k hk => (wr_o (by omega)).trans (hpf k hk))) (by rw [List.length_append]; show put + 1 = p.length + 1; omega) (by rw [hlit, LM_or hwG.W, List.map_append]; rfl) (by omega) (by omega)) clX11 rfl k_0 mo_X11_findLamps w_1471 vo_X11_findLamps.1 vo_X11_findLamps.2 rfl rfl (crm Rt ⟨by omega, by omega, by omega, by omega⟩) (Nat.le_of_ble_eq_true rfl) dX11_findLamps_132 rfl ?_
          rintro _ _ ⟨v, F2, rfl, rfl, hL_F2, hX2, hp2, hQ⟩
          have hX_F2 := (hX_F.tr hLw.2).tr hX2
          have hpf2 : ∀ k, k < p.length → F2 65 k = E 65 k := fun k hk => (hp2 k (by rw [List.length_append]; omega)).trans ((wr_o (by omega)).trans (hpf k hk))
          refine at_if_eq 138 140 X dX11_findLamps_135 rfl (by decide) (fun h135 => ?_) (fun h135 => ?_)
          · refine at_iincV 143 X ((i + 1 : Nat) : Int) (w32_v (by omega) (by omega) (by omega)) rfl dX11_findLamps_140 rfl (by decide) ?_
            refine at_goto 78 X dX11_findLamps_143 (by decide) ?_
            exact at_sub _ (by exact ⟨rfl, rfl, rfl, rfl, rfl, rfl, trivial⟩) (ih78 F2 (i + 1) (by first | omega | (simp only [] at *; omega)) (by first | omega | assumption) hL_F2 hX_F2 hpf2 (hno.step hQ (by omega)))
          · refine at_iconst 139 X (by decide) dX11_findLamps_138 rfl ?_
            refine at_zret X Rt ?_ (by first | decide | (split <;> decide)) (Nat.le_refl _) (Nat.le_refl _) dX11_findLamps_139
            exact ⟨1, F2, rfl, rfl, hL_F2, hX_F2, hpf2, hno.found hQ h135 hi.1 (by omega) hL_F.2.2.1.2.2.2.1 (fun k hk => by have := (hL_F.2.2.1.2.2.1 k hk).2.2.1; omega)⟩
      exact at_sub _ (by exact ⟨rfl, rfl, rfl, rfl, rfl, rfl, trivial⟩) (J78 _ E first (Nat.lt_succ_self _) (by first | omega | assumption | rfl) (by first | omega | assumption | rfl) CXF.rf (fun _ _ => rfl) (fun j t h1 h2 => by omega))
    · exfalso; omega
theorem ct_find {g : Gw} (hG : GF g) {z : Bool} (s : Nat) (P : SP) (L : LW) (T K : LN) (d w r m : Nat) (cl : Nat → Nat) (nl nd : Nat) (hw8 : w < 2 ^ bN (sB P)) (more : Nat) (hmore3 : more ≤ 3) : ∀ (n : Nat) (E : Mm) (p : List Nat) (put first lit : Nat), FLI E s P L T K d w r m cl nl nd → PKr E cl p → put = p.length → lit = mk (LM (sLc P) (gnP (gNow P L d) (sB P) T r) (p.map cl)) 50 → put + n = more → first ≤ m → CT g yX11_findLamps cX11_findLamps 8 (some .boolean) (5 + n) (126 + 27 * n) 0 0 K2 z [mR 0, mI ((w : Nat) : Int), mI ((more : Nat) : Int), mI ((put : Nat) : Int), mI ((first : Nat) : Int), mL ((lit : Nat) : Int)] (ov E) K2 z (fun r' D' => ∃ v E1, r' = some (mI v) ∧ D' = ov E1 ∧ FLp E E1 s P L T K d w r m cl nl nd p first n v)
  | 0 => fun E p put first lit h1 h2 h3 h4 h5 _ => ct_find0 hG s P L T K d w r m cl nl nd hw8 E p put first lit more h1 h2 h3 h4 (by omega)
  | n + 1 => fun E p put first lit h1 h2 h3 h4 h5 h6 => by
    have h := ct_findS hG (z := z) s P L T K d w r m cl nl nd hw8 more n (5 + n) (126 + 27 * n) hmore3 (by omega) (by omega) (ct_find hG s P L T K d w r m cl nl nd hw8 more hmore3 n) E p put first lit h1 h2 h3 h4 h5 h6
    rw [show 5 + (n + 1) = 5 + n + 1 by omega, show 126 + 27 * (n + 1) = 126 + 27 * n + 27 by omega]
    exact h
