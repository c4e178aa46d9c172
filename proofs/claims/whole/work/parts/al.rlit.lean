theorem ct_lightS {g : Gw} (hG : GF g) {z : Bool} (Q : RX) (P : SP) (L : LW) (T K : LN) (d st w r : Nat) (hWf : WF P L T K d st) (hw8 : w < 2 ^ bN (sB P)) (hr9 : r ≤ 9) (left fr lo : Nat) (hfr : 5 ≤ fr) (hlo : 115 ≤ lo) (ih : ∀ (E : Mm) (p : List Nat) (f n dg : Nat), RLS E Q P L T K d st → RLo E (sLn P) r p → n = p.length → dg = dgt p → (∀ x, x ∈ p → x < sW P) → n + left ≤ 3 → f ≤ sW P → CT g yX12_lights cX12_lights 8 none fr lo 0 0 K2 z [mR 125, mI ((f : Nat) : Int), mI ((n : Nat) : Int), mI ((left : Nat) : Int), mI ((r : Nat) : Int), mI ((w : Nat) : Int), mI ((dg : Nat) : Int)] (ov E) K2 z (fun r' D' => r' = none ∧ ∃ E1, D' = ov E1 ∧ RLp E E1 Q P L T K d st w r p f left)) (E : Mm) (p : List Nat) (f n dg : Nat) (hS_E : RLS E Q P L T K d st) (hro : RLo E (sLn P) r p) (hn : n = p.length) (hdg : dg = dgt p) (hpW : ∀ x, x ∈ p → x < sW P) (hn3 : n + (left + 1) ≤ 3) (hfW : f ≤ sW P) : CT g yX12_lights cX12_lights 8 none (fr + 1) (lo + 27) 0 0 K2 z [mR 125, mI ((f : Nat) : Int), mI ((n : Nat) : Int), mI (((left + 1) : Nat) : Int), mI ((r : Nat) : Int), mI ((w : Nat) : Int), mI ((dg : Nat) : Int)] (ov E) K2 z (fun r' D' => r' = none ∧ ∃ E1, D' = ov E1 ∧ RLp E E1 Q P L T K d st w r p f (left + 1)) := by
  refine CT.mk hG (by decide +kernel) (Nat.le_of_ble_eq_true rfl) (fun κ X Rt _ ok => ?_)
  have hP := hWf.1
  have hW40 := hP.W
  have hN8 := hP.B.N
  have hLn := hP.Ln
  have hst : st < 2147483648 := by have := hWf.2.2.2.2.2.2; omega
  have hR_E := hS_E.1.1
  have hwG := gOf_WG hP hWf.2.2.1 (moonP_in P d).2
  have hw256 : w < 256 := by
    have h2 := Nat.pow_le_pow_right (show 0 < 2 by decide) hN8
    rw [show (2 : Nat) ^ 8 = 256 by decide] at h2
    omega
  have hdgl : dg < 64 ^ p.length := by rw [hdg]; exact dgt_lt64 p (fun x hx => by have := hpW x hx; omega)
  have hdg3 : dg < 262144 := Nat.lt_of_lt_of_le hdgl (by have := Nat.pow_le_pow_right (show 0 < 64 by decide) (show p.length ≤ 3 by omega); rw [show (64 : Nat) ^ 3 = 262144 by decide] at this; exact this)
  refine at_aload_n 1 X rfl rfl dX12_lights_0 rfl ?_
  refine m_getIV 4 X (E 125 62) rfl f_X12_423 k_125 rn_125_62 dX12_lights_1 rfl ?_
  refine at_iconst 5 X (by decide) dX12_lights_4 rfl ?_
  refine at_icmp_eq 8 9 X dX12_lights_5 rfl (by decide) (fun h5 => ?_) (fun h5 => ?_)
  · refine at_iload_n 10 X rfl rfl dX12_lights_9 rfl ?_
    refine at_if_ne 13 57 X dX12_lights_10 rfl (by decide) (fun h10 => ?_) (fun h10 => ?_)
    · refine at_iload_n 58 X rfl rfl dX12_lights_57 rfl ?_
      refine at_istore 60 X dX12_lights_58 rfl (by decide) ?_
      have J60 : ∀ (f60 : Nat) (F : Mm) (x : Nat), 41 - x < f60 → (f ≤ x ∧ x ≤ sW P) → (RLS F Q P L T K d st) → (RLf P E F) → ((∀ k, k < p.length → F (209 + (sLn P + k)) = E (209 + (sLn P + k)))) → (((F 125 62 = -1 ∧ RNo P L T d w r p f left x) ∨ RFo P L T d w r p f (left + 1) F)) → AT g κ K2 z 0 0 60 [(0, mR 125), (2, mI ((n : Nat) : Int)), (3, mI (((left + 1) : Nat) : Int)), (4, mI ((r : Nat) : Int)), (5, mI ((w : Nat) : Int)), (6, mI ((dg : Nat) : Int)), (7, mI ((x : Nat) : Int))] [] (ov F) := by
        intro f60
        induction f60 with
        | zero => intro F x hf60; omega
        | succ f60 ih60 =>
        intro F x hf60 hx hS_F hf_F hpr hv_F
        refine at_iload 62 X rfl dX12_lights_60 rfl ?_
        have hR_F := hS_F.1.1
        refine at_aload_n 63 X rfl rfl dX12_lights_62 rfl ?_
        refine m_getR 66 X f_X12_23 k_125 r_125_12 dX12_lights_63 rfl ?_
        refine at_iconst 67 X (by decide) dX12_lights_66 rfl ?_
        refine m_ialoadV 68 X 0 (by omega) ((sW P : Nat) : Int) hR_F.1.1 k_129 e_129 (by omega) dX12_lights_67 rfl ?_
        have := hP.W
        refine at_icmp_ge 71 137 X dX12_lights_68 rfl (by decide) (fun h68 => ?_) (fun h68 => ?_)
        · refine at_vret X Rt ?_ (Nat.le_refl _) (Nat.le_refl _) dX12_lights_137
          exact ⟨rfl, F, rfl, hS_F, hf_F, hpr, fun q => absurd h5 q, fun _ => RNo.all (by rw [show x = sW P by omega] at hv_F; exact hv_F)⟩
        · refine at_aload_n 72 X rfl rfl dX12_lights_71 rfl ?_
          refine m_getR 75 X f_X12_55 k_125 r_125_22 dX12_lights_72 rfl ?_
          refine at_aload_n 76 X rfl rfl dX12_lights_75 rfl ?_
          refine m_getR 79 X f_X12_23 k_125 r_125_12 dX12_lights_76 rfl ?_
          refine at_iconst 80 X (by decide) dX12_lights_79 rfl ?_
          refine m_ialoadV 81 X 5 (by omega) ((sLn P : Nat) : Int) hR_F.1.2.2.2.2.2.1 k_129 e_129 (by omega) dX12_lights_80 rfl ?_
          have := hP.Ln
          refine at_iload_n 82 X rfl rfl dX12_lights_81 rfl ?_
          refine at_iaddV 83 X ((sLn P + n : Nat) : Int) (w32_v (by omega) (by omega) (by omega)) dX12_lights_82 rfl ?_
          refine m_aaloadV 84 X (sLn P + n) (by omega) k_208 (by decide) (by omega) (rr_208 _ (by omega)) dX12_lights_83 rfl ?_
          refine at_iconst 85 X (by decide) dX12_lights_84 rfl ?_
          refine at_iload 87 X rfl dX12_lights_85 rfl ?_
          refine m_iastoreV 88 X 0 (by omega) (kr_208 _ (by omega)) (er_208 _ (by omega)) (by omega) dX12_lights_87 rfl ?_
          refine at_aload_n 89 X rfl rfl dX12_lights_88 rfl ?_
          refine m_getR 92 X f_X12_55 k_125 r_125_22 dX12_lights_89 rfl ?_
          refine at_aload_n 93 X rfl rfl dX12_lights_92 rfl ?_
          refine m_getR 96 X f_X12_23 k_125 r_125_12 dX12_lights_93 rfl ?_
          refine at_iconst 97 X (by decide) dX12_lights_96 rfl ?_
          refine m_ialoadV 98 X 5 (by omega) ((sLn P : Nat) : Int) ((wr_o (by omega)).trans hR_F.1.2.2.2.2.2.1) k_129 e_129 (by omega) dX12_lights_97 rfl ?_
          have := hP.Ln
          refine at_iload_n 99 X rfl rfl dX12_lights_98 rfl ?_
          refine at_iaddV 100 X ((sLn P + n : Nat) : Int) (w32_v (by omega) (by omega) (by omega)) dX12_lights_99 rfl ?_
          refine m_aaloadV 101 X (sLn P + n) (by omega) k_208 (by decide) (by omega) (rr_208 _ (by omega)) dX12_lights_100 rfl ?_
          refine at_iconst 102 X (by decide) dX12_lights_101 rfl ?_
          refine at_iload 104 X rfl dX12_lights_102 rfl ?_
          refine m_iastoreV 105 X 1 (by omega) (kr_208 _ (by omega)) (er_208 _ (by omega)) (by omega) dX12_lights_104 rfl ?_
          refine at_aload_n 106 X rfl rfl dX12_lights_105 rfl ?_
          refine at_iload 108 X rfl dX12_lights_106 rfl ?_
          refine at_iconst 109 X (by decide) dX12_lights_108 rfl ?_
          refine at_iaddV 110 X ((x + 1 : Nat) : Int) (w32_v (by omega) (by omega) (by omega)) dX12_lights_109 rfl ?_
          refine at_iload_n 111 X rfl rfl dX12_lights_110 rfl ?_
          refine at_iconst 112 X (by decide) dX12_lights_111 rfl ?_
          refine at_iaddV 113 X ((n + 1 : Nat) : Int) (w32_v (by omega) (by omega) (by omega)) dX12_lights_112 rfl ?_
          refine at_iload_n 114 X rfl rfl dX12_lights_113 rfl ?_
          refine at_iconst 115 X (by decide) dX12_lights_114 rfl ?_
          refine at_isubV 116 X ((left : Nat) : Int) (w32_v (by omega) (by omega) (by omega)) dX12_lights_115 rfl ?_
          refine at_iload 118 X rfl dX12_lights_116 rfl ?_
          refine at_iload 120 X rfl dX12_lights_118 rfl ?_
          refine at_bipush 122 X (by decide) (by decide) dX12_lights_120 rfl ?_
          refine at_iload 124 X rfl dX12_lights_122 rfl ?_
          refine at_imulV 125 X ((64 * dg : Nat) : Int) (w32_v (by omega) (by omega) (by omega)) dX12_lights_124 rfl ?_
          refine at_iload 127 X rfl dX12_lights_125 rfl ?_
          refine at_iaddV 128 X ((64 * dg + x : Nat) : Int) (w32_v (by omega) (by omega) (by omega)) dX12_lights_127 rfl ?_
          generalize hF1 : wr (wr F (209 + (sLn P + n)) 0 ((x : Nat) : Int)) (209 + (sLn P + n)) 1 ((r : Nat) : Int) = F1
          have hq1 : ∀ q, q ≠ 209 + (sLn P + n) → F1 q = F q := fun q h => by rw [← hF1]; simp (disch := omega) only [wr_row]
          have hX1 : RXF P F F1 := ⟨fun q h => hq1 q (by omega), fun k _ => by rw [hq1 125 (by omega)]⟩
          have hS1 : RLS F1 Q P L T K d st := hS_F.fr hWf hX1 (hS_F.1.2.2.1.fr (by rw [hq1 125 (by omega)]) (hq1 578 (by omega)) (hq1 579 (by omega))) (by rw [hq1 125 (by omega)]) (by rw [hq1 125 (by omega)]) (fun q a b => hq1 q (by omega))
          have hpr1 : ∀ k, k < p.length → F1 (209 + (sLn P + k)) = E (209 + (sLn P + k)) := fun k hk => (hq1 _ (by omega)).trans (hpr k hk)
          have hro1 : RLo F1 (sLn P) r (p ++ [x]) := hro.snoc hpr1 (by rw [← hn, ← hF1, wr_o (by omega), wr_s]) (by rw [← hn, ← hF1, wr_s])
          refine at_callV 131 X _ 12 (ih F1 (p ++ [x]) (x + 1) (n + 1) (64 * dg + x) hS1 hro1 (by rw [List.length_append]; show n + 1 = p.length + 1; omega) (by rw [dgt_snoc, hdg]) (fun y hy => (List.mem_append.mp hy).elim (hpW y) (fun q => by rw [List.mem_singleton.mp q]; omega)) (by omega) (by omega)) clX12 rfl k_125 mo_X12_lights w_2289 vo_X12_lights.1 vo_X12_lights.2 rfl rfl (crm Rt ⟨by omega, by omega, by omega, by omega⟩) (Nat.le_of_ble_eq_true rfl) dX12_lights_128 rfl ?_
          rintro _ _ ⟨rfl, F2, rfl, hS_F2, hf2, hp2, hk2, hQ2⟩
          have hf_F2 : RLf P E F2 := (hf_F.tr ⟨hX1, by rw [hq1 125 (by omega)], hq1 127 (by omega)⟩).tr hf2
          have hpr_F2 : ∀ k, k < p.length → F2 (209 + (sLn P + k)) = E (209 + (sLn P + k)) := fun k hk => (hp2 k (by rw [List.length_append]; omega)).trans (hpr1 k hk)
          have hst2 := RNo.step (E1 := F2) hW40.2 hv_F (by rw [← hq1 125 (by omega)]; exact hk2) (by rw [← hq1 125 (by omega)]; exact hQ2) hx.1 (by omega)
          refine at_iincV 134 X ((x + 1 : Nat) : Int) (w32_v (by omega) (by omega) (by omega)) rfl dX12_lights_131 rfl (by decide) ?_
          refine at_goto 60 X dX12_lights_134 (by decide) ?_
          exact at_sub _ (by exact ⟨rfl, rfl, rfl, rfl, rfl, rfl, rfl, trivial⟩) (ih60 F2 (x + 1) (by first | omega | (simp only [] at *; omega)) (by first | omega | assumption) hS_F2 hf_F2 hpr_F2 hst2)
      exact at_sub _ (by exact ⟨rfl, rfl, rfl, rfl, rfl, rfl, rfl, trivial⟩) (J60 _ E f (Nat.lt_succ_self _) (by first | omega | assumption | rfl) (by first | omega | assumption | rfl) RLf.rf (fun _ _ => rfl) (Or.inl ⟨h5, fun j t a b => by omega⟩))
    · exfalso; omega
  · refine at_vret X Rt ?_ (Nat.le_refl _) (Nat.le_refl _) dX12_lights_8
    exact ⟨rfl, E, rfl, hS_E, RLf.rf, fun _ _ => rfl, fun _ => ⟨rfl, rfl⟩, fun q => absurd q h5⟩
theorem ct_lights {g : Gw} (hG : GF g) {z : Bool} (Q : RX) (P : SP) (L : LW) (T K : LN) (d st w r : Nat) (hWf : WF P L T K d st) (hw8 : w < 2 ^ bN (sB P)) (hr9 : r ≤ 9) : ∀ (left : Nat) (E : Mm) (p : List Nat) (f n dg : Nat), RLS E Q P L T K d st → RLo E (sLn P) r p → n = p.length → dg = dgt p → (∀ x, x ∈ p → x < sW P) → n + left ≤ 3 → f ≤ sW P → CT g yX12_lights cX12_lights 8 none (5 + left) (115 + 27 * left) 0 0 K2 z [mR 125, mI ((f : Nat) : Int), mI ((n : Nat) : Int), mI ((left : Nat) : Int), mI ((r : Nat) : Int), mI ((w : Nat) : Int), mI ((dg : Nat) : Int)] (ov E) K2 z (fun r' D' => r' = none ∧ ∃ E1, D' = ov E1 ∧ RLp E E1 Q P L T K d st w r p f left)
  | 0 => fun E p f n dg h1 h2 h3 h4 h5 h6 _ => ct_light0 hG Q P L T K d st w r hWf hw8 hr9 E p f n 0 dg h1 h2 h3 h4 h5 rfl h6
  | left + 1 => fun E p f n dg h1 h2 h3 h4 h5 h6 h7 => by
    have h := ct_lightS hG (z := z) Q P L T K d st w r hWf hw8 hr9 left (5 + left) (115 + 27 * left) (by omega) (by omega) (ct_lights hG Q P L T K d st w r hWf hw8 hr9 left) E p f n dg h1 h2 h3 h4 h5 h6 h7
    rw [show 5 + (left + 1) = 5 + left + 1 by omega, show 115 + 27 * (left + 1) = 115 + 27 * left + 27 by omega]
    exact h
