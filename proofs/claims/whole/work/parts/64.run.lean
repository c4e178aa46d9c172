/-- a day gone through, as the class holds it, n hours of it -/
def CDn (E : Mm) (r : Nat) (G : GP) (B : BM) (T : LN) (n : Nat) : Prop := CD E r (dyP G B T n) ∧ ∀ t k, t < n → k < 8 → E (r + 4) (t * 8 + k) = dP (dyP G B T (t + 1)) k
theorem CDn.fr {E E1 : Mm} {r n : Nat} {G : GP} {B : BM} {T : LN} (h : CDn E r G B T n) (hf : ∀ q, r ≤ q → q ≤ r + 4 → E1 q = E q) : CDn E1 r G B T n :=
  ⟨h.1.fr (fun q h1 h2 => hf q h1 (by omega)), fun t k ht hk => by rw [hf (r + 4) (by omega) (by omega)]; exact h.2 t k ht hk⟩
theorem cpy_row {D : Mm} {a b sp dp n q : Nat} (h : q ≠ b) : cpy D a b sp dp n q = D q := funext fun _ => if_neg (fun c => h c.1)
theorem cpy_in {D : Mm} {a b sp dp n j : Nat} (h : dp ≤ j ∧ j < dp + n) : cpy D a b sp dp n b j = D a (sp + (j - dp)) := if_pos ⟨rfl, h⟩
theorem cpy_out {D : Mm} {a b sp dp n q j : Nat} (h : j < dp ∨ dp + n ≤ j) : cpy D a b sp dp n q j = D q j := if_neg (by omega)
theorem dX3_go_0 : decode cX3_go 0 = .ok (.aload_n 0, 1) := by decide +kernel
theorem dX3_go_1 : decode cX3_go 1 = .ok (.iconst 0, 1) := by decide +kernel
theorem dX3_go_2 : decode cX3_go 2 = .ok (.putfield 28, 3) := by decide +kernel
theorem dX3_go_5 : decode cX3_go 5 = .ok (.aload_n 0, 1) := by decide +kernel
theorem dX3_go_6 : decode cX3_go 6 = .ok (.iconst 0, 1) := by decide +kernel
theorem dX3_go_7 : decode cX3_go 7 = .ok (.putfield 32, 3) := by decide +kernel
theorem dX3_go_10 : decode cX3_go 10 = .ok (.iconst 0, 1) := by decide +kernel
theorem dX3_go_11 : decode cX3_go 11 = .ok (.istore 5, 2) := by decide +kernel
theorem dX3_go_13 : decode cX3_go 13 = .ok (.iload 5, 2) := by decide +kernel
theorem dX3_go_15 : decode cX3_go 15 = .ok (.bipush 8, 2) := by decide +kernel
theorem dX3_go_17 : decode cX3_go 17 = .ok (.if_icmp .ge 44, 3) := by decide +kernel
theorem dX3_go_20 : decode cX3_go 20 = .ok (.aload_n 0, 1) := by decide +kernel
theorem dX3_go_21 : decode cX3_go 21 = .ok (.getfield 9, 3) := by decide +kernel
theorem dX3_go_24 : decode cX3_go 24 = .ok (.iload 5, 2) := by decide +kernel
theorem dX3_go_26 : decode cX3_go 26 = .ok (.iload 5, 2) := by decide +kernel
theorem dX3_go_28 : decode cX3_go 28 = .ok (.aload_n 2, 1) := by decide +kernel
theorem dX3_go_29 : decode cX3_go 29 = .ok (.getfield 35, 3) := by decide +kernel
theorem dX3_go_32 : decode cX3_go 32 = .ok (.if_icmp .ge 13, 3) := by decide +kernel
theorem dX3_go_35 : decode cX3_go 35 = .ok (.aload_n 2, 1) := by decide +kernel
theorem dX3_go_36 : decode cX3_go 36 = .ok (.getfield 40, 3) := by decide +kernel
theorem dX3_go_39 : decode cX3_go 39 = .ok (.iload 5, 2) := by decide +kernel
theorem dX3_go_41 : decode cX3_go 41 = .ok (.iaload, 1) := by decide +kernel
theorem dX3_go_42 : decode cX3_go 42 = .ok (.goto 4, 3) := by decide +kernel
theorem dX3_go_45 : decode cX3_go 45 = .ok (.iconst (-1), 1) := by decide +kernel
theorem dX3_go_46 : decode cX3_go 46 = .ok (.iastore, 1) := by decide +kernel
theorem dX3_go_47 : decode cX3_go 47 = .ok (.aload_n 0, 1) := by decide +kernel
theorem dX3_go_48 : decode cX3_go 48 = .ok (.getfield 15, 3) := by decide +kernel
theorem dX3_go_51 : decode cX3_go 51 = .ok (.iload 5, 2) := by decide +kernel
theorem dX3_go_53 : decode cX3_go 53 = .ok (.iconst (-1), 1) := by decide +kernel
theorem dX3_go_54 : decode cX3_go 54 = .ok (.iastore, 1) := by decide +kernel
theorem dX3_go_55 : decode cX3_go 55 = .ok (.iinc 5 1, 3) := by decide +kernel
theorem dX3_go_58 : decode cX3_go 58 = .ok (.goto (-45), 3) := by decide +kernel
theorem dX3_go_61 : decode cX3_go 61 = .ok (.iconst 0, 1) := by decide +kernel
theorem dX3_go_62 : decode cX3_go 62 = .ok (.istore 5, 2) := by decide +kernel
theorem dX3_go_64 : decode cX3_go 64 = .ok (.iload 5, 2) := by decide +kernel
theorem dX3_go_66 : decode cX3_go 66 = .ok (.bipush 24, 2) := by decide +kernel
theorem dX3_go_68 : decode cX3_go 68 = .ok (.if_icmp .ge 58, 3) := by decide +kernel
theorem dX3_go_71 : decode cX3_go 71 = .ok (.aload_n 0, 1) := by decide +kernel
theorem dX3_go_72 : decode cX3_go 72 = .ok (.getfield 32, 3) := by decide +kernel
theorem dX3_go_75 : decode cX3_go 75 = .ok (.iload 4, 2) := by decide +kernel
theorem dX3_go_77 : decode cX3_go 77 = .ok (.iand, 1) := by decide +kernel
theorem dX3_go_78 : decode cX3_go 78 = .ok (.ifCond .ne 48, 3) := by decide +kernel
theorem dX3_go_81 : decode cX3_go 81 = .ok (.aload_n 0, 1) := by decide +kernel
theorem dX3_go_82 : decode cX3_go 82 = .ok (.aload_n 3, 1) := by decide +kernel
theorem dX3_go_83 : decode cX3_go 83 = .ok (.iload 5, 2) := by decide +kernel
theorem dX3_go_85 : decode cX3_go 85 = .ok (.invokevirtual 43, 3) := by decide +kernel
theorem dX3_go_88 : decode cX3_go 88 = .ok (.aload_n 0, 1) := by decide +kernel
theorem dX3_go_89 : decode cX3_go 89 = .ok (.aload_n 2, 1) := by decide +kernel
theorem dX3_go_90 : decode cX3_go 90 = .ok (.invokevirtual 47, 3) := by decide +kernel
theorem dX3_go_93 : decode cX3_go 93 = .ok (.aload_n 0, 1) := by decide +kernel
theorem dX3_go_94 : decode cX3_go 94 = .ok (.aload_n 1, 1) := by decide +kernel
theorem dX3_go_95 : decode cX3_go 95 = .ok (.aload_n 2, 1) := by decide +kernel
theorem dX3_go_96 : decode cX3_go 96 = .ok (.iload 5, 2) := by decide +kernel
theorem dX3_go_98 : decode cX3_go 98 = .ok (.invokevirtual 51, 3) := by decide +kernel
theorem dX3_go_101 : decode cX3_go 101 = .ok (.aload_n 0, 1) := by decide +kernel
theorem dX3_go_102 : decode cX3_go 102 = .ok (.getfield 9, 3) := by decide +kernel
theorem dX3_go_105 : decode cX3_go 105 = .ok (.iconst 0, 1) := by decide +kernel
theorem dX3_go_106 : decode cX3_go 106 = .ok (.aload_n 0, 1) := by decide +kernel
theorem dX3_go_107 : decode cX3_go 107 = .ok (.getfield 21, 3) := by decide +kernel
theorem dX3_go_110 : decode cX3_go 110 = .ok (.iload 5, 2) := by decide +kernel
theorem dX3_go_112 : decode cX3_go 112 = .ok (.bipush 8, 2) := by decide +kernel
theorem dX3_go_114 : decode cX3_go 114 = .ok (.imul, 1) := by decide +kernel
theorem dX3_go_115 : decode cX3_go 115 = .ok (.bipush 8, 2) := by decide +kernel
theorem dX3_go_117 : decode cX3_go 117 = .ok (.invokestatic 55, 3) := by decide +kernel
theorem dX3_go_120 : decode cX3_go 120 = .ok (.iinc 5 1, 3) := by decide +kernel
theorem dX3_go_123 : decode cX3_go 123 = .ok (.goto (-59), 3) := by decide +kernel
theorem dX3_go_126 : decode cX3_go 126 = .ok (.return_, 1) := by decide +kernel
theorem ct_X3_go {g : Gw} (hG : GF g) {z : Bool} (E : Mm) (r : Nat) (hr : r = 48 ∨ r = 54) (a : Nat) (ha : a = 30 ∨ a = 39) (G : GP) (hw : WG G) (hg_E : CG E a G) (hl_E : CL E 4 (gLw G)) (B : BM) (s : Nat) (hs : s = 76 ∨ s = 91) (hB_E : CB E s B) (hW : WB (gW G) B) (T : LN) (hN_E : CN E 12 T) (hT : WT (gW G) B T) (wt : Nat) (hwt : wt < 256) : CT g yX3_go cX3_go 6 none 4 101 0 0 K2 z [mR r, mR a, mR s, mR 12, mI ((wt : Nat) : Int)] (ov E) K2 z (fun r' D' => r' = none ∧ ∃ (E1 : Mm) (n : Nat), D' = ov E1 ∧ n ≤ 24 ∧ (n = 24 ∨ ¬ (mk (fun k => decide (¬ dF (dyP G B T n) k = -1)) 8 &&& wt) = 0) ∧ CDn E1 r G B T n ∧ CG E1 a G ∧ ∀ q, q ≠ r → q ≠ r + 1 → q ≠ r + 2 → q ≠ r + 3 → q ≠ r + 4 → q ≠ r + 5 → q ≠ a + 8 → q ≠ 7 → E1 q = E q) := by
  refine CT.mk hG (by decide +kernel) (Nat.le_of_ble_eq_true rfl) (fun κ X Rt _ ok => ?_)
  have hN8 := hW.N
  have hW40 := hw.W
  refine at_aload_n 1 X rfl rfl dX3_go_0 rfl ?_
  refine at_iconst 2 X (by decide) dX3_go_1 rfl ?_
  refine m_putI 5 X f_X3_28 fw_3_5 (kX3 hr) (nX3_5 hr) dX3_go_2 rfl ?_
  refine at_aload_n 6 X rfl rfl dX3_go_5 rfl ?_
  refine at_iconst 7 X (by decide) dX3_go_6 rfl ?_
  refine m_putI 10 X f_X3_32 fw_3_6 (kX3 hr) (nX3_6 hr) dX3_go_7 rfl ?_
  refine at_iconst 11 X (by decide) dX3_go_10 rfl ?_
  refine at_istore 13 X dX3_go_11 rfl (by decide) ?_
  have J13 : ∀ (f13 : Nat) (F : Mm) (b : Nat), 8 - b < f13 → (b ≤ 8) → (F r 5 = 0) → (F r 6 = 0) → ((∀ k, k < b → F (r + 1) k = dP (d0 B) k)) → ((∀ k, k < b → F (r + 2) k = -1)) → ((∀ q, q ≠ r → q ≠ r + 1 → q ≠ r + 2 → F q = E q)) → AT g κ K2 z 0 0 13 [(0, mR r), (1, mR a), (2, mR s), (3, mR 12), (4, mI ((wt : Nat) : Int)), (5, mI ((b : Nat) : Int))] [] (ov F) := by
    intro f13
    induction f13 with
    | zero => intro F b hf13; omega
    | succ f13 ih13 =>
    intro F b hf13 hb h5 h6 hp1 hp2 hf
    refine at_iload 15 X rfl dX3_go_13 rfl ?_
    refine at_bipush 17 X (by decide) (by decide) dX3_go_15 rfl ?_
    refine at_icmp_ge 20 61 X dX3_go_17 rfl (by decide) (fun h17 => ?_) (fun h17 => ?_)
    · refine at_iconst 62 X (by decide) dX3_go_61 rfl ?_
      refine at_istore 64 X dX3_go_62 rfl (by decide) ?_
      have J64 : ∀ (f64 : Nat) (F2 : Mm) (h : Nat), 24 - h < f64 → (h ≤ 24) → (CDn F2 r G B T h) → (CG F2 a G) → ((∀ q, q ≠ r → q ≠ r + 1 → q ≠ r + 2 → q ≠ r + 3 → q ≠ r + 4 → q ≠ r + 5 → q ≠ a + 8 → q ≠ 7 →  F2 q = E q)) → AT g κ K2 z 0 0 64 [(0, mR r), (1, mR a), (2, mR s), (3, mR 12), (4, mI ((wt : Nat) : Int)), (5, mI ((h : Nat) : Int))] [] (ov F2) := by
        intro f64
        induction f64 with
        | zero => intro F2 h hf64; omega
        | succ f64 ih64 =>
        intro F2 h hf64 hh hd_F2 hg_F2 hf2
        refine at_iload 66 X rfl dX3_go_64 rfl ?_
        refine at_bipush 68 X (by decide) (by decide) dX3_go_66 rfl ?_
        refine at_icmp_ge 71 126 X dX3_go_68 rfl (by decide) (fun h68 => ?_) (fun h68 => ?_)
        · refine at_vret X Rt ?_ (Nat.le_refl _) (Nat.le_refl _) dX3_go_126
          refine ⟨rfl, F2, h, rfl, hh, ?_, hd_F2, hg_F2, hf2⟩
          first | exact Or.inl (by omega) | exact Or.inr (fun q => h78 (by rw [q]; rfl))
        · refine at_aload_n 72 X rfl rfl dX3_go_71 rfl ?_
          refine m_getIV 75 X ((mk (fun k => decide (¬ dF (dyP G B T h) k = -1)) 8 : Nat) : Int) hd_F2.1.2.2.2.2 f_X3_32 (kX3 hr) (nX3_6 hr) dX3_go_72 rfl ?_
          have := mk_le (p := fun k => decide (¬ dF (dyP G B T h) k = -1)) (n := 8) (k := 8) (Nat.le_refl 8)
          refine at_iload 77 X rfl dX3_go_75 rfl ?_
          refine at_iandV 78 X ((mk (fun k => decide (¬ dF (dyP G B T h) k = -1)) 8 &&& wt : Nat) : Int) (iand_nat (by omega) (by omega)) dX3_go_77 rfl ?_
          refine at_if_ne 81 126 X dX3_go_78 rfl (by decide) (fun h78 => ?_) (fun h78 => ?_)
          · refine at_vret X Rt ?_ (Nat.le_refl _) (Nat.le_refl _) dX3_go_126
            refine ⟨rfl, F2, h, rfl, hh, ?_, hd_F2, hg_F2, hf2⟩
            first | exact Or.inl (by omega) | exact Or.inr (fun q => h78 (by rw [q]; rfl))
          · have hN_F2 : CN F2 12 T := hN_E.fr (fun q _ _ => hf2 q (by omega) (by omega) (by omega) (by omega) (by omega) (by omega) (by omega) (by omega))
            have hB_F2 : CB F2 s B := hB_E.fr (fun q _ _ => hf2 q (by omega) (by omega) (by omega) (by omega) (by omega) (by omega) (by omega) (by omega))
            have hl_F2 : CL F2 4 (gLw G) := hl_E.fr (fun q _ _ => hf2 q (by omega) (by omega) (by omega) (by omega) (by omega) (by omega) (by omega) (by omega))
            refine at_aload_n 82 X rfl rfl dX3_go_81 rfl ?_
            refine at_aload_n 83 X rfl rfl dX3_go_82 rfl ?_
            refine at_iload 85 X rfl dX3_go_83 rfl ?_
            refine at_callV 88 X _ 3 (ct_X3_moveBeams hG F2 r hr B (gW G) hN8 T hN_F2 hT (dP (dyP G B T h)) hd_F2.1.1 h) clX3 rfl (kX3 hr) mo_X3_moveBeams w_719 vo_X3_moveBeams.1 vo_X3_moveBeams.2 rfl rfl (crm Rt (by decide)) (Nat.le_of_ble_eq_true rfl) dX3_go_85 rfl ?_
            rintro _ _ ⟨rfl, F3, rfl, hpl_F3, hq_F3⟩
            have hB_F3 := hB_F2.fr (fun q _ _ => hq_F3 q (by omega))
            have hDI := dyP_DI (G := G) hW hT (n := h) (by omega)
            have hDM := mvD_DI (h := h) hT hDI
            refine at_aload_n 89 X rfl rfl dX3_go_88 rfl ?_
            refine at_aload_n 90 X rfl rfl dX3_go_89 rfl ?_
            refine at_callV 93 X _ 3 (ct_X3_weighCells hG F3 r hr B s (gW G) hs hB_F3 hW hW40 (mvP T h (dP (dyP G B T h))) hpl_F3 hDM.1) clX3 rfl (kX3 hr) mo_X3_weighCells w_723 vo_X3_weighCells.1 vo_X3_weighCells.2 rfl rfl (crm Rt (by decide)) (Nat.le_of_ble_eq_true rfl) dX3_go_90 rfl ?_
            rintro _ _ ⟨rfl, F4, rfl, hr_F4, hq_F4⟩
            have hB_F4 := hB_F3.fr (fun q _ _ => hq_F4 q (by omega))
            have hg_F4 : CG F4 a G := hg_F2.fr (fun q _ _ _ => (hq_F4 q (by omega)).trans (hq_F3 q (by omega)))
            have hl_F4 : CL F4 4 (gLw G) := hl_F2.fr (fun q _ _ => (hq_F4 q (by omega)).trans (hq_F3 q (by omega)))
            have hd_F4 : CD F4 r (mvD T h (dyP G B T h)) := by
              have e := fun q (h1 : q ≠ r + 1) (h2 : q ≠ r + 5) => (hq_F4 q h2).trans (hq_F3 q h1)
              have hd := hd_F2.1
              refine ⟨fun k hk => by rw [hq_F4 (r + 1) (by omega)]; exact hpl_F3 k hk, ?_, ?_, ?_, ?_⟩
              · rw [e (r + 2) (by omega) (by omega)]; exact hd.2.1
              · rw [e (r + 3) (by omega) (by omega)]; exact hd.2.2.1
              · rw [e r (by omega) (by omega)]; exact hd.2.2.2.1
              · rw [e r (by omega) (by omega)]; exact hd.2.2.2.2
            refine at_aload_n 94 X rfl rfl dX3_go_93 rfl ?_
            refine at_aload_n 95 X rfl rfl dX3_go_94 rfl ?_
            refine at_aload_n 96 X rfl rfl dX3_go_95 rfl ?_
            refine at_iload 98 X rfl dX3_go_96 rfl ?_
            refine at_callV 101 X _ 3 (ct_X3_dropBeams hG F4 r hr a ha G hw hg_F4 hl_F4 B s hs hB_F4 hW (mvD T h (dyP G B T h)) hDM hd_F4 hr_F4 h (by omega)) clX3 rfl (kX3 hr) mo_X3_dropBeams w_738 vo_X3_dropBeams.1 vo_X3_dropBeams.2 rfl rfl (crm Rt (by decide)) (Nat.le_of_ble_eq_true rfl) dX3_go_98 rfl ?_
            rintro _ _ ⟨rfl, F5, rfl, hd_F5, hg_F5, hq_F5⟩
            refine at_aload_n 102 X rfl rfl dX3_go_101 rfl ?_
            refine m_getR 105 X f_X3_9 (kX3 hr) (rX3_0 hr) dX3_go_102 rfl ?_
            refine at_iconst 106 X (by decide) dX3_go_105 rfl ?_
            refine at_aload_n 107 X rfl rfl dX3_go_106 rfl ?_
            refine m_getR 110 X f_X3_21 (kX3 hr) (rX3_3 hr) dX3_go_107 rfl ?_
            refine at_iload 112 X rfl dX3_go_110 rfl ?_
            refine at_bipush 114 X (by decide) (by decide) dX3_go_112 rfl ?_
            refine at_imulV 115 X ((h * 8 : Nat) : Int) (w32_v (by omega) (by omega) (by omega)) dX3_go_114 rfl ?_
            refine at_bipush 117 X (by decide) (by decide) dX3_go_115 rfl ?_
            refine m_copyI 120 X (sp := 0) (dp := h * 8) (n := 8) (by omega) (by omega) (by omega) (kX3_0 hr) (eX3_0 hr) (kX3_3 hr) (eX3_3 hr) (by decide) (by omega) (by decide) (by decide) w_773 (by rw [Rt.1]; decide) (by rw [Rt.1]; decide) dX3_go_117 rfl ?_
            refine at_iincV 123 X ((h + 1 : Nat) : Int) (w32_v (by omega) (by omega) (by omega)) rfl dX3_go_120 rfl (by decide) ?_
            refine at_goto 64 X dX3_go_123 (by decide) ?_
            exact at_sub _ (by exact ⟨rfl, rfl, rfl, rfl, rfl, rfl, trivial⟩) (ih64 (cpy F5 (r + 1) (r + 4) 0 (h * 8) 8) (h + 1) (by first | omega | (simp only [] at *; omega)) (by first | omega | assumption) ⟨hd_F5.fr (fun q _ _ => cpy_row (by omega)), fun t k ht hk => if c : t = h then (by subst c; rw [cpy_in (by omega), show 0 + (t * 8 + k - t * 8) = k by omega]; exact hd_F5.1 k hk) else (by rw [cpy_out (by omega), hq_F5 (r + 4) (by omega) (by omega) (by omega) (by omega) (by omega) (by omega) (by omega), hq_F4 (r + 4) (by omega), hq_F3 (r + 4) (by omega)]; exact hd_F2.2 t k (by omega) hk)⟩ (hg_F5.fr (fun q _ _ _ => cpy_row (by omega))) (fun q h1 h2 h3 h4 h5 h6 h7 h8 => (cpy_row (by omega)).trans ((hq_F5 q h1 h2 h3 h4 h6 h7 h8).trans ((hq_F4 q h6).trans ((hq_F3 q h2).trans (hf2 q h1 h2 h3 h4 h5 h6 h7 h8))))))
      exact at_sub _ (by exact ⟨rfl, rfl, rfl, rfl, rfl, rfl, trivial⟩) (J64 _ F 0 (Nat.lt_succ_self _) (by first | omega | assumption | rfl) ⟨⟨fun k hk => hp1 k (by omega), fun k hk => hp2 k (by omega), fun i hi => absurd hi (Nat.not_lt_zero i), h5, h6.trans (mk_0r (p := fun k => decide (¬ dF (d0 B) k = -1)) (n := 8) (fun j _ => decide_eq_false (fun q => q rfl)))⟩, fun t k ht => absurd ht (Nat.not_lt_zero t)⟩ (hg_E.fr (fun q _ _ _ => hf q (by omega) (by omega) (by omega))) (fun q h1 h2 h3 h4 h5 h6 h7 h8 => hf q h1 h2 h3))
    · have hB_F : CB F s B := hB_E.fr (fun q _ _ => hf q (by omega) (by omega) (by omega))
      refine at_aload_n 21 X rfl rfl dX3_go_20 rfl ?_
      refine m_getR 24 X f_X3_9 (kX3 hr) (rX3_0 hr) dX3_go_21 rfl ?_
      refine at_iload 26 X rfl dX3_go_24 rfl ?_
      refine at_iload 28 X rfl dX3_go_26 rfl ?_
      refine at_aload_n 29 X rfl rfl dX3_go_28 rfl ?_
      have hB_F : CB F s B := hB_E.fr (fun q _ _ => hf q (by omega) (by omega) (by omega))
      refine m_getIV 32 X ((bN B : Nat) : Int) hB_F.N f_X3_35 (kX0 hs) (nX0_6 hs) dX3_go_29 rfl ?_
      have := hW.N
      refine at_icmp_ge 35 45 X dX3_go_32 rfl (by decide) (fun h32 => ?_) (fun h32 => ?_)
      · refine at_iconst 46 X (by decide) dX3_go_45 rfl ?_
        refine m_iastoreV 47 X b (by omega) (kX3_0 hr) (eX3_0 hr) (by omega) dX3_go_46 rfl ?_
        refine at_aload_n 48 X rfl rfl dX3_go_47 rfl ?_
        refine m_getR 51 X f_X3_15 (kX3 hr) (rX3_1 hr) dX3_go_48 rfl ?_
        refine at_iload 53 X rfl dX3_go_51 rfl ?_
        refine at_iconst 54 X (by decide) dX3_go_53 rfl ?_
        refine m_iastoreV 55 X b (by omega) (kX3_1 hr) (eX3_1 hr) (by omega) dX3_go_54 rfl ?_
        refine at_iincV 58 X ((b + 1 : Nat) : Int) (w32_v (by omega) (by omega) (by omega)) rfl dX3_go_55 rfl (by decide) ?_
        refine at_goto 13 X dX3_go_58 (by decide) ?_
        exact at_sub _ (by exact ⟨rfl, rfl, rfl, rfl, rfl, rfl, trivial⟩) (ih13 (wr (wr F (r + 1) b (-1)) (r + 2) b (-1)) (b + 1) (by first | omega | (simp only [] at *; omega)) (by first | omega | assumption) (by simp (disch := omega) only [wr_o]; exact h5) (by simp (disch := omega) only [wr_o]; exact h6) (by rw [wr_row (by omega)]; exact row_ext hp1 (by show _ = (if b < bN B then (bX B b : Int) else -1); first | rw [if_pos (by omega)] | rw [if_neg (by omega)])) (row_ext (F := fun _ => -1) (by intro p hp; rw [wr_row (by omega)]; exact hp2 p hp) rfl) (fun q h1 h2 h3 => by simp (disch := omega) only [wr_row]; exact hf q h1 h2 h3))
      · refine at_aload_n 36 X rfl rfl dX3_go_35 rfl ?_
        refine m_getR 39 X f_X3_40 (kX0 hs) (rX0_0 hs) dX3_go_36 rfl ?_
        refine at_iload 41 X rfl dX3_go_39 rfl ?_
        refine m_ialoadV 42 X b (by omega) ((bX B b : Nat) : Int) (hB_F.X (b := b) (by omega)) (kX0_0 hs) (eX0_0 hs) (by omega) dX3_go_41 rfl ?_
        have := hW.X (b := b) (by omega)
        refine at_goto 46 X dX3_go_42 (by decide) ?_
        refine m_iastoreV 47 X b (by omega) (kX3_0 hr) (eX3_0 hr) (by omega) dX3_go_46 rfl ?_
        refine at_aload_n 48 X rfl rfl dX3_go_47 rfl ?_
        refine m_getR 51 X f_X3_15 (kX3 hr) (rX3_1 hr) dX3_go_48 rfl ?_
        refine at_iload 53 X rfl dX3_go_51 rfl ?_
        refine at_iconst 54 X (by decide) dX3_go_53 rfl ?_
        refine m_iastoreV 55 X b (by omega) (kX3_1 hr) (eX3_1 hr) (by omega) dX3_go_54 rfl ?_
        refine at_iincV 58 X ((b + 1 : Nat) : Int) (w32_v (by omega) (by omega) (by omega)) rfl dX3_go_55 rfl (by decide) ?_
        refine at_goto 13 X dX3_go_58 (by decide) ?_
        exact at_sub _ (by exact ⟨rfl, rfl, rfl, rfl, rfl, rfl, trivial⟩) (ih13 (wr (wr F (r + 1) b ((bX B b : Nat) : Int)) (r + 2) b (-1)) (b + 1) (by first | omega | (simp only [] at *; omega)) (by first | omega | assumption) (by simp (disch := omega) only [wr_o]; exact h5) (by simp (disch := omega) only [wr_o]; exact h6) (by rw [wr_row (by omega)]; exact row_ext hp1 (by show _ = (if b < bN B then (bX B b : Int) else -1); first | rw [if_pos (by omega)] | rw [if_neg (by omega)])) (row_ext (F := fun _ => -1) (by intro p hp; rw [wr_row (by omega)]; exact hp2 p hp) rfl) (fun q h1 h2 h3 => by simp (disch := omega) only [wr_row]; exact hf q h1 h2 h3))
  exact at_sub _ (by exact ⟨rfl, rfl, rfl, rfl, rfl, rfl, trivial⟩) (J13 _ (wr (wr E r 5 0) r 6 0) 0 (Nat.lt_succ_self _) (by first | omega | assumption | rfl) (by simp (disch := omega) only [wr_s, wr_o]) (by simp (disch := omega) only [wr_s, wr_o]) (fun k hk => absurd hk (Nat.not_lt_zero k)) (fun k hk => absurd hk (Nat.not_lt_zero k)) (fun q h1 h2 h3 => by simp (disch := omega) only [wr_row]))
theorem dX3_restOn_0 : decode cX3_restOn 0 = .ok (.lconst 0, 1) := by decide +kernel
theorem dX3_restOn_1 : decode cX3_restOn 1 = .ok (.lstore 4, 2) := by decide +kernel
theorem dX3_restOn_3 : decode cX3_restOn 3 = .ok (.iconst 0, 1) := by decide +kernel
theorem dX3_restOn_4 : decode cX3_restOn 4 = .ok (.istore 6, 2) := by decide +kernel
theorem dX3_restOn_6 : decode cX3_restOn 6 = .ok (.iload 6, 2) := by decide +kernel
theorem dX3_restOn_8 : decode cX3_restOn 8 = .ok (.aload_n 1, 1) := by decide +kernel
theorem dX3_restOn_9 : decode cX3_restOn 9 = .ok (.getfield 35, 3) := by decide +kernel
theorem dX3_restOn_12 : decode cX3_restOn 12 = .ok (.if_icmp .ge 74, 3) := by decide +kernel
theorem dX3_restOn_15 : decode cX3_restOn 15 = .ok (.aload_n 0, 1) := by decide +kernel
theorem dX3_restOn_16 : decode cX3_restOn 16 = .ok (.iload 6, 2) := by decide +kernel
theorem dX3_restOn_18 : decode cX3_restOn 18 = .ok (.iload_n 3, 1) := by decide +kernel
theorem dX3_restOn_19 : decode cX3_restOn 19 = .ok (.invokevirtual 100, 3) := by decide +kernel
theorem dX3_restOn_22 : decode cX3_restOn 22 = .ok (.istore 7, 2) := by decide +kernel
theorem dX3_restOn_24 : decode cX3_restOn 24 = .ok (.iload 7, 2) := by decide +kernel
theorem dX3_restOn_26 : decode cX3_restOn 26 = .ok (.iconst (-1), 1) := by decide +kernel
theorem dX3_restOn_27 : decode cX3_restOn 27 = .ok (.if_icmp .eq 53, 3) := by decide +kernel
theorem dX3_restOn_30 : decode cX3_restOn 30 = .ok (.lload 4, 2) := by decide +kernel
theorem dX3_restOn_32 : decode cX3_restOn 32 = .ok (.iload 7, 2) := by decide +kernel
theorem dX3_restOn_34 : decode cX3_restOn 34 = .ok (.iload_n 2, 1) := by decide +kernel
theorem dX3_restOn_35 : decode cX3_restOn 35 = .ok (.if_icmp .ne 13, 3) := by decide +kernel
theorem dX3_restOn_38 : decode cX3_restOn 38 = .ok (.aload_n 1, 1) := by decide +kernel
theorem dX3_restOn_39 : decode cX3_restOn 39 = .ok (.getfield 87, 3) := by decide +kernel
theorem dX3_restOn_42 : decode cX3_restOn 42 = .ok (.iload 6, 2) := by decide +kernel
theorem dX3_restOn_44 : decode cX3_restOn 44 = .ok (.laload, 1) := by decide +kernel
theorem dX3_restOn_45 : decode cX3_restOn 45 = .ok (.goto 4, 3) := by decide +kernel
theorem dX3_restOn_48 : decode cX3_restOn 48 = .ok (.lconst 0, 1) := by decide +kernel
theorem dX3_restOn_49 : decode cX3_restOn 49 = .ok (.ladd, 1) := by decide +kernel
theorem dX3_restOn_50 : decode cX3_restOn 50 = .ok (.lstore 4, 2) := by decide +kernel
theorem dX3_restOn_52 : decode cX3_restOn 52 = .ok (.lload 4, 2) := by decide +kernel
theorem dX3_restOn_54 : decode cX3_restOn 54 = .ok (.aload_n 1, 1) := by decide +kernel
theorem dX3_restOn_55 : decode cX3_restOn 55 = .ok (.iload 6, 2) := by decide +kernel
theorem dX3_restOn_57 : decode cX3_restOn 57 = .ok (.iload 7, 2) := by decide +kernel
theorem dX3_restOn_59 : decode cX3_restOn 59 = .ok (.invokevirtual 83, 3) := by decide +kernel
theorem dX3_restOn_62 : decode cX3_restOn 62 = .ok (.iload_n 2, 1) := by decide +kernel
theorem dX3_restOn_63 : decode cX3_restOn 63 = .ok (.if_icmp .ne 13, 3) := by decide +kernel
theorem dX3_restOn_66 : decode cX3_restOn 66 = .ok (.aload_n 1, 1) := by decide +kernel
theorem dX3_restOn_67 : decode cX3_restOn 67 = .ok (.getfield 90, 3) := by decide +kernel
theorem dX3_restOn_70 : decode cX3_restOn 70 = .ok (.iload 6, 2) := by decide +kernel
theorem dX3_restOn_72 : decode cX3_restOn 72 = .ok (.laload, 1) := by decide +kernel
theorem dX3_restOn_73 : decode cX3_restOn 73 = .ok (.goto 4, 3) := by decide +kernel
theorem dX3_restOn_76 : decode cX3_restOn 76 = .ok (.lconst 0, 1) := by decide +kernel
theorem dX3_restOn_77 : decode cX3_restOn 77 = .ok (.ladd, 1) := by decide +kernel
theorem dX3_restOn_78 : decode cX3_restOn 78 = .ok (.lstore 4, 2) := by decide +kernel
theorem dX3_restOn_80 : decode cX3_restOn 80 = .ok (.iinc 6 1, 3) := by decide +kernel
theorem dX3_restOn_83 : decode cX3_restOn 83 = .ok (.goto (-77), 3) := by decide +kernel
theorem dX3_restOn_86 : decode cX3_restOn 86 = .ok (.lload 4, 2) := by decide +kernel
theorem dX3_restOn_88 : decode cX3_restOn 88 = .ok (.lreturn, 1) := by decide +kernel
theorem ct_X3_restOn {g : Gw} (hG : GF g) {z : Bool} (E : Mm) (r : Nat) (hr : r = 48 ∨ r = 54) (B : BM) (s W : Nat) (hs : s = 76 ∨ s = 91) (hB_E : CB E s B) (hW : WB W B) (hW40 : W ≤ 40) (pl : Nat → Int) (hPL : PLo W B pl) (c h : Nat) (hh : h < 24) (hpb : ∀ k, k < 8 → E (r + 4) (h * 8 + k) = pl k) : CT g yX3_restOn cX3_restOn 8 (some .long) 1 22 0 0 K2 z [mR r, mR s, mI ((c : Nat) : Int), mI ((h : Nat) : Int)] (ov E) K2 z (fun r' D' => r' = some (mL (wtN B pl c (bN B))) ∧ D' = ov E) := by
  refine CT.mk hG (by decide +kernel) (Nat.le_of_ble_eq_true rfl) (fun κ X Rt _ ok => ?_)
  have hN8 := hW.N
  refine at_lconst 1 X (v := 0) (by decide) (by decide) dX3_restOn_0 rfl ?_
  refine at_lstore 3 X dX3_restOn_1 rfl (by decide) ?_
  refine at_iconst 4 X (by decide) dX3_restOn_3 rfl ?_
  refine at_istore 6 X dX3_restOn_4 rfl (by decide) ?_
  have J6 : ∀ (f6 : Nat) (b : Nat) (v : Int), 8 - b < f6 → (b ≤ bN B) → (v = wtN B pl c b) → AT g κ K2 z 0 0 6 [(0, mR r), (1, mR s), (2, mI ((c : Nat) : Int)), (3, mI ((h : Nat) : Int)), (4, mL v), (6, mI ((b : Nat) : Int))] [] (ov E) := by
    intro f6
    induction f6 with
    | zero => intro b v hf6; omega
    | succ f6 ih6 =>
    intro b v hf6 hb hv
    refine at_iload 8 X rfl dX3_restOn_6 rfl ?_
    refine at_aload_n 9 X rfl rfl dX3_restOn_8 rfl ?_
    refine m_getIV 12 X ((bN B : Nat) : Int) hB_E.N f_X3_35 (kX0 hs) (nX0_6 hs) dX3_restOn_9 rfl ?_
    have := hW.N
    refine at_icmp_ge 15 86 X dX3_restOn_12 rfl (by decide) (fun h12 => ?_) (fun h12 => ?_)
    · refine at_lload 88 X rfl dX3_restOn_86 rfl ?_
      refine at_lret X Rt ?_ (Nat.le_refl _) (Nat.le_refl _) dX3_restOn_88
      exact ⟨by rw [hv, show bN B = b by omega], rfl⟩
    · have hvb := wtN_in hW pl c (n := b) (by omega)
      refine at_aload_n 16 X rfl rfl dX3_restOn_15 rfl ?_
      refine at_iload 18 X rfl dX3_restOn_16 rfl ?_
      refine at_iload_n 19 X rfl rfl dX3_restOn_18 rfl ?_
      refine at_callV 22 X _ 3 (ct_X3_placeBehind hG E r hr b h (by omega) (by omega)) clX3 rfl (kX3 hr) mo_X3_placeBehind w_1323 vo_X3_placeBehind.1 vo_X3_placeBehind.2 rfl rfl (crm Rt (by decide)) (Nat.le_of_ble_eq_true rfl) dX3_restOn_19 rfl ?_
      rintro _ _ ⟨rfl, rfl⟩
      rw [hpb b (by omega)]
      have hPb := hPL b (by omega)
      have hl2 := hW.L (b := b) (by omega)
      refine at_istore 24 X dX3_restOn_22 rfl (by decide) ?_
      refine at_iload 26 X rfl dX3_restOn_24 rfl ?_
      refine at_iconst 27 X (by decide) dX3_restOn_26 rfl ?_
      refine at_icmp_eq 30 80 X dX3_restOn_27 rfl (by decide) (fun h27 => ?_) (fun h27 => ?_)
      · refine at_iincV 83 X ((b + 1 : Nat) : Int) (w32_v (by omega) (by omega) (by omega)) rfl dX3_restOn_80 rfl (by decide) ?_
        refine at_goto 6 X dX3_restOn_83 (by decide) ?_
        exact at_sub _ (by exact ⟨rfl, rfl, rfl, rfl, rfl, rfl, trivial⟩) (ih6 (b + 1) v (by first | omega | (simp only [] at *; omega)) (by first | omega | assumption) (by show _ = wtN B pl c b + wt1 B pl b c; unfold wt1; rw [← hv]; (repeat split) <;> omega))
      · refine at_lload 32 X rfl dX3_restOn_30 rfl ?_
        refine at_iload 34 X rfl dX3_restOn_32 rfl ?_
        refine at_iload_n 35 X rfl rfl dX3_restOn_34 rfl ?_
        refine at_icmp_ne 38 48 X dX3_restOn_35 rfl (by decide) (fun h35 => ?_) (fun h35 => ?_)
        · refine at_lconst 49 X (v := 0) (by decide) (by decide) dX3_restOn_48 rfl ?_
          refine at_laddV 50 X (v + 0) (w64_v rfl (by omega) (by omega)) dX3_restOn_49 rfl ?_
          refine at_lstore 52 X dX3_restOn_50 rfl (by decide) ?_
          refine at_lload 54 X rfl dX3_restOn_52 rfl ?_
          refine at_aload_n 55 X rfl rfl dX3_restOn_54 rfl ?_
          refine at_iload 57 X rfl dX3_restOn_55 rfl ?_
          refine at_iload 59 X rfl dX3_restOn_57 rfl ?_
          refine at_callV 62 X _ 0 (ct_X0_rightEnd hG E B s W hs hB_E hW hW40 b (by omega) _ (by omega)) clX0 rfl (kX0 hs) mo_X0_rightEnd w_734 vo_X0_rightEnd.1 vo_X0_rightEnd.2 rfl rfl (crm Rt (by decide)) (Nat.le_of_ble_eq_true rfl) dX3_restOn_59 rfl ?_
          rintro _ _ ⟨rfl, rfl⟩
          refine at_iload_n 63 X rfl rfl dX3_restOn_62 rfl ?_
          refine at_icmp_ne 66 76 X dX3_restOn_63 rfl (by decide) (fun h63 => ?_) (fun h63 => ?_)
          · refine at_lconst 77 X (v := 0) (by decide) (by decide) dX3_restOn_76 rfl ?_
            refine at_laddV 78 X ((v + 0) + 0) (w64_v rfl (by omega) (by omega)) dX3_restOn_77 rfl ?_
            refine at_lstore 80 X dX3_restOn_78 rfl (by decide) ?_
            refine at_iincV 83 X ((b + 1 : Nat) : Int) (w32_v (by omega) (by omega) (by omega)) rfl dX3_restOn_80 rfl (by decide) ?_
            refine at_goto 6 X dX3_restOn_83 (by decide) ?_
            exact at_sub _ (by exact ⟨rfl, rfl, rfl, rfl, rfl, rfl, trivial⟩) (ih6 (b + 1) ((v + 0) + 0) (by first | omega | (simp only [] at *; omega)) (by first | omega | assumption) (by show _ = wtN B pl c b + wt1 B pl b c; unfold wt1; rw [← hv]; (repeat split) <;> omega))
          · refine at_aload_n 67 X rfl rfl dX3_restOn_66 rfl ?_
            refine m_getR 70 X f_X3_90 (kX0 hs) (rX0_5 hs) dX3_restOn_67 rfl ?_
            refine at_iload 72 X rfl dX3_restOn_70 rfl ?_
            refine m_laloadV 73 X b (by omega) ((onR B b : Nat) : Int) (hB_E.r (b := b) (by omega)) (kX0_5 hs) (eX0_5 hs) (by omega) dX3_restOn_72 rfl ?_
            have := onR_le hW (b := b) (by omega)
            refine at_goto 77 X dX3_restOn_73 (by decide) ?_
            refine at_laddV 78 X ((v + 0) + ((onR B b : Nat) : Int)) (w64_v rfl (by omega) (by omega)) dX3_restOn_77 rfl ?_
            refine at_lstore 80 X dX3_restOn_78 rfl (by decide) ?_
            refine at_iincV 83 X ((b + 1 : Nat) : Int) (w32_v (by omega) (by omega) (by omega)) rfl dX3_restOn_80 rfl (by decide) ?_
            refine at_goto 6 X dX3_restOn_83 (by decide) ?_
            exact at_sub _ (by exact ⟨rfl, rfl, rfl, rfl, rfl, rfl, trivial⟩) (ih6 (b + 1) ((v + 0) + ((onR B b : Nat) : Int)) (by first | omega | (simp only [] at *; omega)) (by first | omega | assumption) (by show _ = wtN B pl c b + wt1 B pl b c; unfold wt1; rw [← hv]; (repeat split) <;> omega))
        · refine at_aload_n 39 X rfl rfl dX3_restOn_38 rfl ?_
          refine m_getR 42 X f_X3_87 (kX0 hs) (rX0_4 hs) dX3_restOn_39 rfl ?_
          refine at_iload 44 X rfl dX3_restOn_42 rfl ?_
          refine m_laloadV 45 X b (by omega) ((onL B b : Nat) : Int) (hB_E.l (b := b) (by omega)) (kX0_4 hs) (eX0_4 hs) (by omega) dX3_restOn_44 rfl ?_
          have := onL_le hW (b := b) (by omega)
          refine at_goto 49 X dX3_restOn_45 (by decide) ?_
          refine at_laddV 50 X (v + ((onL B b : Nat) : Int)) (w64_v rfl (by omega) (by omega)) dX3_restOn_49 rfl ?_
          refine at_lstore 52 X dX3_restOn_50 rfl (by decide) ?_
          refine at_lload 54 X rfl dX3_restOn_52 rfl ?_
          refine at_aload_n 55 X rfl rfl dX3_restOn_54 rfl ?_
          refine at_iload 57 X rfl dX3_restOn_55 rfl ?_
          refine at_iload 59 X rfl dX3_restOn_57 rfl ?_
          refine at_callV 62 X _ 0 (ct_X0_rightEnd hG E B s W hs hB_E hW hW40 b (by omega) _ (by omega)) clX0 rfl (kX0 hs) mo_X0_rightEnd w_734 vo_X0_rightEnd.1 vo_X0_rightEnd.2 rfl rfl (crm Rt (by decide)) (Nat.le_of_ble_eq_true rfl) dX3_restOn_59 rfl ?_
          rintro _ _ ⟨rfl, rfl⟩
          refine at_iload_n 63 X rfl rfl dX3_restOn_62 rfl ?_
          refine at_icmp_ne 66 76 X dX3_restOn_63 rfl (by decide) (fun h63 => ?_) (fun h63 => ?_)
          · refine at_lconst 77 X (v := 0) (by decide) (by decide) dX3_restOn_76 rfl ?_
            refine at_laddV 78 X ((v + ((onL B b : Nat) : Int)) + 0) (w64_v rfl (by omega) (by omega)) dX3_restOn_77 rfl ?_
            refine at_lstore 80 X dX3_restOn_78 rfl (by decide) ?_
            refine at_iincV 83 X ((b + 1 : Nat) : Int) (w32_v (by omega) (by omega) (by omega)) rfl dX3_restOn_80 rfl (by decide) ?_
            refine at_goto 6 X dX3_restOn_83 (by decide) ?_
            exact at_sub _ (by exact ⟨rfl, rfl, rfl, rfl, rfl, rfl, trivial⟩) (ih6 (b + 1) ((v + ((onL B b : Nat) : Int)) + 0) (by first | omega | (simp only [] at *; omega)) (by first | omega | assumption) (by show _ = wtN B pl c b + wt1 B pl b c; unfold wt1; rw [← hv]; (repeat split) <;> omega))
          · refine at_aload_n 67 X rfl rfl dX3_restOn_66 rfl ?_
            refine m_getR 70 X f_X3_90 (kX0 hs) (rX0_5 hs) dX3_restOn_67 rfl ?_
            refine at_iload 72 X rfl dX3_restOn_70 rfl ?_
            refine m_laloadV 73 X b (by omega) ((onR B b : Nat) : Int) (hB_E.r (b := b) (by omega)) (kX0_5 hs) (eX0_5 hs) (by omega) dX3_restOn_72 rfl ?_
            have := onR_le hW (b := b) (by omega)
            refine at_goto 77 X dX3_restOn_73 (by decide) ?_
            refine at_laddV 78 X ((v + ((onL B b : Nat) : Int)) + ((onR B b : Nat) : Int)) (w64_v rfl (by omega) (by omega)) dX3_restOn_77 rfl ?_
            refine at_lstore 80 X dX3_restOn_78 rfl (by decide) ?_
            refine at_iincV 83 X ((b + 1 : Nat) : Int) (w32_v (by omega) (by omega) (by omega)) rfl dX3_restOn_80 rfl (by decide) ?_
            refine at_goto 6 X dX3_restOn_83 (by decide) ?_
            exact at_sub _ (by exact ⟨rfl, rfl, rfl, rfl, rfl, rfl, trivial⟩) (ih6 (b + 1) ((v + ((onL B b : Nat) : Int)) + ((onR B b : Nat) : Int)) (by first | omega | (simp only [] at *; omega)) (by first | omega | assumption) (by show _ = wtN B pl c b + wt1 B pl b c; unfold wt1; rw [← hv]; (repeat split) <;> omega))
  exact at_sub _ (by exact ⟨rfl, rfl, rfl, rfl, rfl, rfl, trivial⟩) (J6 _ 0 0 (Nat.lt_succ_self _) (by first | omega | assumption | rfl) rfl)
