theorem gd_lt {G : GP} {B : BM} {T : LN} (hW : gW G ≤ 40) (r x : Nat) : gdP G B T r x < 1099511627776 := Nat.lt_of_le_of_lt Nat.and_le_right (mk40 hW)
/-- what a row of candidates is, gathered -/
def GIx (E : Mm) (G : GP) (B : BM) (T : LN) (r x : Nat) : Prop := ∃ m cl, GI E (gdP G B T r) m cl x
theorem dX6_gather_0 : decode cX6_gather 0 = .ok (.aload_n 1, 1) := by decide +kernel
theorem dX6_gather_1 : decode cX6_gather 1 = .ok (.aload_n 2, 1) := by decide +kernel
theorem dX6_gather_2 : decode cX6_gather 2 = .ok (.aload_n 3, 1) := by decide +kernel
theorem dX6_gather_3 : decode cX6_gather 3 = .ok (.invokestatic 28, 3) := by decide +kernel
theorem dX6_gather_6 : decode cX6_gather 6 = .ok (.aload_n 1, 1) := by decide +kernel
theorem dX6_gather_7 : decode cX6_gather 7 = .ok (.getfield 32, 3) := by decide +kernel
theorem dX6_gather_10 : decode cX6_gather 10 = .ok (.ldc2_w 38, 3) := by decide +kernel
theorem dX6_gather_13 : decode cX6_gather 13 = .ok (.lxor, 1) := by decide +kernel
theorem dX6_gather_14 : decode cX6_gather 14 = .ok (.land, 1) := by decide +kernel
theorem dX6_gather_15 : decode cX6_gather 15 = .ok (.invokestatic 40, 3) := by decide +kernel
theorem dX6_gather_18 : decode cX6_gather 18 = .ok (.lstore 5, 2) := by decide +kernel
theorem dX6_gather_20 : decode cX6_gather 20 = .ok (.aload_n 0, 1) := by decide +kernel
theorem dX6_gather_21 : decode cX6_gather 21 = .ok (.iconst 0, 1) := by decide +kernel
theorem dX6_gather_22 : decode cX6_gather 22 = .ok (.putfield 44, 3) := by decide +kernel
theorem dX6_gather_25 : decode cX6_gather 25 = .ok (.iconst 0, 1) := by decide +kernel
theorem dX6_gather_26 : decode cX6_gather 26 = .ok (.istore 7, 2) := by decide +kernel
theorem dX6_gather_28 : decode cX6_gather 28 = .ok (.iload 7, 2) := by decide +kernel
theorem dX6_gather_30 : decode cX6_gather 30 = .ok (.aload_n 1, 1) := by decide +kernel
theorem dX6_gather_31 : decode cX6_gather 31 = .ok (.getfield 48, 3) := by decide +kernel
theorem dX6_gather_34 : decode cX6_gather 34 = .ok (.if_icmp .ge 80, 3) := by decide +kernel
theorem dX6_gather_37 : decode cX6_gather 37 = .ok (.lconst 1, 1) := by decide +kernel
theorem dX6_gather_38 : decode cX6_gather 38 = .ok (.iload 7, 2) := by decide +kernel
theorem dX6_gather_40 : decode cX6_gather 40 = .ok (.lshl, 1) := by decide +kernel
theorem dX6_gather_41 : decode cX6_gather 41 = .ok (.iload 4, 2) := by decide +kernel
theorem dX6_gather_43 : decode cX6_gather 43 = .ok (.invokestatic 51, 3) := by decide +kernel
theorem dX6_gather_46 : decode cX6_gather 46 = .ok (.lload 5, 2) := by decide +kernel
theorem dX6_gather_48 : decode cX6_gather 48 = .ok (.land, 1) := by decide +kernel
theorem dX6_gather_49 : decode cX6_gather 49 = .ok (.lstore 8, 2) := by decide +kernel
theorem dX6_gather_51 : decode cX6_gather 51 = .ok (.lload 8, 2) := by decide +kernel
theorem dX6_gather_53 : decode cX6_gather 53 = .ok (.lconst 0, 1) := by decide +kernel
theorem dX6_gather_54 : decode cX6_gather 54 = .ok (.lcmp, 1) := by decide +kernel
theorem dX6_gather_55 : decode cX6_gather 55 = .ok (.ifCond .eq 53, 3) := by decide +kernel
theorem dX6_gather_58 : decode cX6_gather 58 = .ok (.aload_n 0, 1) := by decide +kernel
theorem dX6_gather_59 : decode cX6_gather 59 = .ok (.lload 8, 2) := by decide +kernel
theorem dX6_gather_61 : decode cX6_gather 61 = .ok (.invokevirtual 55, 3) := by decide +kernel
theorem dX6_gather_64 : decode cX6_gather 64 = .ok (.ifCond .ne 44, 3) := by decide +kernel
theorem dX6_gather_67 : decode cX6_gather 67 = .ok (.aload_n 0, 1) := by decide +kernel
theorem dX6_gather_68 : decode cX6_gather 68 = .ok (.getfield 44, 3) := by decide +kernel
theorem dX6_gather_71 : decode cX6_gather 71 = .ok (.bipush 40, 2) := by decide +kernel
theorem dX6_gather_73 : decode cX6_gather 73 = .ok (.if_icmp .ge 35, 3) := by decide +kernel
theorem dX6_gather_76 : decode cX6_gather 76 = .ok (.aload_n 0, 1) := by decide +kernel
theorem dX6_gather_77 : decode cX6_gather 77 = .ok (.getfield 9, 3) := by decide +kernel
theorem dX6_gather_80 : decode cX6_gather 80 = .ok (.aload_n 0, 1) := by decide +kernel
theorem dX6_gather_81 : decode cX6_gather 81 = .ok (.getfield 44, 3) := by decide +kernel
theorem dX6_gather_84 : decode cX6_gather 84 = .ok (.iload 7, 2) := by decide +kernel
theorem dX6_gather_86 : decode cX6_gather 86 = .ok (.iastore, 1) := by decide +kernel
theorem dX6_gather_87 : decode cX6_gather 87 = .ok (.aload_n 0, 1) := by decide +kernel
theorem dX6_gather_88 : decode cX6_gather 88 = .ok (.getfield 15, 3) := by decide +kernel
theorem dX6_gather_91 : decode cX6_gather 91 = .ok (.aload_n 0, 1) := by decide +kernel
theorem dX6_gather_92 : decode cX6_gather 92 = .ok (.getfield 44, 3) := by decide +kernel
theorem dX6_gather_95 : decode cX6_gather 95 = .ok (.lload 8, 2) := by decide +kernel
theorem dX6_gather_97 : decode cX6_gather 97 = .ok (.lastore, 1) := by decide +kernel
theorem dX6_gather_98 : decode cX6_gather 98 = .ok (.aload_n 0, 1) := by decide +kernel
theorem dX6_gather_99 : decode cX6_gather 99 = .ok (.dup, 1) := by decide +kernel
theorem dX6_gather_100 : decode cX6_gather 100 = .ok (.getfield 44, 3) := by decide +kernel
theorem dX6_gather_103 : decode cX6_gather 103 = .ok (.iconst 1, 1) := by decide +kernel
theorem dX6_gather_104 : decode cX6_gather 104 = .ok (.iadd, 1) := by decide +kernel
theorem dX6_gather_105 : decode cX6_gather 105 = .ok (.putfield 44, 3) := by decide +kernel
theorem dX6_gather_108 : decode cX6_gather 108 = .ok (.iinc 7 1, 3) := by decide +kernel
theorem dX6_gather_111 : decode cX6_gather 111 = .ok (.goto (-83), 3) := by decide +kernel
theorem dX6_gather_114 : decode cX6_gather 114 = .ok (.return_, 1) := by decide +kernel
theorem ct_X6_gather {g : Gw} (hG : GF g) {z : Bool} (E : Mm) (a : Nat) (ha : a = 30 ∨ a = 39) (G : GP) (hw : WG G) (hg_E : CG E a G) (hl_E : CL E 4 (gLw G)) (B : BM) (s : Nat) (hs : s = 76 ∨ s = 91) (hB_E : CB E s B) (hW : WB (gW G) B) (T : LN) (hT_E : CN E 12 T) (hT : WT (gW G) B T) (r : Nat) (hr9 : r ≤ 9) : CT g yX6_gather cX6_gather 10 none 4 100 0 0 K2 z [mR 62, mR a, mR s, mR 12, mI ((r : Nat) : Int)] (ov E) K2 z (fun r' D' => r' = none ∧ ∃ E1, D' = ov E1 ∧ CG E1 a G ∧ GIx E1 G B T r (gW G) ∧ ∀ q, q ≠ 62 → q ≠ 63 → q ≠ 64 → q ≠ a + 8 → q ≠ 7 → E1 q = E q) := by
  refine CT.mk hG (by decide +kernel) (Nat.le_of_ble_eq_true rfl) (fun κ X Rt _ ok => ?_)
  have hf_E : ∀ q, q ≠ a + 8 → q ≠ 7 → E q = E q := fun _ _ _ => rfl
  have hW40 := hw.W
  have hN11 := hw.N
  have hT16 := hT.1
  refine at_aload_n 1 X rfl rfl dX6_gather_0 rfl ?_
  refine at_aload_n 2 X rfl rfl dX6_gather_1 rfl ?_
  refine at_aload_n 3 X rfl rfl dX6_gather_2 rfl ?_
  refine at_callS 6 X (ct_X6_endCells hG E B s (gW G) hs hB_E hW hW40 T hT_E hT) mo_X6_endCells w_1441 so_X6_endCells rfl rfl (crm Rt (by decide)) (Nat.le_of_ble_eq_true rfl) dX6_gather_3 rfl ?_
  rintro _ _ ⟨rfl, hec, rfl⟩
  have hg0 := hg_E.1
  refine at_aload_n 7 X rfl rfl dX6_gather_6 rfl ?_
  refine m_getLV 10 X ((mk (gLm G) 50 : Nat) : Int) hg_E.1.Lm f_X6_32 (kX4 ha) (nX4_13 ha) dX6_gather_7 rfl ?_
  have hlm50 : mk (gLm G) 50 < 1125899906842624 := mk_lt (gLm G) 50
  refine at_ldc2 13 X (n := -1) w_1445 (by decide) (by decide) dX6_gather_10 rfl ?_
  refine at_lxorV 14 X (lxor ((mk (gLm G) 50 : Nat) : Int) (-1)) rfl dX6_gather_13 rfl ?_
  refine at_landV 15 X ((mk (fun j => (ec2 B T T.1).testBit j && !(mk (gLm G) 50).testBit j) 63 : Nat) : Int) (lnot_bits (by omega) (by have := mk_lt (gLm G) 50; omega)) dX6_gather_14 rfl ?_
  refine at_callS 18 X (ct_X6_changedByLamps hG E a ha G hw hg_E hl_E (mk (fun j => (ec2 B T T.1).testBit j && !(mk (gLm G) 50).testBit j) 63) (by have := mk_lt (fun j => (ec2 B T T.1).testBit j && !(mk (gLm G) 50).testBit j) 63; rw [n2_63] at this; exact this)) mo_X6_changedByLamps w_1446 so_X6_changedByLamps rfl rfl (crm Rt (by decide)) (Nat.le_of_ble_eq_true rfl) dX6_gather_15 rfl ?_
  rintro _ _ ⟨rfl, F1, rfl, hg_F1, hq_F1⟩
  have ech : (mk (fun j => (mk (fun j => (ec2 B T T.1).testBit j && !(mk (gLm G) 50).testBit j) 63).testBit j && chB G j) (gW G)) = chM G B T := mk_congr (fun j hj => by rw [mk_in (show j < 63 by omega), mk_in (show j < 50 by omega)])
  rw [ech]
  have hch : chM G B T < 1099511627776 := mk40 hW40
  refine at_lstore 20 X dX6_gather_18 rfl (by decide) ?_
  refine at_aload_n 21 X rfl rfl dX6_gather_20 rfl ?_
  refine at_iconst 22 X (by decide) dX6_gather_21 rfl ?_
  refine m_putI 25 X f_X6_44 fw_6_5 k_62 rn_62_5 dX6_gather_22 rfl ?_
  refine at_iconst 26 X (by decide) dX6_gather_25 rfl ?_
  refine at_istore 28 X dX6_gather_26 rfl (by decide) ?_
  have J28 : ∀ (f28 : Nat) (F : Mm) (x : Nat), 40 - x < f28 → (x ≤ gW G) → (GIx F G B T r x) → (CG F a G) → (∀ q, q ≠ 62 → q ≠ 63 → q ≠ 64 → q ≠ a + 8 → q ≠ 7 → F q = E q) → AT g κ K2 z 0 0 28 [(0, mR 62), (1, mR a), (4, mI ((r : Nat) : Int)), (5, mL ((chM G B T : Nat) : Int)), (7, mI ((x : Nat) : Int))] [] (ov F) := by
    intro f28
    induction f28 with
    | zero => intro F x hf28; omega
    | succ f28 ih28 =>
    intro F x hf28 hx hx_F hg_F hf_F
    refine at_iload 30 X rfl dX6_gather_28 rfl ?_
    refine at_aload_n 31 X rfl rfl dX6_gather_30 rfl ?_
    have hx0 := hx_F
    obtain ⟨m, cl, hI_F⟩ := hx0
    have hmx := hI_F.2.1
    refine m_getIV 34 X ((gW G : Nat) : Int) hg_F.1.W f_X6_48 (kX4 ha) (nX4_9 ha) dX6_gather_31 rfl ?_
    have := hw.W
    refine at_icmp_ge 37 114 X dX6_gather_34 rfl (by decide) (fun h34 => ?_) (fun h34 => ?_)
    · refine at_vret X Rt ?_ (Nat.le_refl _) (Nat.le_refl _) dX6_gather_114
      exact ⟨rfl, F, rfl, hg_F, by rw [show gW G = x by omega]; exact hx_F, hf_F⟩
    · refine at_lconst 38 X (v := 1) (by decide) (by decide) dX6_gather_37 rfl ?_
      refine at_iload 40 X rfl dX6_gather_38 rfl ?_
      refine at_lshlV 41 X ((2 ^ x : Nat) : Int) (lshl1 (by omega)) dX6_gather_40 rfl ?_
      refine at_iload 43 X rfl dX6_gather_41 rfl ?_
      refine at_callSN 46 X (ct_X11_spread hG F (2 ^ x) r (p2_40 (by omega)) hr9) mo_X11_spread w_1453 so_X11_spread rfl rfl (crm Rt (by decide)) (Nat.le_of_ble_eq_true rfl) dX6_gather_43 rfl ?_
      rintro _ _ ⟨rfl, rfl⟩
      have hsp := spr_lt (p2_40 (x := x) (by omega)) hr9
      refine at_lload 48 X rfl dX6_gather_46 rfl ?_
      refine at_landV 49 X ((gdP G B T r x : Nat) : Int) (land_nat (by omega) (by omega)) dX6_gather_48 rfl ?_
      refine at_lstore 51 X dX6_gather_49 rfl (by decide) ?_
      refine at_lload 53 X rfl dX6_gather_51 rfl ?_
      refine at_lconst 54 X (v := 0) (by decide) (by decide) dX6_gather_53 rfl ?_
      refine at_lif_eq 55 58 108 X dX6_gather_54 rfl dX6_gather_55 rfl (by decide) (fun h54 => ?_) (fun h54 => ?_)
      · refine at_iincV 111 X ((x + 1 : Nat) : Int) (w32_v (by omega) (by omega) (by omega)) rfl dX6_gather_108 rfl (by decide) ?_
        refine at_goto 28 X dX6_gather_111 (by decide) ?_
        exact at_sub _ (by exact ⟨rfl, rfl, rfl, rfl, rfl, trivial⟩) (ih28 F (x + 1) (by first | omega | (simp only [] at *; omega)) (by first | omega | assumption) (by first | exact ⟨m, cl, hI_F.skip (Or.inl (by omega))⟩ | exact ⟨m, cl, hI_F.skip (Or.inr (hv64.elim (fun q => q.2) (fun q => absurd q.1 h64)))⟩ | exact ⟨m + 1, pt1 cl m x, hI_F.add (by omega)⟩) (by first | exact hg_F | exact hg_F.fr (fun q _ _ _ => by simp (disch := omega) only [wr_row])) (by first | exact hf_F | exact fun q h1 h2 h3 h4 h5 => by simp (disch := omega) only [wr_row]; exact hf_F q h1 h2 h3 h4 h5))
      · refine at_aload_n 59 X rfl rfl dX6_gather_58 rfl ?_
        refine at_lload 61 X rfl dX6_gather_59 rfl ?_
        refine at_callV 64 X _ 6 (ct_X6_isGathered hG F m (gdP G B T r x) (fun i => gdP G B T r (cl i)) hI_F.1 (by omega) (by have := gd_lt (G := G) (B := B) (T := T) hW40 r x; omega) (fun i hi => ⟨(hI_F.2.2.1 i hi).2.1, by have := gd_lt (G := G) (B := B) (T := T) hW40 r (cl i); omega⟩)) clX6 rfl k_62 mo_X6_isGathered w_1454 vo_X6_isGathered.1 vo_X6_isGathered.2 rfl rfl (crm Rt (by decide)) (Nat.le_of_ble_eq_true rfl) dX6_gather_61 rfl ?_
        rintro _ _ ⟨v64, rfl, hv64, rfl⟩
        refine at_if_ne 67 108 X dX6_gather_64 rfl (by decide) (fun h64 => ?_) (fun h64 => ?_)
        · refine at_iincV 111 X ((x + 1 : Nat) : Int) (w32_v (by omega) (by omega) (by omega)) rfl dX6_gather_108 rfl (by decide) ?_
          refine at_goto 28 X dX6_gather_111 (by decide) ?_
          exact at_sub _ (by exact ⟨rfl, rfl, rfl, rfl, rfl, trivial⟩) (ih28 F (x + 1) (by first | omega | (simp only [] at *; omega)) (by first | omega | assumption) (by first | exact ⟨m, cl, hI_F.skip (Or.inl (by omega))⟩ | exact ⟨m, cl, hI_F.skip (Or.inr (hv64.elim (fun q => q.2) (fun q => absurd q.1 h64)))⟩ | exact ⟨m + 1, pt1 cl m x, hI_F.add (by omega)⟩) (by first | exact hg_F | exact hg_F.fr (fun q _ _ _ => by simp (disch := omega) only [wr_row])) (by first | exact hf_F | exact fun q h1 h2 h3 h4 h5 => by simp (disch := omega) only [wr_row]; exact hf_F q h1 h2 h3 h4 h5))
        · refine at_aload_n 68 X rfl rfl dX6_gather_67 rfl ?_
          refine m_getIV 71 X ((m : Nat) : Int) hI_F.1 f_X6_44 k_62 rn_62_5 dX6_gather_68 rfl ?_
          have hmx := hI_F.2.1
          refine at_bipush 73 X (by decide) (by decide) dX6_gather_71 rfl ?_
          refine at_icmp_ge 76 108 X dX6_gather_73 rfl (by decide) (fun h73 => ?_) (fun h73 => ?_)
          · exfalso; omega
          · refine at_aload_n 77 X rfl rfl dX6_gather_76 rfl ?_
            refine m_getR 80 X f_X6_9 k_62 r_62_0 dX6_gather_77 rfl ?_
            refine at_aload_n 81 X rfl rfl dX6_gather_80 rfl ?_
            refine m_getIV 84 X ((m : Nat) : Int) hI_F.1 f_X6_44 k_62 rn_62_5 dX6_gather_81 rfl ?_
            have hmx := hI_F.2.1
            refine at_iload 86 X rfl dX6_gather_84 rfl ?_
            refine m_iastoreV 87 X m (by omega) k_63 e_63 (by omega) dX6_gather_86 rfl ?_
            refine at_aload_n 88 X rfl rfl dX6_gather_87 rfl ?_
            refine m_getR 91 X f_X6_15 k_62 r_62_1 dX6_gather_88 rfl ?_
            refine at_aload_n 92 X rfl rfl dX6_gather_91 rfl ?_
            refine m_getIV 95 X ((m : Nat) : Int) ((wr_o (by omega)).trans hI_F.1) f_X6_44 k_62 rn_62_5 dX6_gather_92 rfl ?_
            have hmx := hI_F.2.1
            refine at_lload 97 X rfl dX6_gather_95 rfl ?_
            refine m_lastoreV 98 X m (by omega) k_64 e_64 (by omega) dX6_gather_97 rfl ?_
            refine at_aload_n 99 X rfl rfl dX6_gather_98 rfl ?_
            refine at_dup 100 X (show ¬ (2 : Nat) = 1 by decide) dX6_gather_99 rfl ?_
            refine m_getIV 103 X ((m : Nat) : Int) ((wr_o (by omega)).trans ((wr_o (by omega)).trans hI_F.1)) f_X6_44 k_62 rn_62_5 dX6_gather_100 rfl ?_
            have hmx := hI_F.2.1
            refine at_iconst 104 X (by decide) dX6_gather_103 rfl ?_
            refine at_iaddV 105 X ((m + 1 : Nat) : Int) (w32_v (by omega) (by omega) (by omega)) dX6_gather_104 rfl ?_
            refine m_putI 108 X f_X6_44 fw_6_5 k_62 rn_62_5 dX6_gather_105 rfl ?_
            refine at_iincV 111 X ((x + 1 : Nat) : Int) (w32_v (by omega) (by omega) (by omega)) rfl dX6_gather_108 rfl (by decide) ?_
            refine at_goto 28 X dX6_gather_111 (by decide) ?_
            exact at_sub _ (by exact ⟨rfl, rfl, rfl, rfl, rfl, trivial⟩) (ih28 (wr (wr (wr F 63 m ((x : Nat) : Int)) 64 m ((gdP G B T r x : Nat) : Int)) 62 5 ((m + 1 : Nat) : Int)) (x + 1) (by first | omega | (simp only [] at *; omega)) (by first | omega | assumption) (by first | exact ⟨m, cl, hI_F.skip (Or.inl (by omega))⟩ | exact ⟨m, cl, hI_F.skip (Or.inr (hv64.elim (fun q => q.2) (fun q => absurd q.1 h64)))⟩ | exact ⟨m + 1, pt1 cl m x, hI_F.add (by omega)⟩) (by first | exact hg_F | exact hg_F.fr (fun q _ _ _ => by simp (disch := omega) only [wr_row])) (by first | exact hf_F | exact fun q h1 h2 h3 h4 h5 => by simp (disch := omega) only [wr_row]; exact hf_F q h1 h2 h3 h4 h5))
  exact at_sub _ (by exact ⟨rfl, rfl, rfl, rfl, rfl, trivial⟩) (J28 _ (wr F1 62 5 0) 0 (Nat.lt_succ_self _) (by first | omega | assumption | rfl) ⟨0, fun _ => 0, wr_s _ _ _ _, Nat.le_refl _, fun i hi => absurd hi (Nat.not_lt_zero i), fun i j _ hj => absurd hj (Nat.not_lt_zero j), fun y hy => absurd hy (Nat.not_lt_zero y)⟩ (hg_F1.fr (fun q _ _ _ => wr_row (by omega))) (fun q h1 h2 h3 h4 h5 => (wr_row h1).trans (hq_F1 q h4 h5)))
