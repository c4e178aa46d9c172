theorem sh_or {q : Nat → Bool} {p : Nat} (h : p < 11) : ior ((mk q p : Nat) : Int) (ishl (if q p = true then 1 else 0) (p : Int)) = ((mk q (p + 1) : Nat) : Int) := by
  have h1 := mk11 (p := q) (n := p) (by omega)
  by_cases c : q p = true
  · rw [if_pos c, ishl1 (by omega), ior_nat (by omega) (by have := p2_lt (k := p) (n := 11) h; have : (2 : Nat) ^ 11 = 2048 := (by decide); omega), mk_t c]
  · rw [if_neg c, show (0 : Int) = ((0 : Nat) : Int) from rfl, ishl_nat (by omega) (by omega), ior_nat (by omega) (by omega), mk_f c, Nat.zero_mul, Nat.or_zero]
theorem dX4_shadesIf_0 : decode cX4_shadesIf 0 = .ok (.aload_n 0, 1) := by decide +kernel
theorem dX4_shadesIf_1 : decode cX4_shadesIf 1 = .ok (.getfield 31, 3) := by decide +kernel
theorem dX4_shadesIf_4 : decode cX4_shadesIf 4 = .ok (.iload_n 2, 1) := by decide +kernel
theorem dX4_shadesIf_5 : decode cX4_shadesIf 5 = .ok (.iaload, 1) := by decide +kernel
theorem dX4_shadesIf_6 : decode cX4_shadesIf 6 = .ok (.istore 4, 2) := by decide +kernel
theorem dX4_shadesIf_8 : decode cX4_shadesIf 8 = .ok (.aload_n 0, 1) := by decide +kernel
theorem dX4_shadesIf_9 : decode cX4_shadesIf 9 = .ok (.getfield 106, 3) := by decide +kernel
theorem dX4_shadesIf_12 : decode cX4_shadesIf 12 = .ok (.iload_n 2, 1) := by decide +kernel
theorem dX4_shadesIf_13 : decode cX4_shadesIf 13 = .ok (.ishr, 1) := by decide +kernel
theorem dX4_shadesIf_14 : decode cX4_shadesIf 14 = .ok (.iconst 1, 1) := by decide +kernel
theorem dX4_shadesIf_15 : decode cX4_shadesIf 15 = .ok (.iand, 1) := by decide +kernel
theorem dX4_shadesIf_16 : decode cX4_shadesIf 16 = .ok (.iconst 1, 1) := by decide +kernel
theorem dX4_shadesIf_17 : decode cX4_shadesIf 17 = .ok (.if_icmp .ne 7, 3) := by decide +kernel
theorem dX4_shadesIf_20 : decode cX4_shadesIf 20 = .ok (.iconst 1, 1) := by decide +kernel
theorem dX4_shadesIf_21 : decode cX4_shadesIf 21 = .ok (.goto 4, 3) := by decide +kernel
theorem dX4_shadesIf_24 : decode cX4_shadesIf 24 = .ok (.iconst 0, 1) := by decide +kernel
theorem dX4_shadesIf_25 : decode cX4_shadesIf 25 = .ok (.istore 5, 2) := by decide +kernel
theorem dX4_shadesIf_27 : decode cX4_shadesIf 27 = .ok (.iload 4, 2) := by decide +kernel
theorem dX4_shadesIf_29 : decode cX4_shadesIf 29 = .ok (.ifCond .lt 12, 3) := by decide +kernel
theorem dX4_shadesIf_32 : decode cX4_shadesIf 32 = .ok (.iload 5, 2) := by decide +kernel
theorem dX4_shadesIf_34 : decode cX4_shadesIf 34 = .ok (.ifCond .eq 9, 3) := by decide +kernel
theorem dX4_shadesIf_37 : decode cX4_shadesIf 37 = .ok (.iload_n 3, 1) := by decide +kernel
theorem dX4_shadesIf_38 : decode cX4_shadesIf 38 = .ok (.ifCond .ne 5, 3) := by decide +kernel
theorem dX4_shadesIf_41 : decode cX4_shadesIf 41 = .ok (.iconst 0, 1) := by decide +kernel
theorem dX4_shadesIf_42 : decode cX4_shadesIf 42 = .ok (.ireturn, 1) := by decide +kernel
theorem dX4_shadesIf_43 : decode cX4_shadesIf 43 = .ok (.iconst 0, 1) := by decide +kernel
theorem dX4_shadesIf_44 : decode cX4_shadesIf 44 = .ok (.istore 6, 2) := by decide +kernel
theorem dX4_shadesIf_46 : decode cX4_shadesIf 46 = .ok (.iconst 0, 1) := by decide +kernel
theorem dX4_shadesIf_47 : decode cX4_shadesIf 47 = .ok (.istore 7, 2) := by decide +kernel
theorem dX4_shadesIf_49 : decode cX4_shadesIf 49 = .ok (.iload 7, 2) := by decide +kernel
theorem dX4_shadesIf_51 : decode cX4_shadesIf 51 = .ok (.aload_n 0, 1) := by decide +kernel
theorem dX4_shadesIf_52 : decode cX4_shadesIf 52 = .ok (.getfield 53, 3) := by decide +kernel
theorem dX4_shadesIf_55 : decode cX4_shadesIf 55 = .ok (.if_icmp .ge 35, 3) := by decide +kernel
theorem dX4_shadesIf_58 : decode cX4_shadesIf 58 = .ok (.iload 6, 2) := by decide +kernel
theorem dX4_shadesIf_60 : decode cX4_shadesIf 60 = .ok (.aload_n 0, 1) := by decide +kernel
theorem dX4_shadesIf_61 : decode cX4_shadesIf 61 = .ok (.getfield 27, 3) := by decide +kernel
theorem dX4_shadesIf_64 : decode cX4_shadesIf 64 = .ok (.iload 4, 2) := by decide +kernel
theorem dX4_shadesIf_66 : decode cX4_shadesIf 66 = .ok (.bipush 11, 2) := by decide +kernel
theorem dX4_shadesIf_68 : decode cX4_shadesIf 68 = .ok (.imul, 1) := by decide +kernel
theorem dX4_shadesIf_69 : decode cX4_shadesIf 69 = .ok (.iload 7, 2) := by decide +kernel
theorem dX4_shadesIf_71 : decode cX4_shadesIf 71 = .ok (.iadd, 1) := by decide +kernel
theorem dX4_shadesIf_72 : decode cX4_shadesIf 72 = .ok (.laload, 1) := by decide +kernel
theorem dX4_shadesIf_73 : decode cX4_shadesIf 73 = .ok (.iload_n 1, 1) := by decide +kernel
theorem dX4_shadesIf_74 : decode cX4_shadesIf 74 = .ok (.lshr, 1) := by decide +kernel
theorem dX4_shadesIf_75 : decode cX4_shadesIf 75 = .ok (.lconst 1, 1) := by decide +kernel
theorem dX4_shadesIf_76 : decode cX4_shadesIf 76 = .ok (.land, 1) := by decide +kernel
theorem dX4_shadesIf_77 : decode cX4_shadesIf 77 = .ok (.l2i, 1) := by decide +kernel
theorem dX4_shadesIf_78 : decode cX4_shadesIf 78 = .ok (.iload 7, 2) := by decide +kernel
theorem dX4_shadesIf_80 : decode cX4_shadesIf 80 = .ok (.ishl, 1) := by decide +kernel
theorem dX4_shadesIf_81 : decode cX4_shadesIf 81 = .ok (.ior, 1) := by decide +kernel
theorem dX4_shadesIf_82 : decode cX4_shadesIf 82 = .ok (.istore 6, 2) := by decide +kernel
theorem dX4_shadesIf_84 : decode cX4_shadesIf 84 = .ok (.iinc 7 1, 3) := by decide +kernel
theorem dX4_shadesIf_87 : decode cX4_shadesIf 87 = .ok (.goto (-38), 3) := by decide +kernel
theorem dX4_shadesIf_90 : decode cX4_shadesIf 90 = .ok (.iload 6, 2) := by decide +kernel
theorem dX4_shadesIf_92 : decode cX4_shadesIf 92 = .ok (.ireturn, 1) := by decide +kernel
theorem ct_X4_shadesIf {g : Gw} (hG : GF g) {z : Bool} (E : Mm) (a : Nat) (ha : a = 30 ∨ a = 39) (G : GP) (hw : WG G) (hg_E : CG E a G) (m : Bool) (h c : Nat) (hh : h < 24) (hc : c < 40) : CT g yX4_shadesIf cX4_shadesIf 8 (some .int) 0 0 0 0 K2 z [mR a, mI ((c : Nat) : Int), mI ((h : Nat) : Int), mI (if m = true then 1 else 0)] (ov E) K2 z (fun r D' => r = some (mI (shd G m h c : Nat)) ∧ D' = ov E) := by
  refine CT.mk hG (by decide +kernel) (Nat.le_of_ble_eq_true rfl) (fun κ X Rt _ ok => ?_)
  have hW40 := hw.W
  have hN11 := hw.N
  have J43 : ∀ (fr0 : Int), (fr0 = lcl (gC G) h) → (¬ (lcl (gC G) h < 0 ∨ (gC G h = true ∧ ¬ m = true))) → AT g κ K2 z 0 0 43 [(0, mR a), (1, mI ((c : Nat) : Int)), (4, mI fr0)] [] (ov E) := by
    intro fr0 hf0 hcl
    subst hf0
    have := lcl_in (gC G) h
    obtain ⟨fr, hfr⟩ : ∃ fr : Nat, lcl (gC G) h = (fr : Int) := ⟨(lcl (gC G) h).toNat, by omega⟩
    rw [hfr]
    refine at_iconst 44 X (by decide) dX4_shadesIf_43 rfl ?_
    refine at_istore 46 X dX4_shadesIf_44 rfl (by decide) ?_
    refine at_iconst 47 X (by decide) dX4_shadesIf_46 rfl ?_
    refine at_istore 49 X dX4_shadesIf_47 rfl (by decide) ?_
    have J49 : ∀ (f49 : Nat) (p : Nat) (v : Nat), 11 - p < f49 → (p ≤ gN G) → (v = mk (fun p => shG G fr p c) p) → AT g κ K2 z 0 0 49 [(0, mR a), (1, mI ((c : Nat) : Int)), (4, mI ((fr : Nat) : Int)), (6, mI ((v : Nat) : Int)), (7, mI ((p : Nat) : Int))] [] (ov E) := by
      intro f49
      induction f49 with
      | zero => intro p v hf49; omega
      | succ f49 ih49 =>
      intro p v hf49 hp hv
      refine at_iload 51 X rfl dX4_shadesIf_49 rfl ?_
      refine at_aload_n 52 X rfl rfl dX4_shadesIf_51 rfl ?_
      refine m_getIV 55 X ((gN G : Nat) : Int) hg_E.1.N f_X4_53 (kX4 ha) (nX4_10 ha) dX4_shadesIf_52 rfl ?_
      have := hw.N
      refine at_icmp_ge 58 90 X dX4_shadesIf_55 rfl (by decide) (fun h55 => ?_) (fun h55 => ?_)
      · refine at_iload 92 X rfl dX4_shadesIf_90 rfl ?_
        refine at_iret X Rt ?_ (Nat.le_refl _) (Nat.le_refl _) dX4_shadesIf_92
        exact ⟨by unfold shd; rw [if_neg hcl, hfr, Int.toNat_natCast, hv, show p = gN G by omega], rfl⟩
      · refine at_iload 60 X rfl dX4_shadesIf_58 rfl ?_
        refine at_aload_n 61 X rfl rfl dX4_shadesIf_60 rfl ?_
        refine m_getR 64 X f_X4_27 (kX4 ha) (rX4_5 ha) dX4_shadesIf_61 rfl ?_
        refine at_iload 66 X rfl dX4_shadesIf_64 rfl ?_
        refine at_bipush 68 X (by decide) (by decide) dX4_shadesIf_66 rfl ?_
        refine at_imulV 69 X ((fr * 11 : Nat) : Int) (w32_v (by omega) (by omega) (by omega)) dX4_shadesIf_68 rfl ?_
        refine at_iload 71 X rfl dX4_shadesIf_69 rfl ?_
        refine at_iaddV 72 X ((fr * 11 + p : Nat) : Int) (w32_v (by omega) (by omega) (by omega)) dX4_shadesIf_71 rfl ?_
        refine m_laloadV 73 X (fr * 11 + p) (by omega) ((mk (shG G fr p) 40 : Nat) : Int) (hg_E.2.2.1 fr p (by omega) (by omega)) (kX4_5 ha) (eX4_5 ha) (by omega) dX4_shadesIf_72 rfl ?_
        have := mk40 (p := shG G fr p) (Nat.le_refl 40)
        refine at_iload_n 74 X rfl rfl dX4_shadesIf_73 rfl ?_
        refine at_lshrV 75 X (lshr ((mk (shG G fr p) 40 : Nat) : Int) ((c : Nat) : Int)) rfl dX4_shadesIf_74 rfl ?_
        refine at_lconst 76 X (v := 1) (by decide) (by decide) dX4_shadesIf_75 rfl ?_
        refine at_landV 77 X (if shG G fr p c = true then 1 else 0) ((lbit (by omega) (by omega)).trans (by rw [mk_in (by omega)])) dX4_shadesIf_76 rfl ?_
        refine at_l2iV 78 X (if shG G fr p c = true then 1 else 0) (by split <;> rfl) dX4_shadesIf_77 rfl ?_
        refine at_iload 80 X rfl dX4_shadesIf_78 rfl ?_
        refine at_ishlV 81 X (ishl (if shG G fr p c = true then 1 else 0) ((p : Nat) : Int)) rfl dX4_shadesIf_80 rfl ?_
        refine at_iorV 82 X ((mk (fun p => shG G fr p c) (p + 1) : Nat) : Int) (by rw [hv]; exact sh_or (q := fun p => shG G fr p c) (by omega)) dX4_shadesIf_81 rfl ?_
        refine at_istore 84 X dX4_shadesIf_82 rfl (by decide) ?_
        refine at_iincV 87 X ((p + 1 : Nat) : Int) (w32_v (by omega) (by omega) (by omega)) rfl dX4_shadesIf_84 rfl (by decide) ?_
        refine at_goto 49 X dX4_shadesIf_87 (by decide) ?_
        exact at_sub _ (by exact ⟨rfl, rfl, rfl, rfl, rfl, trivial⟩) (ih49 (p + 1) (mk (fun p => shG G fr p c) (p + 1)) (by first | omega | (simp only [] at *; omega)) (by first | omega | assumption) rfl)
    exact at_sub _ (by exact ⟨rfl, rfl, rfl, rfl, rfl, trivial⟩) (J49 _ 0 0 (Nat.lt_succ_self _) (by first | omega | assumption | rfl) rfl)
  refine at_aload_n 1 X rfl rfl dX4_shadesIf_0 rfl ?_
  refine m_getR 4 X f_X4_31 (kX4 ha) (rX4_6 ha) dX4_shadesIf_1 rfl ?_
  refine at_iload_n 5 X rfl rfl dX4_shadesIf_4 rfl ?_
  refine m_ialoadV 6 X h (by omega) (lcl (gC G) h) (hg_E.2.1.2 h (by omega)) (kX4_6 ha) (eX4_6 ha) (by omega) dX4_shadesIf_5 rfl ?_
  have := lcl_in (gC G) h
  refine at_istore 8 X dX4_shadesIf_6 rfl (by decide) ?_
  refine at_aload_n 9 X rfl rfl dX4_shadesIf_8 rfl ?_
  refine m_getIV 12 X ((mk (gC G) 24 : Nat) : Int) hg_E.2.1.1 f_X4_106 (kX4 ha) (nX4_11 ha) dX4_shadesIf_9 rfl ?_
  have := mk24 (p := gC G) (Nat.le_refl 24)
  refine at_iload_n 13 X rfl rfl dX4_shadesIf_12 rfl ?_
  refine at_ishrV 14 X (ishr ((mk (gC G) 24 : Nat) : Int) ((h : Nat) : Int)) rfl dX4_shadesIf_13 rfl ?_
  refine at_iconst 15 X (by decide) dX4_shadesIf_14 rfl ?_
  refine at_iandV 16 X (if gC G h = true then 1 else 0) ((ibit (by omega) (by omega)).trans (by rw [mk_in (by omega)])) dX4_shadesIf_15 rfl ?_
  refine at_iconst 17 X (by decide) dX4_shadesIf_16 rfl ?_
  refine at_icmp_ne 20 24 X dX4_shadesIf_17 rfl (by decide) (fun h17 => ?_) (fun h17 => ?_)
  · have hC : ¬ gC G h = true := by
      intro k; rw [if_pos k] at h17; exact absurd rfl h17
    refine at_iconst 25 X (by decide) dX4_shadesIf_24 rfl ?_
    refine at_istore 27 X dX4_shadesIf_25 rfl (by decide) ?_
    refine at_iload 29 X rfl dX4_shadesIf_27 rfl ?_
    refine at_if_lt 32 41 X dX4_shadesIf_29 rfl (by decide) (fun h29 => ?_) (fun h29 => ?_)
    · refine at_iconst 42 X (by decide) dX4_shadesIf_41 rfl ?_
      refine at_iret X Rt ?_ (Nat.le_refl _) (Nat.le_refl _) dX4_shadesIf_42
      exact ⟨by unfold shd; rw [if_pos (by first | exact Or.inl (by omega) | exact Or.inr ⟨hC, h38⟩)]; rfl, rfl⟩
    · refine at_iload 34 X rfl dX4_shadesIf_32 rfl ?_
      refine at_if_eq 37 43 X dX4_shadesIf_34 rfl (by decide) (fun h34 => ?_) (fun h34 => ?_)
      · exact at_sub _ (by exact ⟨rfl, rfl, rfl, trivial⟩) (J43 (lcl (gC G) h) rfl (fun q => q.elim (fun q => by omega) (fun q => by first | exact absurd q.1 hC | exact absurd h38 q.2)))
      · exact absurd h34 (by decide)
  · have hC : gC G h = true := by
      apply Decidable.byContradiction
      intro k; rw [if_neg k] at h17; exact absurd h17 (by decide)
    refine at_iconst 21 X (by decide) dX4_shadesIf_20 rfl ?_
    refine at_goto 25 X dX4_shadesIf_21 (by decide) ?_
    refine at_istore 27 X dX4_shadesIf_25 rfl (by decide) ?_
    refine at_iload 29 X rfl dX4_shadesIf_27 rfl ?_
    refine at_if_lt 32 41 X dX4_shadesIf_29 rfl (by decide) (fun h29 => ?_) (fun h29 => ?_)
    · refine at_iconst 42 X (by decide) dX4_shadesIf_41 rfl ?_
      refine at_iret X Rt ?_ (Nat.le_refl _) (Nat.le_refl _) dX4_shadesIf_42
      exact ⟨by unfold shd; rw [if_pos (by first | exact Or.inl (by omega) | exact Or.inr ⟨hC, h38⟩)]; rfl, rfl⟩
    · refine at_iload 34 X rfl dX4_shadesIf_32 rfl ?_
      refine at_if_eq 37 43 X dX4_shadesIf_34 rfl (by decide) (fun h34 => ?_) (fun h34 => ?_)
      · exact absurd h34 (by decide)
      · refine at_iload_n 38 X rfl rfl dX4_shadesIf_37 rfl ?_
        refine at_if_ne 41 43 X dX4_shadesIf_38 rfl (by decide) (fun h38 => ?_) (fun h38 => ?_)
        · have h38 : (m = true) := ite_yes.mp h38
          exact at_sub _ (by exact ⟨rfl, rfl, rfl, trivial⟩) (J43 (lcl (gC G) h) rfl (fun q => q.elim (fun q => by omega) (fun q => by first | exact absurd q.1 hC | exact absurd h38 q.2)))
        · have h38 : ¬ (m = true) := ite_no.mp h38
          refine at_iconst 42 X (by decide) dX4_shadesIf_41 rfl ?_
          refine at_iret X Rt ?_ (Nat.le_refl _) (Nat.le_refl _) dX4_shadesIf_42
          exact ⟨by unfold shd; rw [if_pos (by first | exact Or.inl (by omega) | exact Or.inr ⟨hC, h38⟩)]; rfl, rfl⟩
theorem dX4_shadesOn_0 : decode cX4_shadesOn 0 = .ok (.aload_n 0, 1) := by decide +kernel
theorem dX4_shadesOn_1 : decode cX4_shadesOn 1 = .ok (.iload_n 1, 1) := by decide +kernel
theorem dX4_shadesOn_2 : decode cX4_shadesOn 2 = .ok (.iload_n 2, 1) := by decide +kernel
theorem dX4_shadesOn_3 : decode cX4_shadesOn 3 = .ok (.aload_n 0, 1) := by decide +kernel
theorem dX4_shadesOn_4 : decode cX4_shadesOn 4 = .ok (.iload_n 1, 1) := by decide +kernel
theorem dX4_shadesOn_5 : decode cX4_shadesOn 5 = .ok (.invokevirtual 119, 3) := by decide +kernel
theorem dX4_shadesOn_8 : decode cX4_shadesOn 8 = .ok (.invokevirtual 122, 3) := by decide +kernel
theorem dX4_shadesOn_11 : decode cX4_shadesOn 11 = .ok (.ireturn, 1) := by decide +kernel
theorem ct_X4_shadesOn {g : Gw} (hG : GF g) {z : Bool} (E : Mm) (a : Nat) (ha : a = 30 ∨ a = 39) (G : GP) (hw : WG G) (hg_E : CG E a G) (h c : Nat) (hh : h < 24) (hc : c < 40) : CT g yX4_shadesOn cX4_shadesOn 3 (some .int) 1 27 0 0 K2 z [mR a, mI ((c : Nat) : Int), mI ((h : Nat) : Int)] (ov E) K2 z (fun r D' => r = some (mI (shd G (gLm G c) h c : Nat)) ∧ D' = ov E) := by
  refine CT.mk hG (by decide +kernel) (Nat.le_of_ble_eq_true rfl) (fun κ X Rt _ ok => ?_)
  have hW40 := hw.W
  have hN11 := hw.N
  refine at_aload_n 1 X rfl rfl dX4_shadesOn_0 rfl ?_
  refine at_iload_n 2 X rfl rfl dX4_shadesOn_1 rfl ?_
  refine at_iload_n 3 X rfl rfl dX4_shadesOn_2 rfl ?_
  refine at_aload_n 4 X rfl rfl dX4_shadesOn_3 rfl ?_
  refine at_iload_n 5 X rfl rfl dX4_shadesOn_4 rfl ?_
  refine at_callV 8 X _ 4 (ct_X4_isLampLit hG E a ha (gLm G) c (by omega) hg_E.1.Lm) clX4 rfl (kX4 ha) mo_X4_isLampLit w_746 vo_X4_isLampLit.1 vo_X4_isLampLit.2 rfl rfl (crm Rt (by decide)) (Nat.le_of_ble_eq_true rfl) dX4_shadesOn_5 rfl ?_
  rintro _ _ ⟨rfl, rfl⟩
  refine at_callV 11 X _ 4 (ct_X4_shadesIf hG E a ha G hw hg_E (gLm G c) h c (by omega) (by omega)) clX4 rfl (kX4 ha) mo_X4_shadesIf w_754 vo_X4_shadesIf.1 vo_X4_shadesIf.2 rfl rfl (crm Rt (by decide)) (Nat.le_of_ble_eq_true rfl) dX4_shadesOn_8 rfl ?_
  rintro _ _ ⟨rfl, rfl⟩
  have := shd_lt G hN11 (gLm G c) h c
  refine at_iret X Rt ?_ (Nat.le_refl _) (Nat.le_refl _) dX4_shadesOn_11
  exact ⟨rfl, rfl⟩
theorem dX4_tallest_0 : decode cX4_tallest 0 = .ok (.iconst 0, 1) := by decide +kernel
theorem dX4_tallest_1 : decode cX4_tallest 1 = .ok (.istore_n 2, 1) := by decide +kernel
theorem dX4_tallest_2 : decode cX4_tallest 2 = .ok (.iconst 0, 1) := by decide +kernel
theorem dX4_tallest_3 : decode cX4_tallest 3 = .ok (.istore_n 3, 1) := by decide +kernel
theorem dX4_tallest_4 : decode cX4_tallest 4 = .ok (.iload_n 3, 1) := by decide +kernel
theorem dX4_tallest_5 : decode cX4_tallest 5 = .ok (.aload_n 0, 1) := by decide +kernel
theorem dX4_tallest_6 : decode cX4_tallest 6 = .ok (.getfield 53, 3) := by decide +kernel
theorem dX4_tallest_9 : decode cX4_tallest 9 = .ok (.if_icmp .ge 35, 3) := by decide +kernel
theorem dX4_tallest_12 : decode cX4_tallest 12 = .ok (.iload_n 1, 1) := by decide +kernel
theorem dX4_tallest_13 : decode cX4_tallest 13 = .ok (.iload_n 3, 1) := by decide +kernel
theorem dX4_tallest_14 : decode cX4_tallest 14 = .ok (.ishr, 1) := by decide +kernel
theorem dX4_tallest_15 : decode cX4_tallest 15 = .ok (.iconst 1, 1) := by decide +kernel
theorem dX4_tallest_16 : decode cX4_tallest 16 = .ok (.iand, 1) := by decide +kernel
theorem dX4_tallest_17 : decode cX4_tallest 17 = .ok (.iconst 1, 1) := by decide +kernel
theorem dX4_tallest_18 : decode cX4_tallest 18 = .ok (.if_icmp .ne 20, 3) := by decide +kernel
theorem dX4_tallest_21 : decode cX4_tallest 21 = .ok (.aload_n 0, 1) := by decide +kernel
theorem dX4_tallest_22 : decode cX4_tallest 22 = .ok (.getfield 15, 3) := by decide +kernel
theorem dX4_tallest_25 : decode cX4_tallest 25 = .ok (.iload_n 3, 1) := by decide +kernel
theorem dX4_tallest_26 : decode cX4_tallest 26 = .ok (.iaload, 1) := by decide +kernel
theorem dX4_tallest_27 : decode cX4_tallest 27 = .ok (.iload_n 2, 1) := by decide +kernel
theorem dX4_tallest_28 : decode cX4_tallest 28 = .ok (.if_icmp .le 10, 3) := by decide +kernel
theorem dX4_tallest_31 : decode cX4_tallest 31 = .ok (.aload_n 0, 1) := by decide +kernel
theorem dX4_tallest_32 : decode cX4_tallest 32 = .ok (.getfield 15, 3) := by decide +kernel
theorem dX4_tallest_35 : decode cX4_tallest 35 = .ok (.iload_n 3, 1) := by decide +kernel
theorem dX4_tallest_36 : decode cX4_tallest 36 = .ok (.iaload, 1) := by decide +kernel
theorem dX4_tallest_37 : decode cX4_tallest 37 = .ok (.istore_n 2, 1) := by decide +kernel
theorem dX4_tallest_38 : decode cX4_tallest 38 = .ok (.iinc 3 1, 3) := by decide +kernel
theorem dX4_tallest_41 : decode cX4_tallest 41 = .ok (.goto (-37), 3) := by decide +kernel
theorem dX4_tallest_44 : decode cX4_tallest 44 = .ok (.iload_n 2, 1) := by decide +kernel
theorem dX4_tallest_45 : decode cX4_tallest 45 = .ok (.ireturn, 1) := by decide +kernel
theorem ct_X4_tallest {g : Gw} (hG : GF g) {z : Bool} (E : Mm) (a : Nat) (ha : a = 30 ∨ a = 39) (G : GP) (hw : WG G) (hg_E : CG E a G) (b : Nat) (hb : b < 2048) : CT g yX4_tallest cX4_tallest 4 (some .int) 0 0 0 0 K2 z [mR a, mI ((b : Nat) : Int)] (ov E) K2 z (fun r D' => r = some (mI (talG G b : Nat)) ∧ D' = ov E) := by
  refine CT.mk hG (by decide +kernel) (Nat.le_of_ble_eq_true rfl) (fun κ X Rt _ ok => ?_)
  have hW40 := hw.W
  have hN11 := hw.N
  refine at_iconst 1 X (by decide) dX4_tallest_0 rfl ?_
  refine at_istore_n 2 X rfl dX4_tallest_1 rfl (by decide) ?_
  refine at_iconst 3 X (by decide) dX4_tallest_2 rfl ?_
  refine at_istore_n 4 X rfl dX4_tallest_3 rfl (by decide) ?_
  have J4 : ∀ (f4 : Nat) (p : Nat) (v : Nat), 11 - p < f4 → (p ≤ gN G) → (v = itr (fun p v => if b.testBit p = true ∧ v < gH G p then gH G p else v) 0 p) → (v ≤ 99) → AT g κ K2 z 0 0 4 [(0, mR a), (1, mI ((b : Nat) : Int)), (2, mI ((v : Nat) : Int)), (3, mI ((p : Nat) : Int))] [] (ov E) := by
    intro f4
    induction f4 with
    | zero => intro p v hf4; omega
    | succ f4 ih4 =>
    intro p v hf4 hp hv hv99
    refine at_iload_n 5 X rfl rfl dX4_tallest_4 rfl ?_
    refine at_aload_n 6 X rfl rfl dX4_tallest_5 rfl ?_
    refine m_getIV 9 X ((gN G : Nat) : Int) hg_E.1.N f_X4_53 (kX4 ha) (nX4_10 ha) dX4_tallest_6 rfl ?_
    have := hw.N
    refine at_icmp_ge 12 44 X dX4_tallest_9 rfl (by decide) (fun h9 => ?_) (fun h9 => ?_)
    · refine at_iload_n 45 X rfl rfl dX4_tallest_44 rfl ?_
      refine at_iret X Rt ?_ (Nat.le_refl _) (Nat.le_refl _) dX4_tallest_45
      exact ⟨by unfold talG; rw [hv, show p = gN G by omega], rfl⟩
    · refine at_iload_n 13 X rfl rfl dX4_tallest_12 rfl ?_
      refine at_iload_n 14 X rfl rfl dX4_tallest_13 rfl ?_
      refine at_ishrV 15 X (ishr ((b : Nat) : Int) ((p : Nat) : Int)) rfl dX4_tallest_14 rfl ?_
      refine at_iconst 16 X (by decide) dX4_tallest_15 rfl ?_
      refine at_iandV 17 X (if b.testBit p = true then 1 else 0) (ibit (by omega) (by omega)) dX4_tallest_16 rfl ?_
      refine at_iconst 18 X (by decide) dX4_tallest_17 rfl ?_
      refine at_icmp_ne 21 38 X dX4_tallest_18 rfl (by decide) (fun h18 => ?_) (fun h18 => ?_)
      · have hb18 : ¬ b.testBit p = true := by
          intro k; rw [if_pos k] at h18; exact absurd rfl h18
        refine at_iincV 41 X ((p + 1 : Nat) : Int) (w32_v (by omega) (by omega) (by omega)) rfl dX4_tallest_38 rfl (by decide) ?_
        refine at_goto 4 X dX4_tallest_41 (by decide) ?_
        exact at_sub _ (by exact ⟨rfl, rfl, rfl, rfl, trivial⟩) (ih4 (p + 1) v (by first | omega | (simp only [] at *; omega)) (by first | omega | assumption) (by rw [itr_s, ← hv]; split <;> first | omega | rfl | (rename_i hx; exact absurd hx.1 hb18) | (rename_i hx; exact absurd ⟨hb18, by omega⟩ hx)) (by first | omega | assumption))
      · have hb18 : b.testBit p = true := by
          apply Decidable.byContradiction
          intro k; rw [if_neg k] at h18; exact absurd h18 (by decide)
        refine at_aload_n 22 X rfl rfl dX4_tallest_21 rfl ?_
        refine m_getR 25 X f_X4_15 (kX4 ha) (rX4_1 ha) dX4_tallest_22 rfl ?_
        refine at_iload_n 26 X rfl rfl dX4_tallest_25 rfl ?_
        refine m_ialoadV 27 X p (by omega) ((gH G p : Nat) : Int) (hg_E.1.H (p := p) (by omega)) (kX4_1 ha) (eX4_1 ha) (by omega) dX4_tallest_26 rfl ?_
        have := hw.H (p := p) (by omega)
        refine at_iload_n 28 X rfl rfl dX4_tallest_27 rfl ?_
        refine at_icmp_le 31 38 X dX4_tallest_28 rfl (by decide) (fun h28 => ?_) (fun h28 => ?_)
        · refine at_iincV 41 X ((p + 1 : Nat) : Int) (w32_v (by omega) (by omega) (by omega)) rfl dX4_tallest_38 rfl (by decide) ?_
          refine at_goto 4 X dX4_tallest_41 (by decide) ?_
          exact at_sub _ (by exact ⟨rfl, rfl, rfl, rfl, trivial⟩) (ih4 (p + 1) v (by first | omega | (simp only [] at *; omega)) (by first | omega | assumption) (by rw [itr_s, ← hv]; split <;> first | omega | rfl | (rename_i hx; exact absurd hx.1 hb18) | (rename_i hx; exact absurd ⟨hb18, by omega⟩ hx)) (by first | omega | assumption))
        · refine at_aload_n 32 X rfl rfl dX4_tallest_31 rfl ?_
          refine m_getR 35 X f_X4_15 (kX4 ha) (rX4_1 ha) dX4_tallest_32 rfl ?_
          refine at_iload_n 36 X rfl rfl dX4_tallest_35 rfl ?_
          refine m_ialoadV 37 X p (by omega) ((gH G p : Nat) : Int) (hg_E.1.H (p := p) (by omega)) (kX4_1 ha) (eX4_1 ha) (by omega) dX4_tallest_36 rfl ?_
          have := hw.H (p := p) (by omega)
          refine at_istore_n 38 X rfl dX4_tallest_37 rfl (by decide) ?_
          refine at_iincV 41 X ((p + 1 : Nat) : Int) (w32_v (by omega) (by omega) (by omega)) rfl dX4_tallest_38 rfl (by decide) ?_
          refine at_goto 4 X dX4_tallest_41 (by decide) ?_
          exact at_sub _ (by exact ⟨rfl, rfl, rfl, rfl, trivial⟩) (ih4 (p + 1) (gH G p) (by first | omega | (simp only [] at *; omega)) (by first | omega | assumption) (by rw [itr_s, ← hv]; split <;> first | omega | rfl | (rename_i hx; exact absurd hx.1 hb18) | (rename_i hx; exact absurd ⟨hb18, by omega⟩ hx)) (by first | omega | assumption))
  exact at_sub _ (by exact ⟨rfl, rfl, rfl, rfl, trivial⟩) (J4 _ 0 0 (Nat.lt_succ_self _) (by first | omega | assumption | rfl) rfl (by first | omega | assumption | rfl))
theorem dX4_borneIf_0 : decode cX4_borneIf 0 = .ok (.aload_n 0, 1) := by decide +kernel
theorem dX4_borneIf_1 : decode cX4_borneIf 1 = .ok (.getfield 56, 3) := by decide +kernel
theorem dX4_borneIf_4 : decode cX4_borneIf 4 = .ok (.iload_n 1, 1) := by decide +kernel
theorem dX4_borneIf_5 : decode cX4_borneIf 5 = .ok (.lshr, 1) := by decide +kernel
theorem dX4_borneIf_6 : decode cX4_borneIf 6 = .ok (.lconst 1, 1) := by decide +kernel
theorem dX4_borneIf_7 : decode cX4_borneIf 7 = .ok (.land, 1) := by decide +kernel
theorem dX4_borneIf_8 : decode cX4_borneIf 8 = .ok (.lconst 1, 1) := by decide +kernel
theorem dX4_borneIf_9 : decode cX4_borneIf 9 = .ok (.lcmp, 1) := by decide +kernel
theorem dX4_borneIf_10 : decode cX4_borneIf 10 = .ok (.ifCond .ne 7, 3) := by decide +kernel
theorem dX4_borneIf_13 : decode cX4_borneIf 13 = .ok (.sipush 999, 3) := by decide +kernel
theorem dX4_borneIf_16 : decode cX4_borneIf 16 = .ok (.ireturn, 1) := by decide +kernel
theorem dX4_borneIf_17 : decode cX4_borneIf 17 = .ok (.iload_n 3, 1) := by decide +kernel
theorem dX4_borneIf_18 : decode cX4_borneIf 18 = .ok (.ifCond .eq 8, 3) := by decide +kernel
theorem dX4_borneIf_21 : decode cX4_borneIf 21 = .ok (.bipush 24, 2) := by decide +kernel
theorem dX4_borneIf_23 : decode cX4_borneIf 23 = .ok (.goto 4, 3) := by decide +kernel
theorem dX4_borneIf_26 : decode cX4_borneIf 26 = .ok (.iconst 0, 1) := by decide +kernel
theorem dX4_borneIf_27 : decode cX4_borneIf 27 = .ok (.iload_n 2, 1) := by decide +kernel
theorem dX4_borneIf_28 : decode cX4_borneIf 28 = .ok (.iadd, 1) := by decide +kernel
theorem dX4_borneIf_29 : decode cX4_borneIf 29 = .ok (.bipush 40, 2) := by decide +kernel
theorem dX4_borneIf_31 : decode cX4_borneIf 31 = .ok (.imul, 1) := by decide +kernel
theorem dX4_borneIf_32 : decode cX4_borneIf 32 = .ok (.iload_n 1, 1) := by decide +kernel
theorem dX4_borneIf_33 : decode cX4_borneIf 33 = .ok (.iadd, 1) := by decide +kernel
theorem dX4_borneIf_34 : decode cX4_borneIf 34 = .ok (.istore 4, 2) := by decide +kernel
theorem dX4_borneIf_36 : decode cX4_borneIf 36 = .ok (.aload_n 0, 1) := by decide +kernel
theorem dX4_borneIf_37 : decode cX4_borneIf 37 = .ok (.getfield 34, 3) := by decide +kernel
theorem dX4_borneIf_40 : decode cX4_borneIf 40 = .ok (.iload 4, 2) := by decide +kernel
theorem dX4_borneIf_42 : decode cX4_borneIf 42 = .ok (.iaload, 1) := by decide +kernel
theorem dX4_borneIf_43 : decode cX4_borneIf 43 = .ok (.iconst (-1), 1) := by decide +kernel
theorem dX4_borneIf_44 : decode cX4_borneIf 44 = .ok (.if_icmp .ne 58, 3) := by decide +kernel
theorem dX4_borneIf_47 : decode cX4_borneIf 47 = .ok (.aload_n 0, 1) := by decide +kernel
theorem dX4_borneIf_48 : decode cX4_borneIf 48 = .ok (.iload_n 1, 1) := by decide +kernel
theorem dX4_borneIf_49 : decode cX4_borneIf 49 = .ok (.iload_n 2, 1) := by decide +kernel
theorem dX4_borneIf_50 : decode cX4_borneIf 50 = .ok (.iload_n 3, 1) := by decide +kernel
theorem dX4_borneIf_51 : decode cX4_borneIf 51 = .ok (.invokevirtual 122, 3) := by decide +kernel
theorem dX4_borneIf_54 : decode cX4_borneIf 54 = .ok (.istore 5, 2) := by decide +kernel
theorem dX4_borneIf_56 : decode cX4_borneIf 56 = .ok (.aload_n 0, 1) := by decide +kernel
theorem dX4_borneIf_57 : decode cX4_borneIf 57 = .ok (.getfield 34, 3) := by decide +kernel
theorem dX4_borneIf_60 : decode cX4_borneIf 60 = .ok (.iload 4, 2) := by decide +kernel
theorem dX4_borneIf_62 : decode cX4_borneIf 62 = .ok (.aload_n 0, 1) := by decide +kernel
theorem dX4_borneIf_63 : decode cX4_borneIf 63 = .ok (.getfield 37, 3) := by decide +kernel
theorem dX4_borneIf_66 : decode cX4_borneIf 66 = .ok (.ifnonnull 7, 3) := by decide +kernel
theorem dX4_borneIf_69 : decode cX4_borneIf 69 = .ok (.iconst 0, 1) := by decide +kernel
theorem dX4_borneIf_70 : decode cX4_borneIf 70 = .ok (.goto 31, 3) := by decide +kernel
theorem dX4_borneIf_73 : decode cX4_borneIf 73 = .ok (.aload_n 0, 1) := by decide +kernel
theorem dX4_borneIf_74 : decode cX4_borneIf 74 = .ok (.getfield 37, 3) := by decide +kernel
theorem dX4_borneIf_77 : decode cX4_borneIf 77 = .ok (.iload 5, 2) := by decide +kernel
theorem dX4_borneIf_79 : decode cX4_borneIf 79 = .ok (.invokestatic 129, 3) := by decide +kernel
theorem dX4_borneIf_82 : decode cX4_borneIf 82 = .ok (.aload_n 0, 1) := by decide +kernel
theorem dX4_borneIf_83 : decode cX4_borneIf 83 = .ok (.iload 5, 2) := by decide +kernel
theorem dX4_borneIf_85 : decode cX4_borneIf 85 = .ok (.invokevirtual 134, 3) := by decide +kernel
theorem dX4_borneIf_88 : decode cX4_borneIf 88 = .ok (.iload_n 2, 1) := by decide +kernel
theorem dX4_borneIf_89 : decode cX4_borneIf 89 = .ok (.iload_n 3, 1) := by decide +kernel
theorem dX4_borneIf_90 : decode cX4_borneIf 90 = .ok (.ifCond .eq 7, 3) := by decide +kernel
theorem dX4_borneIf_93 : decode cX4_borneIf 93 = .ok (.iconst 1, 1) := by decide +kernel
theorem dX4_borneIf_94 : decode cX4_borneIf 94 = .ok (.goto 4, 3) := by decide +kernel
theorem dX4_borneIf_97 : decode cX4_borneIf 97 = .ok (.iconst 0, 1) := by decide +kernel
theorem dX4_borneIf_98 : decode cX4_borneIf 98 = .ok (.invokevirtual 137, 3) := by decide +kernel
theorem dX4_borneIf_101 : decode cX4_borneIf 101 = .ok (.iastore, 1) := by decide +kernel
theorem dX4_borneIf_102 : decode cX4_borneIf 102 = .ok (.aload_n 0, 1) := by decide +kernel
theorem dX4_borneIf_103 : decode cX4_borneIf 103 = .ok (.getfield 34, 3) := by decide +kernel
theorem dX4_borneIf_106 : decode cX4_borneIf 106 = .ok (.iload 4, 2) := by decide +kernel
theorem dX4_borneIf_108 : decode cX4_borneIf 108 = .ok (.iaload, 1) := by decide +kernel
theorem dX4_borneIf_109 : decode cX4_borneIf 109 = .ok (.ireturn, 1) := by decide +kernel
theorem ct_X4_borneIf {g : Gw} (hG : GF g) {z : Bool} (E : Mm) (a : Nat) (ha : a = 30 ∨ a = 39) (G : GP) (hw : WG G) (hg_E : CG E a G) (hl_E : CL E 4 (gLw G)) (m : Bool) (h c : Nat) (hh : h < 24) (hc : c < 40) : CT g yX4_borneIf cX4_borneIf 6 (some .int) 1 28 0 0 K2 z [mR a, mI ((c : Nat) : Int), mI ((h : Nat) : Int), mI (if m = true then 1 else 0)] (ov E) K2 z (fun r D' => r = some (mI (bIf G m h c)) ∧ ∃ E1, D' = ov E1 ∧ CG E1 a G ∧ ∀ q, q ≠ a + 8 → q ≠ 7 → E1 q = E q) := by
  refine CT.mk hG (by decide +kernel) (Nat.le_of_ble_eq_true rfl) (fun κ X Rt _ ok => ?_)
  have hW40 := hw.W
  have hN11 := hw.N
  refine at_aload_n 1 X rfl rfl dX4_borneIf_0 rfl ?_
  refine m_getLV 4 X ((mk (isP G) 40 : Nat) : Int) hg_E.1.P f_X4_56 (kX4 ha) (nX4_12 ha) dX4_borneIf_1 rfl ?_
  have := mk40 (p := isP G) (Nat.le_refl 40)
  refine at_iload_n 5 X rfl rfl dX4_borneIf_4 rfl ?_
  refine at_lshrV 6 X (lshr ((mk (isP G) 40 : Nat) : Int) ((c : Nat) : Int)) rfl dX4_borneIf_5 rfl ?_
  refine at_lconst 7 X (v := 1) (by decide) (by decide) dX4_borneIf_6 rfl ?_
  refine at_landV 8 X (if isP G c = true then 1 else 0) ((lbit (by omega) (by omega)).trans (by rw [mk_in (by omega)])) dX4_borneIf_7 rfl ?_
  refine at_lconst 9 X (v := 1) (by decide) (by decide) dX4_borneIf_8 rfl ?_
  refine at_lif_ne 10 13 17 X dX4_borneIf_9 rfl dX4_borneIf_10 rfl (by decide) (fun h9 => ?_) (fun h9 => ?_)
  · have hP : ¬ isP G c = true := by
      intro k; rw [if_pos k] at h9; exact absurd rfl h9
    have J36 : ∀ (ix : Nat), (ix = kix m h c) → AT g κ K2 z 0 0 36 [(0, mR a), (1, mI ((c : Nat) : Int)), (2, mI ((h : Nat) : Int)), (3, mI (if m = true then 1 else 0)), (4, mI ((ix : Nat) : Int))] [] (ov E) := by
      intro ix hix
      have hkl := kix_lt (m := m) hh hc
      refine at_aload_n 37 X rfl rfl dX4_borneIf_36 rfl ?_
      refine m_getR 40 X f_X4_34 (kX4 ha) (rX4_7 ha) dX4_borneIf_37 rfl ?_
      refine at_iload 42 X rfl dX4_borneIf_40 rfl ?_
      refine m_ialoadV 43 X ix (by omega) (E (a + 8) ix) rfl (kX4_7 ha) (eX4_7 ha) (by omega) dX4_borneIf_42 rfl ?_
      refine at_iconst 44 X (by decide) dX4_borneIf_43 rfl ?_
      refine at_icmp_ne 47 102 X dX4_borneIf_44 rfl (by decide) (fun h44 => ?_) (fun h44 => ?_)
      · refine at_aload_n 103 X rfl rfl dX4_borneIf_102 rfl ?_
        refine m_getR 106 X f_X4_34 (kX4 ha) (rX4_7 ha) dX4_borneIf_103 rfl ?_
        refine at_iload 108 X rfl dX4_borneIf_106 rfl ?_
        refine m_ialoadV 109 X ix (by omega) (E (a + 8) ix) rfl (kX4_7 ha) (eX4_7 ha) (by omega) dX4_borneIf_108 rfl ?_
        refine at_iret X Rt ?_ (Nat.le_refl _) (Nat.le_refl _) dX4_borneIf_109
        have hk := hg_E.2.2.2 m h c hh hc
        subst hix
        exact ⟨hk.elim (fun q => absurd q h44) (fun q => by rw [q]), E, rfl, hg_E, fun _ _ _ => rfl⟩
      · refine at_aload_n 48 X rfl rfl dX4_borneIf_47 rfl ?_
        refine at_iload_n 49 X rfl rfl dX4_borneIf_48 rfl ?_
        refine at_iload_n 50 X rfl rfl dX4_borneIf_49 rfl ?_
        refine at_iload_n 51 X rfl rfl dX4_borneIf_50 rfl ?_
        refine at_callV 54 X _ 4 (ct_X4_shadesIf hG E a ha G hw hg_E m h c (by omega) (by omega)) clX4 rfl (kX4 ha) mo_X4_shadesIf w_754 vo_X4_shadesIf.1 vo_X4_shadesIf.2 rfl rfl (crm Rt (by decide)) (Nat.le_of_ble_eq_true rfl) dX4_borneIf_51 rfl ?_
        rintro _ _ ⟨rfl, rfl⟩
        have := shd_lt G hN11 m h c
        refine at_istore 56 X dX4_borneIf_54 rfl (by decide) ?_
        refine at_aload_n 57 X rfl rfl dX4_borneIf_56 rfl ?_
        refine m_getR 60 X f_X4_34 (kX4 ha) (rX4_7 ha) dX4_borneIf_57 rfl ?_
        refine at_iload 62 X rfl dX4_borneIf_60 rfl ?_
        refine at_aload_n 63 X rfl rfl dX4_borneIf_62 rfl ?_
        refine m_getM 66 X (4) f_X4_37 (kX4 ha) (nX4_8 ha) (hg_E.1.1 : E a 8 = ((4 : Nat) : Int)) dX4_borneIf_63 rfl ?_
        refine at_ifnn 73 X dX4_borneIf_66 (by decide) ?_
        refine at_aload_n 74 X rfl rfl dX4_borneIf_73 rfl ?_
        refine m_getM 77 X (4) f_X4_37 (kX4 ha) (nX4_8 ha) (hg_E.1.1 : E a 8 = ((4 : Nat) : Int)) dX4_borneIf_74 rfl ?_
        refine at_iload 79 X rfl dX4_borneIf_77 rfl ?_
        refine at_callS 82 X (ct_J6_bitCount_0f7a4 hG E (shd G m h c) (by omega)) mo_J6_bitCount_0f7a4 w_758 so_J6_bitCount_0f7a4 rfl rfl (crm Rt (by decide)) (Nat.le_of_ble_eq_true rfl) dX4_borneIf_79 rfl ?_
        rintro _ _ ⟨rfl, rfl⟩
        refine at_aload_n 83 X rfl rfl dX4_borneIf_82 rfl ?_
        refine at_iload 85 X rfl dX4_borneIf_83 rfl ?_
        refine at_callV 88 X _ 4 (ct_X4_tallest hG E a ha G hw hg_E (shd G m h c) (by omega)) clX4 rfl (kX4 ha) mo_X4_tallest w_764 vo_X4_tallest.1 vo_X4_tallest.2 rfl rfl (crm Rt (by decide)) (Nat.le_of_ble_eq_true rfl) dX4_borneIf_85 rfl ?_
        rintro _ _ ⟨rfl, rfl⟩
        refine at_iload_n 89 X rfl rfl dX4_borneIf_88 rfl ?_
        have J98 : ∀ (lv : Int), (lv = if m = true then 1 else 0) → AT g κ K2 z 0 0 98 [(0, mR a), (4, mI ((ix : Nat) : Int))] [mI lv, mI ((h : Nat) : Int), mI ((talG G (shd G m h c) : Nat) : Int), mI ((cntp (fun p => (shd G m h c).testBit p) 11 : Nat) : Int), mR 4, mI ((ix : Nat) : Int), mR (a + 8)] (ov E) := by
          intro lv hlv
          refine at_callV 101 X _ 7 (ct_X7_borne hG E (gLw G) hl_E hw.Lw ((cntp (fun p => (shd G m h c).testBit p) 11 : Nat) : Int) ((talG G (shd G m h c) : Nat) : Int) ((h : Nat) : Int) lv) clX7 rfl k_4 mo_X7_borne w_768 vo_X7_borne.1 vo_X7_borne.2 rfl rfl (crm Rt (by decide)) (Nat.le_of_ble_eq_true rfl) dX4_borneIf_98 rfl ?_
          rintro _ _ ⟨rfl, F1, rfl, hq_F1⟩
          refine m_iastoreV 102 X ix (by omega) (kX4_7 ha) (eX4_7 ha) (by omega) dX4_borneIf_101 rfl ?_
          refine at_aload_n 103 X rfl rfl dX4_borneIf_102 rfl ?_
          refine m_getR 106 X f_X4_34 (kX4 ha) (rX4_7 ha) dX4_borneIf_103 rfl ?_
          refine at_iload 108 X rfl dX4_borneIf_106 rfl ?_
          refine m_ialoadV 109 X ix (by omega) (borP (gLw G) ((cntp (fun p => (shd G m h c).testBit p) 11 : Nat) : Int) ((talG G (shd G m h c) : Nat) : Int) ((h : Nat) : Int) lv) (wr_s _ _ _ _) (kX4_7 ha) (eX4_7 ha) (by omega) dX4_borneIf_108 rfl ?_
          refine at_iret X Rt ?_ (Nat.le_refl _) (Nat.le_refl _) dX4_borneIf_109
          have hval : bIf G m h c = borP (gLw G) ((cntp (fun p => (shd G m h c).testBit p) 11 : Nat) : Int) ((talG G (shd G m h c) : Nat) : Int) (h : Int) lv := by unfold bIf; rw [if_neg hP, ← hlv]
          have hgF : CG F1 a G := hg_E.fr (fun q _ _ _ => hq_F1 q (by omega))
          refine ⟨by rw [hval], _, rfl, ⟨?_, ?_, ?_, ?_⟩, fun q h1 h2 => by rw [wr_row h1]; exact hq_F1 q h2⟩
          · exact hgF.1.fr (fun q hq => wr_row (by omega))
          · have := hgF.2.1
            unfold CGc at this ⊢
            rw [wr_row (by omega), wr_row (by omega)]
            exact this
          · have := hgF.2.2.1
            unfold CGs at this ⊢
            rw [wr_row (by omega)]
            exact this
          · subst hix
            rw [← hval]
            exact hgF.2.2.2.wr hh hc
        refine at_iload_n 90 X rfl rfl dX4_borneIf_89 rfl ?_
        refine at_if_eq 93 97 X dX4_borneIf_90 rfl (by decide) (fun h90 => ?_) (fun h90 => ?_)
        · have h90 : ¬ (m = true) := ite_no.mp h90
          refine at_iconst 98 X (by decide) dX4_borneIf_97 rfl ?_
          exact at_sub _ (by exact ⟨rfl, rfl, trivial⟩) (J98 0 (by first | rw [if_pos h90] | rw [if_neg h90]))
        · have h90 : (m = true) := ite_yes.mp h90
          refine at_iconst 94 X (by decide) dX4_borneIf_93 rfl ?_
          refine at_goto 98 X dX4_borneIf_94 (by decide) ?_
          exact at_sub _ (by exact ⟨rfl, rfl, trivial⟩) (J98 1 (by first | rw [if_pos h90] | rw [if_neg h90]))
    refine at_iload_n 18 X rfl rfl dX4_borneIf_17 rfl ?_
    refine at_if_eq 21 26 X dX4_borneIf_18 rfl (by decide) (fun h18 => ?_) (fun h18 => ?_)
    · have h18 : ¬ (m = true) := ite_no.mp h18
      refine at_iconst 27 X (by decide) dX4_borneIf_26 rfl ?_
      refine at_iload_n 28 X rfl rfl dX4_borneIf_27 rfl ?_
      refine at_iaddV 29 X ((0 + h : Nat) : Int) (w32_v (by omega) (by omega) (by omega)) dX4_borneIf_28 rfl ?_
      refine at_bipush 31 X (by decide) (by decide) dX4_borneIf_29 rfl ?_
      refine at_imulV 32 X (((0 + h) * 40 : Nat) : Int) (w32_v (by omega) (by omega) (by omega)) dX4_borneIf_31 rfl ?_
      refine at_iload_n 33 X rfl rfl dX4_borneIf_32 rfl ?_
      refine at_iaddV 34 X (((0 + h) * 40 + c : Nat) : Int) (w32_v (by omega) (by omega) (by omega)) dX4_borneIf_33 rfl ?_
      refine at_istore 36 X dX4_borneIf_34 rfl (by decide) ?_
      exact at_sub _ (by exact ⟨rfl, rfl, rfl, rfl, rfl, trivial⟩) (J36 ((0 + h) * 40 + c) (by unfold kix; first | rw [if_pos h18] | rw [if_neg h18, Nat.zero_add]))
    · have h18 : (m = true) := ite_yes.mp h18
      refine at_bipush 23 X (by decide) (by decide) dX4_borneIf_21 rfl ?_
      refine at_goto 27 X dX4_borneIf_23 (by decide) ?_
      refine at_iload_n 28 X rfl rfl dX4_borneIf_27 rfl ?_
      refine at_iaddV 29 X ((24 + h : Nat) : Int) (w32_v (by omega) (by omega) (by omega)) dX4_borneIf_28 rfl ?_
      refine at_bipush 31 X (by decide) (by decide) dX4_borneIf_29 rfl ?_
      refine at_imulV 32 X (((24 + h) * 40 : Nat) : Int) (w32_v (by omega) (by omega) (by omega)) dX4_borneIf_31 rfl ?_
      refine at_iload_n 33 X rfl rfl dX4_borneIf_32 rfl ?_
      refine at_iaddV 34 X (((24 + h) * 40 + c : Nat) : Int) (w32_v (by omega) (by omega) (by omega)) dX4_borneIf_33 rfl ?_
      refine at_istore 36 X dX4_borneIf_34 rfl (by decide) ?_
      exact at_sub _ (by exact ⟨rfl, rfl, rfl, rfl, rfl, trivial⟩) (J36 ((24 + h) * 40 + c) (by unfold kix; first | rw [if_pos h18] | rw [if_neg h18, Nat.zero_add]))
  · refine at_sipush 16 X (by decide) (by decide) dX4_borneIf_13 rfl ?_
    refine at_iret X Rt ?_ (Nat.le_refl _) (Nat.le_refl _) dX4_borneIf_16
    have hP : isP G c = true := by
      apply Decidable.byContradiction
      intro k; rw [if_neg k] at h9; exact absurd h9 (by decide)
    exact ⟨by unfold bIf; rw [if_pos hP], E, rfl, hg_E, fun _ _ _ => rfl⟩
theorem dX4_borneOn_0 : decode cX4_borneOn 0 = .ok (.aload_n 0, 1) := by decide +kernel
theorem dX4_borneOn_1 : decode cX4_borneOn 1 = .ok (.iload_n 1, 1) := by decide +kernel
theorem dX4_borneOn_2 : decode cX4_borneOn 2 = .ok (.iload_n 2, 1) := by decide +kernel
theorem dX4_borneOn_3 : decode cX4_borneOn 3 = .ok (.aload_n 0, 1) := by decide +kernel
theorem dX4_borneOn_4 : decode cX4_borneOn 4 = .ok (.iload_n 1, 1) := by decide +kernel
theorem dX4_borneOn_5 : decode cX4_borneOn 5 = .ok (.invokevirtual 119, 3) := by decide +kernel
theorem dX4_borneOn_8 : decode cX4_borneOn 8 = .ok (.invokevirtual 126, 3) := by decide +kernel
theorem dX4_borneOn_11 : decode cX4_borneOn 11 = .ok (.ireturn, 1) := by decide +kernel
theorem ct_X4_borneOn {g : Gw} (hG : GF g) {z : Bool} (E : Mm) (a : Nat) (ha : a = 30 ∨ a = 39) (G : GP) (hw : WG G) (hg_E : CG E a G) (hl_E : CL E 4 (gLw G)) (h c : Nat) (hh : h < 24) (hc : c < 40) : CT g yX4_borneOn cX4_borneOn 3 (some .int) 2 53 0 0 K2 z [mR a, mI ((c : Nat) : Int), mI ((h : Nat) : Int)] (ov E) K2 z (fun r D' => r = some (mI (bOn G h c)) ∧ ∃ E1, D' = ov E1 ∧ CG E1 a G ∧ ∀ q, q ≠ a + 8 → q ≠ 7 → E1 q = E q) := by
  refine CT.mk hG (by decide +kernel) (Nat.le_of_ble_eq_true rfl) (fun κ X Rt _ ok => ?_)
  have hf_E : ∀ q, q ≠ a + 8 → q ≠ 7 → E q = E q := fun _ _ _ => rfl
  have hW40 := hw.W
  have hN11 := hw.N
  refine at_aload_n 1 X rfl rfl dX4_borneOn_0 rfl ?_
  refine at_iload_n 2 X rfl rfl dX4_borneOn_1 rfl ?_
  refine at_iload_n 3 X rfl rfl dX4_borneOn_2 rfl ?_
  refine at_aload_n 4 X rfl rfl dX4_borneOn_3 rfl ?_
  refine at_iload_n 5 X rfl rfl dX4_borneOn_4 rfl ?_
  refine at_callV 8 X _ 4 (ct_X4_isLampLit hG E a ha (gLm G) c (by omega) hg_E.1.Lm) clX4 rfl (kX4 ha) mo_X4_isLampLit w_746 vo_X4_isLampLit.1 vo_X4_isLampLit.2 rfl rfl (crm Rt (by decide)) (Nat.le_of_ble_eq_true rfl) dX4_borneOn_5 rfl ?_
  rintro _ _ ⟨rfl, rfl⟩
  refine at_callV 11 X _ 4 (ct_X4_borneIf hG E a ha G hw hg_E hl_E (gLm G c) h c (by omega) (by omega)) clX4 rfl (kX4 ha) mo_X4_borneIf w_750 vo_X4_borneIf.1 vo_X4_borneIf.2 rfl rfl (crm Rt (by decide)) (Nat.le_of_ble_eq_true rfl) dX4_borneOn_8 rfl ?_
  rintro _ _ ⟨rfl, F1, rfl, hg_F1, hq_F1⟩
  have hl_F1 := hl_E.fr (fun q _ _ => hq_F1 q (by omega) (by omega))
  have hf_F1 : ∀ q, q ≠ a + 8 → q ≠ 7 → F1 q = E q := fun q h0 h1 => (hq_F1 q h0 h1).trans (hf_E q h0 h1)
  have := bIf_in G (gLm G c) h c
  refine at_iret X Rt ?_ (Nat.le_refl _) (Nat.le_refl _) dX4_borneOn_11
  exact ⟨rfl, F1, rfl, hg_F1, hf_F1⟩
theorem bOn_in (G : GP) (h c : Nat) : 0 ≤ bOn G h c ∧ bOn G h c ≤ 999 := bIf_in _ _ _ _
/-- the cells that bear anything, as bits -/
def bcl (G : GP) (h : Nat) : Nat := mk (fun c => decide (0 < bOn G h c)) (gW G)
theorem mk_lor {q : Nat → Bool} {c : Nat} (hc : c < 40) (h : q c = true) : lor ((mk q c : Nat) : Int) ((2 ^ c : Nat) : Int) = ((mk q (c + 1) : Nat) : Int) := by
  have h1 := mk40 (p := q) (n := c) (by omega)
  have h2 := p2_40 hc
  rw [lor_nat (by omega) (by omega), mk_t h]
theorem dX4_bearingCells_0 : decode cX4_bearingCells 0 = .ok (.lconst 0, 1) := by decide +kernel
theorem dX4_bearingCells_1 : decode cX4_bearingCells 1 = .ok (.lstore_n 2, 1) := by decide +kernel
theorem dX4_bearingCells_2 : decode cX4_bearingCells 2 = .ok (.iconst 0, 1) := by decide +kernel
theorem dX4_bearingCells_3 : decode cX4_bearingCells 3 = .ok (.istore 4, 2) := by decide +kernel
theorem dX4_bearingCells_5 : decode cX4_bearingCells 5 = .ok (.iload 4, 2) := by decide +kernel
theorem dX4_bearingCells_7 : decode cX4_bearingCells 7 = .ok (.aload_n 0, 1) := by decide +kernel
theorem dX4_bearingCells_8 : decode cX4_bearingCells 8 = .ok (.getfield 47, 3) := by decide +kernel
theorem dX4_bearingCells_11 : decode cX4_bearingCells 11 = .ok (.if_icmp .ge 26, 3) := by decide +kernel
theorem dX4_bearingCells_14 : decode cX4_bearingCells 14 = .ok (.aload_n 0, 1) := by decide +kernel
theorem dX4_bearingCells_15 : decode cX4_bearingCells 15 = .ok (.iload 4, 2) := by decide +kernel
theorem dX4_bearingCells_17 : decode cX4_bearingCells 17 = .ok (.iload_n 1, 1) := by decide +kernel
theorem dX4_bearingCells_18 : decode cX4_bearingCells 18 = .ok (.invokevirtual 143, 3) := by decide +kernel
theorem dX4_bearingCells_21 : decode cX4_bearingCells 21 = .ok (.ifCond .le 10, 3) := by decide +kernel
theorem dX4_bearingCells_24 : decode cX4_bearingCells 24 = .ok (.lload_n 2, 1) := by decide +kernel
theorem dX4_bearingCells_25 : decode cX4_bearingCells 25 = .ok (.lconst 1, 1) := by decide +kernel
theorem dX4_bearingCells_26 : decode cX4_bearingCells 26 = .ok (.iload 4, 2) := by decide +kernel
theorem dX4_bearingCells_28 : decode cX4_bearingCells 28 = .ok (.lshl, 1) := by decide +kernel
theorem dX4_bearingCells_29 : decode cX4_bearingCells 29 = .ok (.lor, 1) := by decide +kernel
theorem dX4_bearingCells_30 : decode cX4_bearingCells 30 = .ok (.lstore_n 2, 1) := by decide +kernel
theorem dX4_bearingCells_31 : decode cX4_bearingCells 31 = .ok (.iinc 4 1, 3) := by decide +kernel
theorem dX4_bearingCells_34 : decode cX4_bearingCells 34 = .ok (.goto (-29), 3) := by decide +kernel
theorem dX4_bearingCells_37 : decode cX4_bearingCells 37 = .ok (.lload_n 2, 1) := by decide +kernel
theorem dX4_bearingCells_38 : decode cX4_bearingCells 38 = .ok (.lreturn, 1) := by decide +kernel
theorem ct_X4_bearingCells {g : Gw} (hG : GF g) {z : Bool} (E : Mm) (a : Nat) (ha : a = 30 ∨ a = 39) (G : GP) (hw : WG G) (hg_E : CG E a G) (hl_E : CL E 4 (gLw G)) (h : Nat) (hh : h < 24) : CT g yX4_bearingCells cX4_bearingCells 5 (some .long) 3 75 0 0 K2 z [mR a, mI ((h : Nat) : Int)] (ov E) K2 z (fun r D' => r = some (mL (bcl G h : Nat)) ∧ ∃ E1, D' = ov E1 ∧ CG E1 a G ∧ ∀ q, q ≠ a + 8 → q ≠ 7 → E1 q = E q) := by
  refine CT.mk hG (by decide +kernel) (Nat.le_of_ble_eq_true rfl) (fun κ X Rt _ ok => ?_)
  have hf_E : ∀ q, q ≠ a + 8 → q ≠ 7 → E q = E q := fun _ _ _ => rfl
  have hW40 := hw.W
  have hN11 := hw.N
  refine at_lconst 1 X (v := 0) (by decide) (by decide) dX4_bearingCells_0 rfl ?_
  refine at_lstore_n 2 X rfl dX4_bearingCells_1 rfl (by decide) ?_
  refine at_iconst 3 X (by decide) dX4_bearingCells_2 rfl ?_
  refine at_istore 5 X dX4_bearingCells_3 rfl (by decide) ?_
  have J5 : ∀ (f5 : Nat) (F : Mm) (c : Nat) (v : Nat), 40 - c < f5 → (c ≤ gW G) → (v = mk (fun c => decide (0 < bOn G h c)) c) → (CG F a G) → (CL F 4 (gLw G)) → ((∀ q, q ≠ a + 8 → q ≠ 7 → F q = E q)) → AT g κ K2 z 0 0 5 [(0, mR a), (1, mI ((h : Nat) : Int)), (2, mL ((v : Nat) : Int)), (4, mI ((c : Nat) : Int))] [] (ov F) := by
    intro f5
    induction f5 with
    | zero => intro F c v hf5; omega
    | succ f5 ih5 =>
    intro F c v hf5 hc hv hg_F hl_F hf_F
    refine at_iload 7 X rfl dX4_bearingCells_5 rfl ?_
    refine at_aload_n 8 X rfl rfl dX4_bearingCells_7 rfl ?_
    refine m_getIV 11 X ((gW G : Nat) : Int) hg_F.1.W f_X4_47 (kX4 ha) (nX4_9 ha) dX4_bearingCells_8 rfl ?_
    have := hw.W
    refine at_icmp_ge 14 37 X dX4_bearingCells_11 rfl (by decide) (fun h11 => ?_) (fun h11 => ?_)
    · refine at_lload_n 38 X rfl rfl dX4_bearingCells_37 rfl ?_
      refine at_lret X Rt ?_ (Nat.le_refl _) (Nat.le_refl _) dX4_bearingCells_38
      exact ⟨by unfold bcl; rw [hv, show c = gW G by omega], F, rfl, hg_F, hf_F⟩
    · refine at_aload_n 15 X rfl rfl dX4_bearingCells_14 rfl ?_
      refine at_iload 17 X rfl dX4_bearingCells_15 rfl ?_
      refine at_iload_n 18 X rfl rfl dX4_bearingCells_17 rfl ?_
      refine at_callV 21 X _ 4 (ct_X4_borneOn hG F a ha G hw hg_F hl_F h c (by omega) (by omega)) clX4 rfl (kX4 ha) mo_X4_borneOn w_1404 vo_X4_borneOn.1 vo_X4_borneOn.2 rfl rfl (crm Rt (by decide)) (Nat.le_of_ble_eq_true rfl) dX4_bearingCells_18 rfl ?_
      rintro _ _ ⟨rfl, F1, rfl, hg_F1, hq_F1⟩
      have hl_F1 := hl_F.fr (fun q _ _ => hq_F1 q (by omega) (by omega))
      have hf_F1 : ∀ q, q ≠ a + 8 → q ≠ 7 → F1 q = E q := fun q h0 h1 => (hq_F1 q h0 h1).trans (hf_F q h0 h1)
      have := bOn_in G h c
      refine at_if_le 24 31 X dX4_bearingCells_21 rfl (by decide) (fun h21 => ?_) (fun h21 => ?_)
      · refine at_iincV 34 X ((c + 1 : Nat) : Int) (w32_v (by omega) (by omega) (by omega)) rfl dX4_bearingCells_31 rfl (by decide) ?_
        refine at_goto 5 X dX4_bearingCells_34 (by decide) ?_
        exact at_sub _ (by exact ⟨rfl, rfl, rfl, rfl, trivial⟩) (ih5 F1 (c + 1) v (by first | omega | (simp only [] at *; omega)) (by first | omega | assumption) (by first | rfl | (rw [hv]; exact (mk_f (p := fun c => decide (0 < bOn G h c)) (by simp only [decide_eq_true_eq]; omega)).symm)) hg_F1 hl_F1 hf_F1)
      · refine at_lload_n 25 X rfl rfl dX4_bearingCells_24 rfl ?_
        refine at_lconst 26 X (v := 1) (by decide) (by decide) dX4_bearingCells_25 rfl ?_
        refine at_iload 28 X rfl dX4_bearingCells_26 rfl ?_
        refine at_lshlV 29 X ((2 ^ c : Nat) : Int) (lshl1 (by omega)) dX4_bearingCells_28 rfl ?_
        refine at_lorV 30 X ((mk (fun c => decide (0 < bOn G h c)) (c + 1) : Nat) : Int) (by rw [hv]; exact mk_lor (q := fun c => decide (0 < bOn G h c)) (by omega) (decide_eq_true (by omega))) dX4_bearingCells_29 rfl ?_
        refine at_lstore_n 31 X rfl dX4_bearingCells_30 rfl (by decide) ?_
        refine at_iincV 34 X ((c + 1 : Nat) : Int) (w32_v (by omega) (by omega) (by omega)) rfl dX4_bearingCells_31 rfl (by decide) ?_
        refine at_goto 5 X dX4_bearingCells_34 (by decide) ?_
        exact at_sub _ (by exact ⟨rfl, rfl, rfl, rfl, trivial⟩) (ih5 F1 (c + 1) (mk (fun c => decide (0 < bOn G h c)) (c + 1)) (by first | omega | (simp only [] at *; omega)) (by first | omega | assumption) (by first | rfl | (rw [hv]; exact (mk_f (p := fun c => decide (0 < bOn G h c)) (by simp only [decide_eq_true_eq]; omega)).symm)) hg_F1 hl_F1 hf_F1)
  exact at_sub _ (by exact ⟨rfl, rfl, rfl, rfl, trivial⟩) (J5 _ E 0 0 (Nat.lt_succ_self _) (by first | omega | assumption | rfl) rfl hg_E hl_E hf_E)
