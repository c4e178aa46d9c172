def RLt (P : SP) (L : LW) (T : LN) (d w r : Nat) (n : Nat) (F : Mm) : Prop := (F 125 62 = -1 ∧ ∀ t, incL (sW P) 0 t → t.length < n → ¬ FRd P L T d w r t) ∨ ∃ t, incL (sW P) 0 t ∧ t.length < n ∧ FRd P L T d w r t ∧ (∀ t', incL (sW P) 0 t' → t'.length < t.length → ¬ FRd P L T d w r t') ∧ (∀ t', incL (sW P) 0 t' → t'.length = t.length → FRd P L T d w r t' → dgt t ≤ dgt t') ∧ F 125 62 = (t.length : Int) ∧ F 125 63 = (dgt t : Int)
theorem RLt.step {P : SP} {L : LW} {T : LN} {d w r n : Nat} {F E1 : Mm} (h : RLt P L T d w r n F) (h0 : ¬ F 125 62 = -1 → E1 125 62 = F 125 62 ∧ E1 125 63 = F 125 63) (h1 : F 125 62 = -1 → RLQ P L T d w r [] 0 n E1) : RLt P L T d w r (n + 1) E1 := by
  rcases h with ⟨a, b⟩ | ⟨t, t1, t2, t3, t4, t5, t6, t7⟩
  · rcases h1 a with ⟨q1, q2⟩ | ⟨t, t1, t2, t3, t4, t5, t6⟩
    · exact Or.inl ⟨q1, fun t c e => if k : t.length < n then b t c k else q2 t c (by omega)⟩
    · exact Or.inr ⟨t, t1, by omega, t3, fun t' c e => b t' c (by omega), fun t' c e => t4 t' c (by omega), t5, t6⟩
  · have hn : ¬ F 125 62 = -1 := by rw [t6]; omega
    exact Or.inr ⟨t, t1, by omega, t3, t4, t5, (h0 hn).1.trans t6, (h0 hn).2.trans t7⟩
theorem RLt.lit {P : SP} {L : LW} {T : LN} {d w r : Nat} {F : Mm} (h : RLt P L T d w r 4 F) : LITr (sW P) (sLc P) (dsB r) (GDl P L T d w) (F 125 62) (F 125 63) := by
  rcases h with ⟨a, b⟩ | ⟨t, t1, t2, t3, t4, t5, t6, t7⟩
  · exact Or.inl ⟨a, fun t c e => b t c (by omega)⟩
  · exact Or.inr ⟨t, t1, by omega, t3, t4, t5, t6, t7⟩
theorem dX12_lit_0 : decode cX12_lit 0 = .ok (.aload_n 0, 1) := by decide +kernel
theorem dX12_lit_1 : decode cX12_lit 1 = .ok (.iconst 0, 1) := by decide +kernel
theorem dX12_lit_2 : decode cX12_lit 2 = .ok (.putfield 152, 3) := by decide +kernel
theorem dX12_lit_5 : decode cX12_lit 5 = .ok (.aload_n 0, 1) := by decide +kernel
theorem dX12_lit_6 : decode cX12_lit 6 = .ok (.iload_n 1, 1) := by decide +kernel
theorem dX12_lit_7 : decode cX12_lit 7 = .ok (.iconst 0, 1) := by decide +kernel
theorem dX12_lit_8 : decode cX12_lit 8 = .ok (.iconst 1, 1) := by decide +kernel
theorem dX12_lit_9 : decode cX12_lit 9 = .ok (.aload_n 0, 1) := by decide +kernel
theorem dX12_lit_10 : decode cX12_lit 10 = .ok (.getfield 23, 3) := by decide +kernel
theorem dX12_lit_13 : decode cX12_lit 13 = .ok (.bipush 6, 2) := by decide +kernel
theorem dX12_lit_15 : decode cX12_lit 15 = .ok (.iaload, 1) := by decide +kernel
theorem dX12_lit_16 : decode cX12_lit 16 = .ok (.ishl, 1) := by decide +kernel
theorem dX12_lit_17 : decode cX12_lit 17 = .ok (.iconst 1, 1) := by decide +kernel
theorem dX12_lit_18 : decode cX12_lit 18 = .ok (.isub, 1) := by decide +kernel
theorem dX12_lit_19 : decode cX12_lit 19 = .ok (.invokestatic 186, 3) := by decide +kernel
theorem dX12_lit_22 : decode cX12_lit 22 = .ok (.ifCond .eq 22, 3) := by decide +kernel
theorem dX12_lit_25 : decode cX12_lit 25 = .ok (.iload_n 2, 1) := by decide +kernel
theorem dX12_lit_26 : decode cX12_lit 26 = .ok (.iconst 0, 1) := by decide +kernel
theorem dX12_lit_27 : decode cX12_lit 27 = .ok (.bipush 9, 2) := by decide +kernel
theorem dX12_lit_29 : decode cX12_lit 29 = .ok (.invokestatic 186, 3) := by decide +kernel
theorem dX12_lit_32 : decode cX12_lit 32 = .ok (.ifCond .eq 12, 3) := by decide +kernel
theorem dX12_lit_35 : decode cX12_lit 35 = .ok (.iload_n 3, 1) := by decide +kernel
theorem dX12_lit_36 : decode cX12_lit 36 = .ok (.iconst 0, 1) := by decide +kernel
theorem dX12_lit_37 : decode cX12_lit 37 = .ok (.iconst 1, 1) := by decide +kernel
theorem dX12_lit_38 : decode cX12_lit 38 = .ok (.invokestatic 186, 3) := by decide +kernel
theorem dX12_lit_41 : decode cX12_lit 41 = .ok (.ifCond .ne 7, 3) := by decide +kernel
theorem dX12_lit_44 : decode cX12_lit 44 = .ok (.iconst 1, 1) := by decide +kernel
theorem dX12_lit_45 : decode cX12_lit 45 = .ok (.goto 4, 3) := by decide +kernel
theorem dX12_lit_48 : decode cX12_lit 48 = .ok (.iconst 0, 1) := by decide +kernel
theorem dX12_lit_49 : decode cX12_lit 49 = .ok (.iconst 1, 1) := by decide +kernel
theorem dX12_lit_50 : decode cX12_lit 50 = .ok (.iconst 2, 1) := by decide +kernel
theorem dX12_lit_51 : decode cX12_lit 51 = .ok (.invokevirtual 244, 3) := by decide +kernel
theorem dX12_lit_54 : decode cX12_lit 54 = .ok (.ifCond .eq 5, 3) := by decide +kernel
theorem dX12_lit_57 : decode cX12_lit 57 = .ok (.iconst 0, 1) := by decide +kernel
theorem dX12_lit_58 : decode cX12_lit 58 = .ok (.ireturn, 1) := by decide +kernel
theorem dX12_lit_59 : decode cX12_lit 59 = .ok (.aload_n 0, 1) := by decide +kernel
theorem dX12_lit_60 : decode cX12_lit 60 = .ok (.invokevirtual 372, 3) := by decide +kernel
theorem dX12_lit_63 : decode cX12_lit 63 = .ok (.aload_n 0, 1) := by decide +kernel
theorem dX12_lit_64 : decode cX12_lit 64 = .ok (.aload_n 0, 1) := by decide +kernel
theorem dX12_lit_65 : decode cX12_lit 65 = .ok (.getfield 267, 3) := by decide +kernel
theorem dX12_lit_68 : decode cX12_lit 68 = .ok (.invokevirtual 366, 3) := by decide +kernel
theorem dX12_lit_71 : decode cX12_lit 71 = .ok (.aload_n 0, 1) := by decide +kernel
theorem dX12_lit_72 : decode cX12_lit 72 = .ok (.iconst (-1), 1) := by decide +kernel
theorem dX12_lit_73 : decode cX12_lit 73 = .ok (.putfield 423, 3) := by decide +kernel
theorem dX12_lit_76 : decode cX12_lit 76 = .ok (.iconst 0, 1) := by decide +kernel
theorem dX12_lit_77 : decode cX12_lit 77 = .ok (.istore 4, 2) := by decide +kernel
theorem dX12_lit_79 : decode cX12_lit 79 = .ok (.iload 4, 2) := by decide +kernel
theorem dX12_lit_81 : decode cX12_lit 81 = .ok (.iconst 4, 1) := by decide +kernel
theorem dX12_lit_82 : decode cX12_lit 82 = .ok (.if_icmp .ge 20, 3) := by decide +kernel
theorem dX12_lit_85 : decode cX12_lit 85 = .ok (.aload_n 0, 1) := by decide +kernel
theorem dX12_lit_86 : decode cX12_lit 86 = .ok (.iconst 0, 1) := by decide +kernel
theorem dX12_lit_87 : decode cX12_lit 87 = .ok (.iconst 0, 1) := by decide +kernel
theorem dX12_lit_88 : decode cX12_lit 88 = .ok (.iload 4, 2) := by decide +kernel
theorem dX12_lit_90 : decode cX12_lit 90 = .ok (.iload_n 2, 1) := by decide +kernel
theorem dX12_lit_91 : decode cX12_lit 91 = .ok (.iload_n 1, 1) := by decide +kernel
theorem dX12_lit_92 : decode cX12_lit 92 = .ok (.iconst 0, 1) := by decide +kernel
theorem dX12_lit_93 : decode cX12_lit 93 = .ok (.invokevirtual 429, 3) := by decide +kernel
theorem dX12_lit_96 : decode cX12_lit 96 = .ok (.iinc 4 1, 3) := by decide +kernel
theorem dX12_lit_99 : decode cX12_lit 99 = .ok (.goto (-20), 3) := by decide +kernel
theorem dX12_lit_102 : decode cX12_lit 102 = .ok (.iload_n 3, 1) := by decide +kernel
theorem dX12_lit_103 : decode cX12_lit 103 = .ok (.ifCond .eq 11, 3) := by decide +kernel
theorem dX12_lit_106 : decode cX12_lit 106 = .ok (.aload_n 0, 1) := by decide +kernel
theorem dX12_lit_107 : decode cX12_lit 107 = .ok (.getfield 423, 3) := by decide +kernel
theorem dX12_lit_110 : decode cX12_lit 110 = .ok (.iconst (-1), 1) := by decide +kernel
theorem dX12_lit_111 : decode cX12_lit 111 = .ok (.if_icmp .ne 10, 3) := by decide +kernel
theorem dX12_lit_114 : decode cX12_lit 114 = .ok (.aload_n 0, 1) := by decide +kernel
theorem dX12_lit_115 : decode cX12_lit 115 = .ok (.getfield 423, 3) := by decide +kernel
theorem dX12_lit_118 : decode cX12_lit 118 = .ok (.goto 7, 3) := by decide +kernel
theorem dX12_lit_121 : decode cX12_lit 121 = .ok (.aload_n 0, 1) := by decide +kernel
theorem dX12_lit_122 : decode cX12_lit 122 = .ok (.getfield 426, 3) := by decide +kernel
theorem dX12_lit_125 : decode cX12_lit 125 = .ok (.ireturn, 1) := by decide +kernel
theorem ct_X12_lit {g : Gw} (hG : GF g) {z : Bool} (E : Mm) (Q : RX) (P : SP) (L : LW) (T K : LN) (d st : Nat) (hWf : WF P L T K d st) (hI_E : RXI E Q P L T K d st) (x0 x1 x2 : Int) : CT g yX12_lit cX12_lit 5 (some .int) 9 223 0 0 K2 z [mR 125, mI x0, mI x1, mI x2] (ov E) K2 z (fun r' D' => (((0 ≤ x0 ∧ x0 ≤ ((2 ^ bN (sB P) : Nat) : Int) - 1) ∧ (0 ≤ x1 ∧ x1 ≤ 9) ∧ (0 ≤ x2 ∧ x2 ≤ 1)) ∧ ∃ v' r0, LITr (sW P) (sLc P) (dsB x1.toNat) (GDl P L T d x0.toNat) v' r0 ∧ r' = some (mI (if v' = -1 ∨ x2 = 0 then v' else r0)) ∧ ∃ E1, D' = ov E1 ∧ RXO E E1 Q P L T K d st) ∨ (¬ ((0 ≤ x0 ∧ x0 ≤ ((2 ^ bN (sB P) : Nat) : Int) - 1) ∧ (0 ≤ x1 ∧ x1 ≤ 9) ∧ (0 ≤ x2 ∧ x2 ≤ 1)) ∧ r' = some (mI 0) ∧ D' = ov (badR E 1 2))) := by
  refine CT.mk hG (by decide +kernel) (Nat.le_of_ble_eq_true rfl) (fun κ X Rt _ ok => ?_)
  have hP := hWf.1
  have hN8 := hP.B.N
  have hW40 := hP.W
  have hN11 := hP.N
  have hwN : gN (gDay P L d) ≤ 11 := Nat.le_trans hP.N (by decide)
  have hgw : gW (gDay P L d) = sW P := rfl
  have hDI24 := dyP_DI (G := (gDay P L d)) hP.B hWf.2.2.2.1 (Nat.le_refl 24)
  refine at_aload_n 1 X rfl rfl dX12_lit_0 rfl ?_
  refine at_iconst 2 X (by decide) dX12_lit_1 rfl ?_
  refine m_putI 5 X f_X12_152 fw_12_0 k_125 rn_125_0 dX12_lit_2 rfl ?_
  have hO_E0 := RXO.z hWf hI_E
  generalize hE0 : wr E 125 0 0 = E0 at hO_E0 ⊢
  have hR_E0 := hO_E0.1.1
  refine at_aload_n 6 X rfl rfl dX12_lit_5 rfl ?_
  refine at_iload_n 7 X rfl rfl dX12_lit_6 rfl ?_
  refine at_iconst 8 X (by decide) dX12_lit_7 rfl ?_
  refine at_iconst 9 X (by decide) dX12_lit_8 rfl ?_
  refine at_aload_n 10 X rfl rfl dX12_lit_9 rfl ?_
  refine m_getR 13 X f_X12_23 k_125 r_125_12 dX12_lit_10 rfl ?_
  refine at_bipush 15 X (by decide) (by decide) dX12_lit_13 rfl ?_
  refine m_ialoadV 16 X 6 (by omega) ((bN (sB P) : Nat) : Int) hR_E0.1.2.2.2.2.2.2.1 k_129 e_129 (by omega) dX12_lit_15 rfl ?_
  have := hP.B.N
  have hp8 := Nat.pow_le_pow_right (show 0 < 2 by decide) hN8
  rw [show (2 : Nat) ^ 8 = 256 by decide] at hp8
  have hp0 := Nat.two_pow_pos (bN (sB P))
  refine at_ishlV 17 X ((2 ^ bN (sB P) : Nat) : Int) (ishl1 (by omega)) dX12_lit_16 rfl ?_
  refine at_iconst 18 X (by decide) dX12_lit_17 rfl ?_
  refine at_isubV 19 X (((2 ^ bN (sB P) : Nat) : Int) - 1) (w32_v rfl (by omega) (by omega)) dX12_lit_18 rfl ?_
  refine at_callS 22 X (ct_X12_in hG _ _ _) mo_X12_in w_1957 so_X12_in rfl rfl (crm Rt (by decide)) (Nat.le_of_ble_eq_true rfl) dX12_lit_19 rfl ?_
  rintro _ _ ⟨rfl, rfl⟩
  refine at_if_eq 25 44 X dX12_lit_22 rfl (by decide) (fun h22 => ?_) (fun h22 => ?_)
  · have h22 : ¬ (0 ≤ x0 ∧ x0 ≤ (((2 ^ bN (sB P) : Nat) : Int) - 1)) := ite_no.mp h22
    refine at_iconst 45 X (by decide) dX12_lit_44 rfl ?_
    refine at_goto 49 X dX12_lit_45 (by decide) ?_
    refine at_iconst 50 X (by decide) dX12_lit_49 rfl ?_
    refine at_iconst 51 X (by decide) dX12_lit_50 rfl ?_
    refine at_callV 54 X _ 12 (ct_bad1 hG E0 1 2 (by decide) hO_E0.2.2.1 (by decide)) clX12 rfl k_125 mo_X12_bad w_1960 vo_X12_bad.1 vo_X12_bad.2 rfl rfl (crm Rt (by decide)) (Nat.le_of_ble_eq_true rfl) dX12_lit_51 rfl ?_
    rintro _ _ ⟨rfl, rfl⟩
    have hb : ¬ ((0 ≤ x0 ∧ x0 ≤ ((2 ^ bN (sB P) : Nat) : Int) - 1) ∧ (0 ≤ x1 ∧ x1 ≤ 9) ∧ (0 ≤ x2 ∧ x2 ≤ 1)) := by omega
    refine at_if_eq 57 59 X dX12_lit_54 rfl (by decide) (fun h54 => ?_) (fun h54 => ?_)
    · exact absurd h54 (by decide)
    · refine at_iconst 58 X (by decide) dX12_lit_57 rfl ?_
      refine at_iret X Rt ?_ (Nat.le_refl _) (Nat.le_refl _) dX12_lit_58
      exact Or.inr (⟨hb, rfl, congrArg ov (badR_of hE0)⟩)
  · have h22 : (0 ≤ x0 ∧ x0 ≤ (((2 ^ bN (sB P) : Nat) : Int) - 1)) := ite_yes.mp h22
    refine at_iload_n 26 X rfl rfl dX12_lit_25 rfl ?_
    refine at_iconst 27 X (by decide) dX12_lit_26 rfl ?_
    refine at_bipush 29 X (by decide) (by decide) dX12_lit_27 rfl ?_
    refine at_callS 32 X (ct_X12_in hG _ _ _) mo_X12_in w_1957 so_X12_in rfl rfl (crm Rt (by decide)) (Nat.le_of_ble_eq_true rfl) dX12_lit_29 rfl ?_
    rintro _ _ ⟨rfl, rfl⟩
    refine at_if_eq 35 44 X dX12_lit_32 rfl (by decide) (fun h32 => ?_) (fun h32 => ?_)
    · have h32 : ¬ (0 ≤ x1 ∧ x1 ≤ 9) := ite_no.mp h32
      refine at_iconst 45 X (by decide) dX12_lit_44 rfl ?_
      refine at_goto 49 X dX12_lit_45 (by decide) ?_
      refine at_iconst 50 X (by decide) dX12_lit_49 rfl ?_
      refine at_iconst 51 X (by decide) dX12_lit_50 rfl ?_
      refine at_callV 54 X _ 12 (ct_bad1 hG E0 1 2 (by decide) hO_E0.2.2.1 (by decide)) clX12 rfl k_125 mo_X12_bad w_1960 vo_X12_bad.1 vo_X12_bad.2 rfl rfl (crm Rt (by decide)) (Nat.le_of_ble_eq_true rfl) dX12_lit_51 rfl ?_
      rintro _ _ ⟨rfl, rfl⟩
      have hb : ¬ ((0 ≤ x0 ∧ x0 ≤ ((2 ^ bN (sB P) : Nat) : Int) - 1) ∧ (0 ≤ x1 ∧ x1 ≤ 9) ∧ (0 ≤ x2 ∧ x2 ≤ 1)) := by omega
      refine at_if_eq 57 59 X dX12_lit_54 rfl (by decide) (fun h54 => ?_) (fun h54 => ?_)
      · exact absurd h54 (by decide)
      · refine at_iconst 58 X (by decide) dX12_lit_57 rfl ?_
        refine at_iret X Rt ?_ (Nat.le_refl _) (Nat.le_refl _) dX12_lit_58
        exact Or.inr (⟨hb, rfl, congrArg ov (badR_of hE0)⟩)
    · have h32 : (0 ≤ x1 ∧ x1 ≤ 9) := ite_yes.mp h32
      refine at_iload_n 36 X rfl rfl dX12_lit_35 rfl ?_
      refine at_iconst 37 X (by decide) dX12_lit_36 rfl ?_
      refine at_iconst 38 X (by decide) dX12_lit_37 rfl ?_
      refine at_callS 41 X (ct_X12_in hG _ _ _) mo_X12_in w_1957 so_X12_in rfl rfl (crm Rt (by decide)) (Nat.le_of_ble_eq_true rfl) dX12_lit_38 rfl ?_
      rintro _ _ ⟨rfl, rfl⟩
      refine at_if_ne 44 48 X dX12_lit_41 rfl (by decide) (fun h41 => ?_) (fun h41 => ?_)
      · have h41 : (0 ≤ x2 ∧ x2 ≤ 1) := ite_yes.mp h41
        refine at_iconst 49 X (by decide) dX12_lit_48 rfl ?_
        refine at_iconst 50 X (by decide) dX12_lit_49 rfl ?_
        refine at_iconst 51 X (by decide) dX12_lit_50 rfl ?_
        refine at_callV 54 X _ 12 (ct_bad0 hG E0 1 2 (by decide) hO_E0.2.2.1) clX12 rfl k_125 mo_X12_bad w_1960 vo_X12_bad.1 vo_X12_bad.2 rfl rfl (crm Rt (by decide)) (Nat.le_of_ble_eq_true rfl) dX12_lit_51 rfl ?_
        rintro _ _ ⟨rfl, rfl⟩
        have hc0 : (0 ≤ x0 ∧ x0 ≤ ((2 ^ bN (sB P) : Nat) : Int) - 1) ∧ (0 ≤ x1 ∧ x1 ≤ 9) ∧ (0 ≤ x2 ∧ x2 ≤ 1) := by omega
        refine at_if_eq 57 59 X dX12_lit_54 rfl (by decide) (fun h54 => ?_) (fun h54 => ?_)
        · obtain ⟨w, rfl⟩ : ∃ w : Nat, x0 = (w : Int) := ⟨x0.toNat, by omega⟩
          obtain ⟨r, rfl⟩ : ∃ r : Nat, x1 = (r : Int) := ⟨x1.toNat, by omega⟩
          have hw8 : w < 2 ^ bN (sB P) := by omega
          refine at_aload_n 60 X rfl rfl dX12_lit_59 rfl ?_
          refine at_callV 63 X _ 12 (ct_X12_asTold hG E0 P Q hP hR_E0) clX12 rfl k_125 mo_X12_asTold w_2162 vo_X12_asTold.1 vo_X12_asTold.2 rfl rfl (crm Rt (by decide)) (Nat.le_of_ble_eq_true rfl) dX12_lit_60 rfl ?_
          rintro _ _ ⟨rfl, rfl⟩
          generalize hF0 : wr (wr (wr E0 125 52 (sN P : Int)) 125 53 (sLn P : Int)) 125 54 (mk (sC P) 24 : Nat) = F0
          have hq0 : ∀ q, q ≠ 125 → F0 q = E0 q := fun q h => by rw [← hF0]; simp (disch := omega) only [wr_row]
          have h0 : ∀ k, ¬ (52 ≤ k ∧ k ≤ 54) → F0 125 k = E0 125 k := fun k h => by rw [← hF0]; simp (disch := omega) only [wr_o]
          have h52 : F0 125 52 = (sN P : Int) := by rw [← hF0]; simp (disch := omega) only [wr_s, wr_o]
          have h54 : F0 125 54 = (mk (sC P) 24 : Nat) := by rw [← hF0]; simp (disch := omega) only [wr_s, wr_o]
          have hR0 : RTS F0 P Q := hR_E0.fr (fun q hq => hq0 q (by omega)) hP
          have hwG := gOf_WG hP hWf.2.2.1 (moonP_in P d).2
          have hpg : RPg F0 (gDay P L d) := ⟨h52, fun k hk => by
            have hk' : k < sN P := hk
            have hN10 := hP.N
            rw [hq0 (142 + k) (by omega)]
            exact ⟨(hR_E0.2.1 k hk').2, Or.inl (hR_E0.2.1 k hk').1⟩⟩
          have h45 : F0 125 45 = ((d : Nat) : Int) := (h0 45 (by omega)).trans hO_E0.1.2.2.2.2.2
          refine at_aload_n 64 X rfl rfl dX12_lit_63 rfl ?_
          refine at_aload_n 65 X rfl rfl dX12_lit_64 rfl ?_
          refine m_getIV 68 X ((d : Nat) : Int) h45 f_X12_267 k_125 rn_125_45 dX12_lit_65 rfl ?_
          refine at_callV 71 X _ 12 (ct_X12_laysRaw hG F0 P Q hP hR0 (gDay P L d) hwG.R hpg d hWf.2.2.2.2.2.1 rfl (fun _ _ => rfl) (fun _ _ => rfl)) clX12 rfl k_125 mo_X12_laysRaw w_2170 vo_X12_laysRaw.1 vo_X12_laysRaw.2 rfl rfl (crm Rt (by decide)) (Nat.le_of_ble_eq_true rfl) dX12_lit_68 rfl ?_
          rintro _ _ ⟨rfl, F1, rfl, hrw1, hq1⟩
          refine at_aload_n 72 X rfl rfl dX12_lit_71 rfl ?_
          refine at_iconst 73 X (by decide) dX12_lit_72 rfl ?_
          refine m_putI 76 X f_X12_423 fw_12_62 k_125 rn_125_62 dX12_lit_73 rfl ?_
          generalize hF2 : wr F1 125 62 (-1) = F2
          have hq2 : ∀ q, q ≠ 125 → F2 q = F1 q := fun q h => by rw [← hF2]; exact wr_row h
          have h2 : ∀ k, k ≠ 62 → F2 125 k = F0 125 k := fun k h => by rw [← hF2, wr_o (by omega), hq1 125 (by omega)]
          have h62 : F2 125 62 = -1 := by rw [← hF2, wr_s]
          have hX2 : RXF P E0 F2 := ⟨fun q h => (hq2 q (by omega)).trans ((hq1 q (by omega)).trans (hq0 q (by omega))), fun k h => (h2 k (by omega)).trans (h0 k (by omega))⟩
          have hI2 : RXI F2 Q P L T K d st := hO_E0.1.fr hWf hX2 (hO_E0.1.2.2.1.fr ((h2 30 (by omega)).trans (h0 30 (by omega))) ((hq2 578 (by omega)).trans ((hq1 578 (by omega)).trans (hq0 578 (by omega)))) ((hq2 579 (by omega)).trans ((hq1 579 (by omega)).trans (hq0 579 (by omega)))))
          have hS2 : RLS F2 Q P L T K d st := ⟨hI2, (h2 52 (by omega)).trans h52, (h2 54 (by omega)).trans h54, fun t c ht hc => by rw [hq2 (658 + t) (by omega)]; exact hrw1 t c ht hc⟩
          have hf2 : RLf P E0 F2 := ⟨hX2, (h2 0 (by omega)).trans (h0 0 (by omega)), (hq2 127 (by omega)).trans ((hq1 127 (by omega)).trans (hq0 127 (by omega)))⟩
          refine at_iconst 77 X (by decide) dX12_lit_76 rfl ?_
          refine at_istore 79 X dX12_lit_77 rfl (by decide) ?_
          have J79 : ∀ (f79 : Nat) (F : Mm) (n : Nat), 5 - n < f79 → (n ≤ 4) → (RLS F Q P L T K d st) → (RLf P E0 F) → (RLt P L T d w r n F) → AT g κ K2 z 0 0 79 [(0, mR 125), (1, mI ((w : Nat) : Int)), (2, mI ((r : Nat) : Int)), (3, mI x2), (4, mI ((n : Nat) : Int))] [] (ov F) := by
            intro f79
            induction f79 with
            | zero => intro F n hf79; omega
            | succ f79 ih79 =>
            intro F n hf79 hn hS_F hf_F hv_F
            refine at_iload 81 X rfl dX12_lit_79 rfl ?_
            refine at_iconst 82 X (by decide) dX12_lit_81 rfl ?_
            refine at_icmp_ge 85 102 X dX12_lit_82 rfl (by decide) (fun h82 => ?_) (fun h82 => ?_)
            · refine at_iload_n 103 X rfl rfl dX12_lit_102 rfl ?_
              refine at_if_eq 106 114 X dX12_lit_103 rfl (by decide) (fun h103 => ?_) (fun h103 => ?_)
              · refine at_aload_n 115 X rfl rfl dX12_lit_114 rfl ?_
                refine m_getIV 118 X (F 125 62) rfl f_X12_423 k_125 rn_125_62 dX12_lit_115 rfl ?_
                refine at_goto 125 X dX12_lit_118 (by decide) ?_
                refine at_iret X Rt ?_ (Nat.le_refl _) (Nat.le_refl _) dX12_lit_125
                exact Or.inl ⟨hc0, _, _, (show RLt P L T d w r 4 F by rw [show n = 4 by omega] at hv_F; exact hv_F).lit, by rw [if_pos (by omega)], F, rfl, hO_E0.nx hS_F.1 hf_F.1 hf_F.2.1 hf_F.2.2⟩
              · refine at_aload_n 107 X rfl rfl dX12_lit_106 rfl ?_
                refine m_getIV 110 X (F 125 62) rfl f_X12_423 k_125 rn_125_62 dX12_lit_107 rfl ?_
                refine at_iconst 111 X (by decide) dX12_lit_110 rfl ?_
                refine at_icmp_ne 114 121 X dX12_lit_111 rfl (by decide) (fun h111 => ?_) (fun h111 => ?_)
                · refine at_aload_n 122 X rfl rfl dX12_lit_121 rfl ?_
                  refine m_getIV 125 X (F 125 63) rfl f_X12_426 k_125 rn_125_63 dX12_lit_122 rfl ?_
                  refine at_iret X Rt ?_ (Nat.le_refl _) (Nat.le_refl _) dX12_lit_125
                  exact Or.inl ⟨hc0, _, _, (show RLt P L T d w r 4 F by rw [show n = 4 by omega] at hv_F; exact hv_F).lit, by rw [if_neg (by omega)], F, rfl, hO_E0.nx hS_F.1 hf_F.1 hf_F.2.1 hf_F.2.2⟩
                · refine at_aload_n 115 X rfl rfl dX12_lit_114 rfl ?_
                  refine m_getIV 118 X (F 125 62) rfl f_X12_423 k_125 rn_125_62 dX12_lit_115 rfl ?_
                  refine at_goto 125 X dX12_lit_118 (by decide) ?_
                  refine at_iret X Rt ?_ (Nat.le_refl _) (Nat.le_refl _) dX12_lit_125
                  exact Or.inl ⟨hc0, _, _, (show RLt P L T d w r 4 F by rw [show n = 4 by omega] at hv_F; exact hv_F).lit, by rw [if_pos (by omega)], F, rfl, hO_E0.nx hS_F.1 hf_F.1 hf_F.2.1 hf_F.2.2⟩
            · refine at_aload_n 86 X rfl rfl dX12_lit_85 rfl ?_
              refine at_iconst 87 X (by decide) dX12_lit_86 rfl ?_
              refine at_iconst 88 X (by decide) dX12_lit_87 rfl ?_
              refine at_iload 90 X rfl dX12_lit_88 rfl ?_
              refine at_iload_n 91 X rfl rfl dX12_lit_90 rfl ?_
              refine at_iload_n 92 X rfl rfl dX12_lit_91 rfl ?_
              refine at_iconst 93 X (by decide) dX12_lit_92 rfl ?_
              refine at_callV 96 X _ 12 (ct_lights hG Q P L T K d st w r hWf hw8 (by omega) n F [] 0 0 0 hS_F (fun k hk => absurd hk (Nat.not_lt_zero k)) rfl rfl (fun x hx => by cases hx) (by omega) (Nat.zero_le _)) clX12 rfl k_125 mo_X12_lights w_2289 vo_X12_lights.1 vo_X12_lights.2 rfl rfl (crm Rt ⟨by omega, by omega, by decide, by decide⟩) (Nat.le_of_ble_eq_true rfl) dX12_lit_93 rfl ?_
              rintro _ _ ⟨rfl, F4, rfl, hS_F4, hf4, hp4, hk4, hQ4⟩
              have hf_F4 := hf_F.tr hf4
              have hv4 := hv_F.step hk4 hQ4
              refine at_iincV 99 X ((n + 1 : Nat) : Int) (w32_v (by omega) (by omega) (by omega)) rfl dX12_lit_96 rfl (by decide) ?_
              refine at_goto 79 X dX12_lit_99 (by decide) ?_
              exact at_sub _ (by exact ⟨rfl, rfl, rfl, rfl, rfl, trivial⟩) (ih79 F4 (n + 1) (by first | omega | (simp only [] at *; omega)) (by first | omega | assumption) hS_F4 hf_F4 hv4)
          exact at_sub _ (by exact ⟨rfl, rfl, rfl, rfl, rfl, trivial⟩) (J79 _ F2 0 (Nat.lt_succ_self _) (by first | omega | assumption | rfl) hS2 hf2 (Or.inl ⟨h62, fun t _ h => absurd h (Nat.not_lt_zero _)⟩))
        · exact absurd h54 (by decide)
      · have h41 : ¬ (0 ≤ x2 ∧ x2 ≤ 1) := ite_no.mp h41
        refine at_iconst 45 X (by decide) dX12_lit_44 rfl ?_
        refine at_goto 49 X dX12_lit_45 (by decide) ?_
        refine at_iconst 50 X (by decide) dX12_lit_49 rfl ?_
        refine at_iconst 51 X (by decide) dX12_lit_50 rfl ?_
        refine at_callV 54 X _ 12 (ct_bad1 hG E0 1 2 (by decide) hO_E0.2.2.1 (by decide)) clX12 rfl k_125 mo_X12_bad w_1960 vo_X12_bad.1 vo_X12_bad.2 rfl rfl (crm Rt (by decide)) (Nat.le_of_ble_eq_true rfl) dX12_lit_51 rfl ?_
        rintro _ _ ⟨rfl, rfl⟩
        have hb : ¬ ((0 ≤ x0 ∧ x0 ≤ ((2 ^ bN (sB P) : Nat) : Int) - 1) ∧ (0 ≤ x1 ∧ x1 ≤ 9) ∧ (0 ≤ x2 ∧ x2 ≤ 1)) := by omega
        refine at_if_eq 57 59 X dX12_lit_54 rfl (by decide) (fun h54 => ?_) (fun h54 => ?_)
        · exact absurd h54 (by decide)
        · refine at_iconst 58 X (by decide) dX12_lit_57 rfl ?_
          refine at_iret X Rt ?_ (Nat.le_refl _) (Nat.le_refl _) dX12_lit_58
          exact Or.inr (⟨hb, rfl, congrArg ov (badR_of hE0)⟩)
