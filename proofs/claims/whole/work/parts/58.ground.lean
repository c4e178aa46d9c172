theorem mk_0r {p : Nat → Bool} {n : Nat} (h : ∀ j, j < n → p j = false) : (0 : Int) = ((mk p n : Nat) : Int) := by rw [mk_none h]; rfl
theorem dX4_shadowOf_0 : decode cX4_shadowOf 0 = .ok (.aload_n 0, 1) := by decide +kernel
theorem dX4_shadowOf_1 : decode cX4_shadowOf 1 = .ok (.getfield 15, 3) := by decide +kernel
theorem dX4_shadowOf_4 : decode cX4_shadowOf 4 = .ok (.iload_n 1, 1) := by decide +kernel
theorem dX4_shadowOf_5 : decode cX4_shadowOf 5 = .ok (.iaload, 1) := by decide +kernel
theorem dX4_shadowOf_6 : decode cX4_shadowOf 6 = .ok (.aload_n 0, 1) := by decide +kernel
theorem dX4_shadowOf_7 : decode cX4_shadowOf 7 = .ok (.getfield 21, 3) := by decide +kernel
theorem dX4_shadowOf_10 : decode cX4_shadowOf 10 = .ok (.iload_n 2, 1) := by decide +kernel
theorem dX4_shadowOf_11 : decode cX4_shadowOf 11 = .ok (.iaload, 1) := by decide +kernel
theorem dX4_shadowOf_12 : decode cX4_shadowOf 12 = .ok (.imul, 1) := by decide +kernel
theorem dX4_shadowOf_13 : decode cX4_shadowOf 13 = .ok (.bipush 10, 2) := by decide +kernel
theorem dX4_shadowOf_15 : decode cX4_shadowOf 15 = .ok (.idiv, 1) := by decide +kernel
theorem dX4_shadowOf_16 : decode cX4_shadowOf 16 = .ok (.istore_n 3, 1) := by decide +kernel
theorem dX4_shadowOf_17 : decode cX4_shadowOf 17 = .ok (.aload_n 0, 1) := by decide +kernel
theorem dX4_shadowOf_18 : decode cX4_shadowOf 18 = .ok (.getfield 9, 3) := by decide +kernel
theorem dX4_shadowOf_21 : decode cX4_shadowOf 21 = .ok (.iload_n 1, 1) := by decide +kernel
theorem dX4_shadowOf_22 : decode cX4_shadowOf 22 = .ok (.iaload, 1) := by decide +kernel
theorem dX4_shadowOf_23 : decode cX4_shadowOf 23 = .ok (.istore 4, 2) := by decide +kernel
theorem dX4_shadowOf_25 : decode cX4_shadowOf 25 = .ok (.aload_n 0, 1) := by decide +kernel
theorem dX4_shadowOf_26 : decode cX4_shadowOf 26 = .ok (.getfield 24, 3) := by decide +kernel
theorem dX4_shadowOf_29 : decode cX4_shadowOf 29 = .ok (.iload_n 2, 1) := by decide +kernel
theorem dX4_shadowOf_30 : decode cX4_shadowOf 30 = .ok (.iaload, 1) := by decide +kernel
theorem dX4_shadowOf_31 : decode cX4_shadowOf 31 = .ok (.iconst 1, 1) := by decide +kernel
theorem dX4_shadowOf_32 : decode cX4_shadowOf 32 = .ok (.if_icmp .ne 7, 3) := by decide +kernel
theorem dX4_shadowOf_35 : decode cX4_shadowOf 35 = .ok (.iconst 1, 1) := by decide +kernel
theorem dX4_shadowOf_36 : decode cX4_shadowOf 36 = .ok (.goto 4, 3) := by decide +kernel
theorem dX4_shadowOf_39 : decode cX4_shadowOf 39 = .ok (.iconst 0, 1) := by decide +kernel
theorem dX4_shadowOf_40 : decode cX4_shadowOf 40 = .ok (.istore 5, 2) := by decide +kernel
theorem dX4_shadowOf_42 : decode cX4_shadowOf 42 = .ok (.iload 5, 2) := by decide +kernel
theorem dX4_shadowOf_44 : decode cX4_shadowOf 44 = .ok (.ifCond .eq 10, 3) := by decide +kernel
theorem dX4_shadowOf_47 : decode cX4_shadowOf 47 = .ok (.iload 4, 2) := by decide +kernel
theorem dX4_shadowOf_49 : decode cX4_shadowOf 49 = .ok (.iconst 1, 1) := by decide +kernel
theorem dX4_shadowOf_50 : decode cX4_shadowOf 50 = .ok (.iadd, 1) := by decide +kernel
theorem dX4_shadowOf_51 : decode cX4_shadowOf 51 = .ok (.goto 11, 3) := by decide +kernel
theorem dX4_shadowOf_54 : decode cX4_shadowOf 54 = .ok (.iconst 0, 1) := by decide +kernel
theorem dX4_shadowOf_55 : decode cX4_shadowOf 55 = .ok (.iload 4, 2) := by decide +kernel
theorem dX4_shadowOf_57 : decode cX4_shadowOf 57 = .ok (.iload_n 3, 1) := by decide +kernel
theorem dX4_shadowOf_58 : decode cX4_shadowOf 58 = .ok (.isub, 1) := by decide +kernel
theorem dX4_shadowOf_59 : decode cX4_shadowOf 59 = .ok (.invokestatic 97, 3) := by decide +kernel
theorem dX4_shadowOf_62 : decode cX4_shadowOf 62 = .ok (.istore 6, 2) := by decide +kernel
theorem dX4_shadowOf_64 : decode cX4_shadowOf 64 = .ok (.iload 5, 2) := by decide +kernel
theorem dX4_shadowOf_66 : decode cX4_shadowOf 66 = .ok (.ifCond .eq 19, 3) := by decide +kernel
theorem dX4_shadowOf_69 : decode cX4_shadowOf 69 = .ok (.aload_n 0, 1) := by decide +kernel
theorem dX4_shadowOf_70 : decode cX4_shadowOf 70 = .ok (.getfield 47, 3) := by decide +kernel
theorem dX4_shadowOf_73 : decode cX4_shadowOf 73 = .ok (.iconst 1, 1) := by decide +kernel
theorem dX4_shadowOf_74 : decode cX4_shadowOf 74 = .ok (.isub, 1) := by decide +kernel
theorem dX4_shadowOf_75 : decode cX4_shadowOf 75 = .ok (.iload 4, 2) := by decide +kernel
theorem dX4_shadowOf_77 : decode cX4_shadowOf 77 = .ok (.iload_n 3, 1) := by decide +kernel
theorem dX4_shadowOf_78 : decode cX4_shadowOf 78 = .ok (.iadd, 1) := by decide +kernel
theorem dX4_shadowOf_79 : decode cX4_shadowOf 79 = .ok (.invokestatic 103, 3) := by decide +kernel
theorem dX4_shadowOf_82 : decode cX4_shadowOf 82 = .ok (.goto 7, 3) := by decide +kernel
theorem dX4_shadowOf_85 : decode cX4_shadowOf 85 = .ok (.iload 4, 2) := by decide +kernel
theorem dX4_shadowOf_87 : decode cX4_shadowOf 87 = .ok (.iconst 1, 1) := by decide +kernel
theorem dX4_shadowOf_88 : decode cX4_shadowOf 88 = .ok (.isub, 1) := by decide +kernel
theorem dX4_shadowOf_89 : decode cX4_shadowOf 89 = .ok (.istore 7, 2) := by decide +kernel
theorem dX4_shadowOf_91 : decode cX4_shadowOf 91 = .ok (.iload 6, 2) := by decide +kernel
theorem dX4_shadowOf_93 : decode cX4_shadowOf 93 = .ok (.iload 7, 2) := by decide +kernel
theorem dX4_shadowOf_95 : decode cX4_shadowOf 95 = .ok (.if_icmp .le 7, 3) := by decide +kernel
theorem dX4_shadowOf_98 : decode cX4_shadowOf 98 = .ok (.lconst 0, 1) := by decide +kernel
theorem dX4_shadowOf_99 : decode cX4_shadowOf 99 = .ok (.goto 17, 3) := by decide +kernel
theorem dX4_shadowOf_102 : decode cX4_shadowOf 102 = .ok (.lconst 1, 1) := by decide +kernel
theorem dX4_shadowOf_103 : decode cX4_shadowOf 103 = .ok (.iload 7, 2) := by decide +kernel
theorem dX4_shadowOf_105 : decode cX4_shadowOf 105 = .ok (.iload 6, 2) := by decide +kernel
theorem dX4_shadowOf_107 : decode cX4_shadowOf 107 = .ok (.isub, 1) := by decide +kernel
theorem dX4_shadowOf_108 : decode cX4_shadowOf 108 = .ok (.iconst 1, 1) := by decide +kernel
theorem dX4_shadowOf_109 : decode cX4_shadowOf 109 = .ok (.iadd, 1) := by decide +kernel
theorem dX4_shadowOf_110 : decode cX4_shadowOf 110 = .ok (.lshl, 1) := by decide +kernel
theorem dX4_shadowOf_111 : decode cX4_shadowOf 111 = .ok (.lconst 1, 1) := by decide +kernel
theorem dX4_shadowOf_112 : decode cX4_shadowOf 112 = .ok (.lsub, 1) := by decide +kernel
theorem dX4_shadowOf_113 : decode cX4_shadowOf 113 = .ok (.iload 6, 2) := by decide +kernel
theorem dX4_shadowOf_115 : decode cX4_shadowOf 115 = .ok (.lshl, 1) := by decide +kernel
theorem dX4_shadowOf_116 : decode cX4_shadowOf 116 = .ok (.lreturn, 1) := by decide +kernel
theorem ct_X4_shadowOf {g : Gw} (hG : GF g) {z : Bool} (E : Mm) (a : Nat) (ha : a = 30 ∨ a = 39) (G : GP) (hw : WG G) (hg : CG0 E a G) (p t : Nat) (hp : p < gN G) (ht : t < 24) : CT g yX4_shadowOf cX4_shadowOf 8 (some .long) 1 21 0 0 K2 z [mR a, mI ((p : Nat) : Int), mI ((t : Nat) : Int)] (ov E) K2 z (fun r D' => r = some (mL (mk (shG G t p) 40 : Nat)) ∧ D' = ov E) := by
  refine CT.mk hG (by decide +kernel) (Nat.le_of_ble_eq_true rfl) (fun κ X Rt _ ok => ?_)
  have hW40 := hw.W
  have hN11 := hw.N
  refine at_aload_n 1 X rfl rfl dX4_shadowOf_0 rfl ?_
  refine m_getR 4 X f_X4_15 (kX4 ha) (rX4_1 ha) dX4_shadowOf_1 rfl ?_
  refine at_iload_n 5 X rfl rfl dX4_shadowOf_4 rfl ?_
  refine m_ialoadV 6 X p (by omega) ((gH G p : Nat) : Int) (hg.H (p := p) (by omega)) (kX4_1 ha) (eX4_1 ha) (by omega) dX4_shadowOf_5 rfl ?_
  have := hw.H (p := p) (by omega)
  refine at_aload_n 7 X rfl rfl dX4_shadowOf_6 rfl ?_
  refine m_getR 10 X f_X4_21 (kX4 ha) (rX4_3 ha) dX4_shadowOf_7 rfl ?_
  refine at_iload_n 11 X rfl rfl dX4_shadowOf_10 rfl ?_
  refine m_ialoadV 12 X t (by omega) ((gT' G t : Nat) : Int) (hg.T (t := t) (by omega)) (kX4_3 ha) (eX4_3 ha) (by omega) dX4_shadowOf_11 rfl ?_
  have := hw.T (t := t) (by omega)
  have hm := Nat.mul_le_mul (show gH G p ≤ 99 by omega) (show gT' G t ≤ 99 by omega)
  refine at_imulV 13 X (((gH G p) * (gT' G t) : Nat) : Int) (w32_v (Int.natCast_mul _ _).symm (by omega) (by omega)) dX4_shadowOf_12 rfl ?_
  refine at_bipush 15 X (by decide) (by decide) dX4_shadowOf_13 rfl ?_
  refine at_idivV 16 X (by omega) ((gH G p * gT' G t / 10 : Nat) : Int) (w32_v (Int.ofNat_tdiv (gH G p * gT' G t) 10).symm (by omega) (by omega)) dX4_shadowOf_15 rfl ?_
  refine at_istore_n 17 X rfl dX4_shadowOf_16 rfl (by decide) ?_
  refine at_aload_n 18 X rfl rfl dX4_shadowOf_17 rfl ?_
  refine m_getR 21 X f_X4_9 (kX4 ha) (rX4_0 ha) dX4_shadowOf_18 rfl ?_
  refine at_iload_n 22 X rfl rfl dX4_shadowOf_21 rfl ?_
  refine m_ialoadV 23 X p (by omega) ((gX G p : Nat) : Int) (hg.X (p := p) (by omega)) (kX4_0 ha) (eX4_0 ha) (by omega) dX4_shadowOf_22 rfl ?_
  have := hw.X (p := p) (by omega)
  refine at_istore 25 X dX4_shadowOf_23 rfl (by decide) ?_
  have hlen : gH G p * gT' G t / 10 ≤ 980 := by omega
  refine at_aload_n 26 X rfl rfl dX4_shadowOf_25 rfl ?_
  refine m_getR 29 X f_X4_24 (kX4 ha) (rX4_4 ha) dX4_shadowOf_26 rfl ?_
  refine at_iload_n 30 X rfl rfl dX4_shadowOf_29 rfl ?_
  refine m_ialoadV 31 X t (by omega) (if gR G t then 1 else 0) (hg.R (t := t) (by omega)) (kX4_4 ha) (eX4_4 ha) (by omega) dX4_shadowOf_30 rfl ?_
  refine at_iconst 32 X (by decide) dX4_shadowOf_31 rfl ?_
  refine at_icmp_ne 35 39 X dX4_shadowOf_32 rfl (by decide) (fun h32 => ?_) (fun h32 => ?_)
  · have h32' : gR G t = false := by
      cases h : gR G t with
      | false => rfl
      | true => rw [h] at h32; exact absurd rfl h32
    refine at_iconst 40 X (by decide) dX4_shadowOf_39 rfl ?_
    refine at_istore 42 X dX4_shadowOf_40 rfl (by decide) ?_
    refine at_iload 44 X rfl dX4_shadowOf_42 rfl ?_
    refine at_if_eq 47 54 X dX4_shadowOf_44 rfl (by decide) (fun h44 => ?_) (fun h44 => ?_)
    · refine at_iconst 55 X (by decide) dX4_shadowOf_54 rfl ?_
      refine at_iload 57 X rfl dX4_shadowOf_55 rfl ?_
      refine at_iload_n 58 X rfl rfl dX4_shadowOf_57 rfl ?_
      refine at_isubV 59 X ((gX G p : Int) - ((gH G p * gT' G t / 10 : Nat) : Int)) (w32_v rfl (by omega) (by omega)) dX4_shadowOf_58 rfl ?_
      refine at_maxV 62 X (((gX G p - gH G p * gT' G t / 10 : Nat) : Int)) (by split <;> omega) w_700 (by rw [Rt.1]; exact ⟨by decide, by decide, by decide, by decide⟩) dX4_shadowOf_59 rfl ?_
      refine at_istore 64 X dX4_shadowOf_62 rfl (by decide) ?_
      refine at_iload 66 X rfl dX4_shadowOf_64 rfl ?_
      refine at_if_eq 69 85 X dX4_shadowOf_66 rfl (by decide) (fun h66 => ?_) (fun h66 => ?_)
      · refine at_iload 87 X rfl dX4_shadowOf_85 rfl ?_
        refine at_iconst 88 X (by decide) dX4_shadowOf_87 rfl ?_
        refine at_isubV 89 X (((gX G p : Nat) : Int) - 1) (w32_v rfl (by omega) (by omega)) dX4_shadowOf_88 rfl ?_
        refine at_istore 91 X dX4_shadowOf_89 rfl (by decide) ?_
        have J91 : ∀ (f : Nat) (l : Int), (-1 ≤ l) → (l < 40) → (f ≤ 40) → ((∀ j, shG G t p j = true ↔ f ≤ j ∧ (j : Int) ≤ l)) → AT g κ K2 z 0 0 91 [(6, mI ((f : Nat) : Int)), (7, mI l)] [] (ov E) := by
          intro f l hl1 hl2 hf2 hq
          refine at_iload 93 X rfl dX4_shadowOf_91 rfl ?_
          refine at_iload 95 X rfl dX4_shadowOf_93 rfl ?_
          refine at_icmp_le 98 102 X dX4_shadowOf_95 rfl (by decide) (fun h95 => ?_) (fun h95 => ?_)
          · obtain ⟨e, rfl⟩ : ∃ e : Nat, l = (e : Int) := ⟨l.toNat, by omega⟩
            refine at_lconst 103 X (v := 1) (by decide) (by decide) dX4_shadowOf_102 rfl ?_
            refine at_iload 105 X rfl dX4_shadowOf_103 rfl ?_
            refine at_iload 107 X rfl dX4_shadowOf_105 rfl ?_
            refine at_isubV 108 X ((e - f : Nat) : Int) (w32_v (by omega) (by omega) (by omega)) dX4_shadowOf_107 rfl ?_
            refine at_iconst 109 X (by decide) dX4_shadowOf_108 rfl ?_
            refine at_iaddV 110 X ((e - f + 1 : Nat) : Int) (w32_v (by omega) (by omega) (by omega)) dX4_shadowOf_109 rfl ?_
            refine at_lshlV 111 X ((2 ^ (e - f + 1) : Nat) : Int) (lshl1 (by omega)) dX4_shadowOf_110 rfl ?_
            refine at_lconst 112 X (v := 1) (by decide) (by decide) dX4_shadowOf_111 rfl ?_
            refine at_lsubV 113 X ((2 ^ (e - f + 1) - 1 : Nat) : Int) (w64_v (by have := Nat.two_pow_pos (e - f + 1); omega) (by have := Nat.two_pow_pos (e - f + 1); omega) (by have := p2_lt (k := e - f + 1) (n := 41) (by omega); have : (2 : Nat) ^ 41 = 2199023255552 := (by decide); omega)) dX4_shadowOf_112 rfl ?_
            refine at_iload 115 X rfl dX4_shadowOf_113 rfl ?_
            refine at_lshlV 116 X (((2 ^ (e - f + 1) - 1) * 2 ^ f : Nat) : Int) (lshl_nat (by omega) (by have := run_lt (n := e - f + 1) (f := f) (by omega); omega)) dX4_shadowOf_115 rfl ?_
            refine at_lret X Rt ?_ (Nat.le_refl _) (Nat.le_refl _) dX4_shadowOf_116
            have e1 : (2 ^ (e - f + 1) - 1) * 2 ^ f = mk (shG G t p) 40 := by
              refine mk_eq (run_lt (by omega)) (fun j _ => ?_)
              rw [run_tb, Bool.eq_iff_iff, hq j, Bool.and_eq_true, decide_eq_true_iff, decide_eq_true_iff]
              omega
            exact ⟨by rw [e1], rfl⟩
          · refine at_lconst 99 X (v := 0) (by decide) (by decide) dX4_shadowOf_98 rfl ?_
            refine at_goto 116 X dX4_shadowOf_99 (by decide) ?_
            refine at_lret X Rt ?_ (Nat.le_refl _) (Nat.le_refl _) dX4_shadowOf_116
            exact ⟨by rw [← mk_0r (p := shG G t p) (n := 40) (fun j _ => Bool.eq_false_iff.mpr (fun c => by have := (hq j).mp c; omega))], rfl⟩
        exact at_sub _ (by exact ⟨rfl, rfl, trivial⟩) (J91 (gX G p - gH G p * gT' G t / 10) (((gX G p : Nat) : Int) - 1) (by first | omega | (split <;> omega)) (by first | omega | (split <;> omega)) (by omega) (fun j => by unfold shG; rw [h32']; simp only [shB, if_pos, if_neg, Bool.false_eq_true, if_false, if_true, Bool.and_eq_true, decide_eq_true_eq]; first | omega | (split <;> omega)))
      · exact absurd h66 (by decide)
    · exact absurd h44 (by decide)
  · have h32' : gR G t = true := by
      cases h : gR G t with
      | false => rw [h] at h32; exact absurd h32 (by decide)
      | true => rfl
    refine at_iconst 36 X (by decide) dX4_shadowOf_35 rfl ?_
    refine at_goto 40 X dX4_shadowOf_36 (by decide) ?_
    refine at_istore 42 X dX4_shadowOf_40 rfl (by decide) ?_
    refine at_iload 44 X rfl dX4_shadowOf_42 rfl ?_
    refine at_if_eq 47 54 X dX4_shadowOf_44 rfl (by decide) (fun h44 => ?_) (fun h44 => ?_)
    · exact absurd h44 (by decide)
    · refine at_iload 49 X rfl dX4_shadowOf_47 rfl ?_
      refine at_iconst 50 X (by decide) dX4_shadowOf_49 rfl ?_
      refine at_iaddV 51 X ((gX G p + 1 : Nat) : Int) (w32_v (by omega) (by omega) (by omega)) dX4_shadowOf_50 rfl ?_
      refine at_goto 62 X dX4_shadowOf_51 (by decide) ?_
      refine at_istore 64 X dX4_shadowOf_62 rfl (by decide) ?_
      refine at_iload 66 X rfl dX4_shadowOf_64 rfl ?_
      refine at_if_eq 69 85 X dX4_shadowOf_66 rfl (by decide) (fun h66 => ?_) (fun h66 => ?_)
      · exact absurd h66 (by decide)
      · refine at_aload_n 70 X rfl rfl dX4_shadowOf_69 rfl ?_
        refine m_getIV 73 X ((gW G : Nat) : Int) hg.W f_X4_47 (kX4 ha) (nX4_9 ha) dX4_shadowOf_70 rfl ?_
        have := hw.W
        refine at_iconst 74 X (by decide) dX4_shadowOf_73 rfl ?_
        refine at_isubV 75 X ((gW G - 1 : Nat) : Int) (w32_v (by omega) (by omega) (by omega)) dX4_shadowOf_74 rfl ?_
        refine at_iload 77 X rfl dX4_shadowOf_75 rfl ?_
        refine at_iload_n 78 X rfl rfl dX4_shadowOf_77 rfl ?_
        refine at_iaddV 79 X ((gX G p + gH G p * gT' G t / 10 : Nat) : Int) (w32_v (by omega) (by omega) (by omega)) dX4_shadowOf_78 rfl ?_
        refine at_minV 82 X (((if gW G - 1 ≤ gX G p + gH G p * gT' G t / 10 then gW G - 1 else gX G p + gH G p * gT' G t / 10 : Nat) : Int)) (by split <;> split <;> omega) w_703 (by rw [Rt.1]; exact ⟨by decide, by decide, by decide, by decide⟩) dX4_shadowOf_79 rfl ?_
        refine at_goto 89 X dX4_shadowOf_82 (by decide) ?_
        refine at_istore 91 X dX4_shadowOf_89 rfl (by decide) ?_
        have J91 : ∀ (f : Nat) (l : Int), (-1 ≤ l) → (l < 40) → (f ≤ 40) → ((∀ j, shG G t p j = true ↔ f ≤ j ∧ (j : Int) ≤ l)) → AT g κ K2 z 0 0 91 [(6, mI ((f : Nat) : Int)), (7, mI l)] [] (ov E) := by
          intro f l hl1 hl2 hf2 hq
          refine at_iload 93 X rfl dX4_shadowOf_91 rfl ?_
          refine at_iload 95 X rfl dX4_shadowOf_93 rfl ?_
          refine at_icmp_le 98 102 X dX4_shadowOf_95 rfl (by decide) (fun h95 => ?_) (fun h95 => ?_)
          · obtain ⟨e, rfl⟩ : ∃ e : Nat, l = (e : Int) := ⟨l.toNat, by omega⟩
            refine at_lconst 103 X (v := 1) (by decide) (by decide) dX4_shadowOf_102 rfl ?_
            refine at_iload 105 X rfl dX4_shadowOf_103 rfl ?_
            refine at_iload 107 X rfl dX4_shadowOf_105 rfl ?_
            refine at_isubV 108 X ((e - f : Nat) : Int) (w32_v (by omega) (by omega) (by omega)) dX4_shadowOf_107 rfl ?_
            refine at_iconst 109 X (by decide) dX4_shadowOf_108 rfl ?_
            refine at_iaddV 110 X ((e - f + 1 : Nat) : Int) (w32_v (by omega) (by omega) (by omega)) dX4_shadowOf_109 rfl ?_
            refine at_lshlV 111 X ((2 ^ (e - f + 1) : Nat) : Int) (lshl1 (by omega)) dX4_shadowOf_110 rfl ?_
            refine at_lconst 112 X (v := 1) (by decide) (by decide) dX4_shadowOf_111 rfl ?_
            refine at_lsubV 113 X ((2 ^ (e - f + 1) - 1 : Nat) : Int) (w64_v (by have := Nat.two_pow_pos (e - f + 1); omega) (by have := Nat.two_pow_pos (e - f + 1); omega) (by have := p2_lt (k := e - f + 1) (n := 41) (by omega); have : (2 : Nat) ^ 41 = 2199023255552 := (by decide); omega)) dX4_shadowOf_112 rfl ?_
            refine at_iload 115 X rfl dX4_shadowOf_113 rfl ?_
            refine at_lshlV 116 X (((2 ^ (e - f + 1) - 1) * 2 ^ f : Nat) : Int) (lshl_nat (by omega) (by have := run_lt (n := e - f + 1) (f := f) (by omega); omega)) dX4_shadowOf_115 rfl ?_
            refine at_lret X Rt ?_ (Nat.le_refl _) (Nat.le_refl _) dX4_shadowOf_116
            have e1 : (2 ^ (e - f + 1) - 1) * 2 ^ f = mk (shG G t p) 40 := by
              refine mk_eq (run_lt (by omega)) (fun j _ => ?_)
              rw [run_tb, Bool.eq_iff_iff, hq j, Bool.and_eq_true, decide_eq_true_iff, decide_eq_true_iff]
              omega
            exact ⟨by rw [e1], rfl⟩
          · refine at_lconst 99 X (v := 0) (by decide) (by decide) dX4_shadowOf_98 rfl ?_
            refine at_goto 116 X dX4_shadowOf_99 (by decide) ?_
            refine at_lret X Rt ?_ (Nat.le_refl _) (Nat.le_refl _) dX4_shadowOf_116
            exact ⟨by rw [← mk_0r (p := shG G t p) (n := 40) (fun j _ => Bool.eq_false_iff.mpr (fun c => by have := (hq j).mp c; omega))], rfl⟩
        exact at_sub _ (by exact ⟨rfl, rfl, trivial⟩) (J91 (gX G p + 1) (((if gW G - 1 ≤ gX G p + gH G p * gT' G t / 10 then gW G - 1 else gX G p + gH G p * gT' G t / 10) : Nat) : Int) (by first | omega | (split <;> omega)) (by first | omega | (split <;> omega)) (by omega) (fun j => by unfold shG; rw [h32']; simp only [shB, if_pos, if_neg, Bool.false_eq_true, if_false, if_true, Bool.and_eq_true, decide_eq_true_eq]; first | omega | (split <;> omega)))
theorem dX4_cover_0 : decode cX4_cover 0 = .ok (.aload_n 0, 1) := by decide +kernel
theorem dX4_cover_1 : decode cX4_cover 1 = .ok (.iload_n 1, 1) := by decide +kernel
theorem dX4_cover_2 : decode cX4_cover 2 = .ok (.putfield 106, 3) := by decide +kernel
theorem dX4_cover_5 : decode cX4_cover 5 = .ok (.iconst (-1), 1) := by decide +kernel
theorem dX4_cover_6 : decode cX4_cover 6 = .ok (.istore_n 2, 1) := by decide +kernel
theorem dX4_cover_7 : decode cX4_cover 7 = .ok (.iconst 0, 1) := by decide +kernel
theorem dX4_cover_8 : decode cX4_cover 8 = .ok (.istore_n 3, 1) := by decide +kernel
theorem dX4_cover_9 : decode cX4_cover 9 = .ok (.iload_n 3, 1) := by decide +kernel
theorem dX4_cover_10 : decode cX4_cover 10 = .ok (.bipush 24, 2) := by decide +kernel
theorem dX4_cover_12 : decode cX4_cover 12 = .ok (.if_icmp .ge 26, 3) := by decide +kernel
theorem dX4_cover_15 : decode cX4_cover 15 = .ok (.aload_n 0, 1) := by decide +kernel
theorem dX4_cover_16 : decode cX4_cover 16 = .ok (.iload_n 3, 1) := by decide +kernel
theorem dX4_cover_17 : decode cX4_cover 17 = .ok (.invokevirtual 109, 3) := by decide +kernel
theorem dX4_cover_20 : decode cX4_cover 20 = .ok (.ifCond .ne 5, 3) := by decide +kernel
theorem dX4_cover_23 : decode cX4_cover 23 = .ok (.iload_n 3, 1) := by decide +kernel
theorem dX4_cover_24 : decode cX4_cover 24 = .ok (.istore_n 2, 1) := by decide +kernel
theorem dX4_cover_25 : decode cX4_cover 25 = .ok (.aload_n 0, 1) := by decide +kernel
theorem dX4_cover_26 : decode cX4_cover 26 = .ok (.getfield 31, 3) := by decide +kernel
theorem dX4_cover_29 : decode cX4_cover 29 = .ok (.iload_n 3, 1) := by decide +kernel
theorem dX4_cover_30 : decode cX4_cover 30 = .ok (.iload_n 2, 1) := by decide +kernel
theorem dX4_cover_31 : decode cX4_cover 31 = .ok (.iastore, 1) := by decide +kernel
theorem dX4_cover_32 : decode cX4_cover 32 = .ok (.iinc 3 1, 3) := by decide +kernel
theorem dX4_cover_35 : decode cX4_cover 35 = .ok (.goto (-26), 3) := by decide +kernel
theorem dX4_cover_38 : decode cX4_cover 38 = .ok (.aload_n 0, 1) := by decide +kernel
theorem dX4_cover_39 : decode cX4_cover 39 = .ok (.getfield 34, 3) := by decide +kernel
theorem dX4_cover_42 : decode cX4_cover 42 = .ok (.iconst (-1), 1) := by decide +kernel
theorem dX4_cover_43 : decode cX4_cover 43 = .ok (.invokestatic 113, 3) := by decide +kernel
theorem dX4_cover_46 : decode cX4_cover 46 = .ok (.return_, 1) := by decide +kernel
theorem ct_X4_cover {g : Gw} (hG : GF g) {z : Bool} (E : Mm) (a : Nat) (ha : a = 30 ∨ a = 39) (C : Nat → Bool) : CT g yX4_cover cX4_cover 4 none 1 23 0 0 K2 z [mR a, mI (mk C 24 : Nat)] (ov E) K2 z (fun r D' => r = none ∧ ∃ E1, D' = ov E1 ∧ (E1 a 11 = (mk C 24 : Nat) ∧ ∀ t, t < 24 → E1 (a + 7) t = lcl C t) ∧ (∀ j, j < 1920 → E1 (a + 8) j = -1) ∧ (∀ j, j ≠ 11 → E1 a j = E a j) ∧ ∀ q, q ≠ a → q ≠ a + 7 → q ≠ a + 8 → E1 q = E q) := by
  refine CT.mk hG (by decide +kernel) (Nat.le_of_ble_eq_true rfl) (fun κ X Rt _ ok => ?_)
  refine at_aload_n 1 X rfl rfl dX4_cover_0 rfl ?_
  refine at_iload_n 2 X rfl rfl dX4_cover_1 rfl ?_
  refine m_putI 5 X f_X4_106 fw_4_11 (kX4 ha) (nX4_11 ha) dX4_cover_2 rfl ?_
  refine at_iconst 6 X (by decide) dX4_cover_5 rfl ?_
  refine at_istore_n 7 X rfl dX4_cover_6 rfl (by decide) ?_
  refine at_iconst 8 X (by decide) dX4_cover_7 rfl ?_
  refine at_istore_n 9 X rfl dX4_cover_8 rfl (by decide) ?_
  have J9 : ∀ (f9 : Nat) (F : Mm) (h : Nat) (v : Int), 24 - h < f9 → (h ≤ 24) → (v = itr (fun i v => if C i then v else (i : Int)) (-1) h) → (F a = wr E a 11 (mk C 24 : Nat) a) → ((∀ t, t < h → F (a + 7) t = lcl C t)) → ((∀ q, q ≠ a → q ≠ a + 7 → F q = E q)) → AT g κ K2 z 0 0 9 [(0, mR a), (2, mI v), (3, mI ((h : Nat) : Int))] [] (ov F) := by
    intro f9
    induction f9 with
    | zero => intro F h v hf9; omega
    | succ f9 ih9 =>
    intro F h v hf9 hh hv e0 hr hf
    refine at_iload_n 10 X rfl rfl dX4_cover_9 rfl ?_
    refine at_bipush 12 X (by decide) (by decide) dX4_cover_10 rfl ?_
    refine at_icmp_ge 15 38 X dX4_cover_12 rfl (by decide) (fun h12 => ?_) (fun h12 => ?_)
    · refine at_aload_n 39 X rfl rfl dX4_cover_38 rfl ?_
      refine m_getR 42 X f_X4_34 (kX4 ha) (rX4_7 ha) dX4_cover_39 rfl ?_
      refine at_iconst 43 X (by decide) dX4_cover_42 rfl ?_
      refine at_callS 46 X (ct_fillI hG (ov F) (a + 8) 1920 (-1) (kX4_7 ha) (by decide)) mo_J7_fill_53178 w_714 so_J7_fill_53178 rfl rfl (crm Rt (by decide)) (Nat.le_of_ble_eq_true rfl) dX4_cover_43 rfl ?_
      rintro _ _ ⟨rfl, rfl⟩
      rw [ov_fil (eX4_7 ha)]
      refine at_vret X Rt ?_ (Nat.le_refl _) (Nat.le_refl _) dX4_cover_46
      have hh24 : h = 24 := by omega
      subst hh24
      refine ⟨rfl, _, rfl, ⟨?_, fun t ht => ?_⟩, fun j hj => ?_, fun j hj => ?_, fun q h1 h2 h3 => ?_⟩
      · rw [fil_row (by omega), e0, wr_s]
      · rw [fil_row (by omega)]; exact hr t ht
      · exact fil_s hj
      · rw [fil_row (by omega), e0, wr_o (Or.inr hj)]
      · rw [fil_row h3]; exact hf q h1 h2
    · have hc_F : F a 11 = (mk C 24 : Nat) := by rw [e0, wr_s]
      refine at_aload_n 16 X rfl rfl dX4_cover_15 rfl ?_
      refine at_iload_n 17 X rfl rfl dX4_cover_16 rfl ?_
      refine at_callV 20 X _ 4 (ct_X4_isCloudy hG F a ha C h (by omega) hc_F) clX4 rfl (kX4 ha) mo_X4_isCloudy w_710 vo_X4_isCloudy.1 vo_X4_isCloudy.2 rfl rfl (crm Rt (by decide)) (Nat.le_of_ble_eq_true rfl) dX4_cover_17 rfl ?_
      rintro _ _ ⟨rfl, rfl⟩
      refine at_if_ne 23 25 X dX4_cover_20 rfl (by decide) (fun h20 => ?_) (fun h20 => ?_)
      · have h20 : (C h = true) := ite_yes.mp h20
        refine at_aload_n 26 X rfl rfl dX4_cover_25 rfl ?_
        refine m_getR 29 X f_X4_31 (kX4 ha) (rX4_6 ha) dX4_cover_26 rfl ?_
        refine at_iload_n 30 X rfl rfl dX4_cover_29 rfl ?_
        refine at_iload_n 31 X rfl rfl dX4_cover_30 rfl ?_
        refine m_iastoreV 32 X h (by omega) (kX4_6 ha) (eX4_6 ha) (by omega) dX4_cover_31 rfl ?_
        refine at_iincV 35 X ((h + 1 : Nat) : Int) (w32_v (by omega) (by omega) (by omega)) rfl dX4_cover_32 rfl (by decide) ?_
        refine at_goto 9 X dX4_cover_35 (by decide) ?_
        exact at_sub _ (by exact ⟨rfl, rfl, rfl, trivial⟩) (ih9 (wr F (a + 7) h v) (h + 1) v (by first | omega | (simp only [] at *; omega)) (by first | omega | assumption) (by rw [itr_s]; first | rw [if_pos h20, hv] | rw [if_neg h20]) (by rw [wr_row (by omega)]; exact e0) (row_ext hr (by unfold lcl; rw [itr_s]; first | rw [if_pos h20, hv] | rw [if_neg h20])) (fun q h1 h2 => by rw [wr_row h2]; exact hf q h1 h2))
      · have h20 : ¬ (C h = true) := ite_no.mp h20
        refine at_iload_n 24 X rfl rfl dX4_cover_23 rfl ?_
        refine at_istore_n 25 X rfl dX4_cover_24 rfl (by decide) ?_
        refine at_aload_n 26 X rfl rfl dX4_cover_25 rfl ?_
        refine m_getR 29 X f_X4_31 (kX4 ha) (rX4_6 ha) dX4_cover_26 rfl ?_
        refine at_iload_n 30 X rfl rfl dX4_cover_29 rfl ?_
        refine at_iload_n 31 X rfl rfl dX4_cover_30 rfl ?_
        refine m_iastoreV 32 X h (by omega) (kX4_6 ha) (eX4_6 ha) (by omega) dX4_cover_31 rfl ?_
        refine at_iincV 35 X ((h + 1 : Nat) : Int) (w32_v (by omega) (by omega) (by omega)) rfl dX4_cover_32 rfl (by decide) ?_
        refine at_goto 9 X dX4_cover_35 (by decide) ?_
        exact at_sub _ (by exact ⟨rfl, rfl, rfl, trivial⟩) (ih9 (wr F (a + 7) h ((h : Nat) : Int)) (h + 1) ((h : Nat) : Int) (by first | omega | (simp only [] at *; omega)) (by first | omega | assumption) (by rw [itr_s]; first | rw [if_pos h20, hv] | rw [if_neg h20]) (by rw [wr_row (by omega)]; exact e0) (row_ext hr (by unfold lcl; rw [itr_s]; first | rw [if_pos h20, hv] | rw [if_neg h20])) (fun q h1 h2 => by rw [wr_row h2]; exact hf q h1 h2))
  exact at_sub _ (by exact ⟨rfl, rfl, rfl, trivial⟩) (J9 _ (wr E a 11 (mk C 24 : Nat)) 0 (-1) (Nat.lt_succ_self _) (by first | omega | assumption | rfl) rfl rfl (fun p hp => absurd hp (Nat.not_lt_zero p)) (fun q h1 h2 => by simp (disch := omega) only [wr_row]))
theorem dX4_settle_0 : decode cX4_settle 0 = .ok (.iconst 0, 1) := by decide +kernel
theorem dX4_settle_1 : decode cX4_settle 1 = .ok (.istore_n 2, 1) := by decide +kernel
theorem dX4_settle_2 : decode cX4_settle 2 = .ok (.iload_n 2, 1) := by decide +kernel
theorem dX4_settle_3 : decode cX4_settle 3 = .ok (.bipush 24, 2) := by decide +kernel
theorem dX4_settle_5 : decode cX4_settle 5 = .ok (.if_icmp .ge 42, 3) := by decide +kernel
theorem dX4_settle_8 : decode cX4_settle 8 = .ok (.iconst 0, 1) := by decide +kernel
theorem dX4_settle_9 : decode cX4_settle 9 = .ok (.istore_n 3, 1) := by decide +kernel
theorem dX4_settle_10 : decode cX4_settle 10 = .ok (.iload_n 3, 1) := by decide +kernel
theorem dX4_settle_11 : decode cX4_settle 11 = .ok (.aload_n 0, 1) := by decide +kernel
theorem dX4_settle_12 : decode cX4_settle 12 = .ok (.getfield 53, 3) := by decide +kernel
theorem dX4_settle_15 : decode cX4_settle 15 = .ok (.if_icmp .ge 26, 3) := by decide +kernel
theorem dX4_settle_18 : decode cX4_settle 18 = .ok (.aload_n 0, 1) := by decide +kernel
theorem dX4_settle_19 : decode cX4_settle 19 = .ok (.getfield 27, 3) := by decide +kernel
theorem dX4_settle_22 : decode cX4_settle 22 = .ok (.iload_n 2, 1) := by decide +kernel
theorem dX4_settle_23 : decode cX4_settle 23 = .ok (.bipush 11, 2) := by decide +kernel
theorem dX4_settle_25 : decode cX4_settle 25 = .ok (.imul, 1) := by decide +kernel
theorem dX4_settle_26 : decode cX4_settle 26 = .ok (.iload_n 3, 1) := by decide +kernel
theorem dX4_settle_27 : decode cX4_settle 27 = .ok (.iadd, 1) := by decide +kernel
theorem dX4_settle_28 : decode cX4_settle 28 = .ok (.aload_n 0, 1) := by decide +kernel
theorem dX4_settle_29 : decode cX4_settle 29 = .ok (.iload_n 3, 1) := by decide +kernel
theorem dX4_settle_30 : decode cX4_settle 30 = .ok (.iload_n 2, 1) := by decide +kernel
theorem dX4_settle_31 : decode cX4_settle 31 = .ok (.invokevirtual 89, 3) := by decide +kernel
theorem dX4_settle_34 : decode cX4_settle 34 = .ok (.lastore, 1) := by decide +kernel
theorem dX4_settle_35 : decode cX4_settle 35 = .ok (.iinc 3 1, 3) := by decide +kernel
theorem dX4_settle_38 : decode cX4_settle 38 = .ok (.goto (-28), 3) := by decide +kernel
theorem dX4_settle_41 : decode cX4_settle 41 = .ok (.iinc 2 1, 3) := by decide +kernel
theorem dX4_settle_44 : decode cX4_settle 44 = .ok (.goto (-42), 3) := by decide +kernel
theorem dX4_settle_47 : decode cX4_settle 47 = .ok (.aload_n 0, 1) := by decide +kernel
theorem dX4_settle_48 : decode cX4_settle 48 = .ok (.iload_n 1, 1) := by decide +kernel
theorem dX4_settle_49 : decode cX4_settle 49 = .ok (.invokevirtual 93, 3) := by decide +kernel
theorem dX4_settle_52 : decode cX4_settle 52 = .ok (.return_, 1) := by decide +kernel
theorem ct_X4_settle {g : Gw} (hG : GF g) {z : Bool} (E : Mm) (a : Nat) (ha : a = 30 ∨ a = 39) (G : GP) (hw : WG G) (hg_E : CG0 E a G) (C : Nat → Bool) : CT g yX4_settle cX4_settle 4 none 2 48 0 0 K2 z [mR a, mI (mk C 24 : Nat)] (ov E) K2 z (fun r D' => r = none ∧ ∃ E1, D' = ov E1 ∧ CG E1 a (setC G C) ∧ ∀ q, q ≠ a → q ≠ a + 6 → q ≠ a + 7 → q ≠ a + 8 → E1 q = E q) := by
  refine CT.mk hG (by decide +kernel) (Nat.le_of_ble_eq_true rfl) (fun κ X Rt _ ok => ?_)
  have hW40 := hw.W
  have hN11 := hw.N
  refine at_iconst 1 X (by decide) dX4_settle_0 rfl ?_
  refine at_istore_n 2 X rfl dX4_settle_1 rfl (by decide) ?_
  have J2 : ∀ (f2 : Nat) (F : Mm) (h : Nat), 24 - h < f2 → (h ≤ 24) → (CG0 F a G) → ((∀ t p, t < h → p < gN G → F (a + 6) (t * 11 + p) = (mk (shG G t p) 40 : Nat))) → ((∀ q, q ≠ a + 6 → F q = E q)) → AT g κ K2 z 0 0 2 [(0, mR a), (1, mI (mk C 24 : Nat)), (2, mI ((h : Nat) : Int))] [] (ov F) := by
    intro f2
    induction f2 with
    | zero => intro F h hf2; omega
    | succ f2 ih2 =>
    intro F h hf2 hh hg_F hs hf
    refine at_iload_n 3 X rfl rfl dX4_settle_2 rfl ?_
    refine at_bipush 5 X (by decide) (by decide) dX4_settle_3 rfl ?_
    refine at_icmp_ge 8 47 X dX4_settle_5 rfl (by decide) (fun h5 => ?_) (fun h5 => ?_)
    · refine at_aload_n 48 X rfl rfl dX4_settle_47 rfl ?_
      refine at_iload_n 49 X rfl rfl dX4_settle_48 rfl ?_
      refine at_callV 52 X _ 4 (ct_X4_cover hG F a ha C) clX4 rfl (kX4 ha) mo_X4_cover w_706 vo_X4_cover.1 vo_X4_cover.2 rfl rfl (crm Rt (by decide)) (Nat.le_of_ble_eq_true rfl) dX4_settle_49 rfl ?_
      rintro _ _ ⟨rfl, F3, rfl, hc3, hk3, ha3, hf3⟩
      refine at_vret X Rt ?_ (Nat.le_refl _) (Nat.le_refl _) dX4_settle_52
      have hh24 : h = 24 := by omega
      subst hh24
      have e1 := fun q (h1 : q ≠ a) h2 h3 => hf3 q h1 h2 h3
      refine ⟨rfl, F3, rfl, ⟨?_, hc3, fun t p ht hp => ?_, fun m t c ht hc => Or.inl (hk3 _ (kix_lt ht hc))⟩, fun q h1 h2 h3 h4 => ?_⟩
      · obtain ⟨q1, q2, q3, q4, q5, q6, q7⟩ := hg_F
        refine ⟨?_, ?_, ?_, ?_, ?_, fun p hp => ?_, fun t ht => ?_⟩
        · rw [ha3 8 (by decide)]; exact q1
        · rw [ha3 9 (by decide)]; exact q2
        · rw [ha3 10 (by decide)]; exact q3
        · rw [ha3 12 (by decide)]; exact q4
        · rw [ha3 13 (by decide)]; exact q5
        · rw [hf3 _ (by omega) (by omega) (by omega), hf3 _ (by omega) (by omega) (by omega)]; exact q6 p hp
        · rw [hf3 _ (by omega) (by omega) (by omega), hf3 _ (by omega) (by omega) (by omega)]; exact q7 t ht
      · rw [hf3 _ (by omega) (by omega) (by omega)]; exact hs t p ht hp
      · rw [hf3 q h1 h3 h4]; exact hf q h2
    · refine at_iconst 9 X (by decide) dX4_settle_8 rfl ?_
      refine at_istore_n 10 X rfl dX4_settle_9 rfl (by decide) ?_
      have J10 : ∀ (f10 : Nat) (F2 : Mm) (i : Nat), 11 - i < f10 → (i ≤ gN G) → (CG0 F2 a G) → ((∀ t p, t < h → p < gN G → F2 (a + 6) (t * 11 + p) = (mk (shG G t p) 40 : Nat))) → ((∀ p, p < i → F2 (a + 6) (h * 11 + p) = (mk (shG G h p) 40 : Nat))) → ((∀ q, q ≠ a + 6 → F2 q = E q)) → AT g κ K2 z 0 0 10 [(0, mR a), (1, mI (mk C 24 : Nat)), (2, mI ((h : Nat) : Int)), (3, mI ((i : Nat) : Int))] [] (ov F2) := by
        intro f10
        induction f10 with
        | zero => intro F2 i hf10; omega
        | succ f10 ih10 =>
        intro F2 i hf10 hi hg_F2 hs2 hs3 hf2
        refine at_iload_n 11 X rfl rfl dX4_settle_10 rfl ?_
        refine at_aload_n 12 X rfl rfl dX4_settle_11 rfl ?_
        refine m_getIV 15 X ((gN G : Nat) : Int) hg_F2.N f_X4_53 (kX4 ha) (nX4_10 ha) dX4_settle_12 rfl ?_
        have := hw.N
        refine at_icmp_ge 18 41 X dX4_settle_15 rfl (by decide) (fun h15 => ?_) (fun h15 => ?_)
        · refine at_iincV 44 X ((h + 1 : Nat) : Int) (w32_v (by omega) (by omega) (by omega)) rfl dX4_settle_41 rfl (by decide) ?_
          refine at_goto 2 X dX4_settle_44 (by decide) ?_
          exact at_sub _ (by exact ⟨rfl, rfl, rfl, trivial⟩) (ih2 F2 (h + 1) (by first | omega | (simp only [] at *; omega)) (by first | omega | assumption) hg_F2 (fun t p ht hp => if c : t = h then by subst c; exact hs3 p (by omega) else hs2 t p (by omega) hp) hf2)
        · refine at_aload_n 19 X rfl rfl dX4_settle_18 rfl ?_
          refine m_getR 22 X f_X4_27 (kX4 ha) (rX4_5 ha) dX4_settle_19 rfl ?_
          refine at_iload_n 23 X rfl rfl dX4_settle_22 rfl ?_
          refine at_bipush 25 X (by decide) (by decide) dX4_settle_23 rfl ?_
          refine at_imulV 26 X ((h * 11 : Nat) : Int) (w32_v (by omega) (by omega) (by omega)) dX4_settle_25 rfl ?_
          refine at_iload_n 27 X rfl rfl dX4_settle_26 rfl ?_
          refine at_iaddV 28 X ((h * 11 + i : Nat) : Int) (w32_v (by omega) (by omega) (by omega)) dX4_settle_27 rfl ?_
          refine at_aload_n 29 X rfl rfl dX4_settle_28 rfl ?_
          refine at_iload_n 30 X rfl rfl dX4_settle_29 rfl ?_
          refine at_iload_n 31 X rfl rfl dX4_settle_30 rfl ?_
          refine at_callV 34 X _ 4 (ct_X4_shadowOf hG F2 a ha G hw hg_F2 i h (by omega) (by omega)) clX4 rfl (kX4 ha) mo_X4_shadowOf w_696 vo_X4_shadowOf.1 vo_X4_shadowOf.2 rfl rfl (crm Rt (by decide)) (Nat.le_of_ble_eq_true rfl) dX4_settle_31 rfl ?_
          rintro _ _ ⟨rfl, rfl⟩
          refine m_lastoreV 35 X (h * 11 + i) (by omega) (kX4_5 ha) (eX4_5 ha) (by omega) dX4_settle_34 rfl ?_
          refine at_iincV 38 X ((i + 1 : Nat) : Int) (w32_v (by omega) (by omega) (by omega)) rfl dX4_settle_35 rfl (by decide) ?_
          refine at_goto 10 X dX4_settle_38 (by decide) ?_
          exact at_sub _ (by exact ⟨rfl, rfl, rfl, rfl, trivial⟩) (ih10 (wr F2 (a + 6) (h * 11 + i) ((mk (shG G h i) 40 : Nat) : Int)) (i + 1) (by first | omega | (simp only [] at *; omega)) (by first | omega | assumption) (hg_F2.fr (fun q hq => wr_row (by omega))) (fun t p ht hp => by rw [wr_o (Or.inr (by omega))]; exact hs2 t p ht hp) (fun p hp => if c : p = i then by subst c; rw [wr_s] else by rw [wr_o (Or.inr (by omega))]; exact hs3 p (by omega)) (fun q hq => by rw [wr_row hq]; exact hf2 q hq))
      exact at_sub _ (by exact ⟨rfl, rfl, rfl, rfl, trivial⟩) (J10 _ F 0 (Nat.lt_succ_self _) (by first | omega | assumption | rfl) hg_F hs (fun p hp => absurd hp (Nat.not_lt_zero p)) hf)
  exact at_sub _ (by exact ⟨rfl, rfl, rfl, trivial⟩) (J2 _ E 0 (Nat.lt_succ_self _) (by first | omega | assumption | rfl) hg_E (fun t p h => absurd h (Nat.not_lt_zero t)) (fun _ _ => rfl))
