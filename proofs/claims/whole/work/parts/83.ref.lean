theorem dX12_putsOf_0 : decode cX12_putsOf 0 = .ok (.aload_n 0, 1) := by decide +kernel
theorem dX12_putsOf_1 : decode cX12_putsOf 1 = .ok (.getfield 61, 3) := by decide +kernel
theorem dX12_putsOf_4 : decode cX12_putsOf 4 = .ok (.iload_n 1, 1) := by decide +kernel
theorem dX12_putsOf_5 : decode cX12_putsOf 5 = .ok (.aaload, 1) := by decide +kernel
theorem dX12_putsOf_6 : decode cX12_putsOf 6 = .ok (.iconst 1, 1) := by decide +kernel
theorem dX12_putsOf_7 : decode cX12_putsOf 7 = .ok (.iaload, 1) := by decide +kernel
theorem dX12_putsOf_8 : decode cX12_putsOf 8 = .ok (.istore_n 3, 1) := by decide +kernel
theorem dX12_putsOf_9 : decode cX12_putsOf 9 = .ok (.iconst 0, 1) := by decide +kernel
theorem dX12_putsOf_10 : decode cX12_putsOf 10 = .ok (.istore 4, 2) := by decide +kernel
theorem dX12_putsOf_12 : decode cX12_putsOf 12 = .ok (.iconst 0, 1) := by decide +kernel
theorem dX12_putsOf_13 : decode cX12_putsOf 13 = .ok (.istore 5, 2) := by decide +kernel
theorem dX12_putsOf_15 : decode cX12_putsOf 15 = .ok (.iload 5, 2) := by decide +kernel
theorem dX12_putsOf_17 : decode cX12_putsOf 17 = .ok (.iload_n 3, 1) := by decide +kernel
theorem dX12_putsOf_18 : decode cX12_putsOf 18 = .ok (.if_icmp .ge 48, 3) := by decide +kernel
theorem dX12_putsOf_21 : decode cX12_putsOf 21 = .ok (.iload 4, 2) := by decide +kernel
theorem dX12_putsOf_23 : decode cX12_putsOf 23 = .ok (.aload_n 0, 1) := by decide +kernel
theorem dX12_putsOf_24 : decode cX12_putsOf 24 = .ok (.getfield 61, 3) := by decide +kernel
theorem dX12_putsOf_27 : decode cX12_putsOf 27 = .ok (.iload_n 1, 1) := by decide +kernel
theorem dX12_putsOf_28 : decode cX12_putsOf 28 = .ok (.aaload, 1) := by decide +kernel
theorem dX12_putsOf_29 : decode cX12_putsOf 29 = .ok (.iconst 2, 1) := by decide +kernel
theorem dX12_putsOf_30 : decode cX12_putsOf 30 = .ok (.iaload, 1) := by decide +kernel
theorem dX12_putsOf_31 : decode cX12_putsOf 31 = .ok (.aload_n 0, 1) := by decide +kernel
theorem dX12_putsOf_32 : decode cX12_putsOf 32 = .ok (.getfield 67, 3) := by decide +kernel
theorem dX12_putsOf_35 : decode cX12_putsOf 35 = .ok (.iload_n 1, 1) := by decide +kernel
theorem dX12_putsOf_36 : decode cX12_putsOf 36 = .ok (.aaload, 1) := by decide +kernel
theorem dX12_putsOf_37 : decode cX12_putsOf 37 = .ok (.iload 5, 2) := by decide +kernel
theorem dX12_putsOf_39 : decode cX12_putsOf 39 = .ok (.iaload, 1) := by decide +kernel
theorem dX12_putsOf_40 : decode cX12_putsOf 40 = .ok (.iadd, 1) := by decide +kernel
theorem dX12_putsOf_41 : decode cX12_putsOf 41 = .ok (.iload_n 2, 1) := by decide +kernel
theorem dX12_putsOf_42 : decode cX12_putsOf 42 = .ok (.ifCond .ne 12, 3) := by decide +kernel
theorem dX12_putsOf_45 : decode cX12_putsOf 45 = .ok (.iload_n 3, 1) := by decide +kernel
theorem dX12_putsOf_46 : decode cX12_putsOf 46 = .ok (.iconst 1, 1) := by decide +kernel
theorem dX12_putsOf_47 : decode cX12_putsOf 47 = .ok (.isub, 1) := by decide +kernel
theorem dX12_putsOf_48 : decode cX12_putsOf 48 = .ok (.iload 5, 2) := by decide +kernel
theorem dX12_putsOf_50 : decode cX12_putsOf 50 = .ok (.isub, 1) := by decide +kernel
theorem dX12_putsOf_51 : decode cX12_putsOf 51 = .ok (.goto 5, 3) := by decide +kernel
theorem dX12_putsOf_54 : decode cX12_putsOf 54 = .ok (.iload 5, 2) := by decide +kernel
theorem dX12_putsOf_56 : decode cX12_putsOf 56 = .ok (.imul, 1) := by decide +kernel
theorem dX12_putsOf_57 : decode cX12_putsOf 57 = .ok (.iadd, 1) := by decide +kernel
theorem dX12_putsOf_58 : decode cX12_putsOf 58 = .ok (.istore 4, 2) := by decide +kernel
theorem dX12_putsOf_60 : decode cX12_putsOf 60 = .ok (.iinc 5 1, 3) := by decide +kernel
theorem dX12_putsOf_63 : decode cX12_putsOf 63 = .ok (.goto (-48), 3) := by decide +kernel
theorem dX12_putsOf_66 : decode cX12_putsOf 66 = .ok (.ldc2_w 381, 3) := by decide +kernel
theorem dX12_putsOf_69 : decode cX12_putsOf 69 = .ok (.iload_n 3, 1) := by decide +kernel
theorem dX12_putsOf_70 : decode cX12_putsOf 70 = .ok (.iconst 1, 1) := by decide +kernel
theorem dX12_putsOf_71 : decode cX12_putsOf 71 = .ok (.isub, 1) := by decide +kernel
theorem dX12_putsOf_72 : decode cX12_putsOf 72 = .ok (.i2l, 1) := by decide +kernel
theorem dX12_putsOf_73 : decode cX12_putsOf 73 = .ok (.ldiv, 1) := by decide +kernel
theorem dX12_putsOf_74 : decode cX12_putsOf 74 = .ok (.iload 4, 2) := by decide +kernel
theorem dX12_putsOf_76 : decode cX12_putsOf 76 = .ok (.i2l, 1) := by decide +kernel
theorem dX12_putsOf_77 : decode cX12_putsOf 77 = .ok (.lmul, 1) := by decide +kernel
theorem dX12_putsOf_78 : decode cX12_putsOf 78 = .ok (.lreturn, 1) := by decide +kernel
theorem ct_X12_putsOf {g : Gw} (hG : GF g) {z : Bool} (E : Mm) (P : SP) (Q : RX) (hP : WS P) (hR_E : RTS E P Q) (b : Nat) (e : Int) (hb : b < bN (sB P)) : CT g yX12_putsOf cX12_putsOf 6 (some .long) 0 0 0 0 K2 z [mR 125, mI ((b : Nat) : Int), mI e] (ov E) K2 z (fun r D' => r = some (mL (if e = 0 then (onL (sB P) b : Int) else (onR (sB P) b : Int))) ∧ D' = ov E) := by
  refine CT.mk hG (by decide +kernel) (Nat.le_of_ble_eq_true rfl) (fun κ X Rt _ ok => ?_)
  have hN8 := hP.B.N
  have hlb := hP.B.L hb
  refine at_aload_n 1 X rfl rfl dX12_putsOf_0 rfl ?_
  refine m_getR 4 X f_X12_61 k_125 r_125_24 dX12_putsOf_1 rfl ?_
  refine at_iload_n 5 X rfl rfl dX12_putsOf_4 rfl ?_
  refine m_aaloadV 6 X b (by omega) k_227 (by decide) (by omega) (rr_227 _ (by omega)) dX12_putsOf_5 rfl ?_
  refine at_iconst 7 X (by decide) dX12_putsOf_6 rfl ?_
  refine m_ialoadV 8 X 1 (by omega) ((bL (sB P) b : Nat) : Int) (hR_E.2.2.2.2.2.2 b (by omega)).2.1 (kr_227 _ (by omega)) (er_227 _ (by omega)) (by omega) dX12_putsOf_7 rfl ?_
  have := hP.B.L (b := b) (by omega)
  refine at_istore_n 9 X rfl dX12_putsOf_8 rfl (by decide) ?_
  refine at_iconst 10 X (by decide) dX12_putsOf_9 rfl ?_
  refine at_istore 12 X dX12_putsOf_10 rfl (by decide) ?_
  refine at_iconst 13 X (by decide) dX12_putsOf_12 rfl ?_
  refine at_istore 15 X dX12_putsOf_13 rfl (by decide) ?_
  have J15 : ∀ (f15 : Nat) (p : Nat) (v : Nat), 20 - p < f15 → (p ≤ bL (sB P) b) → (v = if e = 0 then sumL (sB P) b p else sumR (sB P) b p) → (v ≤ p * 2052) → AT g κ K2 z 0 0 15 [(0, mR 125), (1, mI ((b : Nat) : Int)), (2, mI e), (3, mI ((bL (sB P) b : Nat) : Int)), (4, mI ((v : Nat) : Int)), (5, mI ((p : Nat) : Int))] [] (ov E) := by
    intro f15
    induction f15 with
    | zero => intro p v hf15; omega
    | succ f15 ih15 =>
    intro p v hf15 hp hv hvl
    refine at_iload 17 X rfl dX12_putsOf_15 rfl ?_
    refine at_iload_n 18 X rfl rfl dX12_putsOf_17 rfl ?_
    refine at_icmp_ge 21 66 X dX12_putsOf_18 rfl (by decide) (fun h18 => ?_) (fun h18 => ?_)
    · have hun := un_le (bL (sB P) b - 1)
      have hun0 := Int.natCast_nonneg (UN / (bL (sB P) b - 1))
      have hq1 := onL_le hP.B hb
      have hq2 := onR_le hP.B hb
      refine at_ldc2 69 X (n := 232792560) w_2217 (by decide) (by decide) dX12_putsOf_66 rfl ?_
      refine at_iload_n 70 X rfl rfl dX12_putsOf_69 rfl ?_
      refine at_iconst 71 X (by decide) dX12_putsOf_70 rfl ?_
      refine at_isubV 72 X ((bL (sB P) b - 1 : Nat) : Int) (w32_v (by omega) (by omega) (by omega)) dX12_putsOf_71 rfl ?_
      refine at_i2l 73 X dX12_putsOf_72 rfl ?_
      refine at_ldivV 74 X (by omega) ((UN / (bL (sB P) b - 1) : Nat) : Int) (w64_v (Int.ofNat_tdiv 232792560 (bL (sB P) b - 1)).symm (by omega) (by omega)) dX12_putsOf_73 rfl ?_
      refine at_iload 76 X rfl dX12_putsOf_74 rfl ?_
      refine at_i2l 77 X dX12_putsOf_76 rfl ?_
      refine at_lmulV 78 X (if e = 0 then (onL (sB P) b : Int) else (onR (sB P) b : Int)) (w64_v (by rw [hv, ← Int.natCast_mul, show p = bL (sB P) b by omega]; split <;> exact congrArg (fun q : Nat => (q : Int)) (Nat.mul_comm _ _)) (by split <;> omega) (by split <;> omega)) dX12_putsOf_77 rfl ?_
      refine at_lret X Rt ?_ (Nat.le_refl _) (Nat.le_refl _) dX12_putsOf_78
      exact ⟨rfl, rfl⟩
    · refine at_iload 23 X rfl dX12_putsOf_21 rfl ?_
      refine at_aload_n 24 X rfl rfl dX12_putsOf_23 rfl ?_
      refine m_getR 27 X f_X12_61 k_125 r_125_24 dX12_putsOf_24 rfl ?_
      refine at_iload_n 28 X rfl rfl dX12_putsOf_27 rfl ?_
      refine m_aaloadV 29 X b (by omega) k_227 (by decide) (by omega) (rr_227 _ (by omega)) dX12_putsOf_28 rfl ?_
      refine at_iconst 30 X (by decide) dX12_putsOf_29 rfl ?_
      refine m_ialoadV 31 X 2 (by omega) ((bH (sB P) b : Nat) : Int) (hR_E.2.2.2.2.2.2 b (by omega)).2.2.1 (kr_227 _ (by omega)) (er_227 _ (by omega)) (by omega) dX12_putsOf_30 rfl ?_
      have := hP.B.H (b := b) (by omega)
      refine at_aload_n 32 X rfl rfl dX12_putsOf_31 rfl ?_
      refine m_getR 35 X f_X12_67 k_125 r_125_26 dX12_putsOf_32 rfl ?_
      refine at_iload_n 36 X rfl rfl dX12_putsOf_35 rfl ?_
      refine m_aaloadV 37 X b (by omega) k_245 (by decide) (by omega) (rr_245 _ (by omega)) dX12_putsOf_36 rfl ?_
      refine at_iload 39 X rfl dX12_putsOf_37 rfl ?_
      refine m_ialoadV 40 X p (by omega) ((bD (sB P) b p : Nat) : Int) ((hR_E.2.2.2.2.2.2 b (by omega)).2.2.2 p (by omega)) (kr_245 _ (by omega)) (er_245 _ (by omega)) (by omega) dX12_putsOf_39 rfl ?_
      have := hP.B.D (b := b) (p := p) (by omega) (by omega)
      refine at_iaddV 41 X ((bH (sB P) b + bD (sB P) b p : Nat) : Int) (w32_v (by omega) (by omega) (by omega)) dX12_putsOf_40 rfl ?_
      refine at_iload_n 42 X rfl rfl dX12_putsOf_41 rfl ?_
      refine at_if_ne 45 54 X dX12_putsOf_42 rfl (by decide) (fun h42 => ?_) (fun h42 => ?_)
      · refine at_iload 56 X rfl dX12_putsOf_54 rfl ?_
        have hm1 := Nat.mul_le_mul (show (bH (sB P) b + bD (sB P) b p) ≤ 108 by omega) (show p ≤ 19 by omega)
        have hm2 := Nat.mul_le_mul (show (bH (sB P) b + bD (sB P) b p) ≤ 108 by omega) (show bL (sB P) b - 1 - p ≤ 19 by omega)
        refine at_imulV 57 X (((bH (sB P) b + bD (sB P) b p) * p : Nat) : Int) (w32_v (Int.natCast_mul _ _).symm (by omega) (by omega)) dX12_putsOf_56 rfl ?_
        refine at_iaddV 58 X ((v + ((bH (sB P) b + bD (sB P) b p) * p) : Nat) : Int) (w32_v (by omega) (by omega) (by omega)) dX12_putsOf_57 rfl ?_
        refine at_istore 60 X dX12_putsOf_58 rfl (by decide) ?_
        refine at_iincV 63 X ((p + 1 : Nat) : Int) (w32_v (by omega) (by omega) (by omega)) rfl dX12_putsOf_60 rfl (by decide) ?_
        refine at_goto 15 X dX12_putsOf_63 (by decide) ?_
        exact at_sub _ (by exact ⟨rfl, rfl, rfl, rfl, rfl, rfl, trivial⟩) (ih15 (p + 1) (v + ((bH (sB P) b + bD (sB P) b p) * p)) (by first | omega | (simp only [] at *; omega)) (by first | omega | assumption) (by first | (rw [hv, if_pos (show e = 0 by omega), if_pos (show e = 0 by omega)]; rfl) | (rw [hv, if_neg (show ¬ e = 0 by omega), if_neg (show ¬ e = 0 by omega)]; rfl)) (by first | omega | assumption))
      · refine at_iload_n 46 X rfl rfl dX12_putsOf_45 rfl ?_
        refine at_iconst 47 X (by decide) dX12_putsOf_46 rfl ?_
        refine at_isubV 48 X ((bL (sB P) b - 1 : Nat) : Int) (w32_v (by omega) (by omega) (by omega)) dX12_putsOf_47 rfl ?_
        refine at_iload 50 X rfl dX12_putsOf_48 rfl ?_
        refine at_isubV 51 X ((bL (sB P) b - 1 - p : Nat) : Int) (w32_v (by omega) (by omega) (by omega)) dX12_putsOf_50 rfl ?_
        refine at_goto 56 X dX12_putsOf_51 (by decide) ?_
        have hm1 := Nat.mul_le_mul (show (bH (sB P) b + bD (sB P) b p) ≤ 108 by omega) (show p ≤ 19 by omega)
        have hm2 := Nat.mul_le_mul (show (bH (sB P) b + bD (sB P) b p) ≤ 108 by omega) (show bL (sB P) b - 1 - p ≤ 19 by omega)
        refine at_imulV 57 X (((bH (sB P) b + bD (sB P) b p) * (bL (sB P) b - 1 - p) : Nat) : Int) (w32_v (Int.natCast_mul _ _).symm (by omega) (by omega)) dX12_putsOf_56 rfl ?_
        refine at_iaddV 58 X ((v + ((bH (sB P) b + bD (sB P) b p) * (bL (sB P) b - 1 - p)) : Nat) : Int) (w32_v (by omega) (by omega) (by omega)) dX12_putsOf_57 rfl ?_
        refine at_istore 60 X dX12_putsOf_58 rfl (by decide) ?_
        refine at_iincV 63 X ((p + 1 : Nat) : Int) (w32_v (by omega) (by omega) (by omega)) rfl dX12_putsOf_60 rfl (by decide) ?_
        refine at_goto 15 X dX12_putsOf_63 (by decide) ?_
        exact at_sub _ (by exact ⟨rfl, rfl, rfl, rfl, rfl, rfl, trivial⟩) (ih15 (p + 1) (v + ((bH (sB P) b + bD (sB P) b p) * (bL (sB P) b - 1 - p))) (by first | omega | (simp only [] at *; omega)) (by first | omega | assumption) (by first | (rw [hv, if_pos (show e = 0 by omega), if_pos (show e = 0 by omega)]; rfl) | (rw [hv, if_neg (show ¬ e = 0 by omega), if_neg (show ¬ e = 0 by omega)]; rfl)) (by first | omega | assumption))
  exact at_sub _ (by exact ⟨rfl, rfl, rfl, rfl, rfl, rfl, trivial⟩) (J15 _ 0 0 (Nat.lt_succ_self _) (by omega) (by split <;> rfl) (by first | omega | assumption | rfl))
theorem addw2 {F : Mm} {q x l c : Nat} {L R u v : Int} (hl : 2 ≤ l) (h1 : u = F q x + L) (h2 : v = F q (x + l - 1) + R) : wr (wr F q x u) q (x + l - 1) v q c = F q c + ((if x = c then L else 0) + (if x + l - 1 = c then R else 0)) := by
  have h := addw (F := F) (q := q) (x := x) (l := l) (c := c) (L := L) (R := R) (t := 1) hl
  rw [Int.one_mul, Int.one_mul, Int.one_mul] at h
  rw [h1, h2]
  exact h
theorem dX12_rest_0 : decode cX12_rest 0 = .ok (.iconst 0, 1) := by decide +kernel
theorem dX12_rest_1 : decode cX12_rest 1 = .ok (.istore_n 2, 1) := by decide +kernel
theorem dX12_rest_2 : decode cX12_rest 2 = .ok (.iload_n 2, 1) := by decide +kernel
theorem dX12_rest_3 : decode cX12_rest 3 = .ok (.aload_n 0, 1) := by decide +kernel
theorem dX12_rest_4 : decode cX12_rest 4 = .ok (.getfield 23, 3) := by decide +kernel
theorem dX12_rest_7 : decode cX12_rest 7 = .ok (.iconst 0, 1) := by decide +kernel
theorem dX12_rest_8 : decode cX12_rest 8 = .ok (.iaload, 1) := by decide +kernel
theorem dX12_rest_9 : decode cX12_rest 9 = .ok (.if_icmp .ge 18, 3) := by decide +kernel
theorem dX12_rest_12 : decode cX12_rest 12 = .ok (.aload_n 0, 1) := by decide +kernel
theorem dX12_rest_13 : decode cX12_rest 13 = .ok (.getfield 121, 3) := by decide +kernel
theorem dX12_rest_16 : decode cX12_rest 16 = .ok (.iload_n 1, 1) := by decide +kernel
theorem dX12_rest_17 : decode cX12_rest 17 = .ok (.aaload, 1) := by decide +kernel
theorem dX12_rest_18 : decode cX12_rest 18 = .ok (.iload_n 2, 1) := by decide +kernel
theorem dX12_rest_19 : decode cX12_rest 19 = .ok (.lconst 0, 1) := by decide +kernel
theorem dX12_rest_20 : decode cX12_rest 20 = .ok (.lastore, 1) := by decide +kernel
theorem dX12_rest_21 : decode cX12_rest 21 = .ok (.iinc 2 1, 3) := by decide +kernel
theorem dX12_rest_24 : decode cX12_rest 24 = .ok (.goto (-22), 3) := by decide +kernel
theorem dX12_rest_27 : decode cX12_rest 27 = .ok (.iconst 0, 1) := by decide +kernel
theorem dX12_rest_28 : decode cX12_rest 28 = .ok (.istore_n 2, 1) := by decide +kernel
theorem dX12_rest_29 : decode cX12_rest 29 = .ok (.iload_n 2, 1) := by decide +kernel
theorem dX12_rest_30 : decode cX12_rest 30 = .ok (.aload_n 0, 1) := by decide +kernel
theorem dX12_rest_31 : decode cX12_rest 31 = .ok (.getfield 23, 3) := by decide +kernel
theorem dX12_rest_34 : decode cX12_rest 34 = .ok (.bipush 6, 2) := by decide +kernel
theorem dX12_rest_36 : decode cX12_rest 36 = .ok (.iaload, 1) := by decide +kernel
theorem dX12_rest_37 : decode cX12_rest 37 = .ok (.if_icmp .ge 77, 3) := by decide +kernel
theorem dX12_rest_40 : decode cX12_rest 40 = .ok (.aload_n 0, 1) := by decide +kernel
theorem dX12_rest_41 : decode cX12_rest 41 = .ok (.getfield 127, 3) := by decide +kernel
theorem dX12_rest_44 : decode cX12_rest 44 = .ok (.iload_n 2, 1) := by decide +kernel
theorem dX12_rest_45 : decode cX12_rest 45 = .ok (.iaload, 1) := by decide +kernel
theorem dX12_rest_46 : decode cX12_rest 46 = .ok (.iconst (-1), 1) := by decide +kernel
theorem dX12_rest_47 : decode cX12_rest 47 = .ok (.if_icmp .ne 6, 3) := by decide +kernel
theorem dX12_rest_50 : decode cX12_rest 50 = .ok (.goto 58, 3) := by decide +kernel
theorem dX12_rest_53 : decode cX12_rest 53 = .ok (.aload_n 0, 1) := by decide +kernel
theorem dX12_rest_54 : decode cX12_rest 54 = .ok (.getfield 121, 3) := by decide +kernel
theorem dX12_rest_57 : decode cX12_rest 57 = .ok (.iload_n 1, 1) := by decide +kernel
theorem dX12_rest_58 : decode cX12_rest 58 = .ok (.aaload, 1) := by decide +kernel
theorem dX12_rest_59 : decode cX12_rest 59 = .ok (.aload_n 0, 1) := by decide +kernel
theorem dX12_rest_60 : decode cX12_rest 60 = .ok (.getfield 127, 3) := by decide +kernel
theorem dX12_rest_63 : decode cX12_rest 63 = .ok (.iload_n 2, 1) := by decide +kernel
theorem dX12_rest_64 : decode cX12_rest 64 = .ok (.iaload, 1) := by decide +kernel
theorem dX12_rest_65 : decode cX12_rest 65 = .ok (.dup2, 1) := by decide +kernel
theorem dX12_rest_66 : decode cX12_rest 66 = .ok (.laload, 1) := by decide +kernel
theorem dX12_rest_67 : decode cX12_rest 67 = .ok (.aload_n 0, 1) := by decide +kernel
theorem dX12_rest_68 : decode cX12_rest 68 = .ok (.iload_n 2, 1) := by decide +kernel
theorem dX12_rest_69 : decode cX12_rest 69 = .ok (.iconst 0, 1) := by decide +kernel
theorem dX12_rest_70 : decode cX12_rest 70 = .ok (.invokevirtual 383, 3) := by decide +kernel
theorem dX12_rest_73 : decode cX12_rest 73 = .ok (.ladd, 1) := by decide +kernel
theorem dX12_rest_74 : decode cX12_rest 74 = .ok (.lastore, 1) := by decide +kernel
theorem dX12_rest_75 : decode cX12_rest 75 = .ok (.aload_n 0, 1) := by decide +kernel
theorem dX12_rest_76 : decode cX12_rest 76 = .ok (.getfield 121, 3) := by decide +kernel
theorem dX12_rest_79 : decode cX12_rest 79 = .ok (.iload_n 1, 1) := by decide +kernel
theorem dX12_rest_80 : decode cX12_rest 80 = .ok (.aaload, 1) := by decide +kernel
theorem dX12_rest_81 : decode cX12_rest 81 = .ok (.aload_n 0, 1) := by decide +kernel
theorem dX12_rest_82 : decode cX12_rest 82 = .ok (.getfield 127, 3) := by decide +kernel
theorem dX12_rest_85 : decode cX12_rest 85 = .ok (.iload_n 2, 1) := by decide +kernel
theorem dX12_rest_86 : decode cX12_rest 86 = .ok (.iaload, 1) := by decide +kernel
theorem dX12_rest_87 : decode cX12_rest 87 = .ok (.aload_n 0, 1) := by decide +kernel
theorem dX12_rest_88 : decode cX12_rest 88 = .ok (.getfield 61, 3) := by decide +kernel
theorem dX12_rest_91 : decode cX12_rest 91 = .ok (.iload_n 2, 1) := by decide +kernel
theorem dX12_rest_92 : decode cX12_rest 92 = .ok (.aaload, 1) := by decide +kernel
theorem dX12_rest_93 : decode cX12_rest 93 = .ok (.iconst 1, 1) := by decide +kernel
theorem dX12_rest_94 : decode cX12_rest 94 = .ok (.iaload, 1) := by decide +kernel
theorem dX12_rest_95 : decode cX12_rest 95 = .ok (.iadd, 1) := by decide +kernel
theorem dX12_rest_96 : decode cX12_rest 96 = .ok (.iconst 1, 1) := by decide +kernel
theorem dX12_rest_97 : decode cX12_rest 97 = .ok (.isub, 1) := by decide +kernel
theorem dX12_rest_98 : decode cX12_rest 98 = .ok (.dup2, 1) := by decide +kernel
theorem dX12_rest_99 : decode cX12_rest 99 = .ok (.laload, 1) := by decide +kernel
theorem dX12_rest_100 : decode cX12_rest 100 = .ok (.aload_n 0, 1) := by decide +kernel
theorem dX12_rest_101 : decode cX12_rest 101 = .ok (.iload_n 2, 1) := by decide +kernel
theorem dX12_rest_102 : decode cX12_rest 102 = .ok (.iconst 1, 1) := by decide +kernel
theorem dX12_rest_103 : decode cX12_rest 103 = .ok (.invokevirtual 383, 3) := by decide +kernel
theorem dX12_rest_106 : decode cX12_rest 106 = .ok (.ladd, 1) := by decide +kernel
theorem dX12_rest_107 : decode cX12_rest 107 = .ok (.lastore, 1) := by decide +kernel
theorem dX12_rest_108 : decode cX12_rest 108 = .ok (.iinc 2 1, 3) := by decide +kernel
theorem dX12_rest_111 : decode cX12_rest 111 = .ok (.goto (-82), 3) := by decide +kernel
theorem dX12_rest_114 : decode cX12_rest 114 = .ok (.return_, 1) := by decide +kernel
theorem ct_X12_rest {g : Gw} (hG : GF g) {z : Bool} (E : Mm) (P : SP) (Q : RX) (hP : WS P) (hR_E : RTS E P Q) (pl : Nat → Int) (hpl_E : ∀ b, b < bN (sB P) → E 782 b = pl b) (hPL : PLo (sW P) (sB P) pl) (h : Nat) (hh : h < 24) : CT g yX12_rest cX12_rest 3 none 1 25 0 0 K2 z [mR 125, mI ((h : Nat) : Int)] (ov E) K2 z (fun r D' => r = none ∧ ∃ E1, D' = ov E1 ∧ (∀ c, c < sW P → E1 (733 + h) c = wtN (sB P) pl c (bN (sB P))) ∧ ∀ q, q ≠ 733 + h → E1 q = E q) := by
  refine CT.mk hG (by decide +kernel) (Nat.le_of_ble_eq_true rfl) (fun κ X Rt _ ok => ?_)
  have hN8 := hP.B.N
  have hW40 := hP.W
  refine at_iconst 1 X (by decide) dX12_rest_0 rfl ?_
  refine at_istore_n 2 X rfl dX12_rest_1 rfl (by decide) ?_
  have J2 : ∀ (f2 : Nat) (F : Mm) (c : Nat), 40 - c < f2 → (c ≤ sW P) → ((∀ j, j < c → F (733 + h) j = 0)) → ((∀ q, q ≠ 733 + h → F q = E q)) → AT g κ K2 z 0 0 2 [(0, mR 125), (1, mI ((h : Nat) : Int)), (2, mI ((c : Nat) : Int))] [] (ov F) := by
    intro f2
    induction f2 with
    | zero => intro F c hf2; omega
    | succ f2 ih2 =>
    intro F c hf2 hc hz hf_F
    refine at_iload_n 3 X rfl rfl dX12_rest_2 rfl ?_
    have hR_F : RTS F P Q := hR_E.fr (fun q hq => hf_F q (by omega)) hP
    refine at_aload_n 4 X rfl rfl dX12_rest_3 rfl ?_
    refine m_getR 7 X f_X12_23 k_125 r_125_12 dX12_rest_4 rfl ?_
    refine at_iconst 8 X (by decide) dX12_rest_7 rfl ?_
    refine m_ialoadV 9 X 0 (by omega) ((sW P : Nat) : Int) hR_F.1.1 k_129 e_129 (by omega) dX12_rest_8 rfl ?_
    have := hP.W
    refine at_icmp_ge 12 27 X dX12_rest_9 rfl (by decide) (fun h9 => ?_) (fun h9 => ?_)
    · refine at_iconst 28 X (by decide) dX12_rest_27 rfl ?_
      refine at_istore_n 29 X rfl dX12_rest_28 rfl (by decide) ?_
      have J29 : ∀ (f29 : Nat) (F2 : Mm) (b : Nat), 8 - b < f29 → (b ≤ bN (sB P)) → ((∀ c, c < sW P → F2 (733 + h) c = wtN (sB P) pl c b)) → ((∀ q, q ≠ 733 + h → F2 q = E q)) → AT g κ K2 z 0 0 29 [(0, mR 125), (1, mI ((h : Nat) : Int)), (2, mI ((b : Nat) : Int))] [] (ov F2) := by
        intro f29
        induction f29 with
        | zero => intro F2 b hf29; omega
        | succ f29 ih29 =>
        intro F2 b hf29 hb hr_F2 hf_F2
        refine at_iload_n 30 X rfl rfl dX12_rest_29 rfl ?_
        have hR_F2 : RTS F2 P Q := hR_E.fr (fun q hq => hf_F2 q (by omega)) hP
        have hpl_F2 : ∀ b, b < bN (sB P) → F2 782 b = pl b := by rw [hf_F2 782 (by omega)]; exact hpl_E
        refine at_aload_n 31 X rfl rfl dX12_rest_30 rfl ?_
        refine m_getR 34 X f_X12_23 k_125 r_125_12 dX12_rest_31 rfl ?_
        refine at_bipush 36 X (by decide) (by decide) dX12_rest_34 rfl ?_
        refine m_ialoadV 37 X 6 (by omega) ((bN (sB P) : Nat) : Int) hR_F2.1.2.2.2.2.2.2.1 k_129 e_129 (by omega) dX12_rest_36 rfl ?_
        have := hP.B.N
        refine at_icmp_ge 40 114 X dX12_rest_37 rfl (by decide) (fun h37 => ?_) (fun h37 => ?_)
        · refine at_vret X Rt ?_ (Nat.le_refl _) (Nat.le_refl _) dX12_rest_114
          exact ⟨rfl, F2, rfl, fun c hc => by rw [show bN (sB P) = b by omega]; exact hr_F2 c hc, hf_F2⟩
        · refine at_aload_n 41 X rfl rfl dX12_rest_40 rfl ?_
          refine m_getR 44 X f_X12_127 k_125 r_125_57 dX12_rest_41 rfl ?_
          refine at_iload_n 45 X rfl rfl dX12_rest_44 rfl ?_
          refine m_ialoadV 46 X b (by omega) (pl b) (hpl_F2 b (by omega)) k_782 e_782 (by omega) dX12_rest_45 rfl ?_
          have := hPL b (by omega)
          refine at_iconst 47 X (by decide) dX12_rest_46 rfl ?_
          refine at_icmp_ne 50 53 X dX12_rest_47 rfl (by decide) (fun h47 => ?_) (fun h47 => ?_)
          · obtain ⟨x, hx⟩ : ∃ x : Nat, pl b = (x : Int) := ⟨(pl b).toNat, by omega⟩
            have hl2 := hP.B.L (b := b) (by omega)
            refine at_aload_n 54 X rfl rfl dX12_rest_53 rfl ?_
            refine m_getR 57 X f_X12_121 k_125 r_125_55 dX12_rest_54 rfl ?_
            refine at_iload_n 58 X rfl rfl dX12_rest_57 rfl ?_
            refine m_aaloadV 59 X h (by omega) k_732 (by decide) (by omega) (rr_732 _ (by omega)) dX12_rest_58 rfl ?_
            refine at_aload_n 60 X rfl rfl dX12_rest_59 rfl ?_
            refine m_getR 63 X f_X12_127 k_125 r_125_57 dX12_rest_60 rfl ?_
            refine at_iload_n 64 X rfl rfl dX12_rest_63 rfl ?_
            refine m_ialoadV 65 X b (by omega) ((x : Nat) : Int) ((hpl_F2 b (by omega)).trans hx) k_782 e_782 (by omega) dX12_rest_64 rfl ?_
            refine at_dup2 66 X (show ¬ (0 : Nat) = 1 by decide) (show ¬ (2 : Nat) = 1 by decide) dX12_rest_65 rfl ?_
            refine m_laloadV 67 X x (by omega) (wtN (sB P) pl x b) (hr_F2 x (by omega)) (kr_732 _ (by omega)) (er_732 _ (by omega)) (by omega) dX12_rest_66 rfl ?_
            have := wtN_in hP.B pl x (n := b) (by omega)
            refine at_aload_n 68 X rfl rfl dX12_rest_67 rfl ?_
            refine at_iload_n 69 X rfl rfl dX12_rest_68 rfl ?_
            refine at_iconst 70 X (by decide) dX12_rest_69 rfl ?_
            refine at_callV 73 X _ 12 (ct_X12_putsOf hG F2 P Q hP hR_F2 b 0 (by omega)) clX12 rfl k_125 mo_X12_putsOf w_2213 vo_X12_putsOf.1 vo_X12_putsOf.2 rfl rfl (crm Rt (by decide)) (Nat.le_of_ble_eq_true rfl) dX12_rest_70 rfl ?_
            rintro _ _ ⟨rfl, rfl⟩
            have hol := onL_le hP.B (b := b) (by omega)
            have hor := onR_le hP.B (b := b) (by omega)
            refine at_laddV 74 X ((wtN (sB P) pl x b) + ((onL (sB P) b : Nat) : Int)) (w64_v rfl (by omega) (by omega)) dX12_rest_73 rfl ?_
            refine m_lastoreV 75 X x (by omega) (kr_732 _ (by omega)) (er_732 _ (by omega)) (by omega) dX12_rest_74 rfl ?_
            refine at_aload_n 76 X rfl rfl dX12_rest_75 rfl ?_
            refine m_getR 79 X f_X12_121 k_125 r_125_55 dX12_rest_76 rfl ?_
            refine at_iload_n 80 X rfl rfl dX12_rest_79 rfl ?_
            refine m_aaloadV 81 X h (by omega) k_732 (by decide) (by omega) (rr_732 _ (by omega)) dX12_rest_80 rfl ?_
            refine at_aload_n 82 X rfl rfl dX12_rest_81 rfl ?_
            refine m_getR 85 X f_X12_127 k_125 r_125_57 dX12_rest_82 rfl ?_
            refine at_iload_n 86 X rfl rfl dX12_rest_85 rfl ?_
            refine m_ialoadV 87 X b (by omega) ((x : Nat) : Int) ((wr_o (by omega)).trans ((hpl_F2 b (by omega)).trans hx)) k_782 e_782 (by omega) dX12_rest_86 rfl ?_
            refine at_aload_n 88 X rfl rfl dX12_rest_87 rfl ?_
            refine m_getR 91 X f_X12_61 k_125 r_125_24 dX12_rest_88 rfl ?_
            refine at_iload_n 92 X rfl rfl dX12_rest_91 rfl ?_
            refine m_aaloadV 93 X b (by omega) k_227 (by decide) (by omega) (rr_227 _ (by omega)) dX12_rest_92 rfl ?_
            refine at_iconst 94 X (by decide) dX12_rest_93 rfl ?_
            refine m_ialoadV 95 X 1 (by omega) ((bL (sB P) b : Nat) : Int) ((wr_o (by omega)).trans (hR_F2.2.2.2.2.2.2 b (by omega)).2.1) (kr_227 _ (by omega)) (er_227 _ (by omega)) (by omega) dX12_rest_94 rfl ?_
            have := hP.B.L (b := b) (by omega)
            refine at_iaddV 96 X ((x + bL (sB P) b : Nat) : Int) (w32_v (by omega) (by omega) (by omega)) dX12_rest_95 rfl ?_
            refine at_iconst 97 X (by decide) dX12_rest_96 rfl ?_
            refine at_isubV 98 X ((x + bL (sB P) b - 1 : Nat) : Int) (w32_v (by omega) (by omega) (by omega)) dX12_rest_97 rfl ?_
            refine at_dup2 99 X (show ¬ (0 : Nat) = 1 by decide) (show ¬ (2 : Nat) = 1 by decide) dX12_rest_98 rfl ?_
            refine m_laloadV 100 X (x + bL (sB P) b - 1) (by omega) (wtN (sB P) pl (x + bL (sB P) b - 1) b) ((wr_o (by omega)).trans (hr_F2 (x + bL (sB P) b - 1) (by omega))) (kr_732 _ (by omega)) (er_732 _ (by omega)) (by omega) dX12_rest_99 rfl ?_
            have := wtN_in hP.B pl (x + bL (sB P) b - 1) (n := b) (by omega)
            refine at_aload_n 101 X rfl rfl dX12_rest_100 rfl ?_
            refine at_iload_n 102 X rfl rfl dX12_rest_101 rfl ?_
            refine at_iconst 103 X (by decide) dX12_rest_102 rfl ?_
            refine at_callV 106 X _ 12 (ct_X12_putsOf hG (wr F2 (733 + h) x ((wtN (sB P) pl x b) + ((onL (sB P) b : Nat) : Int))) P Q hP (hR_F2.fr (fun q hq => by simp (disch := omega) only [wr_row]) hP) b 1 (by omega)) clX12 rfl k_125 mo_X12_putsOf w_2213 vo_X12_putsOf.1 vo_X12_putsOf.2 rfl rfl (crm Rt (by decide)) (Nat.le_of_ble_eq_true rfl) dX12_rest_103 rfl ?_
            rintro _ _ ⟨rfl, rfl⟩
            have hol := onL_le hP.B (b := b) (by omega)
            have hor := onR_le hP.B (b := b) (by omega)
            refine at_laddV 107 X ((wtN (sB P) pl (x + bL (sB P) b - 1) b) + ((onR (sB P) b : Nat) : Int)) (w64_v rfl (by omega) (by omega)) dX12_rest_106 rfl ?_
            refine m_lastoreV 108 X (x + bL (sB P) b - 1) (by omega) (kr_732 _ (by omega)) (er_732 _ (by omega)) (by omega) dX12_rest_107 rfl ?_
            refine at_iincV 111 X ((b + 1 : Nat) : Int) (w32_v (by omega) (by omega) (by omega)) rfl dX12_rest_108 rfl (by decide) ?_
            refine at_goto 29 X dX12_rest_111 (by decide) ?_
            exact at_sub _ (by exact ⟨rfl, rfl, rfl, trivial⟩) (ih29 (wr (wr F2 (733 + h) x ((wtN (sB P) pl x b) + ((onL (sB P) b : Nat) : Int))) (733 + h) (x + bL (sB P) b - 1) ((wtN (sB P) pl (x + bL (sB P) b - 1) b) + ((onR (sB P) b : Nat) : Int))) (b + 1) (by first | omega | (simp only [] at *; omega)) (by first | omega | assumption) (fun c hc => by show _ = wtN (sB P) pl c b + wt1 (sB P) pl b c; first | (rw [show wt1 (sB P) pl b c = 0 from if_pos (by omega), Int.add_zero]; exact hr_F2 c hc) | (rw [addw2 hl2.1 (by rw [hr_F2 x (by omega)]) (by rw [hr_F2 (x + bL (sB P) b - 1) (by omega)]), hr_F2 c hc, wt1_at hl2.1 hx])) (fun q hq => by first | exact hf_F2 q hq | (rw [wr_row hq, wr_row hq]; exact hf_F2 q hq)))
          · refine at_goto 108 X dX12_rest_50 (by decide) ?_
            refine at_iincV 111 X ((b + 1 : Nat) : Int) (w32_v (by omega) (by omega) (by omega)) rfl dX12_rest_108 rfl (by decide) ?_
            refine at_goto 29 X dX12_rest_111 (by decide) ?_
            exact at_sub _ (by exact ⟨rfl, rfl, rfl, trivial⟩) (ih29 F2 (b + 1) (by first | omega | (simp only [] at *; omega)) (by first | omega | assumption) (fun c hc => by show _ = wtN (sB P) pl c b + wt1 (sB P) pl b c; first | (rw [show wt1 (sB P) pl b c = 0 from if_pos (by omega), Int.add_zero]; exact hr_F2 c hc) | (rw [addw2 hl2.1 (by rw [hr_F2 x (by omega)]) (by rw [hr_F2 (x + bL (sB P) b - 1) (by omega)]), hr_F2 c hc, wt1_at hl2.1 hx])) (fun q hq => by first | exact hf_F2 q hq | (rw [wr_row hq, wr_row hq]; exact hf_F2 q hq)))
      exact at_sub _ (by exact ⟨rfl, rfl, rfl, trivial⟩) (J29 _ F 0 (Nat.lt_succ_self _) (by first | omega | assumption | rfl) (fun j hj => hz j (by omega)) hf_F)
    · refine at_aload_n 13 X rfl rfl dX12_rest_12 rfl ?_
      refine m_getR 16 X f_X12_121 k_125 r_125_55 dX12_rest_13 rfl ?_
      refine at_iload_n 17 X rfl rfl dX12_rest_16 rfl ?_
      refine m_aaloadV 18 X h (by omega) k_732 (by decide) (by omega) (rr_732 _ (by omega)) dX12_rest_17 rfl ?_
      refine at_iload_n 19 X rfl rfl dX12_rest_18 rfl ?_
      refine at_lconst 20 X (v := 0) (by decide) (by decide) dX12_rest_19 rfl ?_
      refine m_lastoreV 21 X c (by omega) (kr_732 _ (by omega)) (er_732 _ (by omega)) (by omega) dX12_rest_20 rfl ?_
      refine at_iincV 24 X ((c + 1 : Nat) : Int) (w32_v (by omega) (by omega) (by omega)) rfl dX12_rest_21 rfl (by decide) ?_
      refine at_goto 2 X dX12_rest_24 (by decide) ?_
      exact at_sub _ (by exact ⟨rfl, rfl, rfl, trivial⟩) (ih2 (wr F (733 + h) c 0) (c + 1) (by first | omega | (simp only [] at *; omega)) (by first | omega | assumption) (row_ext (F := fun _ => 0) hz rfl) (fun q hq => by rw [wr_row hq]; exact hf_F q hq))
  exact at_sub _ (by exact ⟨rfl, rfl, rfl, trivial⟩) (J2 _ E 0 (Nat.lt_succ_self _) (by first | omega | assumption | rfl) (fun j hj => absurd hj (Nat.not_lt_zero j)) (fun _ _ => rfl))
theorem dX12_isOver_0 : decode cX12_isOver 0 = .ok (.aload_n 0, 1) := by decide +kernel
theorem dX12_isOver_1 : decode cX12_isOver 1 = .ok (.getfield 121, 3) := by decide +kernel
theorem dX12_isOver_4 : decode cX12_isOver 4 = .ok (.iload_n 1, 1) := by decide +kernel
theorem dX12_isOver_5 : decode cX12_isOver 5 = .ok (.aaload, 1) := by decide +kernel
theorem dX12_isOver_6 : decode cX12_isOver 6 = .ok (.iload_n 2, 1) := by decide +kernel
theorem dX12_isOver_7 : decode cX12_isOver 7 = .ok (.laload, 1) := by decide +kernel
theorem dX12_isOver_8 : decode cX12_isOver 8 = .ok (.aload_n 0, 1) := by decide +kernel
theorem dX12_isOver_9 : decode cX12_isOver 9 = .ok (.getfield 116, 3) := by decide +kernel
theorem dX12_isOver_12 : decode cX12_isOver 12 = .ok (.iload_n 1, 1) := by decide +kernel
theorem dX12_isOver_13 : decode cX12_isOver 13 = .ok (.aaload, 1) := by decide +kernel
theorem dX12_isOver_14 : decode cX12_isOver 14 = .ok (.iload_n 2, 1) := by decide +kernel
theorem dX12_isOver_15 : decode cX12_isOver 15 = .ok (.iaload, 1) := by decide +kernel
theorem dX12_isOver_16 : decode cX12_isOver 16 = .ok (.i2l, 1) := by decide +kernel
theorem dX12_isOver_17 : decode cX12_isOver 17 = .ok (.ldc2_w 381, 3) := by decide +kernel
theorem dX12_isOver_20 : decode cX12_isOver 20 = .ok (.lmul, 1) := by decide +kernel
theorem dX12_isOver_21 : decode cX12_isOver 21 = .ok (.lcmp, 1) := by decide +kernel
theorem dX12_isOver_22 : decode cX12_isOver 22 = .ok (.ifCond .le 7, 3) := by decide +kernel
theorem dX12_isOver_25 : decode cX12_isOver 25 = .ok (.iconst 1, 1) := by decide +kernel
theorem dX12_isOver_26 : decode cX12_isOver 26 = .ok (.goto 4, 3) := by decide +kernel
theorem dX12_isOver_29 : decode cX12_isOver 29 = .ok (.iconst 0, 1) := by decide +kernel
theorem dX12_isOver_30 : decode cX12_isOver 30 = .ok (.ireturn, 1) := by decide +kernel
theorem ct_X12_isOver {g : Gw} (hG : GF g) {z : Bool} (E : Mm) (P : SP) (hP : WS P) (G : GP) (pl : Nat → Int) (h x : Nat) (hh : h < 24) (hx : x < 40) (hr : E (733 + h) x = wtN (sB P) pl x (bN (sB P))) (hb : E (708 + h) x = bOn G h x) : CT g yX12_isOver cX12_isOver 3 (some .boolean) 0 0 0 0 K2 z [mR 125, mI ((h : Nat) : Int), mI ((x : Nat) : Int)] (ov E) K2 z (fun r D' => r = some (mI (if bOn G h x * 232792560 < wtN (sB P) pl x (bN (sB P)) then 1 else 0)) ∧ D' = ov E) := by
  refine CT.mk hG (by decide +kernel) (Nat.le_of_ble_eq_true rfl) (fun κ X Rt _ ok => ?_)
  have hN8 := hP.B.N
  refine at_aload_n 1 X rfl rfl dX12_isOver_0 rfl ?_
  refine m_getR 4 X f_X12_121 k_125 r_125_55 dX12_isOver_1 rfl ?_
  refine at_iload_n 5 X rfl rfl dX12_isOver_4 rfl ?_
  refine m_aaloadV 6 X h (by omega) k_732 (by decide) (by omega) (rr_732 _ (by omega)) dX12_isOver_5 rfl ?_
  refine at_iload_n 7 X rfl rfl dX12_isOver_6 rfl ?_
  refine m_laloadV 8 X x (by omega) (wtN (sB P) pl x (bN (sB P))) hr (kr_732 _ (by omega)) (er_732 _ (by omega)) (by omega) dX12_isOver_7 rfl ?_
  have := wtN_in hP.B pl x (Nat.le_refl (bN (sB P)))
  refine at_aload_n 9 X rfl rfl dX12_isOver_8 rfl ?_
  refine m_getR 12 X f_X12_116 k_125 r_125_51 dX12_isOver_9 rfl ?_
  refine at_iload_n 13 X rfl rfl dX12_isOver_12 rfl ?_
  refine m_aaloadV 14 X h (by omega) k_707 (by decide) (by omega) (rr_707 _ (by omega)) dX12_isOver_13 rfl ?_
  refine at_iload_n 15 X rfl rfl dX12_isOver_14 rfl ?_
  refine m_ialoadV 16 X x (by omega) (bOn G h x) hb (kr_707 _ (by omega)) (er_707 _ (by omega)) (by omega) dX12_isOver_15 rfl ?_
  have := bOn_in G h x
  refine at_i2l 17 X dX12_isOver_16 rfl ?_
  refine at_ldc2 20 X (n := 232792560) w_2217 (by decide) (by decide) dX12_isOver_17 rfl ?_
  refine at_lmulV 21 X ((bOn G h x) * 232792560) (w64_v rfl (by omega) (by omega)) dX12_isOver_20 rfl ?_
  refine at_lif_le 22 25 29 X dX12_isOver_21 rfl dX12_isOver_22 rfl (by decide) (fun h21 => ?_) (fun h21 => ?_)
  · refine at_iconst 30 X (by decide) dX12_isOver_29 rfl ?_
    refine at_zret X Rt ?_ (by first | decide | (split <;> decide)) (Nat.le_refl _) (Nat.le_refl _) dX12_isOver_30
    first | exact ⟨by rw [if_pos (by omega)], rfl⟩ | exact ⟨by rw [if_neg (by omega)], rfl⟩
  · refine at_iconst 26 X (by decide) dX12_isOver_25 rfl ?_
    refine at_goto 30 X dX12_isOver_26 (by decide) ?_
    refine at_zret X Rt ?_ (by first | decide | (split <;> decide)) (Nat.le_refl _) (Nat.le_refl _) dX12_isOver_30
    first | exact ⟨by rw [if_pos (by omega)], rfl⟩ | exact ⟨by rw [if_neg (by omega)], rfl⟩
