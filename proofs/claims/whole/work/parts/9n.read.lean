theorem addB_L (B : BM) (x l m : Nat) : bL (addB B x l m) (bN B) = l := pt1_s _ _ _
theorem addB_H (B : BM) (x l m : Nat) : bH (addB B x l m) (bN B) = m := pt1_s _ _ _
theorem addB_D (B : BM) (x l m p : Nat) : bD (addB B x l m) (bN B) p = 0 := congrFun (pt1_s _ _ _) p
theorem addB_o {B : BM} {x l m b : Nat} (h : b < bN B) : bX (addB B x l m) b = bX B b ∧ bL (addB B x l m) b = bL B b ∧ bH (addB B x l m) b = bH B b ∧ ∀ p, bD (addB B x l m) b p = bD B b p := ⟨pt1_o (by omega), pt1_o (by omega), pt1_o (by omega), fun p => congrFun (pt1_o (by omega)) p⟩
theorem dX0_add_0 : decode cX0_add 0 = .ok (.aload_n 0, 1) := by decide +kernel
theorem dX0_add_1 : decode cX0_add 1 = .ok (.getfield 31, 3) := by decide +kernel
theorem dX0_add_4 : decode cX0_add 4 = .ok (.bipush 8, 2) := by decide +kernel
theorem dX0_add_6 : decode cX0_add 6 = .ok (.if_icmp .ge 51, 3) := by decide +kernel
theorem dX0_add_9 : decode cX0_add 9 = .ok (.aload_n 0, 1) := by decide +kernel
theorem dX0_add_10 : decode cX0_add 10 = .ok (.getfield 9, 3) := by decide +kernel
theorem dX0_add_13 : decode cX0_add 13 = .ok (.aload_n 0, 1) := by decide +kernel
theorem dX0_add_14 : decode cX0_add 14 = .ok (.getfield 31, 3) := by decide +kernel
theorem dX0_add_17 : decode cX0_add 17 = .ok (.iload_n 1, 1) := by decide +kernel
theorem dX0_add_18 : decode cX0_add 18 = .ok (.iastore, 1) := by decide +kernel
theorem dX0_add_19 : decode cX0_add 19 = .ok (.aload_n 0, 1) := by decide +kernel
theorem dX0_add_20 : decode cX0_add 20 = .ok (.getfield 15, 3) := by decide +kernel
theorem dX0_add_23 : decode cX0_add 23 = .ok (.aload_n 0, 1) := by decide +kernel
theorem dX0_add_24 : decode cX0_add 24 = .ok (.getfield 31, 3) := by decide +kernel
theorem dX0_add_27 : decode cX0_add 27 = .ok (.iload_n 2, 1) := by decide +kernel
theorem dX0_add_28 : decode cX0_add 28 = .ok (.iastore, 1) := by decide +kernel
theorem dX0_add_29 : decode cX0_add 29 = .ok (.aload_n 0, 1) := by decide +kernel
theorem dX0_add_30 : decode cX0_add 30 = .ok (.getfield 18, 3) := by decide +kernel
theorem dX0_add_33 : decode cX0_add 33 = .ok (.aload_n 0, 1) := by decide +kernel
theorem dX0_add_34 : decode cX0_add 34 = .ok (.getfield 31, 3) := by decide +kernel
theorem dX0_add_37 : decode cX0_add 37 = .ok (.iload_n 3, 1) := by decide +kernel
theorem dX0_add_38 : decode cX0_add 38 = .ok (.iastore, 1) := by decide +kernel
theorem dX0_add_39 : decode cX0_add 39 = .ok (.aload_n 0, 1) := by decide +kernel
theorem dX0_add_40 : decode cX0_add 40 = .ok (.aload_n 0, 1) := by decide +kernel
theorem dX0_add_41 : decode cX0_add 41 = .ok (.getfield 31, 3) := by decide +kernel
theorem dX0_add_44 : decode cX0_add 44 = .ok (.invokevirtual 41, 3) := by decide +kernel
theorem dX0_add_47 : decode cX0_add 47 = .ok (.aload_n 0, 1) := by decide +kernel
theorem dX0_add_48 : decode cX0_add 48 = .ok (.dup, 1) := by decide +kernel
theorem dX0_add_49 : decode cX0_add 49 = .ok (.getfield 31, 3) := by decide +kernel
theorem dX0_add_52 : decode cX0_add 52 = .ok (.iconst 1, 1) := by decide +kernel
theorem dX0_add_53 : decode cX0_add 53 = .ok (.iadd, 1) := by decide +kernel
theorem dX0_add_54 : decode cX0_add 54 = .ok (.putfield 31, 3) := by decide +kernel
theorem dX0_add_57 : decode cX0_add 57 = .ok (.return_, 1) := by decide +kernel
theorem ct_X0_add {g : Gw} (hG : GF g) {z : Bool} (E : Mm) (B : BM) (a : Nat) (ha : a = 76 ∨ a = 91) (hN : E a 6 = ((bN B : Nat) : Int)) (hN8 : bN B < 8) (x l m : Nat) (hl : 2 ≤ l ∧ l ≤ 20) (hm : m ≤ 9) (hz : ∀ p, p < 20 → E (a + 4) (bN B * 20 + p) = 0) : CT g yX0_add cX0_add 4 none 1 31 0 0 K2 z [mR a, mI ((x : Nat) : Int), mI ((l : Nat) : Int), mI ((m : Nat) : Int)] (ov E) K2 z (fun r D' => r = none ∧ D' = ov (wr (wr (wr (wr (wr (wr E (a + 1) (bN B) (x : Int)) (a + 2) (bN B) (l : Int)) (a + 3) (bN B) (m : Int)) (a + 5) (bN B) ((onL (addB B x l m) (bN B) : Nat) : Int)) (a + 6) (bN B) ((onR (addB B x l m) (bN B) : Nat) : Int)) a 6 ((bN B + 1 : Nat) : Int))) := by
  refine CT.mk hG (by decide +kernel) (Nat.le_of_ble_eq_true rfl) (fun κ X Rt _ ok => ?_)
  refine at_aload_n 1 X rfl rfl dX0_add_0 rfl ?_
  refine m_getIV 4 X ((bN B : Nat) : Int) hN f_X0_31 (kX0 ha) (nX0_6 ha) dX0_add_1 rfl ?_
  refine at_bipush 6 X (by decide) (by decide) dX0_add_4 rfl ?_
  refine at_icmp_ge 9 57 X dX0_add_6 rfl (by decide) (fun h6 => ?_) (fun h6 => ?_)
  · exfalso; omega
  · refine at_aload_n 10 X rfl rfl dX0_add_9 rfl ?_
    refine m_getR 13 X f_X0_9 (kX0 ha) (rX0_0 ha) dX0_add_10 rfl ?_
    refine at_aload_n 14 X rfl rfl dX0_add_13 rfl ?_
    refine m_getIV 17 X ((bN B : Nat) : Int) hN f_X0_31 (kX0 ha) (nX0_6 ha) dX0_add_14 rfl ?_
    refine at_iload_n 18 X rfl rfl dX0_add_17 rfl ?_
    refine m_iastoreV 19 X (bN B) (by omega) (kX0_0 ha) (eX0_0 ha) (by omega) dX0_add_18 rfl ?_
    refine at_aload_n 20 X rfl rfl dX0_add_19 rfl ?_
    refine m_getR 23 X f_X0_15 (kX0 ha) (rX0_1 ha) dX0_add_20 rfl ?_
    refine at_aload_n 24 X rfl rfl dX0_add_23 rfl ?_
    refine m_getIV 27 X ((bN B : Nat) : Int) ((wr_o (by omega)).trans hN) f_X0_31 (kX0 ha) (nX0_6 ha) dX0_add_24 rfl ?_
    refine at_iload_n 28 X rfl rfl dX0_add_27 rfl ?_
    refine m_iastoreV 29 X (bN B) (by omega) (kX0_1 ha) (eX0_1 ha) (by omega) dX0_add_28 rfl ?_
    refine at_aload_n 30 X rfl rfl dX0_add_29 rfl ?_
    refine m_getR 33 X f_X0_18 (kX0 ha) (rX0_2 ha) dX0_add_30 rfl ?_
    refine at_aload_n 34 X rfl rfl dX0_add_33 rfl ?_
    refine m_getIV 37 X ((bN B : Nat) : Int) ((wr_o (by omega)).trans ((wr_o (by omega)).trans hN)) f_X0_31 (kX0 ha) (nX0_6 ha) dX0_add_34 rfl ?_
    refine at_iload_n 38 X rfl rfl dX0_add_37 rfl ?_
    refine m_iastoreV 39 X (bN B) (by omega) (kX0_2 ha) (eX0_2 ha) (by omega) dX0_add_38 rfl ?_
    refine at_aload_n 40 X rfl rfl dX0_add_39 rfl ?_
    refine at_aload_n 41 X rfl rfl dX0_add_40 rfl ?_
    refine m_getIV 44 X ((bN B : Nat) : Int) ((wr_o (by omega)).trans ((wr_o (by omega)).trans ((wr_o (by omega)).trans hN))) f_X0_31 (kX0 ha) (nX0_6 ha) dX0_add_41 rfl ?_
    refine at_callV 47 X _ 0 (ct_X0_weigh hG (wr (wr (wr E (a + 1) (bN B) ((x : Nat) : Int)) (a + 2) (bN B) ((l : Nat) : Int)) (a + 3) (bN B) ((m : Nat) : Int)) (addB B x l m) a (bN B) ha (by omega) (by rw [addB_L]; simp (disch := omega) only [wr_o, wr_s]) (by rw [addB_H]; simp (disch := omega) only [wr_o, wr_s]) (fun p hp => by rw [addB_D]; simp (disch := omega) only [wr_o]; rw [addB_L] at hp; exact hz p (by omega)) (by rw [addB_L]; exact hl) (by rw [addB_H]; exact hm) (fun p hp => by rw [addB_D]; omega)) clX0 rfl (kX0 ha) mo_X0_weigh w_815 vo_X0_weigh.1 vo_X0_weigh.2 rfl rfl (crm Rt (by decide)) (Nat.le_of_ble_eq_true rfl) dX0_add_44 rfl ?_
    rintro _ _ ⟨rfl, rfl⟩
    refine at_aload_n 48 X rfl rfl dX0_add_47 rfl ?_
    refine at_dup 49 X (show ¬ (2 : Nat) = 1 by decide) dX0_add_48 rfl ?_
    refine m_getIV 52 X ((bN B : Nat) : Int) ((wr_o (by omega)).trans ((wr_o (by omega)).trans ((wr_o (by omega)).trans ((wr_o (by omega)).trans ((wr_o (by omega)).trans hN))))) f_X0_31 (kX0 ha) (nX0_6 ha) dX0_add_49 rfl ?_
    refine at_iconst 53 X (by decide) dX0_add_52 rfl ?_
    refine at_iaddV 54 X ((bN B + 1 : Nat) : Int) (w32_v (by omega) (by omega) (by omega)) dX0_add_53 rfl ?_
    refine m_putI 57 X f_X0_31 fw_0_6 (kX0 ha) (nX0_6 ha) dX0_add_54 rfl ?_
    refine at_vret X Rt ?_ (Nat.le_refl _) (Nat.le_refl _) dX0_add_57
    exact ⟨rfl, rfl⟩
theorem CSr_Be {E : Mm} {s ns : Nat} {P : SP} {x l m : Nat} (h : CSr E s P ns) (hN8 : bN (sB P) < 8) (hl : l ≤ 20) : CSr (wr (wr (wr (wr (wr (wr E (s + 8 + 1) (bN (sB P)) (x : Int)) (s + 8 + 2) (bN (sB P)) (l : Int)) (s + 8 + 3) (bN (sB P)) (m : Int)) (s + 8 + 5) (bN (sB P)) ((onL (addB (sB P) x l m) (bN (sB P)) : Nat) : Int)) (s + 8 + 6) (bN (sB P)) ((onR (addB (sB P) x l m) (bN (sB P)) : Nat) : Int)) (s + 8) 6 ((bN (sB P) + 1 : Nat) : Int)) s (setB P (addB (sB P) x l m)) (ns) := by
  obtain ⟨⟨h1, h2, h3, h4, h5, h6, h7, h8, h9, ha, hb, hc⟩, hn, hz⟩ := h
  exact ⟨⟨(by simp (disch := omega) only [wr_o]; exact h1),
    (by simp (disch := omega) only [wr_o]; exact h2),
    (fun p hp => by have := h3 p hp; simp (disch := omega) only [wr_o]; exact this),
    (by simp (disch := omega) only [wr_o]; exact h4),
    (fun t ht => by have := h5 t ht; simp (disch := omega) only [wr_o]; exact this),
    (by simp (disch := omega) only [wr_o]; exact h6),
    (fun m hm => by have := h7 m hm; simp (disch := omega) only [wr_o]; exact this),
    (by simp (disch := omega) only [wr_o]; exact h8),
    (by simp (disch := omega) only [wr_o]; exact h9),
    (by simp (disch := omega) only [wr_o]; exact ha),
    (by simp (disch := omega) only [wr_o]; exact hb),
    (by
      refine ⟨wr_s _ _ _ _, fun b hb => ?_⟩
      have hb' : b < bN (sB P) + 1 := hb
      by_cases c : b = bN (sB P)
      · subst c
        refine ⟨?_, ?_, ?_, fun p hp => ?_, ?_, ?_⟩
        · show _ = ((pt1 (bX (sB P)) (bN (sB P)) x (bN (sB P)) : Nat) : Int)
          rw [pt1_s]; simp (disch := omega) only [wr_o, wr_s]
        · show _ = ((bL (addB (sB P) x l m) (bN (sB P)) : Nat) : Int)
          rw [addB_L]; simp (disch := omega) only [wr_o, wr_s]
        · show _ = ((bH (addB (sB P) x l m) (bN (sB P)) : Nat) : Int)
          rw [addB_H]; simp (disch := omega) only [wr_o, wr_s]
        · have hp' : p < bL (addB (sB P) x l m) (bN (sB P)) := hp
          rw [addB_L] at hp'
          show _ = ((bD (addB (sB P) x l m) (bN (sB P)) p : Nat) : Int)
          rw [addB_D]; simp (disch := omega) only [wr_o]
          exact hz (bN (sB P)) p (Nat.le_refl _) hN8 (by omega)
        · show _ = ((onL (addB (sB P) x l m) (bN (sB P)) : Nat) : Int)
          simp (disch := omega) only [wr_o, wr_s]
        · show _ = ((onR (addB (sB P) x l m) (bN (sB P)) : Nat) : Int)
          simp (disch := omega) only [wr_o, wr_s]
      · have hbN : b < bN (sB P) := by omega
        obtain ⟨e1, e2, e3, e4⟩ := addB_o (B := sB P) (x := x) (l := l) (m := m) hbN
        obtain ⟨g1, g2, g3, g4, g5, g6⟩ := hc.2 b hbN
        obtain ⟨e5, e6⟩ := sum_o e2 e3 e4
        refine ⟨?_, ?_, ?_, fun p hp => ?_, ?_, ?_⟩
        · show _ = ((bX (addB (sB P) x l m) b : Nat) : Int)
          rw [e1]; simp (disch := omega) only [wr_o]; exact g1
        · show _ = ((bL (addB (sB P) x l m) b : Nat) : Int)
          rw [e2]; simp (disch := omega) only [wr_o]; exact g2
        · show _ = ((bH (addB (sB P) x l m) b : Nat) : Int)
          rw [e3]; simp (disch := omega) only [wr_o]; exact g3
        · have hp' : p < bL (addB (sB P) x l m) b := hp
          rw [e2] at hp'
          show _ = ((bD (addB (sB P) x l m) b p : Nat) : Int)
          rw [e4]; simp (disch := omega) only [wr_o]; exact g4 p hp'
        · show _ = ((onL (addB (sB P) x l m) b : Nat) : Int)
          rw [e5]; simp (disch := omega) only [wr_o]; exact g5
        · show _ = ((onR (addB (sB P) x l m) b : Nat) : Int)
          rw [e6]; simp (disch := omega) only [wr_o]; exact g6)⟩, (by simp (disch := omega) only [wr_o]; exact hn), (fun b p q1 q2 q3 => by have q1 : bN (sB P) + 1 ≤ b := q1; simp (disch := omega) only [wr_o]; exact hz b p (by omega) q2 q3)⟩
theorem rw_X0_weigh {g : Gw} (hG : GF g) {z : Bool} (E : Mm) (a b : Nat) (ha : a = 76 ∨ a = 91) (hb : b < 8) : CT g yX0_weigh cX0_weigh 12 none 0 0 0 0 K2 z [mR a, mI ((b : Nat) : Int)] (ov E) K2 z (fun r D' => r = none ∧ ∃ E1, D' = ov E1 ∧ ∀ q, q ≠ a + 5 → q ≠ a + 6 → E1 q = E q) := by
  refine CT.mk hG (by decide +kernel) (Nat.le_of_ble_eq_true rfl) (fun κ X Rt _ ok => ?_)
  refine at_aload_n 1 X rfl rfl dX0_weigh_0 rfl ?_
  refine m_getR 4 X f_X0_15 (kX0 ha) (rX0_1 ha) dX0_weigh_1 rfl ?_
  refine at_iload_n 5 X rfl rfl dX0_weigh_4 rfl ?_
  refine m_ialoadV 6 X b (by omega) (E (a + 2) b) rfl (kX0_1 ha) (eX0_1 ha) (by omega) dX0_weigh_5 rfl ?_
  refine at_iconst 7 X (by decide) dX0_weigh_6 rfl ?_
  refine at_isubV 8 X (w32 (E (a + 2) b - 1)) rfl dX0_weigh_7 rfl ?_
  refine at_istore_n 9 X rfl dX0_weigh_8 rfl (by decide) ?_
  refine at_iload_n 10 X rfl rfl dX0_weigh_9 rfl ?_
  refine at_if_gt 13 14 X dX0_weigh_10 rfl (by decide) (fun h10 => ?_) (fun h10 => ?_)
  · refine at_ldc2 17 X (n := 232792560) w_819 (by decide) (by decide) dX0_weigh_14 rfl ?_
    refine at_iload_n 18 X rfl rfl dX0_weigh_17 rfl ?_
    refine at_i2l 19 X dX0_weigh_18 rfl ?_
    refine at_ldivV 20 X (by omega) (w64 ((232792560 : Int).tdiv (w32 (E (a + 2) b - 1)))) rfl dX0_weigh_19 rfl ?_
    refine at_lstore_n 21 X rfl dX0_weigh_20 rfl (by decide) ?_
    refine at_lconst 22 X (v := 0) (by decide) (by decide) dX0_weigh_21 rfl ?_
    refine at_lstore 24 X dX0_weigh_22 rfl (by decide) ?_
    refine at_lconst 25 X (v := 0) (by decide) (by decide) dX0_weigh_24 rfl ?_
    refine at_lstore 27 X dX0_weigh_25 rfl (by decide) ?_
    refine at_iconst 28 X (by decide) dX0_weigh_27 rfl ?_
    refine at_istore 30 X dX0_weigh_28 rfl (by decide) ?_
    have J30 : ∀ (f30 : Nat) (i : Nat) (vl : Int) (vr : Int), 21 - i < f30 → (i ≤ 20) → AT g κ K2 z 0 0 30 [(0, mR a), (1, mI ((b : Nat) : Int)), (2, mI (w32 (E (a + 2) b - 1))), (3, mL (w64 ((232792560 : Int).tdiv (w32 (E (a + 2) b - 1))))), (5, mL vl), (7, mL vr), (9, mI ((i : Nat) : Int))] [] (ov E) := by
      intro f30
      induction f30 with
      | zero => intro i vl vr hf30; omega
      | succ f30 ih30 =>
      intro i vl vr hf30 hi
      refine at_iload 32 X rfl dX0_weigh_30 rfl ?_
      refine at_iload_n 33 X rfl rfl dX0_weigh_32 rfl ?_
      refine at_icmp_gt 36 95 X dX0_weigh_33 rfl (by decide) (fun h33 => ?_) (fun h33 => ?_)
      · refine at_aload_n 96 X rfl rfl dX0_weigh_95 rfl ?_
        refine m_getR 99 X f_X0_24 (kX0 ha) (rX0_4 ha) dX0_weigh_96 rfl ?_
        refine at_iload_n 100 X rfl rfl dX0_weigh_99 rfl ?_
        refine at_lload 102 X rfl dX0_weigh_100 rfl ?_
        refine at_lload_n 103 X rfl rfl dX0_weigh_102 rfl ?_
        refine at_lmulV 104 X (w64 (vl * w64 ((232792560 : Int).tdiv (w32 (E (a + 2) b - 1))))) rfl dX0_weigh_103 rfl ?_
        refine m_lastoreV 105 X b (by omega) (kX0_4 ha) (eX0_4 ha) (by omega) dX0_weigh_104 rfl ?_
        refine at_aload_n 106 X rfl rfl dX0_weigh_105 rfl ?_
        refine m_getR 109 X f_X0_28 (kX0 ha) (rX0_5 ha) dX0_weigh_106 rfl ?_
        refine at_iload_n 110 X rfl rfl dX0_weigh_109 rfl ?_
        refine at_lload 112 X rfl dX0_weigh_110 rfl ?_
        refine at_lload_n 113 X rfl rfl dX0_weigh_112 rfl ?_
        refine at_lmulV 114 X (w64 (vr * w64 ((232792560 : Int).tdiv (w32 (E (a + 2) b - 1))))) rfl dX0_weigh_113 rfl ?_
        refine m_lastoreV 115 X b (by omega) (kX0_5 ha) (eX0_5 ha) (by omega) dX0_weigh_114 rfl ?_
        refine at_vret X Rt ?_ (Nat.le_refl _) (Nat.le_refl _) dX0_weigh_115
        exact ⟨rfl, _, rfl, fun q h1 h2 => by simp (disch := omega) only [wr_row]⟩
      · refine at_iload 38 X rfl dX0_weigh_36 rfl ?_
        refine at_bipush 40 X (by decide) (by decide) dX0_weigh_38 rfl ?_
        refine at_icmp_ge 43 95 X dX0_weigh_40 rfl (by decide) (fun h40 => ?_) (fun h40 => ?_)
        · refine at_aload_n 96 X rfl rfl dX0_weigh_95 rfl ?_
          refine m_getR 99 X f_X0_24 (kX0 ha) (rX0_4 ha) dX0_weigh_96 rfl ?_
          refine at_iload_n 100 X rfl rfl dX0_weigh_99 rfl ?_
          refine at_lload 102 X rfl dX0_weigh_100 rfl ?_
          refine at_lload_n 103 X rfl rfl dX0_weigh_102 rfl ?_
          refine at_lmulV 104 X (w64 (vl * w64 ((232792560 : Int).tdiv (w32 (E (a + 2) b - 1))))) rfl dX0_weigh_103 rfl ?_
          refine m_lastoreV 105 X b (by omega) (kX0_4 ha) (eX0_4 ha) (by omega) dX0_weigh_104 rfl ?_
          refine at_aload_n 106 X rfl rfl dX0_weigh_105 rfl ?_
          refine m_getR 109 X f_X0_28 (kX0 ha) (rX0_5 ha) dX0_weigh_106 rfl ?_
          refine at_iload_n 110 X rfl rfl dX0_weigh_109 rfl ?_
          refine at_lload 112 X rfl dX0_weigh_110 rfl ?_
          refine at_lload_n 113 X rfl rfl dX0_weigh_112 rfl ?_
          refine at_lmulV 114 X (w64 (vr * w64 ((232792560 : Int).tdiv (w32 (E (a + 2) b - 1))))) rfl dX0_weigh_113 rfl ?_
          refine m_lastoreV 115 X b (by omega) (kX0_5 ha) (eX0_5 ha) (by omega) dX0_weigh_114 rfl ?_
          refine at_vret X Rt ?_ (Nat.le_refl _) (Nat.le_refl _) dX0_weigh_115
          exact ⟨rfl, _, rfl, fun q h1 h2 => by simp (disch := omega) only [wr_row]⟩
        · refine at_aload_n 44 X rfl rfl dX0_weigh_43 rfl ?_
          refine m_getR 47 X f_X0_18 (kX0 ha) (rX0_2 ha) dX0_weigh_44 rfl ?_
          refine at_iload_n 48 X rfl rfl dX0_weigh_47 rfl ?_
          refine m_ialoadV 49 X b (by omega) (E (a + 3) b) rfl (kX0_2 ha) (eX0_2 ha) (by omega) dX0_weigh_48 rfl ?_
          refine at_aload_n 50 X rfl rfl dX0_weigh_49 rfl ?_
          refine m_getR 53 X f_X0_21 (kX0 ha) (rX0_3 ha) dX0_weigh_50 rfl ?_
          refine at_iload_n 54 X rfl rfl dX0_weigh_53 rfl ?_
          refine at_bipush 56 X (by decide) (by decide) dX0_weigh_54 rfl ?_
          refine at_imulV 57 X ((b * 20 : Nat) : Int) (w32_v (by omega) (by omega) (by omega)) dX0_weigh_56 rfl ?_
          refine at_iload 59 X rfl dX0_weigh_57 rfl ?_
          refine at_iaddV 60 X ((b * 20 + i : Nat) : Int) (w32_v (by omega) (by omega) (by omega)) dX0_weigh_59 rfl ?_
          refine m_ialoadV 61 X (b * 20 + i) (by omega) (E (a + 4) (b * 20 + i)) rfl (kX0_3 ha) (eX0_3 ha) (by omega) dX0_weigh_60 rfl ?_
          refine at_iaddV 62 X (w32 (E (a + 3) b + E (a + 4) (b * 20 + i))) rfl dX0_weigh_61 rfl ?_
          refine at_i2l 63 X dX0_weigh_62 rfl ?_
          refine at_lstore 65 X dX0_weigh_63 rfl (by decide) ?_
          refine at_lload 67 X rfl dX0_weigh_65 rfl ?_
          refine at_lload 69 X rfl dX0_weigh_67 rfl ?_
          refine at_iload_n 70 X rfl rfl dX0_weigh_69 rfl ?_
          refine at_iload 72 X rfl dX0_weigh_70 rfl ?_
          refine at_isubV 73 X (w32 (w32 (E (a + 2) b - 1) - (i : Int))) rfl dX0_weigh_72 rfl ?_
          refine at_i2l 74 X dX0_weigh_73 rfl ?_
          refine at_lmulV 75 X (w64 (w32 (E (a + 3) b + E (a + 4) (b * 20 + i)) * w32 (w32 (E (a + 2) b - 1) - (i : Int)))) rfl dX0_weigh_74 rfl ?_
          refine at_laddV 76 X (w64 (vl + w64 (w32 (E (a + 3) b + E (a + 4) (b * 20 + i)) * w32 (w32 (E (a + 2) b - 1) - (i : Int))))) rfl dX0_weigh_75 rfl ?_
          refine at_lstore 78 X dX0_weigh_76 rfl (by decide) ?_
          refine at_lload 80 X rfl dX0_weigh_78 rfl ?_
          refine at_lload 82 X rfl dX0_weigh_80 rfl ?_
          refine at_iload 84 X rfl dX0_weigh_82 rfl ?_
          refine at_i2l 85 X dX0_weigh_84 rfl ?_
          refine at_lmulV 86 X (w64 (w32 (E (a + 3) b + E (a + 4) (b * 20 + i)) * (i : Int))) rfl dX0_weigh_85 rfl ?_
          refine at_laddV 87 X (w64 (vr + w64 (w32 (E (a + 3) b + E (a + 4) (b * 20 + i)) * (i : Int)))) rfl dX0_weigh_86 rfl ?_
          refine at_lstore 89 X dX0_weigh_87 rfl (by decide) ?_
          refine at_iincV 92 X ((i + 1 : Nat) : Int) (w32_v (by omega) (by omega) (by omega)) rfl dX0_weigh_89 rfl (by decide) ?_
          refine at_goto 30 X dX0_weigh_92 (by decide) ?_
          exact at_sub _ (by exact ⟨rfl, rfl, rfl, rfl, rfl, rfl, rfl, trivial⟩) (ih30 (i + 1) (w64 (vl + w64 (w32 (E (a + 3) b + E (a + 4) (b * 20 + i)) * w32 (w32 (E (a + 2) b - 1) - (i : Int))))) (w64 (vr + w64 (w32 (E (a + 3) b + E (a + 4) (b * 20 + i)) * (i : Int)))) (by first | omega | (simp only [] at *; omega)) (by omega))
    exact at_sub _ (by exact ⟨rfl, rfl, rfl, rfl, rfl, rfl, rfl, trivial⟩) (J30 _ 0 0 0 (Nat.lt_succ_self _) (by omega))
  · refine at_vret X Rt ?_ (Nat.le_refl _) (Nat.le_refl _) dX0_weigh_13
    exact ⟨rfl, _, rfl, fun _ _ _ => rfl⟩
theorem rw_X0_setLoad {g : Gw} (hG : GF g) {z : Bool} (E : Mm) (a b p : Nat) (ha : a = 76 ∨ a = 91) (hb : b < 8) (hp : p < 20) (v : Int) : CT g yX0_setLoad cX0_setLoad 4 none 1 31 0 0 K2 z [mR a, mI ((b : Nat) : Int), mI ((p : Nat) : Int), mI v] (ov E) K2 z (fun r D' => r = none ∧ ∃ E1, D' = ov E1 ∧ ∀ q, q ≠ a + 4 → q ≠ a + 5 → q ≠ a + 6 → E1 q = E q) := by
  refine CT.mk hG (by decide +kernel) (Nat.le_of_ble_eq_true rfl) (fun κ X Rt _ ok => ?_)
  refine at_aload_n 1 X rfl rfl dX0_setLoad_0 rfl ?_
  refine at_iload_n 2 X rfl rfl dX0_setLoad_1 rfl ?_
  refine at_iload_n 3 X rfl rfl dX0_setLoad_2 rfl ?_
  refine at_callV 6 X _ 0 (ct_X0_isCell hG E a ha b p) clX0 rfl (kX0 ha) mo_X0_isCell w_811 vo_X0_isCell.1 vo_X0_isCell.2 rfl rfl (crm Rt (by decide)) (Nat.le_of_ble_eq_true rfl) dX0_setLoad_3 rfl ?_
  rintro _ _ ⟨rfl, rfl⟩
  refine at_if_eq 9 26 X dX0_setLoad_6 rfl (by decide) (fun h6 => ?_) (fun h6 => ?_)
  · have h6 : ¬ (b < 8 ∧ p < 20) := ite_no.mp h6
    exfalso; omega
  · have h6 : (b < 8 ∧ p < 20) := ite_yes.mp h6
    refine at_aload_n 10 X rfl rfl dX0_setLoad_9 rfl ?_
    refine m_getR 13 X f_X0_21 (kX0 ha) (rX0_3 ha) dX0_setLoad_10 rfl ?_
    refine at_iload_n 14 X rfl rfl dX0_setLoad_13 rfl ?_
    refine at_bipush 16 X (by decide) (by decide) dX0_setLoad_14 rfl ?_
    refine at_imulV 17 X ((b * 20 : Nat) : Int) (w32_v (by omega) (by omega) (by omega)) dX0_setLoad_16 rfl ?_
    refine at_iload_n 18 X rfl rfl dX0_setLoad_17 rfl ?_
    refine at_iaddV 19 X ((b * 20 + p : Nat) : Int) (w32_v (by omega) (by omega) (by omega)) dX0_setLoad_18 rfl ?_
    refine at_iload_n 20 X rfl rfl dX0_setLoad_19 rfl ?_
    refine m_iastoreV 21 X (b * 20 + p) (by omega) (kX0_3 ha) (eX0_3 ha) (by omega) dX0_setLoad_20 rfl ?_
    refine at_aload_n 22 X rfl rfl dX0_setLoad_21 rfl ?_
    refine at_iload_n 23 X rfl rfl dX0_setLoad_22 rfl ?_
    refine at_callV 26 X _ 0 (rw_X0_weigh hG (wr E (a + 4) (b * 20 + p) v) a b ha hb) clX0 rfl (kX0 ha) mo_X0_weigh w_815 vo_X0_weigh.1 vo_X0_weigh.2 rfl rfl (crm Rt (by decide)) (Nat.le_of_ble_eq_true rfl) dX0_setLoad_23 rfl ?_
    rintro _ _ ⟨rfl, F1, rfl, hw1⟩
    refine at_vret X Rt ?_ (Nat.le_refl _) (Nat.le_refl _) dX0_setLoad_26
    exact ⟨rfl, F1, rfl, fun q h1 h2 h3 => (hw1 q h2 h3).trans (wr_row h1)⟩
theorem dX9_readBeam_0 : decode cX9_readBeam 0 = .ok (.aload_n 1, 1) := by decide +kernel
theorem dX9_readBeam_1 : decode cX9_readBeam 1 = .ok (.iconst 0, 1) := by decide +kernel
theorem dX9_readBeam_2 : decode cX9_readBeam 2 = .ok (.aload_n 0, 1) := by decide +kernel
theorem dX9_readBeam_3 : decode cX9_readBeam 3 = .ok (.getfield 43, 3) := by decide +kernel
theorem dX9_readBeam_6 : decode cX9_readBeam 6 = .ok (.iconst 1, 1) := by decide +kernel
theorem dX9_readBeam_7 : decode cX9_readBeam 7 = .ok (.isub, 1) := by decide +kernel
theorem dX9_readBeam_8 : decode cX9_readBeam 8 = .ok (.invokevirtual 137, 3) := by decide +kernel
theorem dX9_readBeam_11 : decode cX9_readBeam 11 = .ok (.istore_n 2, 1) := by decide +kernel
theorem dX9_readBeam_12 : decode cX9_readBeam 12 = .ok (.aload_n 1, 1) := by decide +kernel
theorem dX9_readBeam_13 : decode cX9_readBeam 13 = .ok (.iconst 2, 1) := by decide +kernel
theorem dX9_readBeam_14 : decode cX9_readBeam 14 = .ok (.bipush 20, 2) := by decide +kernel
theorem dX9_readBeam_16 : decode cX9_readBeam 16 = .ok (.aload_n 0, 1) := by decide +kernel
theorem dX9_readBeam_17 : decode cX9_readBeam 17 = .ok (.getfield 43, 3) := by decide +kernel
theorem dX9_readBeam_20 : decode cX9_readBeam 20 = .ok (.iload_n 2, 1) := by decide +kernel
theorem dX9_readBeam_21 : decode cX9_readBeam 21 = .ok (.isub, 1) := by decide +kernel
theorem dX9_readBeam_22 : decode cX9_readBeam 22 = .ok (.invokestatic 170, 3) := by decide +kernel
theorem dX9_readBeam_25 : decode cX9_readBeam 25 = .ok (.invokevirtual 137, 3) := by decide +kernel
theorem dX9_readBeam_28 : decode cX9_readBeam 28 = .ok (.istore_n 3, 1) := by decide +kernel
theorem dX9_readBeam_29 : decode cX9_readBeam 29 = .ok (.aload_n 0, 1) := by decide +kernel
theorem dX9_readBeam_30 : decode cX9_readBeam 30 = .ok (.getfield 36, 3) := by decide +kernel
theorem dX9_readBeam_33 : decode cX9_readBeam 33 = .ok (.iload_n 2, 1) := by decide +kernel
theorem dX9_readBeam_34 : decode cX9_readBeam 34 = .ok (.iload_n 3, 1) := by decide +kernel
theorem dX9_readBeam_35 : decode cX9_readBeam 35 = .ok (.aload_n 1, 1) := by decide +kernel
theorem dX9_readBeam_36 : decode cX9_readBeam 36 = .ok (.iconst 1, 1) := by decide +kernel
theorem dX9_readBeam_37 : decode cX9_readBeam 37 = .ok (.bipush 9, 2) := by decide +kernel
theorem dX9_readBeam_39 : decode cX9_readBeam 39 = .ok (.invokevirtual 137, 3) := by decide +kernel
theorem dX9_readBeam_42 : decode cX9_readBeam 42 = .ok (.invokevirtual 175, 3) := by decide +kernel
theorem dX9_readBeam_45 : decode cX9_readBeam 45 = .ok (.return_, 1) := by decide +kernel
theorem ct_X9_readBeam {g : Gw} (hG : GF g) {z : Bool} (E : Mm) (s : Nat) (hs : s = 68 ∨ s = 83) (P : SP) (ns : Nat) (hP : WS P) (hS : CSr E s P ns) (B : Nat → Int) (n : Nat) (t : TS) (hT_E : TP E B n t) (hN8 : bN (sB P) < 8) : CT g yX9_readBeam cX9_readBeam 4 none 2 54 0 0 K2 z [mR s, mR 1] (ov E) K2 z (fun r D' => r = none ∧ ∃ E1, D' = ov E1 ∧ TP E1 B n (beC B n t P).1 ∧ CSr E1 s (beC B n t P).2 ns ∧ DF s E E1) := by
  refine CT.mk hG (by decide +kernel) (Nat.le_of_ble_eq_true rfl) (fun κ X Rt _ ok => ?_)
  have hW40 := hP.W
  have hN10 := hP.N
  refine at_aload_n 1 X rfl rfl dX9_readBeam_0 rfl ?_
  refine at_iconst 2 X (by decide) dX9_readBeam_1 rfl ?_
  refine at_aload_n 3 X rfl rfl dX9_readBeam_2 rfl ?_
  refine m_getIV 6 X ((sW P : Nat) : Int) hS.1.W f_X9_43 (kX9 hs) (nX9_8 hs) dX9_readBeam_3 rfl ?_
  have := hP.W
  refine at_iconst 7 X (by decide) dX9_readBeam_6 rfl ?_
  refine at_isubV 8 X (((sW P : Nat) : Int) - 1) (w32_v rfl (by omega) (by omega)) dX9_readBeam_7 rfl ?_
  refine at_callV 11 X _ 10 (c10_num hG E B n t hT_E 0 (((sW P : Nat) : Int) - 1) (by omega)) clX10 rfl k_1 mo_X10_takeNumber w_1043 vo_X10_takeNumber.1 vo_X10_takeNumber.2 rfl rfl (crm Rt (by decide)) (Nat.le_of_ble_eq_true rfl) dX9_readBeam_8 rfl ?_
  rintro _ _ ⟨rfl, F1, rfl, hT_F1, hf_F1⟩
  have hq_F1 : ∀ q, q ≠ 1 → F1 q = E q := fun q h0 => hf_F1.1 q h0
  have := nu_in (B := B) (n := n) (t := t) (lo := 0) (hi := (((sW P : Nat) : Int) - 1)) (by omega)
  refine at_istore_n 12 X rfl dX9_readBeam_11 rfl (by decide) ?_
  refine at_aload_n 13 X rfl rfl dX9_readBeam_12 rfl ?_
  refine at_iconst 14 X (by decide) dX9_readBeam_13 rfl ?_
  refine at_bipush 16 X (by decide) (by decide) dX9_readBeam_14 rfl ?_
  refine at_aload_n 17 X rfl rfl dX9_readBeam_16 rfl ?_
  refine m_getIV 20 X ((sW P : Nat) : Int) ((congrFun (hq_F1 s (by omega)) 8).trans hS.1.W) f_X9_43 (kX9 hs) (nX9_8 hs) dX9_readBeam_17 rfl ?_
  have := hP.W
  refine at_iload_n 21 X rfl rfl dX9_readBeam_20 rfl ?_
  refine at_isubV 22 X (((sW P : Nat) : Int) - ((nuV B n t 0 (((sW P : Nat) : Int) - 1) : Nat) : Int)) (w32_v rfl (by omega) (by omega)) dX9_readBeam_21 rfl ?_
  refine at_minV 25 X (beH B n t P) rfl w_1081 (by rw [Rt.1]; exact ⟨by decide, by decide, by decide, by decide⟩) dX9_readBeam_22 rfl ?_
  have hbh : beH B n t P ≤ 20 := by unfold beH; split <;> omega
  refine at_callV 28 X _ 10 (c10_num hG F1 B n (nuT B n t 0 (((sW P : Nat) : Int) - 1)) hT_F1 2 (beH B n t P) (by omega)) clX10 rfl k_1 mo_X10_takeNumber w_1043 vo_X10_takeNumber.1 vo_X10_takeNumber.2 rfl rfl (crm Rt (by decide)) (Nat.le_of_ble_eq_true rfl) dX9_readBeam_25 rfl ?_
  rintro _ _ ⟨rfl, F2, rfl, hT_F2, hf_F2⟩
  have hq_F2 : ∀ q, q ≠ 1 → F2 q = E q := fun q h0 => (hf_F2.1 q h0).trans (hq_F1 q h0)
  have hbl := nu_in (B := B) (n := n) (t := (nuT B n t 0 (((sW P : Nat) : Int) - 1))) (lo := 2) (hi := beH B n t P) (by omega)
  have hbV : beV B n t P = nuV B n (nuT B n t 0 (((sW P : Nat) : Int) - 1)) 2 (beH B n t P) := rfl
  rw [← hbV] at hbl
  refine at_istore_n 29 X rfl dX9_readBeam_28 rfl (by decide) ?_
  refine at_aload_n 30 X rfl rfl dX9_readBeam_29 rfl ?_
  refine m_getR 33 X f_X9_36 (kX9 hs) (rX9_7 hs) dX9_readBeam_30 rfl ?_
  refine at_iload_n 34 X rfl rfl dX9_readBeam_33 rfl ?_
  refine at_iload_n 35 X rfl rfl dX9_readBeam_34 rfl ?_
  refine at_aload_n 36 X rfl rfl dX9_readBeam_35 rfl ?_
  refine at_iconst 37 X (by decide) dX9_readBeam_36 rfl ?_
  refine at_bipush 39 X (by decide) (by decide) dX9_readBeam_37 rfl ?_
  refine at_callV 42 X _ 10 (c10_num hG F2 B n (beU B n t P) hT_F2 1 9 (by omega)) clX10 rfl k_1 mo_X10_takeNumber w_1043 vo_X10_takeNumber.1 vo_X10_takeNumber.2 rfl rfl (crm Rt (by decide)) (Nat.le_of_ble_eq_true rfl) dX9_readBeam_39 rfl ?_
  rintro _ _ ⟨rfl, F3, rfl, hT_F3, hf_F3⟩
  have hq_F3 : ∀ q, q ≠ 1 → F3 q = E q := fun q h0 => (hf_F3.1 q h0).trans (hq_F2 q h0)
  have := nu_in (B := B) (n := n) (t := (beU B n t P)) (lo := 1) (hi := 9) (by omega)
  refine at_callV 45 X _ 0 (ct_X0_add hG F3 (sB P) (s + 8) (iB_8 hs) ((congrFun (hq_F3 (s + 8) (by omega)) 6).trans hS.1.B.N) hN8 (nuV B n t 0 (((sW P : Nat) : Int) - 1)) (beV B n t P) (nuV B n (beU B n t P) 1 9) (by omega) (by omega) (fun p hp => (congrFun (hq_F3 (s + 8 + 4) (by omega)) _).trans (hS.2.2 (bN (sB P)) p (Nat.le_refl _) hN8 hp))) clX0 rfl (kX0 (iB_8 hs)) mo_X0_add w_1082 vo_X0_add.1 vo_X0_add.2 rfl rfl (crm Rt (by decide)) (Nat.le_of_ble_eq_true rfl) dX9_readBeam_42 rfl ?_
  rintro _ _ ⟨rfl, rfl⟩
  refine at_vret X Rt ?_ (Nat.le_refl _) (Nat.le_refl _) dX9_readBeam_45
  have hfin := CSr_Be (x := nuV B n t 0 (((sW P : Nat) : Int) - 1)) (l := beV B n t P) (m := nuV B n (beU B n t P) 1 9) hS hN8 (by omega)
  have hch : ∀ q, q ≠ 1 → (wr (wr (wr (wr (wr (wr F3 (s + 8 + 1) (bN (sB P)) (((nuV B n t 0 (((sW P : Nat) : Int) - 1)) : Nat) : Int)) (s + 8 + 2) (bN (sB P)) (((beV B n t P) : Nat) : Int)) (s + 8 + 3) (bN (sB P)) (((nuV B n (beU B n t P) 1 9) : Nat) : Int)) (s + 8 + 5) (bN (sB P)) ((onL (addB (sB P) (nuV B n t 0 (((sW P : Nat) : Int) - 1)) (beV B n t P) (nuV B n (beU B n t P) 1 9)) (bN (sB P)) : Nat) : Int)) (s + 8 + 6) (bN (sB P)) ((onR (addB (sB P) (nuV B n t 0 (((sW P : Nat) : Int) - 1)) (beV B n t P) (nuV B n (beU B n t P) 1 9)) (bN (sB P)) : Nat) : Int)) (s + 8) 6 ((bN (sB P) + 1 : Nat) : Int)) q = (wr (wr (wr (wr (wr (wr E (s + 8 + 1) (bN (sB P)) (((nuV B n t 0 (((sW P : Nat) : Int) - 1)) : Nat) : Int)) (s + 8 + 2) (bN (sB P)) (((beV B n t P) : Nat) : Int)) (s + 8 + 3) (bN (sB P)) (((nuV B n (beU B n t P) 1 9) : Nat) : Int)) (s + 8 + 5) (bN (sB P)) ((onL (addB (sB P) (nuV B n t 0 (((sW P : Nat) : Int) - 1)) (beV B n t P) (nuV B n (beU B n t P) 1 9)) (bN (sB P)) : Nat) : Int)) (s + 8 + 6) (bN (sB P)) ((onR (addB (sB P) (nuV B n t 0 (((sW P : Nat) : Int) - 1)) (beV B n t P) (nuV B n (beU B n t P) 1 9)) (bN (sB P)) : Nat) : Int)) (s + 8) 6 ((bN (sB P) + 1 : Nat) : Int)) q := fun q hq => (wr_cong (wr_cong (wr_cong (wr_cong (wr_cong (wr_cong ((hf_F3.1 q hq).trans ((hf_F2.1 q hq).trans ((hf_F1.1 q hq).trans rfl)))))))))
  have h1k : ∀ k, ¬ (3 ≤ k ∧ k ≤ 6) → (wr (wr (wr (wr (wr (wr F3 (s + 8 + 1) (bN (sB P)) (((nuV B n t 0 (((sW P : Nat) : Int) - 1)) : Nat) : Int)) (s + 8 + 2) (bN (sB P)) (((beV B n t P) : Nat) : Int)) (s + 8 + 3) (bN (sB P)) (((nuV B n (beU B n t P) 1 9) : Nat) : Int)) (s + 8 + 5) (bN (sB P)) ((onL (addB (sB P) (nuV B n t 0 (((sW P : Nat) : Int) - 1)) (beV B n t P) (nuV B n (beU B n t P) 1 9)) (bN (sB P)) : Nat) : Int)) (s + 8 + 6) (bN (sB P)) ((onR (addB (sB P) (nuV B n t 0 (((sW P : Nat) : Int) - 1)) (beV B n t P) (nuV B n (beU B n t P) 1 9)) (bN (sB P)) : Nat) : Int)) (s + 8) 6 ((bN (sB P) + 1 : Nat) : Int)) 1 k = E 1 k := fun k hk => ((congrFun (wr_row (by omega)) k).trans ((congrFun (wr_row (by omega)) k).trans ((congrFun (wr_row (by omega)) k).trans ((congrFun (wr_row (by omega)) k).trans ((congrFun (wr_row (by omega)) k).trans ((congrFun (wr_row (by omega)) k).trans ((hf_F3.2 k hk).trans ((hf_F2.2 k hk).trans ((hf_F1.2 k hk).trans rfl)))))))))
  exact ⟨rfl, _, rfl, (hT_F3.fr (by simp (disch := omega) only [wr_row]) (by simp (disch := omega) only [wr_row])), hfin.fr (fun q a b => hch q (by omega)), fun q a b => (hch q a).trans (by simp (disch := omega) only [wr_row]), h1k⟩
theorem CSr_Lo {E E1 : Mm} {s ns : Nat} {P : SP} {b p m : Nat} (h : CSr E s P ns) (hP : WS P) (hb : b < bN (sB P)) (hB : CB E1 (s + 8) (setD (sB P) b p m)) (hr : ∀ q, q ≠ s + 8 + 4 → q ≠ s + 8 + 5 → q ≠ s + 8 + 6 → E1 q = E q) (hz : ∀ c q, bN (sB P) ≤ c → c < 8 → q < 20 → E1 (s + 12) (c * 20 + q) = 0) : CSr E1 s (setB P (setD (sB P) b p m)) ns := by
  obtain ⟨⟨h1, h2, h3, h4, h5, h6, h7, h8, h9, ha, hb', hc⟩, hn, _⟩ := h
  have e0 := hr s (by omega) (by omega) (by omega)
  refine ⟨⟨?_, ?_, fun p hp => ?_, ?_, fun t ht => ?_, ?_, fun k hk => ?_, ?_, ?_, ?_, ?_, hB⟩, ?_, hz⟩
  · rw [e0]; exact h1
  · rw [e0]; exact h2
  · rw [hr (s + 1) (by omega) (by omega) (by omega), hr (s + 2) (by omega) (by omega) (by omega)]; exact h3 p hp
  · rw [e0]; exact h4
  · rw [hr (s + 3) (by omega) (by omega) (by omega), hr (s + 4) (by omega) (by omega) (by omega)]; exact h5 t ht
  · rw [e0]; exact h6
  · rw [hr (s + 5) (by omega) (by omega) (by omega), hr (s + 6) (by omega) (by omega) (by omega), hr (s + 7) (by omega) (by omega) (by omega)]; exact h7 k hk
  · rw [e0]; exact h8
  · rw [e0]; exact h9
  · rw [e0]; exact ha
  · rw [e0]; exact hb'
  · rw [e0]; exact hn
theorem ct_X0_setLoad2 {g : Gw} (hG : GF g) {z : Bool} (E : Mm) (B : BM) (a W : Nat) (ha : a = 76 ∨ a = 91) (hB : CB E a B) (hW : WB W B) (hW4 : W ≤ 40) (b p m : Nat) (hb : b < bN B) (hp : p < bL B b) (hm : m ≤ 99) : CT g yX0_setLoad cX0_setLoad 4 none 1 31 0 0 K2 z [mR a, mI ((b : Nat) : Int), mI ((p : Nat) : Int), mI ((m : Nat) : Int)] (ov E) K2 z (fun r D' => r = none ∧ ∃ E1, D' = ov E1 ∧ CB E1 a (setD B b p m) ∧ (∀ q, q ≠ a + 4 → q ≠ a + 5 → q ≠ a + 6 → E1 q = E q) ∧ ∀ c q, c ≠ b → q < 20 → E1 (a + 4) (c * 20 + q) = E (a + 4) (c * 20 + q)) := by
  refine CT.mk hG (by decide +kernel) (Nat.le_of_ble_eq_true rfl) (fun κ X Rt _ ok => ?_)
  have hN8 := hW.N
  have hl20 := hW.L hb
  refine at_aload_n 1 X rfl rfl dX0_setLoad_0 rfl ?_
  refine at_iload_n 2 X rfl rfl dX0_setLoad_1 rfl ?_
  refine at_iload_n 3 X rfl rfl dX0_setLoad_2 rfl ?_
  refine at_callV 6 X _ 0 (ct_X0_isCell hG E a ha b p) clX0 rfl (kX0 ha) mo_X0_isCell w_811 vo_X0_isCell.1 vo_X0_isCell.2 rfl rfl (crm Rt (by decide)) (Nat.le_of_ble_eq_true rfl) dX0_setLoad_3 rfl ?_
  rintro _ _ ⟨rfl, rfl⟩
  have := hW.L hb
  refine at_if_eq 9 26 X dX0_setLoad_6 rfl (by decide) (fun h6 => ?_) (fun h6 => ?_)
  · have h6 : ¬ (b < 8 ∧ p < 20) := ite_no.mp h6
    exfalso; have := hW.L hb; omega
  · have h6 : (b < 8 ∧ p < 20) := ite_yes.mp h6
    refine at_aload_n 10 X rfl rfl dX0_setLoad_9 rfl ?_
    refine m_getR 13 X f_X0_21 (kX0 ha) (rX0_3 ha) dX0_setLoad_10 rfl ?_
    refine at_iload_n 14 X rfl rfl dX0_setLoad_13 rfl ?_
    refine at_bipush 16 X (by decide) (by decide) dX0_setLoad_14 rfl ?_
    refine at_imulV 17 X ((b * 20 : Nat) : Int) (w32_v (by omega) (by omega) (by omega)) dX0_setLoad_16 rfl ?_
    refine at_iload_n 18 X rfl rfl dX0_setLoad_17 rfl ?_
    refine at_iaddV 19 X ((b * 20 + p : Nat) : Int) (w32_v (by omega) (by omega) (by omega)) dX0_setLoad_18 rfl ?_
    refine at_iload_n 20 X rfl rfl dX0_setLoad_19 rfl ?_
    refine m_iastoreV 21 X (b * 20 + p) (by omega) (kX0_3 ha) (eX0_3 ha) (by omega) dX0_setLoad_20 rfl ?_
    refine at_aload_n 22 X rfl rfl dX0_setLoad_21 rfl ?_
    refine at_iload_n 23 X rfl rfl dX0_setLoad_22 rfl ?_
    refine at_callV 26 X _ 0 (ct_X0_weigh hG (wr E (a + 4) (b * 20 + p) ((m : Nat) : Int)) (setD B b p m) a b ha (by omega) ((wr_o (by omega)).trans (hB.L hb)) ((wr_o (by omega)).trans (hB.H hb)) (fun q hq => if k : q = p then by subst k; rw [wr_s, setD_s] else by rw [wr_o (by omega), setD_o (by omega)]; exact hB.D hb hq) (hW.L hb) (hW.H hb).2 (fun q hq => if k : q = p then by subst k; rw [setD_s]; exact hm else by rw [setD_o (by omega)]; exact hW.D hb hq)) clX0 rfl (kX0 ha) mo_X0_weigh w_815 vo_X0_weigh.1 vo_X0_weigh.2 rfl rfl (crm Rt (by decide)) (Nat.le_of_ble_eq_true rfl) dX0_setLoad_23 rfl ?_
    rintro _ _ ⟨rfl, rfl⟩
    refine at_vret X Rt ?_ (Nat.le_refl _) (Nat.le_refl _) dX0_setLoad_26
    exact ⟨rfl, _, rfl, CB_set hB hW hb hp, fun q h1 h2 h3 => funext fun j => by rw [wr_o (by omega), wr_o (by omega), wr_o (by omega)], fun c q h1 h2 => by rw [wr_o (by omega), wr_o (by omega), wr_o (by omega)]⟩
theorem dX9_readLoad_0 : decode cX9_readLoad 0 = .ok (.aload_n 1, 1) := by decide +kernel
theorem dX9_readLoad_1 : decode cX9_readLoad 1 = .ok (.iconst 0, 1) := by decide +kernel
theorem dX9_readLoad_2 : decode cX9_readLoad 2 = .ok (.aload_n 0, 1) := by decide +kernel
theorem dX9_readLoad_3 : decode cX9_readLoad 3 = .ok (.getfield 36, 3) := by decide +kernel
theorem dX9_readLoad_6 : decode cX9_readLoad 6 = .ok (.getfield 134, 3) := by decide +kernel
theorem dX9_readLoad_9 : decode cX9_readLoad 9 = .ok (.iconst 1, 1) := by decide +kernel
theorem dX9_readLoad_10 : decode cX9_readLoad 10 = .ok (.isub, 1) := by decide +kernel
theorem dX9_readLoad_11 : decode cX9_readLoad 11 = .ok (.invokevirtual 137, 3) := by decide +kernel
theorem dX9_readLoad_14 : decode cX9_readLoad 14 = .ok (.istore_n 2, 1) := by decide +kernel
theorem dX9_readLoad_15 : decode cX9_readLoad 15 = .ok (.aload_n 1, 1) := by decide +kernel
theorem dX9_readLoad_16 : decode cX9_readLoad 16 = .ok (.iconst 0, 1) := by decide +kernel
theorem dX9_readLoad_17 : decode cX9_readLoad 17 = .ok (.aload_n 0, 1) := by decide +kernel
theorem dX9_readLoad_18 : decode cX9_readLoad 18 = .ok (.getfield 36, 3) := by decide +kernel
theorem dX9_readLoad_21 : decode cX9_readLoad 21 = .ok (.getfield 179, 3) := by decide +kernel
theorem dX9_readLoad_24 : decode cX9_readLoad 24 = .ok (.iload_n 2, 1) := by decide +kernel
theorem dX9_readLoad_25 : decode cX9_readLoad 25 = .ok (.iaload, 1) := by decide +kernel
theorem dX9_readLoad_26 : decode cX9_readLoad 26 = .ok (.iconst 1, 1) := by decide +kernel
theorem dX9_readLoad_27 : decode cX9_readLoad 27 = .ok (.isub, 1) := by decide +kernel
theorem dX9_readLoad_28 : decode cX9_readLoad 28 = .ok (.invokevirtual 137, 3) := by decide +kernel
theorem dX9_readLoad_31 : decode cX9_readLoad 31 = .ok (.istore_n 3, 1) := by decide +kernel
theorem dX9_readLoad_32 : decode cX9_readLoad 32 = .ok (.aload_n 0, 1) := by decide +kernel
theorem dX9_readLoad_33 : decode cX9_readLoad 33 = .ok (.getfield 36, 3) := by decide +kernel
theorem dX9_readLoad_36 : decode cX9_readLoad 36 = .ok (.iload_n 2, 1) := by decide +kernel
theorem dX9_readLoad_37 : decode cX9_readLoad 37 = .ok (.iload_n 3, 1) := by decide +kernel
theorem dX9_readLoad_38 : decode cX9_readLoad 38 = .ok (.aload_n 1, 1) := by decide +kernel
theorem dX9_readLoad_39 : decode cX9_readLoad 39 = .ok (.iconst 0, 1) := by decide +kernel
theorem dX9_readLoad_40 : decode cX9_readLoad 40 = .ok (.bipush 99, 2) := by decide +kernel
theorem dX9_readLoad_42 : decode cX9_readLoad 42 = .ok (.invokevirtual 137, 3) := by decide +kernel
theorem dX9_readLoad_45 : decode cX9_readLoad 45 = .ok (.invokevirtual 182, 3) := by decide +kernel
theorem dX9_readLoad_48 : decode cX9_readLoad 48 = .ok (.return_, 1) := by decide +kernel
theorem ct_X9_readLoad {g : Gw} (hG : GF g) {z : Bool} (E : Mm) (s : Nat) (hs : s = 68 ∨ s = 83) (P : SP) (ns : Nat) (hP : WS P) (hS : CSr E s P ns) (B : Nat → Int) (n : Nat) (t : TS) (hT_E : TP E B n t) : CT g yX9_readLoad cX9_readLoad 4 none 2 54 0 0 K2 z [mR s, mR 1] (ov E) K2 z (fun r D' => r = none ∧ ∃ E1, D' = ov E1 ∧ TP E1 B n (loC B n t P).1 ∧ ((loC B n t P).1.2.2.1 = 0 → CSr E1 s (loC B n t P).2 ns) ∧ DF s E E1) := by
  refine CT.mk hG (by decide +kernel) (Nat.le_of_ble_eq_true rfl) (fun κ X Rt _ ok => ?_)
  have hW40 := hP.W
  have hN10 := hP.N
  have hN8 := hP.B.N
  refine at_aload_n 1 X rfl rfl dX9_readLoad_0 rfl ?_
  refine at_iconst 2 X (by decide) dX9_readLoad_1 rfl ?_
  refine at_aload_n 3 X rfl rfl dX9_readLoad_2 rfl ?_
  refine m_getR 6 X f_X9_36 (kX9 hs) (rX9_7 hs) dX9_readLoad_3 rfl ?_
  refine m_getIV 9 X ((bN (sB P) : Nat) : Int) hS.1.B.N f_X9_134 (kX0 (iB_8 hs)) (nX0_6 (iB_8 hs)) dX9_readLoad_6 rfl ?_
  refine at_iconst 10 X (by decide) dX9_readLoad_9 rfl ?_
  refine at_isubV 11 X (((bN (sB P) : Nat) : Int) - 1) (w32_v rfl (by omega) (by omega)) dX9_readLoad_10 rfl ?_
  refine at_callV 14 X _ 10 (c10_num hG E B n t hT_E 0 (((bN (sB P) : Nat) : Int) - 1) (by omega)) clX10 rfl k_1 mo_X10_takeNumber w_1043 vo_X10_takeNumber.1 vo_X10_takeNumber.2 rfl rfl (crm Rt (by decide)) (Nat.le_of_ble_eq_true rfl) dX9_readLoad_11 rfl ?_
  rintro _ _ ⟨rfl, F1, rfl, hT_F1, hf_F1⟩
  have hq_F1 : ∀ q, q ≠ 1 → F1 q = E q := fun q h0 => hf_F1.1 q h0
  have hlv := nu_in (B := B) (n := n) (t := t) (lo := 0) (hi := ((bN (sB P) : Nat) : Int) - 1) (by omega)
  have hlV : loV B n t P = nuV B n t 0 (((bN (sB P) : Nat) : Int) - 1) := rfl
  rw [← hlV] at hlv
  refine at_istore_n 15 X rfl dX9_readLoad_14 rfl (by decide) ?_
  have hlo8 : loV B n t P < 8 := by omega
  by_cases h0 : (loT B n t P).2.2.1 = 0
  · have hlo : loV B n t P < bN (sB P) := by
      have := (nu_ok h0).2.1 (by decide)
      have e : ((loV B n t P : Nat) : Int) = ((nuV B n t 0 (((bN (sB P) : Nat) : Int) - 1) : Nat) : Int) := rfl
      omega
    refine at_aload_n 16 X rfl rfl dX9_readLoad_15 rfl ?_
    refine at_iconst 17 X (by decide) dX9_readLoad_16 rfl ?_
    refine at_aload_n 18 X rfl rfl dX9_readLoad_17 rfl ?_
    refine m_getR 21 X f_X9_36 (kX9 hs) (rX9_7 hs) dX9_readLoad_18 rfl ?_
    refine m_getR 24 X f_X9_179 (kX0 (iB_8 hs)) (rX0_1 (iB_8 hs)) dX9_readLoad_21 rfl ?_
    refine at_iload_n 25 X rfl rfl dX9_readLoad_24 rfl ?_
    refine m_ialoadV 26 X (loV B n t P) (by omega) ((bL (sB P) (loV B n t P) : Nat) : Int) ((congrFun (hq_F1 (s + 8 + 2) (by omega)) (loV B n t P)).trans (hS.1.B.L hlo)) (kX0_1 (iB_8 hs)) (eX0_1 (iB_8 hs)) (by omega) dX9_readLoad_25 rfl ?_
    have hl20 := hP.B.L hlo
    refine at_iconst 27 X (by decide) dX9_readLoad_26 rfl ?_
    refine at_isubV 28 X (((bL (sB P) (loV B n t P) : Nat) : Int) - 1) (w32_v rfl (by omega) (by omega)) dX9_readLoad_27 rfl ?_
    refine at_callV 31 X _ 10 (c10_num hG F1 B n (loT B n t P) hT_F1 0 (((bL (sB P) (loV B n t P) : Nat) : Int) - 1) (by omega)) clX10 rfl k_1 mo_X10_takeNumber w_1043 vo_X10_takeNumber.1 vo_X10_takeNumber.2 rfl rfl (crm Rt (by decide)) (Nat.le_of_ble_eq_true rfl) dX9_readLoad_28 rfl ?_
    rintro _ _ ⟨rfl, F2, rfl, hT_F2, hf_F2⟩
    have hq_F2 : ∀ q, q ≠ 1 → F2 q = E q := fun q h0 => (hf_F2.1 q h0).trans (hq_F1 q h0)
    have := nu_in (B := B) (n := n) (t := loT B n t P) (lo := 0) (hi := ((bL (sB P) (loV B n t P) : Nat) : Int) - 1) (by omega)
    refine at_istore_n 32 X rfl dX9_readLoad_31 rfl (by decide) ?_
    refine at_aload_n 33 X rfl rfl dX9_readLoad_32 rfl ?_
    refine m_getR 36 X f_X9_36 (kX9 hs) (rX9_7 hs) dX9_readLoad_33 rfl ?_
    refine at_iload_n 37 X rfl rfl dX9_readLoad_36 rfl ?_
    refine at_iload_n 38 X rfl rfl dX9_readLoad_37 rfl ?_
    refine at_aload_n 39 X rfl rfl dX9_readLoad_38 rfl ?_
    refine at_iconst 40 X (by decide) dX9_readLoad_39 rfl ?_
    refine at_bipush 42 X (by decide) (by decide) dX9_readLoad_40 rfl ?_
    refine at_callV 45 X _ 10 (c10_num hG F2 B n (nuT B n (loT B n t P) 0 (((bL (sB P) (loV B n t P) : Nat) : Int) - 1)) hT_F2 0 99 (by omega)) clX10 rfl k_1 mo_X10_takeNumber w_1043 vo_X10_takeNumber.1 vo_X10_takeNumber.2 rfl rfl (crm Rt (by decide)) (Nat.le_of_ble_eq_true rfl) dX9_readLoad_42 rfl ?_
    rintro _ _ ⟨rfl, F3, rfl, hT_F3, hf_F3⟩
    have hq_F3 : ∀ q, q ≠ 1 → F3 q = E q := fun q h0 => (hf_F3.1 q h0).trans (hq_F2 q h0)
    have := nu_in (B := B) (n := n) (t := (nuT B n (loT B n t P) 0 (((bL (sB P) (loV B n t P) : Nat) : Int) - 1))) (lo := 0) (hi := 99) (by omega)
    refine at_callV 48 X _ 0 (ct_X0_setLoad2 hG F3 (sB P) (s + 8) (sW P) (iB_8 hs) (hS.1.B.fr (fun q a b => hq_F3 q (by omega))) hP.B hP.W.2 (loV B n t P) (nuV B n (loT B n t P) 0 (((bL (sB P) (loV B n t P) : Nat) : Int) - 1)) (nuV B n (nuT B n (loT B n t P) 0 (((bL (sB P) (loV B n t P) : Nat) : Int) - 1)) 0 99) hlo (by omega) (by omega)) clX0 rfl (kX0 (iB_8 hs)) mo_X0_setLoad w_1090 vo_X0_setLoad.1 vo_X0_setLoad.2 rfl rfl (crm Rt (by decide)) (Nat.le_of_ble_eq_true rfl) dX9_readLoad_45 rfl ?_
    rintro _ _ ⟨rfl, F9, rfl, hB9, hr9, hd9⟩
    refine at_vret X Rt ?_ (Nat.le_refl _) (Nat.le_refl _) dX9_readLoad_48
    have hT_F9 : TP F9 B n (loC B n t P).1 := by
      unfold loC
      rw [if_pos h0]
      exact hT_F3.fr (hr9 1 (by omega) (by omega) (by omega)) (hr9 2 (by omega) (by omega) (by omega))
    have hfin : CSr F9 s (loC B n t P).2 ns := by
      unfold loC
      rw [if_pos h0]
      refine CSr_Lo (E := F3) (hS.fr (fun q a b => hq_F3 q (by omega))) hP hlo hB9 hr9 (fun c q a b d => ?_)
      have e := hd9 c q (by omega) d
      rw [e]
      exact (congrFun (hq_F3 (s + 12) (by omega)) _).trans (hS.2.2 c q a b d)
    exact ⟨rfl, F9, rfl, hT_F9, fun _ => hfin, fun q a b => (hr9 q (by omega) (by omega) (by omega)).trans (hq_F3 q a), fun k hk => (congrFun (hr9 1 (by omega) (by omega) (by omega)) k).trans ((hf_F3.2 k hk).trans ((hf_F2.2 k hk).trans (hf_F1.2 k hk)))⟩
  · refine at_aload_n 16 X rfl rfl dX9_readLoad_15 rfl ?_
    refine at_iconst 17 X (by decide) dX9_readLoad_16 rfl ?_
    refine at_aload_n 18 X rfl rfl dX9_readLoad_17 rfl ?_
    refine m_getR 21 X f_X9_36 (kX9 hs) (rX9_7 hs) dX9_readLoad_18 rfl ?_
    refine m_getR 24 X f_X9_179 (kX0 (iB_8 hs)) (rX0_1 (iB_8 hs)) dX9_readLoad_21 rfl ?_
    refine at_iload_n 25 X rfl rfl dX9_readLoad_24 rfl ?_
    refine m_ialoadV 26 X (loV B n t P) (by omega) (F1 (s + 8 + 2) (loV B n t P)) rfl (kX0_1 (iB_8 hs)) (eX0_1 (iB_8 hs)) (by omega) dX9_readLoad_25 rfl ?_
    refine at_iconst 27 X (by decide) dX9_readLoad_26 rfl ?_
    refine at_isubV 28 X (w32 (F1 (s + 8 + 2) (loV B n t P) - 1)) rfl dX9_readLoad_27 rfl ?_
    refine at_callV 31 X _ 10 (c10_takeNumber hG F1 B n (loT B n t P) hT_F1 0 (w32 (F1 (s + 8 + 2) (loV B n t P) - 1))) clX10 rfl k_1 mo_X10_takeNumber w_1043 vo_X10_takeNumber.1 vo_X10_takeNumber.2 rfl rfl (crm Rt (by decide)) (Nat.le_of_ble_eq_true rfl) dX9_readLoad_28 rfl ?_
    rintro _ _ ⟨rfl, F2, rfl, hT_F2, hf_F2⟩
    rw [show (takeT B n (loT B n t P) 0 (w32 (F1 (s + 8 + 2) (loV B n t P) - 1))).1 = 0 from congrArg Prod.fst (if_neg h0)]
    rw [show (takeT B n (loT B n t P) 0 (w32 (F1 (s + 8 + 2) (loV B n t P) - 1))).2 = loT B n t P from nu_bad h0] at hT_F2
    have hq_F2 : ∀ q, q ≠ 1 → F2 q = E q := fun q h0 => (hf_F2.1 q h0).trans (hq_F1 q h0)
    refine at_istore_n 32 X rfl dX9_readLoad_31 rfl (by decide) ?_
    refine at_aload_n 33 X rfl rfl dX9_readLoad_32 rfl ?_
    refine m_getR 36 X f_X9_36 (kX9 hs) (rX9_7 hs) dX9_readLoad_33 rfl ?_
    refine at_iload_n 37 X rfl rfl dX9_readLoad_36 rfl ?_
    refine at_iload_n 38 X rfl rfl dX9_readLoad_37 rfl ?_
    refine at_aload_n 39 X rfl rfl dX9_readLoad_38 rfl ?_
    refine at_iconst 40 X (by decide) dX9_readLoad_39 rfl ?_
    refine at_bipush 42 X (by decide) (by decide) dX9_readLoad_40 rfl ?_
    refine at_callV 45 X _ 10 (c10_takeNumber hG F2 B n (loT B n t P) hT_F2 0 99) clX10 rfl k_1 mo_X10_takeNumber w_1043 vo_X10_takeNumber.1 vo_X10_takeNumber.2 rfl rfl (crm Rt (by decide)) (Nat.le_of_ble_eq_true rfl) dX9_readLoad_42 rfl ?_
    rintro _ _ ⟨rfl, F3, rfl, hT_F3, hf_F3⟩
    rw [show (takeT B n (loT B n t P) 0 99).1 = 0 from congrArg Prod.fst (if_neg h0)]
    rw [show (takeT B n (loT B n t P) 0 99).2 = loT B n t P from nu_bad h0] at hT_F3
    have hq_F3 : ∀ q, q ≠ 1 → F3 q = E q := fun q h0 => (hf_F3.1 q h0).trans (hq_F2 q h0)
    refine at_callV 48 X _ 0 (rw_X0_setLoad hG F3 (s + 8) (loV B n t P) 0 (iB_8 hs) hlo8 (by decide) 0) clX0 rfl (kX0 (iB_8 hs)) mo_X0_setLoad w_1090 vo_X0_setLoad.1 vo_X0_setLoad.2 rfl rfl (crm Rt (by decide)) (Nat.le_of_ble_eq_true rfl) dX9_readLoad_45 rfl ?_
    rintro _ _ ⟨rfl, F9, rfl, hr9⟩
    refine at_vret X Rt ?_ (Nat.le_refl _) (Nat.le_refl _) dX9_readLoad_48
    have hT_F9 : TP F9 B n (loC B n t P).1 := by
      unfold loC
      rw [if_neg h0]
      exact hT_F3.fr (hr9 1 (by omega) (by omega) (by omega)) (hr9 2 (by omega) (by omega) (by omega))
    exact ⟨rfl, F9, rfl, hT_F9, fun q => by unfold loC at q; rw [if_neg h0] at q; exact absurd q h0, fun q a b => (hr9 q (by omega) (by omega) (by omega)).trans (hq_F3 q a), fun k hk => (congrFun (hr9 1 (by omega) (by omega) (by omega)) k).trans ((hf_F3.2 k hk).trans ((hf_F2.2 k hk).trans (hf_F1.2 k hk)))⟩
