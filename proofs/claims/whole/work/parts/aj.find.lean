theorem dX11_keepsUp_0 : decode cX11_keepsUp 0 = .ok (.aload_n 0, 1) := by decide +kernel
theorem dX11_keepsUp_1 : decode cX11_keepsUp 1 = .ok (.getfield 86, 3) := by decide +kernel
theorem dX11_keepsUp_4 : decode cX11_keepsUp 4 = .ok (.lload_n 2, 1) := by decide +kernel
theorem dX11_keepsUp_5 : decode cX11_keepsUp 5 = .ok (.invokevirtual 345, 3) := by decide +kernel
theorem dX11_keepsUp_8 : decode cX11_keepsUp 8 = .ok (.ifCond .ne 5, 3) := by decide +kernel
theorem dX11_keepsUp_11 : decode cX11_keepsUp 11 = .ok (.iconst 0, 1) := by decide +kernel
theorem dX11_keepsUp_12 : decode cX11_keepsUp 12 = .ok (.ireturn, 1) := by decide +kernel
theorem dX11_keepsUp_13 : decode cX11_keepsUp 13 = .ok (.aload_n 0, 1) := by decide +kernel
theorem dX11_keepsUp_14 : decode cX11_keepsUp 14 = .ok (.getfield 63, 3) := by decide +kernel
theorem dX11_keepsUp_17 : decode cX11_keepsUp 17 = .ok (.lload_n 2, 1) := by decide +kernel
theorem dX11_keepsUp_18 : decode cX11_keepsUp 18 = .ok (.putfield 349, 3) := by decide +kernel
theorem dX11_keepsUp_21 : decode cX11_keepsUp 21 = .ok (.aload_n 0, 1) := by decide +kernel
theorem dX11_keepsUp_22 : decode cX11_keepsUp 22 = .ok (.getfield 73, 3) := by decide +kernel
theorem dX11_keepsUp_25 : decode cX11_keepsUp 25 = .ok (.aload_n 0, 1) := by decide +kernel
theorem dX11_keepsUp_26 : decode cX11_keepsUp 26 = .ok (.getfield 63, 3) := by decide +kernel
theorem dX11_keepsUp_29 : decode cX11_keepsUp 29 = .ok (.aload_n 0, 1) := by decide +kernel
theorem dX11_keepsUp_30 : decode cX11_keepsUp 30 = .ok (.getfield 93, 3) := by decide +kernel
theorem dX11_keepsUp_33 : decode cX11_keepsUp 33 = .ok (.getfield 135, 3) := by decide +kernel
theorem dX11_keepsUp_36 : decode cX11_keepsUp 36 = .ok (.aload_n 0, 1) := by decide +kernel
theorem dX11_keepsUp_37 : decode cX11_keepsUp 37 = .ok (.getfield 33, 3) := by decide +kernel
theorem dX11_keepsUp_40 : decode cX11_keepsUp 40 = .ok (.iload_n 1, 1) := by decide +kernel
theorem dX11_keepsUp_41 : decode cX11_keepsUp 41 = .ok (.invokevirtual 350, 3) := by decide +kernel
theorem dX11_keepsUp_44 : decode cX11_keepsUp 44 = .ok (.aload_n 0, 1) := by decide +kernel
theorem dX11_keepsUp_45 : decode cX11_keepsUp 45 = .ok (.getfield 73, 3) := by decide +kernel
theorem dX11_keepsUp_48 : decode cX11_keepsUp 48 = .ok (.getfield 284, 3) := by decide +kernel
theorem dX11_keepsUp_51 : decode cX11_keepsUp 51 = .ok (.iload_n 1, 1) := by decide +kernel
theorem dX11_keepsUp_52 : decode cX11_keepsUp 52 = .ok (.iand, 1) := by decide +kernel
theorem dX11_keepsUp_53 : decode cX11_keepsUp 53 = .ok (.ifCond .ne 7, 3) := by decide +kernel
theorem dX11_keepsUp_56 : decode cX11_keepsUp 56 = .ok (.iconst 1, 1) := by decide +kernel
theorem dX11_keepsUp_57 : decode cX11_keepsUp 57 = .ok (.goto 4, 3) := by decide +kernel
theorem dX11_keepsUp_60 : decode cX11_keepsUp 60 = .ok (.iconst 0, 1) := by decide +kernel
theorem dX11_keepsUp_61 : decode cX11_keepsUp 61 = .ok (.ireturn, 1) := by decide +kernel
theorem ct_X11_keepsUp {g : Gw} (hG : GF g) {z : Bool} (E : Mm) (s : Nat) (P : SP) (L : LW) (T K : LN) (d w r m : Nat) (cl : Nat → Nat) (nl nd : Nat) (hw8 : w < 2 ^ bN (sB P)) (l : List Nat) (lit : Nat) (hL_E : FLI E s P L T K d w r m cl nl nd) (hlit : lit = mk (LM (sLc P) (gnP (gNow P L d) (sB P) T r) l) 50) : CT g yX11_keepsUp cX11_keepsUp 4 (some .boolean) 5 126 0 0 K2 z [mR 0, mI ((w : Nat) : Int), mL ((lit : Nat) : Int)] (ov E) K2 z (fun r' D' => ∃ v E1, r' = some (mI v) ∧ D' = ov E1 ∧ FLI E1 s P L T K d w r m cl nl nd ∧ CXF E E1 ∧ E1 65 = E 65 ∧ ((v = 1 ∧ FGd P L T d w r l) ∨ (v = 0 ∧ ¬ FGd P L T d w r l))) := by
  refine CT.mk hG (by decide +kernel) (Nat.le_of_ble_eq_true rfl) (fun κ X Rt _ ok => ?_)
  have hs := hL_E.1.sa
  have hP := hL_E.1.WS
  have hW40 := hP.W
  have hN8 := hP.B.N
  have hwG := gNow_WG hL_E.1
  have hw256 : w < 256 := by
    have h2 := Nat.pow_le_pow_right (show 0 < 2 by decide) hN8
    rw [show (2 : Nat) ^ 8 = 256 by decide] at h2
    omega
  have hlit50 := mk_lt (LM (sLc P) (gnP (gNow P L d) (sB P) T r) l) 50
  rw [← hlit, show (2 : Nat) ^ 50 = 1125899906842624 by decide] at hlit50
  refine at_aload_n 1 X rfl rfl dX11_keepsUp_0 rfl ?_
  refine m_getR 4 X f_X11_86 k_0 r_0_14 dX11_keepsUp_1 rfl ?_
  refine at_lload_n 5 X rfl rfl dX11_keepsUp_4 rfl ?_
  refine at_callV 8 X _ 6 (ct_X6_allows hG E lit nl nd (by omega) hL_E.2.2.2.1 hL_E.2.2.2.2.1 hL_E.2.2.2.2.2.1.1 hL_E.2.2.2.2.2.2.1) clX6 rfl k_62 mo_X6_allows w_1491 vo_X6_allows.1 vo_X6_allows.2 rfl rfl (crm Rt (by decide)) (Nat.le_of_ble_eq_true rfl) dX11_keepsUp_5 rfl ?_
  rintro _ _ ⟨rfl, rfl⟩
  refine at_if_ne 11 13 X dX11_keepsUp_8 rfl (by decide) (fun h8 => ?_) (fun h8 => ?_)
  · have h8 : (lit &&& nl = nl ∧ lit &&& nd = 0) := ite_yes.mp h8
    have hgL : CG (wr E 39 13 ((lit : Nat) : Int)) 39 (setL (gNow P L d) (LM (sLc P) (gnP (gNow P L d) (sB P) T r) l)) := by
      obtain ⟨l0, hg0⟩ := hL_E.2.1
      rw [hlit]
      exact hg0.setL _
    refine at_aload_n 14 X rfl rfl dX11_keepsUp_13 rfl ?_
    refine m_getR 17 X f_X11_63 k_0 r_0_10 dX11_keepsUp_14 rfl ?_
    refine at_lload_n 18 X rfl rfl dX11_keepsUp_17 rfl ?_
    refine m_putL 21 X f_X11_349 fw_4_13 k_39 rn_39_13 dX11_keepsUp_18 rfl ?_
    refine at_aload_n 22 X rfl rfl dX11_keepsUp_21 rfl ?_
    refine m_getR 25 X f_X11_73 k_0 r_0_12 dX11_keepsUp_22 rfl ?_
    refine at_aload_n 26 X rfl rfl dX11_keepsUp_25 rfl ?_
    refine m_getR 29 X f_X11_63 k_0 r_0_10 dX11_keepsUp_26 rfl ?_
    refine at_aload_n 30 X rfl rfl dX11_keepsUp_29 rfl ?_
    refine m_getM 33 X (s) f_X11_93 k_0 rn_0_15 ((wr_o (by omega)).trans hL_E.1.now) dX11_keepsUp_30 rfl ?_
    refine m_getR 36 X f_X11_135 (kX9 hs) (rX9_7 hs) dX11_keepsUp_33 rfl ?_
    refine at_aload_n 37 X rfl rfl dX11_keepsUp_36 rfl ?_
    refine m_getR 40 X f_X11_33 k_0 r_0_4 dX11_keepsUp_37 rfl ?_
    refine at_iload_n 41 X rfl rfl dX11_keepsUp_40 rfl ?_
    refine at_callV 44 X _ 3 (ct_X3_go hG (wr E 39 13 ((lit : Nat) : Int)) 54 (Or.inr rfl) 39 (Or.inr rfl) (setL (gNow P L d) (LM (sLc P) (gnP (gNow P L d) (sB P) T r) l)) (setL_WG hwG _) hgL (hL_E.1.Lw.fr (fun q _ _ => wr_row (by omega))) (sB P) (s + 8) (iB_8 hs) (hL_E.1.B.fr (fun q _ _ => wr_row (by omega))) hP.B T (hL_E.1.Tn.fr (fun q _ _ => wr_row (by omega))) hL_E.1.WT w hw256) clX3 rfl k_54 mo_X3_go w_715 vo_X3_go.1 vo_X3_go.2 rfl rfl (crm Rt (by decide)) (Nat.le_of_ble_eq_true rfl) dX11_keepsUp_41 rfl ?_
    rintro _ _ ⟨rfl, F1, n, rfl, hn24, hn, hcd, hg_F1, hq_F1⟩
    have hfl : FLf E F1 := fun q h1 h2 h3 h4 => (hq_F1 q (by omega) (by omega) (by omega) (by omega) (by omega) (by omega) (by omega) (by omega)).trans (wr_row (by omega))
    have hLF := hL_E.fr hfl ⟨_, hg_F1⟩
    have h65 : F1 65 = E 65 := (hq_F1 65 (by omega) (by omega) (by omega) (by omega) (by omega) (by omega) (by omega) (by omega)).trans (wr_row (by omega))
    have hiff := fell_iff (G := (setL (gNow P L d) (LM (sLc P) (gnP (gNow P L d) (sB P) T r) l))) (B := sB P) (T := T) hN8 hw8 hn24 hn
    refine at_aload_n 45 X rfl rfl dX11_keepsUp_44 rfl ?_
    refine m_getR 48 X f_X11_73 k_0 r_0_12 dX11_keepsUp_45 rfl ?_
    refine m_getIV 51 X ((mk (fun k => decide (¬ dF (dyP (setL (gNow P L d) (LM (sLc P) (gnP (gNow P L d) (sB P) T r) l)) (sB P) T n) k = -1)) 8 : Nat) : Int) hcd.1.2.2.2.2 f_X11_284 k_54 rn_54_6 dX11_keepsUp_48 rfl ?_
    have hm8 := mk_le (p := fun k => decide (¬ dF (dyP (setL (gNow P L d) (LM (sLc P) (gnP (gNow P L d) (sB P) T r) l)) (sB P) T n) k = -1)) (n := 8) (k := 8) (Nat.le_refl 8)
    refine at_iload_n 52 X rfl rfl dX11_keepsUp_51 rfl ?_
    refine at_iandV 53 X ((mk (fun k => decide (¬ dF (dyP (setL (gNow P L d) (LM (sLc P) (gnP (gNow P L d) (sB P) T r) l)) (sB P) T n) k = -1)) 8 &&& w : Nat) : Int) (iand_nat (by omega) (by omega)) dX11_keepsUp_52 rfl ?_
    refine at_if_ne 56 60 X dX11_keepsUp_53 rfl (by decide) (fun h53 => ?_) (fun h53 => ?_)
    · refine at_iconst 61 X (by decide) dX11_keepsUp_60 rfl ?_
      refine at_zret X Rt ?_ (by first | decide | (split <;> decide)) (Nat.le_refl _) (Nat.le_refl _) dX11_keepsUp_61
      exact ⟨0, F1, rfl, rfl, hLF.1, hLF.2, h65, Or.inr ⟨rfl, fun q => h53 (by rw [hiff.mpr q]; rfl)⟩⟩
    · refine at_iconst 57 X (by decide) dX11_keepsUp_56 rfl ?_
      refine at_goto 61 X dX11_keepsUp_57 (by decide) ?_
      refine at_zret X Rt ?_ (by first | decide | (split <;> decide)) (Nat.le_refl _) (Nat.le_refl _) dX11_keepsUp_61
      exact ⟨1, F1, rfl, rfl, hLF.1, hLF.2, h65, Or.inl ⟨rfl, hiff.mp (by omega)⟩⟩
  · have h8 : ¬ (lit &&& nl = nl ∧ lit &&& nd = 0) := ite_no.mp h8
    refine at_iconst 12 X (by decide) dX11_keepsUp_11 rfl ?_
    refine at_zret X Rt ?_ (by first | decide | (split <;> decide)) (Nat.le_refl _) (Nat.le_refl _) dX11_keepsUp_12
    exact ⟨0, E, rfl, rfl, hL_E, CXF.rf, rfl, Or.inr ⟨rfl, fun q => h8 (by rw [hlit]; exact good_allows hwG.W hP.B hL_E.1.WT hL_E.2.2.2.2.2.1 hL_E.2.2.2.2.2.2 q)⟩⟩
theorem dX11_findLamps_0 : decode cX11_findLamps 0 = .ok (.aload_n 0, 1) := by decide +kernel
theorem dX11_findLamps_1 : decode cX11_findLamps 1 = .ok (.getfield 86, 3) := by decide +kernel
theorem dX11_findLamps_4 : decode cX11_findLamps 4 = .ok (.iload_n 2, 1) := by decide +kernel
theorem dX11_findLamps_5 : decode cX11_findLamps 5 = .ok (.invokevirtual 326, 3) := by decide +kernel
theorem dX11_findLamps_8 : decode cX11_findLamps 8 = .ok (.istore_n 3, 1) := by decide +kernel
theorem dX11_findLamps_9 : decode cX11_findLamps 9 = .ok (.iconst 0, 1) := by decide +kernel
theorem dX11_findLamps_10 : decode cX11_findLamps 10 = .ok (.istore 4, 2) := by decide +kernel
theorem dX11_findLamps_12 : decode cX11_findLamps 12 = .ok (.iload_n 3, 1) := by decide +kernel
theorem dX11_findLamps_13 : decode cX11_findLamps 13 = .ok (.ifCond .eq 51, 3) := by decide +kernel
theorem dX11_findLamps_16 : decode cX11_findLamps 16 = .ok (.iload 4, 2) := by decide +kernel
theorem dX11_findLamps_18 : decode cX11_findLamps 18 = .ok (.ldc_w 329, 3) := by decide +kernel
theorem dX11_findLamps_21 : decode cX11_findLamps 21 = .ok (.if_icmp .ge 43, 3) := by decide +kernel
theorem dX11_findLamps_24 : decode cX11_findLamps 24 = .ok (.aload_n 0, 1) := by decide +kernel
theorem dX11_findLamps_25 : decode cX11_findLamps 25 = .ok (.iload_n 1, 1) := by decide +kernel
theorem dX11_findLamps_26 : decode cX11_findLamps 26 = .ok (.aload_n 0, 1) := by decide +kernel
theorem dX11_findLamps_27 : decode cX11_findLamps 27 = .ok (.getfield 86, 3) := by decide +kernel
theorem dX11_findLamps_30 : decode cX11_findLamps 30 = .ok (.iload_n 2, 1) := by decide +kernel
theorem dX11_findLamps_31 : decode cX11_findLamps 31 = .ok (.aload_n 0, 1) := by decide +kernel
theorem dX11_findLamps_32 : decode cX11_findLamps 32 = .ok (.getfield 93, 3) := by decide +kernel
theorem dX11_findLamps_35 : decode cX11_findLamps 35 = .ok (.getfield 330, 3) := by decide +kernel
theorem dX11_findLamps_38 : decode cX11_findLamps 38 = .ok (.invokevirtual 334, 3) := by decide +kernel
theorem dX11_findLamps_41 : decode cX11_findLamps 41 = .ok (.invokevirtual 338, 3) := by decide +kernel
theorem dX11_findLamps_44 : decode cX11_findLamps 44 = .ok (.ifCond .eq 5, 3) := by decide +kernel
theorem dX11_findLamps_47 : decode cX11_findLamps 47 = .ok (.iconst 1, 1) := by decide +kernel
theorem dX11_findLamps_48 : decode cX11_findLamps 48 = .ok (.ireturn, 1) := by decide +kernel
theorem dX11_findLamps_49 : decode cX11_findLamps 49 = .ok (.aload_n 0, 1) := by decide +kernel
theorem dX11_findLamps_50 : decode cX11_findLamps 50 = .ok (.getfield 86, 3) := by decide +kernel
theorem dX11_findLamps_53 : decode cX11_findLamps 53 = .ok (.iload_n 2, 1) := by decide +kernel
theorem dX11_findLamps_54 : decode cX11_findLamps 54 = .ok (.invokevirtual 342, 3) := by decide +kernel
theorem dX11_findLamps_57 : decode cX11_findLamps 57 = .ok (.istore_n 3, 1) := by decide +kernel
theorem dX11_findLamps_58 : decode cX11_findLamps 58 = .ok (.iinc 4 1, 3) := by decide +kernel
theorem dX11_findLamps_61 : decode cX11_findLamps 61 = .ok (.goto (-49), 3) := by decide +kernel
theorem dX11_findLamps_64 : decode cX11_findLamps 64 = .ok (.iconst 0, 1) := by decide +kernel
theorem dX11_findLamps_65 : decode cX11_findLamps 65 = .ok (.ireturn, 1) := by decide +kernel
theorem ct_X11_findLamps {g : Gw} (hG : GF g) {z : Bool} (E : Mm) (s : Nat) (P : SP) (L : LW) (T K : LN) (d w r m : Nat) (cl : Nat → Nat) (nl nd : Nat) (hw8 : w < 2 ^ bN (sB P)) (n : Nat) (hn3 : n ≤ 3) (hL_E : FLI E s P L T K d w r m cl nl nd) : CT g yX11_findLamps cX11_findLamps 5 (some .boolean) 8 210 0 0 K2 z [mR 0, mI ((w : Nat) : Int), mI ((n : Nat) : Int)] (ov E) K2 z (fun r' D' => ∃ v E1, r' = some (mI v) ∧ D' = ov E1 ∧ FLI E1 s P L T K d w r m cl nl nd ∧ CXF E E1 ∧ FLQ P L T d w r m cl n E1 v) := by
  refine CT.mk hG (by decide +kernel) (Nat.le_of_ble_eq_true rfl) (fun κ X Rt _ ok => ?_)
  have hs := hL_E.1.sa
  have hP := hL_E.1.WS
  have hW40 := hP.W
  have hN8 := hP.B.N
  have hwG := gNow_WG hL_E.1
  have hw256 : w < 256 := by
    have h2 := Nat.pow_le_pow_right (show 0 < 2 by decide) hN8
    rw [show (2 : Nat) ^ 8 = 256 by decide] at h2
    omega
  have hmW := hL_E.2.2.1.2.1
  have hm40 : m ≤ 40 := by omega
  have h64 : ∀ i, i < m → cl i < 64 := fun i hi => by have := (hL_E.2.2.1.2.2.1 i hi).2.2.1; omega
  refine at_aload_n 1 X rfl rfl dX11_findLamps_0 rfl ?_
  refine m_getR 4 X f_X11_86 k_0 r_0_14 dX11_findLamps_1 rfl ?_
  refine at_iload_n 5 X rfl rfl dX11_findLamps_4 rfl ?_
  refine at_callV 8 X _ 6 (ct_X6_pickFirst hG E m n hn3 hL_E.2.2.1.1 hm40) clX6 rfl k_62 mo_X6_pickFirst w_1473 vo_X6_pickFirst.1 vo_X6_pickFirst.2 rfl rfl (crm Rt (by decide)) (Nat.le_of_ble_eq_true rfl) dX11_findLamps_5 rfl ?_
  rintro _ _ ⟨rfl, F1, rfl, hp_F1, hf_F1⟩
  have hLF1 := hL_E.f65 hf_F1
  refine at_istore_n 9 X rfl dX11_findLamps_8 rfl (by decide) ?_
  refine at_iconst 10 X (by decide) dX11_findLamps_9 rfl ?_
  refine at_istore 12 X dX11_findLamps_10 rfl (by decide) ?_
  have J12 : ∀ (f12 : Nat) (F : Mm) (b : Int) (tr : Nat), 1000001 - tr < f12 → (FLI F s P L T K d w r m cl nl nd) → (CXF E F) → (FLS F P L T d w r m cl n b tr) → AT g κ K2 z 0 0 12 [(0, mR 0), (1, mI ((w : Nat) : Int)), (2, mI ((n : Nat) : Int)), (3, mI b), (4, mI ((tr : Nat) : Int))] [] (ov F) := by
    intro f12
    induction f12 with
    | zero => intro F b tr hf12; omega
    | succ f12 ih12 =>
    intro F b tr hf12 hL_F hX_F hs_F
    refine at_iload_n 13 X rfl rfl dX11_findLamps_12 rfl ?_
    refine at_if_eq 16 64 X dX11_findLamps_13 rfl (by decide) (fun h13 => ?_) (fun h13 => ?_)
    · refine at_iconst 65 X (by decide) dX11_findLamps_64 rfl ?_
      refine at_zret X Rt ?_ (by first | decide | (split <;> decide)) (Nat.le_refl _) (Nat.le_refl _) dX11_findLamps_65
      exact ⟨0, F, rfl, rfl, hL_F, hX_F, FLQ.none hn3 (hs_F.resolve_left (fun e => by have := e.1; omega)).2⟩
    · refine at_iload 18 X rfl dX11_findLamps_16 rfl ?_
      refine at_ldcw 21 X (n := 1000000) w_1477 (by decide) (by decide) dX11_findLamps_18 rfl ?_
      refine at_icmp_ge 24 64 X dX11_findLamps_21 rfl (by decide) (fun h21 => ?_) (fun h21 => ?_)
      · exfalso
        rcases hs_F with ⟨_, q, hp, ht, _⟩ | ⟨e, _⟩
        · have hdp := dgt_pk hn3 hm40 hp.2
          omega
        · exact h13 e
      · obtain ⟨q, hp, ht, hno⟩ := (hs_F.resolve_right (fun e => h13 e.1)).2
        refine at_aload_n 25 X rfl rfl dX11_findLamps_24 rfl ?_
        refine at_iload_n 26 X rfl rfl dX11_findLamps_25 rfl ?_
        refine at_aload_n 27 X rfl rfl dX11_findLamps_26 rfl ?_
        refine m_getR 30 X f_X11_86 k_0 r_0_14 dX11_findLamps_27 rfl ?_
        refine at_iload_n 31 X rfl rfl dX11_findLamps_30 rfl ?_
        refine at_aload_n 32 X rfl rfl dX11_findLamps_31 rfl ?_
        refine m_getM 35 X (s) f_X11_93 k_0 rn_0_15 hL_F.1.now dX11_findLamps_32 rfl ?_
        refine m_getLV 38 X ((mk (sLc P) 50 : Nat) : Int) hL_F.1.S.Lc f_X11_330 (kX9 hs) (nX9_16 hs) dX11_findLamps_35 rfl ?_
        have := mk_lt (sLc P) 50
        refine at_callV 41 X _ 6 (ct_X6_litBy hG F m n (mk (sLc P) 50) (fun i => gdP (gNow P L d) (sB P) T r (cl i)) q hn3 (fun i hi => ⟨hp.1 i hi, pkl_lt hp.2 hi⟩) hL_F.2.2.1.1 hm40 (fun i hi => ⟨(hL_F.2.2.1.2.2.1 i hi).2.1, gd_lt hwG.W r (cl i)⟩) (mk_lt (sLc P) 50)) clX6 rfl k_62 mo_X6_litBy w_1478 vo_X6_litBy.1 vo_X6_litBy.2 rfl rfl (crm Rt (by decide)) (Nat.le_of_ble_eq_true rfl) dX11_findLamps_38 rfl ?_
        rintro _ _ ⟨rfl, rfl⟩
        refine at_callV 44 X _ 11 (ct_X11_keepsUp hG F s P L T K d w r m cl nl nd hw8 ((pkl q n).map cl) (ltN (mk (sLc P) 50) (fun i => gdP (gNow P L d) (sB P) T r (cl i)) q n) hL_F (ltN_LM hwG.W hn3)) clX11 rfl k_0 mo_X11_keepsUp w_1487 vo_X11_keepsUp.1 vo_X11_keepsUp.2 rfl rfl (crm Rt (by decide)) (Nat.le_of_ble_eq_true rfl) dX11_findLamps_41 rfl ?_
        rintro _ _ ⟨v, F2, rfl, rfl, hL_F2, hX2, he2, hQ⟩
        have hX_F2 := hX_F.tr hX2
        have hp2 : PKS F2 m n q := ⟨fun i hi => by rw [he2]; exact hp.1 i hi, hp.2⟩
        refine at_if_eq 47 49 X dX11_findLamps_44 rfl (by decide) (fun h44 => ?_) (fun h44 => ?_)
        · refine at_aload_n 50 X rfl rfl dX11_findLamps_49 rfl ?_
          refine m_getR 53 X f_X11_86 k_0 r_0_14 dX11_findLamps_50 rfl ?_
          refine at_iload_n 54 X rfl rfl dX11_findLamps_53 rfl ?_
          refine at_callV 57 X _ 6 (ct_X6_pickNext hG F2 m n q hn3 (fun i hi => ⟨hp2.1 i hi, pkl_lt hp.2 hi⟩) hL_F2.2.2.1.1 hm40) clX6 rfl k_62 mo_X6_pickNext w_1495 vo_X6_pickNext.1 vo_X6_pickNext.2 rfl rfl (crm Rt (by decide)) (Nat.le_of_ble_eq_true rfl) dX11_findLamps_54 rfl ?_
          rintro _ _ ⟨b2, F3, rfl, rfl, hpn⟩
          have hLF3 := hL_F2.f65 hpn.1
          have hX_F3 := hX_F2.tr hLF3.2
          refine at_istore_n 58 X rfl dX11_findLamps_57 rfl (by decide) ?_
          refine at_iincV 61 X ((tr + 1 : Nat) : Int) (w32_v (by omega) (by omega) (by omega)) rfl dX11_findLamps_58 rfl (by decide) ?_
          refine at_goto 12 X dX11_findLamps_61 (by decide) ?_
          exact at_sub _ (by exact ⟨rfl, rfl, rfl, rfl, rfl, trivial⟩) (ih12 F3 b2 (tr + 1) (by first | omega | (simp only [] at *; omega)) hLF3.1 hX_F3 (FLS.next hn3 hm40 hp2 ht hno (hQ.resolve_left (fun e => by have := e.1; omega)).2 hpn))
        · refine at_iconst 48 X (by decide) dX11_findLamps_47 rfl ?_
          refine at_zret X Rt ?_ (by first | decide | (split <;> decide)) (Nat.le_refl _) (Nat.le_refl _) dX11_findLamps_48
          exact ⟨1, F2, rfl, rfl, hL_F2, hX_F2, FLQ.found hn3 hm40 hL_F.2.2.1.2.2.2.1 h64 hp hno (hQ.resolve_right (fun e => h44 e.1)).2 he2⟩
  exact at_sub _ (by exact ⟨rfl, rfl, rfl, rfl, rfl, trivial⟩) (J12 _ F1 (if n ≤ m then 1 else 0) 0 (Nat.lt_succ_self _) hLF1.1 hLF1.2 (FLS.first hn3 (fun i hi => hp_F1 i (by omega))))
