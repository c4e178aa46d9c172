theorem lots_eq {v : Int} (h1 : -2147483648 ≤ v) (h2 : v < 2147483648) : iand (ishr v 16) 15 = iand (iushr v 16) 15 := by
  rw [show (15 : Int) = 2 ^ 4 - 1 from rfl, iand_mask (by decide), iand_mask (by decide), show (16 : Int) = ((16 : Nat) : Int) from rfl, ishr_eq h1 h2 (by decide), iushr_eq (by decide) (by decide)]
  show v / 65536 % 16 = v % 4294967296 / 65536 % 16
  omega
theorem dF_cnt {W : Nat} {B : BM} {d : DS} (hd : DI W B d) (hB : bN B ≤ 8) : cntp (fun j => (mk (fun k => decide (¬ dF d k = -1)) 8).testBit j) 24 = dN d := by
  rw [cntp_mk (by decide), hd.2.1]
  obtain ⟨k, hk⟩ : ∃ k, 8 = bN B + k := ⟨8 - bN B, by omega⟩
  rw [hk, cntp_z (fun j hj => by rw [(hd.2.2.2.1 j hj).2]; rfl)]
  exact cntp_congr (fun j hj => by rw [decide_eq_decide, hd.2.2.1 j hj, Decidable.not_not])
theorem dX12_drawnBits_0 : decode cX12_drawnBits 0 = .ok (.iload_n 1, 1) := by decide +kernel
theorem dX12_drawnBits_1 : decode cX12_drawnBits 1 = .ok (.istore_n 3, 1) := by decide +kernel
theorem dX12_drawnBits_2 : decode cX12_drawnBits 2 = .ok (.aload_n 0, 1) := by decide +kernel
theorem dX12_drawnBits_3 : decode cX12_drawnBits 3 = .ok (.invokevirtual 372, 3) := by decide +kernel
theorem dX12_drawnBits_6 : decode cX12_drawnBits 6 = .ok (.iconst 0, 1) := by decide +kernel
theorem dX12_drawnBits_7 : decode cX12_drawnBits 7 = .ok (.istore 4, 2) := by decide +kernel
theorem dX12_drawnBits_9 : decode cX12_drawnBits 9 = .ok (.iload 4, 2) := by decide +kernel
theorem dX12_drawnBits_11 : decode cX12_drawnBits 11 = .ok (.bipush 24, 2) := by decide +kernel
theorem dX12_drawnBits_13 : decode cX12_drawnBits 13 = .ok (.if_icmp .ge 47, 3) := by decide +kernel
theorem dX12_drawnBits_16 : decode cX12_drawnBits 16 = .ok (.iload_n 3, 1) := by decide +kernel
theorem dX12_drawnBits_17 : decode cX12_drawnBits 17 = .ok (.ldc_w 453, 3) := by decide +kernel
theorem dX12_drawnBits_20 : decode cX12_drawnBits 20 = .ok (.imul, 1) := by decide +kernel
theorem dX12_drawnBits_21 : decode cX12_drawnBits 21 = .ok (.sipush 12345, 3) := by decide +kernel
theorem dX12_drawnBits_24 : decode cX12_drawnBits 24 = .ok (.iadd, 1) := by decide +kernel
theorem dX12_drawnBits_25 : decode cX12_drawnBits 25 = .ok (.istore_n 3, 1) := by decide +kernel
theorem dX12_drawnBits_26 : decode cX12_drawnBits 26 = .ok (.aload_n 0, 1) := by decide +kernel
theorem dX12_drawnBits_27 : decode cX12_drawnBits 27 = .ok (.dup, 1) := by decide +kernel
theorem dX12_drawnBits_28 : decode cX12_drawnBits 28 = .ok (.getfield 339, 3) := by decide +kernel
theorem dX12_drawnBits_31 : decode cX12_drawnBits 31 = .ok (.iload_n 3, 1) := by decide +kernel
theorem dX12_drawnBits_32 : decode cX12_drawnBits 32 = .ok (.bipush 16, 2) := by decide +kernel
theorem dX12_drawnBits_34 : decode cX12_drawnBits 34 = .ok (.ishr, 1) := by decide +kernel
theorem dX12_drawnBits_35 : decode cX12_drawnBits 35 = .ok (.bipush 15, 2) := by decide +kernel
theorem dX12_drawnBits_37 : decode cX12_drawnBits 37 = .ok (.iand, 1) := by decide +kernel
theorem dX12_drawnBits_38 : decode cX12_drawnBits 38 = .ok (.iload_n 2, 1) := by decide +kernel
theorem dX12_drawnBits_39 : decode cX12_drawnBits 39 = .ok (.if_icmp .ge 10, 3) := by decide +kernel
theorem dX12_drawnBits_42 : decode cX12_drawnBits 42 = .ok (.iconst 1, 1) := by decide +kernel
theorem dX12_drawnBits_43 : decode cX12_drawnBits 43 = .ok (.iload 4, 2) := by decide +kernel
theorem dX12_drawnBits_45 : decode cX12_drawnBits 45 = .ok (.ishl, 1) := by decide +kernel
theorem dX12_drawnBits_46 : decode cX12_drawnBits 46 = .ok (.goto 4, 3) := by decide +kernel
theorem dX12_drawnBits_49 : decode cX12_drawnBits 49 = .ok (.iconst 0, 1) := by decide +kernel
theorem dX12_drawnBits_50 : decode cX12_drawnBits 50 = .ok (.ior, 1) := by decide +kernel
theorem dX12_drawnBits_51 : decode cX12_drawnBits 51 = .ok (.putfield 339, 3) := by decide +kernel
theorem dX12_drawnBits_54 : decode cX12_drawnBits 54 = .ok (.iinc 4 1, 3) := by decide +kernel
theorem dX12_drawnBits_57 : decode cX12_drawnBits 57 = .ok (.goto (-48), 3) := by decide +kernel
theorem dX12_drawnBits_60 : decode cX12_drawnBits 60 = .ok (.aload_n 0, 1) := by decide +kernel
theorem dX12_drawnBits_61 : decode cX12_drawnBits 61 = .ok (.aload_n 0, 1) := by decide +kernel
theorem dX12_drawnBits_62 : decode cX12_drawnBits 62 = .ok (.getfield 267, 3) := by decide +kernel
theorem dX12_drawnBits_65 : decode cX12_drawnBits 65 = .ok (.invokevirtual 375, 3) := by decide +kernel
theorem dX12_drawnBits_68 : decode cX12_drawnBits 68 = .ok (.aload_n 0, 1) := by decide +kernel
theorem dX12_drawnBits_69 : decode cX12_drawnBits 69 = .ok (.invokevirtual 397, 3) := by decide +kernel
theorem dX12_drawnBits_72 : decode cX12_drawnBits 72 = .ok (.pop, 1) := by decide +kernel
theorem dX12_drawnBits_73 : decode cX12_drawnBits 73 = .ok (.aload_n 0, 1) := by decide +kernel
theorem dX12_drawnBits_74 : decode cX12_drawnBits 74 = .ok (.invokevirtual 407, 3) := by decide +kernel
theorem dX12_drawnBits_77 : decode cX12_drawnBits 77 = .ok (.ireturn, 1) := by decide +kernel
theorem ct_X12_drawnBits {g : Gw} (hG : GF g) {z : Bool} (E : Mm) (Q : RX) (P : SP) (L : LW) (T K : LN) (d st : Nat) (hWf : WF P L T K d st) (hI : RXI E Q P L T K d st) (sd : Int) (q : Nat) : CT g yX12_drawnBits cX12_drawnBits 5 (some .int) 6 136 0 0 K2 z [mR 125, mI sd, mI ((q : Nat) : Int)] (ov E) K2 z (fun r D' => r = some (mI (mk (fun k => decide (¬ dF (dyP (setC (gDay P L d) (drC P sd q)) (sB P) T 24) k = -1)) 8 : Nat)) ∧ ∃ E1, D' = ov E1 ∧ RXI E1 Q P L T K d st ∧ RXF P E E1 ∧ RSh E1 (setC (gDay P L d) (drC P sd q)) 24 ∧ RD E1 (sB P) (dyP (setC (gDay P L d) (drC P sd q)) (sB P) T 24) ∧ E1 125 0 = E 125 0 ∧ E1 127 = E 127) := by
  refine CT.mk hG (by decide +kernel) (Nat.le_of_ble_eq_true rfl) (fun κ X Rt _ ok => ?_)
  have hP := hWf.1
  have hN8 := hP.B.N
  have hW40 := hP.W
  have hN10 := hP.N
  have hL6 := hP.Ln
  have hst : st < 2147483648 := by have := hWf.2.2.2.2.2.2; omega
  refine at_iload_n 1 X rfl rfl dX12_drawnBits_0 rfl ?_
  refine at_istore_n 2 X rfl dX12_drawnBits_1 rfl (by decide) ?_
  refine at_aload_n 3 X rfl rfl dX12_drawnBits_2 rfl ?_
  refine at_callV 6 X _ 12 (ct_X12_asTold hG E P Q hP hI.1) clX12 rfl k_125 mo_X12_asTold w_2162 vo_X12_asTold.1 vo_X12_asTold.2 rfl rfl (crm Rt (by decide)) (Nat.le_of_ble_eq_true rfl) dX12_drawnBits_3 rfl ?_
  rintro _ _ ⟨rfl, rfl⟩
  generalize hF0 : wr (wr (wr E 125 52 (sN P : Int)) 125 53 (sLn P : Int)) 125 54 (mk (sC P) 24 : Nat) = F0
  have hq0 : ∀ q, q ≠ 125 → F0 q = E q := fun q h => by rw [← hF0]; simp (disch := omega) only [wr_row]
  have h0 : ∀ k, ¬ (52 ≤ k ∧ k ≤ 54) → F0 125 k = E 125 k := fun k h => by rw [← hF0]; simp (disch := omega) only [wr_o]
  have h52 : F0 125 52 = (sN P : Int) := by rw [← hF0]; simp (disch := omega) only [wr_s, wr_o]
  have h54 : F0 125 54 = (mk (sC P) 24 : Nat) := (by rw [← hF0]; simp (disch := omega) only [wr_s, wr_o])
  have hG0 := told_G (E1 := F0) (mo := moonP P d) (L := L) hI.1 hP h52 (by rw [← hF0]; simp (disch := omega) only [wr_s, wr_o]) h54 (fun q h => hq0 q (by omega))
  have hsc := mk24 (p := sC P) (Nat.le_refl 24)
  refine at_iconst 7 X (by decide) dX12_drawnBits_6 rfl ?_
  refine at_istore 9 X dX12_drawnBits_7 rfl (by decide) ?_
  have J9 : ∀ (f9 : Nat) (F : Mm) (h : Nat) (v : Int), 25 - h < f9 → (h ≤ 24) → (v = sdN sd h) → (F 125 54 = ((mk (sC P) 24 ||| mk (drB sd q) h : Nat) : Int)) → ((∀ q', q' ≠ 125 → F q' = F0 q')) → ((∀ k, k ≠ 54 → F 125 k = F0 125 k)) → AT g κ K2 z 0 0 9 [(0, mR 125), (2, mI ((q : Nat) : Int)), (3, mI v), (4, mI ((h : Nat) : Int))] [] (ov F) := by
    intro f9
    induction f9 with
    | zero => intro F h v hf9; omega
    | succ f9 ih9 =>
    intro F h v hf9 hh hv hc_F hq_F hk_F
    refine at_iload 11 X rfl dX12_drawnBits_9 rfl ?_
    refine at_bipush 13 X (by decide) (by decide) dX12_drawnBits_11 rfl ?_
    refine at_icmp_ge 16 60 X dX12_drawnBits_13 rfl (by decide) (fun h13 => ?_) (fun h13 => ?_)
    · have h45 : F 125 45 = (d : Int) := (hk_F 45 (by decide)).trans ((h0 45 (by omega)).trans hI.2.2.2.2.2)
      refine at_aload_n 61 X rfl rfl dX12_drawnBits_60 rfl ?_
      refine at_aload_n 62 X rfl rfl dX12_drawnBits_61 rfl ?_
      refine m_getIV 65 X ((d : Nat) : Int) h45 f_X12_267 k_125 rn_125_45 dX12_drawnBits_62 rfl ?_
      have hq1 : ∀ q', q' ≠ 125 → q' ≠ 142 + sN P → F q' = E q' := fun q' h _ => (hq_F q' h).trans (hq0 q' h)
      have h1 : ∀ k, ¬ (52 ≤ k ∧ k ≤ 54) → F 125 k = E 125 k := fun k hk => (hk_F k (by omega)).trans (h0 k hk)
      have hR1 : RTS F P Q := hI.1.fr (fun q' hq' => (hq_F q' (by omega)).trans (hq0 q' (by omega))) hP
      have hp1 : RPg F (setC (gDay P L d) (drC P sd q)) := ⟨(hk_F 52 (by decide)).trans hG0.1.1, fun p hp => by have hp' : p < sN P := hp; rw [hq_F (142 + p) (by omega)]; exact hG0.1.2 p hp⟩
      have hl1 : RLg F (setC (gDay P L d) (drC P sd q)) (sLn P) (xLx Q) (xLr Q) := ⟨(hk_F 53 (by decide)).trans hG0.2.1.1, hG0.2.1.2.1, fun k hk => by rw [hq_F (209 + k) (by omega)]; exact hG0.2.1.2.2.1 k hk, hG0.2.1.2.2.2⟩
      have hc1 : F 125 54 = (mk (drC P sd q) 24 : Nat) := by rw [hc_F, show h = 24 by omega, mk_or]; rfl
      have hwA := setC_WG (drC P sd q) (gOf_WG hP hWf.2.2.1 (moonP_in P d).2)
      refine at_callV 68 X _ 12 (ct_X12_lays hG F P Q hP hR1 (setC (gDay P L d) (drC P sd q)) hwA.R rfl hp1 _ _ _ hl1 hc1 (hI.2.1.fr hWf.2.2.1.2.1 (h1 28 (by omega)) (fun q a b => hq1 q (by omega) (by omega))) st hst (hI.2.2.1.fr (h1 30 (by omega)) (hq1 578 (by omega) (by omega)) (hq1 579 (by omega) (by omega))) d hWf.2.2.2.2.2.1 (fun _ _ => rfl) (fun _ _ => rfl)) clX12 rfl k_125 mo_X12_lays w_2166 vo_X12_lays.1 vo_X12_lays.2 rfl rfl (crm Rt (by decide)) (Nat.le_of_ble_eq_true rfl) dX12_drawnBits_65 rfl ?_
      rintro _ _ ⟨rfl, F2, rfl, hs_F2, hK_F2, hq_F2⟩
      refine at_aload_n 69 X rfl rfl dX12_drawnBits_68 rfl ?_
      have hqm : ∀ i, i < T.1 → F (581 + i) = E (581 + i) := fun i hi => by have := hWf.2.2.2.1.1; exact hq1 (581 + i) (by omega) (by omega)
      refine at_callV 72 X _ 12 (ct_X12_runs hG F2 P Q hP (hR1.frN (fun q hq => hq_F2 q (by omega) (by omega)) hP) (setC (gDay P L d) (drC P sd q)) T ⟨by rw [hq_F2 125 (by omega) (by omega), h1 43 (by omega)]; exact hI.2.2.2.1.1, fun i hi => by have := hWf.2.2.2.1.1; rw [hq_F2 (581 + i) (by omega) (by omega), hqm i hi]; exact hI.2.2.2.1.2 i hi⟩ hWf.2.2.2.1 (fun h c hh hc => (hs_F2 h c hh hc).2)) clX12 rfl k_125 mo_X12_runs w_2205 vo_X12_runs.1 vo_X12_runs.2 rfl rfl (crm Rt (by decide)) (Nat.le_of_ble_eq_true rfl) dX12_drawnBits_69 rfl ?_
      rintro _ _ ⟨rfl, F3, rfl, hd3, hh3, hf3⟩
      refine at_pop 73 X (show ¬ (0 : Nat) = 1 by decide) dX12_drawnBits_72 rfl ?_
      refine at_aload_n 74 X rfl rfl dX12_drawnBits_73 rfl ?_
      refine at_callV 77 X _ 12 (ct_X12_fallenBits hG F3 hd3 (dyP_DI (G := (setC (gDay P L d) (drC P sd q))) hP.B hWf.2.2.2.1 (Nat.le_refl 24)) hN8 (dyP_OKO (setC (gDay P L d) (drC P sd q)) (sB P) T 24)) clX12 rfl k_125 mo_X12_fallenBits w_2249 vo_X12_fallenBits.1 vo_X12_fallenBits.2 rfl rfl (crm Rt (by decide)) (Nat.le_of_ble_eq_true rfl) dX12_drawnBits_74 rfl ?_
      rintro _ _ ⟨rfl, rfl⟩
      refine at_iret X Rt ?_ (Nat.le_refl _) (Nat.le_refl _) dX12_drawnBits_77
      have hX : RXF P E F3 := ⟨fun q h => (hf3.1 q (by omega) (by omega) (by omega)).trans ((hq_F2 q (by omega) (by omega)).trans (hq1 q (by omega) (by omega))), fun k h => (hf3.2 k (by omega)).trans (by rw [hq_F2 125 (by omega) (by omega)]; exact h1 k (by omega))⟩
      exact ⟨rfl, F3, rfl, hI.fr hWf hX (hK_F2.fr (hf3.2 30 (by decide)) (hf3.1 578 (by omega) (by omega) (by omega)) (hf3.1 579 (by omega) (by omega) (by omega))), hX, fun h c hh hc => by rw [hf3.1 (683 + h) (by omega) (by omega) (by omega), hf3.1 (708 + h) (by omega) (by omega) (by omega)]; exact hs_F2 h c hh hc, hd3, (hf3.2 0 (by decide)).trans (by rw [hq_F2 125 (by omega) (by omega)]; exact h1 0 (by omega)), (hf3.1 127 (by omega) (by omega) (by omega)).trans ((hq_F2 127 (by omega) (by omega)).trans (hq1 127 (by omega) (by omega)))⟩
    · refine at_iload_n 17 X rfl rfl dX12_drawnBits_16 rfl ?_
      refine at_ldcw 20 X (n := 1103515245) w_2357 (by decide) (by decide) dX12_drawnBits_17 rfl ?_
      refine at_imulV 21 X (w32 (v * 1103515245)) rfl dX12_drawnBits_20 rfl ?_
      refine at_sipush 24 X (by decide) (by decide) dX12_drawnBits_21 rfl ?_
      refine at_iaddV 25 X (w32 (w32 (v * 1103515245) + 12345)) rfl dX12_drawnBits_24 rfl ?_
      refine at_istore_n 26 X rfl dX12_drawnBits_25 rfl (by decide) ?_
      refine at_aload_n 27 X rfl rfl dX12_drawnBits_26 rfl ?_
      refine at_dup 28 X (show ¬ (2 : Nat) = 1 by decide) dX12_drawnBits_27 rfl ?_
      refine m_getIV 31 X ((mk (sC P) 24 ||| mk (drB sd q) h : Nat) : Int) hc_F f_X12_339 k_125 rn_125_54 dX12_drawnBits_28 rfl ?_
      refine at_iload_n 32 X rfl rfl dX12_drawnBits_31 rfl ?_
      refine at_bipush 34 X (by decide) (by decide) dX12_drawnBits_32 rfl ?_
      refine at_ishrV 35 X (ishr (w32 (w32 (v * 1103515245) + 12345)) 16) rfl dX12_drawnBits_34 rfl ?_
      refine at_bipush 37 X (by decide) (by decide) dX12_drawnBits_35 rfl ?_
      refine at_iandV 38 X (iand (iushr (w32 (w32 (v * 1103515245) + 12345)) 16) 15) (lots_eq (w32_ok _).1 (w32_ok _).2) dX12_drawnBits_37 rfl ?_
      refine at_iload_n 39 X rfl rfl dX12_drawnBits_38 rfl ?_
      refine at_icmp_ge 42 49 X dX12_drawnBits_39 rfl (by decide) (fun h39 => ?_) (fun h39 => ?_)
      · have hdr : ¬ drB sd q h = true := by unfold drB; rw [decide_eq_true_iff]; show ¬ iand (iushr (w32 (w32 (sdN sd h * 1103515245) + 12345)) 16) 15 < (q : Int); rw [← hv]; omega
        refine at_iconst 50 X (by decide) dX12_drawnBits_49 rfl ?_
        refine at_iorV 51 X ((mk (sC P) 24 ||| mk (drB sd q) (h + 1) : Nat) : Int) (by have h1 := mk24 (p := drB sd q) (n := h) (by omega); first | (rw [ior_nat (or31 (by omega) (by omega)) (p2_31 (by omega)), mk_t hdr, Nat.or_assoc]) | (rw [mk_f hdr]; exact (ior_nat (n := 0) (or31 (by omega) (by omega)) (by decide)).trans (by rw [Nat.or_zero]))) dX12_drawnBits_50 rfl ?_
        refine m_putI 54 X f_X12_339 fw_12_54 k_125 rn_125_54 dX12_drawnBits_51 rfl ?_
        refine at_iincV 57 X ((h + 1 : Nat) : Int) (w32_v (by omega) (by omega) (by omega)) rfl dX12_drawnBits_54 rfl (by decide) ?_
        refine at_goto 9 X dX12_drawnBits_57 (by decide) ?_
        exact at_sub _ (by exact ⟨rfl, rfl, rfl, rfl, trivial⟩) (ih9 (wr F 125 54 ((mk (sC P) 24 ||| mk (drB sd q) (h + 1) : Nat) : Int)) (h + 1) (w32 (w32 (v * 1103515245) + 12345)) (by first | omega | (simp only [] at *; omega)) (by first | omega | assumption) (by rw [hv]; rfl) (wr_s _ _ _ _) (fun q' h => by rw [wr_row h]; exact hq_F q' h) (fun k hk => by rw [wr_o (Or.inr hk)]; exact hk_F k hk))
      · have hdr : drB sd q h = true := decide_eq_true (show iand (iushr (w32 (w32 (sdN sd h * 1103515245) + 12345)) 16) 15 < (q : Int) from by rw [← hv]; omega)
        refine at_iconst 43 X (by decide) dX12_drawnBits_42 rfl ?_
        refine at_iload 45 X rfl dX12_drawnBits_43 rfl ?_
        refine at_ishlV 46 X ((2 ^ h : Nat) : Int) (ishl1 (by omega)) dX12_drawnBits_45 rfl ?_
        refine at_goto 50 X dX12_drawnBits_46 (by decide) ?_
        refine at_iorV 51 X ((mk (sC P) 24 ||| mk (drB sd q) (h + 1) : Nat) : Int) (by have h1 := mk24 (p := drB sd q) (n := h) (by omega); first | (rw [ior_nat (or31 (by omega) (by omega)) (p2_31 (by omega)), mk_t hdr, Nat.or_assoc]) | (rw [mk_f hdr]; exact (ior_nat (n := 0) (or31 (by omega) (by omega)) (by decide)).trans (by rw [Nat.or_zero]))) dX12_drawnBits_50 rfl ?_
        refine m_putI 54 X f_X12_339 fw_12_54 k_125 rn_125_54 dX12_drawnBits_51 rfl ?_
        refine at_iincV 57 X ((h + 1 : Nat) : Int) (w32_v (by omega) (by omega) (by omega)) rfl dX12_drawnBits_54 rfl (by decide) ?_
        refine at_goto 9 X dX12_drawnBits_57 (by decide) ?_
        exact at_sub _ (by exact ⟨rfl, rfl, rfl, rfl, trivial⟩) (ih9 (wr F 125 54 ((mk (sC P) 24 ||| mk (drB sd q) (h + 1) : Nat) : Int)) (h + 1) (w32 (w32 (v * 1103515245) + 12345)) (by first | omega | (simp only [] at *; omega)) (by first | omega | assumption) (by rw [hv]; rfl) (wr_s _ _ _ _) (fun q' h => by rw [wr_row h]; exact hq_F q' h) (fun k hk => by rw [wr_o (Or.inr hk)]; exact hk_F k hk))
  exact at_sub _ (by exact ⟨rfl, rfl, rfl, rfl, trivial⟩) (J9 _ F0 0 sd (Nat.lt_succ_self _) (by first | omega | assumption | rfl) rfl (by rw [mk_0, Nat.or_zero]; exact h54) (fun _ _ => rfl) (fun _ _ => rfl))
theorem dX12_drawn_0 : decode cX12_drawn 0 = .ok (.aload_n 0, 1) := by decide +kernel
theorem dX12_drawn_1 : decode cX12_drawn 1 = .ok (.iconst 0, 1) := by decide +kernel
theorem dX12_drawn_2 : decode cX12_drawn 2 = .ok (.putfield 152, 3) := by decide +kernel
theorem dX12_drawn_5 : decode cX12_drawn 5 = .ok (.aload_n 0, 1) := by decide +kernel
theorem dX12_drawn_6 : decode cX12_drawn 6 = .ok (.iload_n 2, 1) := by decide +kernel
theorem dX12_drawn_7 : decode cX12_drawn 7 = .ok (.iconst 0, 1) := by decide +kernel
theorem dX12_drawn_8 : decode cX12_drawn 8 = .ok (.bipush 16, 2) := by decide +kernel
theorem dX12_drawn_10 : decode cX12_drawn 10 = .ok (.invokestatic 186, 3) := by decide +kernel
theorem dX12_drawn_13 : decode cX12_drawn 13 = .ok (.ifCond .ne 7, 3) := by decide +kernel
theorem dX12_drawn_16 : decode cX12_drawn 16 = .ok (.iconst 1, 1) := by decide +kernel
theorem dX12_drawn_17 : decode cX12_drawn 17 = .ok (.goto 4, 3) := by decide +kernel
theorem dX12_drawn_20 : decode cX12_drawn 20 = .ok (.iconst 0, 1) := by decide +kernel
theorem dX12_drawn_21 : decode cX12_drawn 21 = .ok (.iconst 1, 1) := by decide +kernel
theorem dX12_drawn_22 : decode cX12_drawn 22 = .ok (.iconst 2, 1) := by decide +kernel
theorem dX12_drawn_23 : decode cX12_drawn 23 = .ok (.invokevirtual 244, 3) := by decide +kernel
theorem dX12_drawn_26 : decode cX12_drawn 26 = .ok (.ifCond .eq 5, 3) := by decide +kernel
theorem dX12_drawn_29 : decode cX12_drawn 29 = .ok (.iconst 0, 1) := by decide +kernel
theorem dX12_drawn_30 : decode cX12_drawn 30 = .ok (.ireturn, 1) := by decide +kernel
theorem dX12_drawn_31 : decode cX12_drawn 31 = .ok (.aload_n 0, 1) := by decide +kernel
theorem dX12_drawn_32 : decode cX12_drawn 32 = .ok (.iload_n 1, 1) := by decide +kernel
theorem dX12_drawn_33 : decode cX12_drawn 33 = .ok (.iload_n 2, 1) := by decide +kernel
theorem dX12_drawn_34 : decode cX12_drawn 34 = .ok (.invokevirtual 454, 3) := by decide +kernel
theorem dX12_drawn_37 : decode cX12_drawn 37 = .ok (.ireturn, 1) := by decide +kernel
theorem ct_X12_drawn {g : Gw} (hG : GF g) {z : Bool} (E : Mm) (Q : RX) (P : SP) (L : LW) (T K : LN) (d st : Nat) (hWf : WF P L T K d st) (hI_E : RXI E Q P L T K d st) (x0 x1 : Int) : CT g yX12_drawn cX12_drawn 3 (some .int) 7 160 0 0 K2 z [mR 125, mI x0, mI x1] (ov E) K2 z (fun r' D' => ((0 ≤ x1 ∧ x1 ≤ 16) ∧ r' = some (mI (mk (fun k => decide (¬ dF (dyP (setC (gDay P L d) (drC P x0 x1.toNat)) (sB P) T 24) k = -1)) 8 : Nat)) ∧ ∃ E1, D' = ov E1 ∧ RXO E E1 Q P L T K d st) ∨ (¬ (0 ≤ x1 ∧ x1 ≤ 16) ∧ r' = some (mI 0) ∧ D' = ov (badR E 1 2))) := by
  refine CT.mk hG (by decide +kernel) (Nat.le_of_ble_eq_true rfl) (fun κ X Rt _ ok => ?_)
  have hP := hWf.1
  have hN8 := hP.B.N
  have hW40 := hP.W
  have hN11 := hP.N
  have hwN : gN (gDay P L d) ≤ 11 := Nat.le_trans hP.N (by decide)
  have hgw : gW (gDay P L d) = sW P := rfl
  have hDI24 := dyP_DI (G := (gDay P L d)) hP.B hWf.2.2.2.1 (Nat.le_refl 24)
  refine at_aload_n 1 X rfl rfl dX12_drawn_0 rfl ?_
  refine at_iconst 2 X (by decide) dX12_drawn_1 rfl ?_
  refine m_putI 5 X f_X12_152 fw_12_0 k_125 rn_125_0 dX12_drawn_2 rfl ?_
  have hO_E0 := RXO.z hWf hI_E
  generalize hE0 : wr E 125 0 0 = E0 at hO_E0 ⊢
  have hR_E0 := hO_E0.1.1
  refine at_aload_n 6 X rfl rfl dX12_drawn_5 rfl ?_
  refine at_iload_n 7 X rfl rfl dX12_drawn_6 rfl ?_
  refine at_iconst 8 X (by decide) dX12_drawn_7 rfl ?_
  refine at_bipush 10 X (by decide) (by decide) dX12_drawn_8 rfl ?_
  refine at_callS 13 X (ct_X12_in hG _ _ _) mo_X12_in w_1957 so_X12_in rfl rfl (crm Rt (by decide)) (Nat.le_of_ble_eq_true rfl) dX12_drawn_10 rfl ?_
  rintro _ _ ⟨rfl, rfl⟩
  refine at_if_ne 16 20 X dX12_drawn_13 rfl (by decide) (fun h13 => ?_) (fun h13 => ?_)
  · have h13 : (0 ≤ x1 ∧ x1 ≤ 16) := ite_yes.mp h13
    refine at_iconst 21 X (by decide) dX12_drawn_20 rfl ?_
    refine at_iconst 22 X (by decide) dX12_drawn_21 rfl ?_
    refine at_iconst 23 X (by decide) dX12_drawn_22 rfl ?_
    refine at_callV 26 X _ 12 (ct_bad0 hG E0 1 2 (by decide) hO_E0.2.2.1) clX12 rfl k_125 mo_X12_bad w_1960 vo_X12_bad.1 vo_X12_bad.2 rfl rfl (crm Rt (by decide)) (Nat.le_of_ble_eq_true rfl) dX12_drawn_23 rfl ?_
    rintro _ _ ⟨rfl, rfl⟩
    have hc0 : 0 ≤ x1 ∧ x1 ≤ 16 := by omega
    refine at_if_eq 29 31 X dX12_drawn_26 rfl (by decide) (fun h26 => ?_) (fun h26 => ?_)
    · obtain ⟨q, rfl⟩ : ∃ q : Nat, x1 = (q : Int) := ⟨x1.toNat, by omega⟩
      refine at_aload_n 32 X rfl rfl dX12_drawn_31 rfl ?_
      refine at_iload_n 33 X rfl rfl dX12_drawn_32 rfl ?_
      refine at_iload_n 34 X rfl rfl dX12_drawn_33 rfl ?_
      refine at_callV 37 X _ 12 (ct_X12_drawnBits hG E0 Q P L T K d st hWf hO_E0.1 x0 q) clX12 rfl k_125 mo_X12_drawnBits w_2353 vo_X12_drawnBits.1 vo_X12_drawnBits.2 rfl rfl (crm Rt (by decide)) (Nat.le_of_ble_eq_true rfl) dX12_drawn_34 rfl ?_
      rintro _ _ ⟨rfl, F1, rfl, hI_F1, hY_F1, hs_F1, hd_F1, h0_F1, h7_F1⟩
      have hO_F1 := hO_E0.nx hI_F1 hY_F1 h0_F1 h7_F1
      have hR_F1 := hI_F1.1
      have hDD := dyP_DI (G := (setC (gDay P L d) (drC P x0 q))) hP.B hWf.2.2.2.1 (Nat.le_refl 24)
      have hdd8 : dN (dyP (setC (gDay P L d) (drC P x0 q)) (sB P) T 24) ≤ 8 := by rw [hDD.2.1]; exact Nat.le_trans (cntp_le _ _) hN8
      have hmk8 := mk_le (p := fun k => decide (¬ dF (dyP (setC (gDay P L d) (drC P x0 q)) (sB P) T 24) k = -1)) (n := 8) (k := 8) (Nat.le_refl 8)
      refine at_iret X Rt ?_ (Nat.le_refl _) (Nat.le_refl _) dX12_drawn_37
      exact Or.inl ⟨hc0, (by rfl), _, rfl, hO_F1⟩
    · exact absurd h26 (by decide)
  · have h13 : ¬ (0 ≤ x1 ∧ x1 ≤ 16) := ite_no.mp h13
    refine at_iconst 17 X (by decide) dX12_drawn_16 rfl ?_
    refine at_goto 21 X dX12_drawn_17 (by decide) ?_
    refine at_iconst 22 X (by decide) dX12_drawn_21 rfl ?_
    refine at_iconst 23 X (by decide) dX12_drawn_22 rfl ?_
    refine at_callV 26 X _ 12 (ct_bad1 hG E0 1 2 (by decide) hO_E0.2.2.1 (by decide)) clX12 rfl k_125 mo_X12_bad w_1960 vo_X12_bad.1 vo_X12_bad.2 rfl rfl (crm Rt (by decide)) (Nat.le_of_ble_eq_true rfl) dX12_drawn_23 rfl ?_
    rintro _ _ ⟨rfl, rfl⟩
    have hb : ¬ (0 ≤ x1 ∧ x1 ≤ 16) := by omega
    refine at_if_eq 29 31 X dX12_drawn_26 rfl (by decide) (fun h26 => ?_) (fun h26 => ?_)
    · exact absurd h26 (by decide)
    · refine at_iconst 30 X (by decide) dX12_drawn_29 rfl ?_
      refine at_iret X Rt ?_ (Nat.le_refl _) (Nat.le_refl _) dX12_drawn_30
      exact Or.inr (⟨hb, rfl, congrArg ov (badR_of hE0)⟩)
theorem dX12_span_0 : decode cX12_span 0 = .ok (.aload_n 0, 1) := by decide +kernel
theorem dX12_span_1 : decode cX12_span 1 = .ok (.iconst 0, 1) := by decide +kernel
theorem dX12_span_2 : decode cX12_span 2 = .ok (.putfield 152, 3) := by decide +kernel
theorem dX12_span_5 : decode cX12_span 5 = .ok (.aload_n 0, 1) := by decide +kernel
theorem dX12_span_6 : decode cX12_span 6 = .ok (.iload_n 2, 1) := by decide +kernel
theorem dX12_span_7 : decode cX12_span 7 = .ok (.iconst 1, 1) := by decide +kernel
theorem dX12_span_8 : decode cX12_span 8 = .ok (.bipush 40, 2) := by decide +kernel
theorem dX12_span_10 : decode cX12_span 10 = .ok (.invokestatic 186, 3) := by decide +kernel
theorem dX12_span_13 : decode cX12_span 13 = .ok (.ifCond .eq 32, 3) := by decide +kernel
theorem dX12_span_16 : decode cX12_span 16 = .ok (.iload_n 3, 1) := by decide +kernel
theorem dX12_span_17 : decode cX12_span 17 = .ok (.iconst 0, 1) := by decide +kernel
theorem dX12_span_18 : decode cX12_span 18 = .ok (.bipush 16, 2) := by decide +kernel
theorem dX12_span_20 : decode cX12_span 20 = .ok (.invokestatic 186, 3) := by decide +kernel
theorem dX12_span_23 : decode cX12_span 23 = .ok (.ifCond .eq 22, 3) := by decide +kernel
theorem dX12_span_26 : decode cX12_span 26 = .ok (.iload 4, 2) := by decide +kernel
theorem dX12_span_28 : decode cX12_span 28 = .ok (.iconst 0, 1) := by decide +kernel
theorem dX12_span_29 : decode cX12_span 29 = .ok (.iconst 2, 1) := by decide +kernel
theorem dX12_span_30 : decode cX12_span 30 = .ok (.invokestatic 186, 3) := by decide +kernel
theorem dX12_span_33 : decode cX12_span 33 = .ok (.ifCond .eq 12, 3) := by decide +kernel
theorem dX12_span_36 : decode cX12_span 36 = .ok (.aload_n 0, 1) := by decide +kernel
theorem dX12_span_37 : decode cX12_span 37 = .ok (.iload 5, 2) := by decide +kernel
theorem dX12_span_39 : decode cX12_span 39 = .ok (.invokevirtual 324, 3) := by decide +kernel
theorem dX12_span_42 : decode cX12_span 42 = .ok (.ifCond .ne 7, 3) := by decide +kernel
theorem dX12_span_45 : decode cX12_span 45 = .ok (.iconst 1, 1) := by decide +kernel
theorem dX12_span_46 : decode cX12_span 46 = .ok (.goto 4, 3) := by decide +kernel
theorem dX12_span_49 : decode cX12_span 49 = .ok (.iconst 0, 1) := by decide +kernel
theorem dX12_span_50 : decode cX12_span 50 = .ok (.iconst 1, 1) := by decide +kernel
theorem dX12_span_51 : decode cX12_span 51 = .ok (.iconst 2, 1) := by decide +kernel
theorem dX12_span_52 : decode cX12_span 52 = .ok (.invokevirtual 244, 3) := by decide +kernel
theorem dX12_span_55 : decode cX12_span 55 = .ok (.ifCond .eq 5, 3) := by decide +kernel
theorem dX12_span_58 : decode cX12_span 58 = .ok (.iconst 0, 1) := by decide +kernel
theorem dX12_span_59 : decode cX12_span 59 = .ok (.ireturn, 1) := by decide +kernel
theorem dX12_span_60 : decode cX12_span 60 = .ok (.iconst (-1), 1) := by decide +kernel
theorem dX12_span_61 : decode cX12_span 61 = .ok (.istore 6, 2) := by decide +kernel
theorem dX12_span_63 : decode cX12_span 63 = .ok (.iconst 0, 1) := by decide +kernel
theorem dX12_span_64 : decode cX12_span 64 = .ok (.istore 7, 2) := by decide +kernel
theorem dX12_span_66 : decode cX12_span 66 = .ok (.iconst 0, 1) := by decide +kernel
theorem dX12_span_67 : decode cX12_span 67 = .ok (.istore 8, 2) := by decide +kernel
theorem dX12_span_69 : decode cX12_span 69 = .ok (.iconst 0, 1) := by decide +kernel
theorem dX12_span_70 : decode cX12_span 70 = .ok (.istore 9, 2) := by decide +kernel
theorem dX12_span_72 : decode cX12_span 72 = .ok (.iload 9, 2) := by decide +kernel
theorem dX12_span_74 : decode cX12_span 74 = .ok (.iload_n 2, 1) := by decide +kernel
theorem dX12_span_75 : decode cX12_span 75 = .ok (.if_icmp .ge 68, 3) := by decide +kernel
theorem dX12_span_78 : decode cX12_span 78 = .ok (.aload_n 0, 1) := by decide +kernel
theorem dX12_span_79 : decode cX12_span 79 = .ok (.iload_n 1, 1) := by decide +kernel
theorem dX12_span_80 : decode cX12_span 80 = .ok (.iload 9, 2) := by decide +kernel
theorem dX12_span_82 : decode cX12_span 82 = .ok (.iadd, 1) := by decide +kernel
theorem dX12_span_83 : decode cX12_span 83 = .ok (.iload_n 3, 1) := by decide +kernel
theorem dX12_span_84 : decode cX12_span 84 = .ok (.invokevirtual 454, 3) := by decide +kernel
theorem dX12_span_87 : decode cX12_span 87 = .ok (.istore 10, 2) := by decide +kernel
theorem dX12_span_89 : decode cX12_span 89 = .ok (.iload 10, 2) := by decide +kernel
theorem dX12_span_91 : decode cX12_span 91 = .ok (.invokestatic 360, 3) := by decide +kernel
theorem dX12_span_94 : decode cX12_span 94 = .ok (.istore 11, 2) := by decide +kernel
theorem dX12_span_96 : decode cX12_span 96 = .ok (.iload 6, 2) := by decide +kernel
theorem dX12_span_98 : decode cX12_span 98 = .ok (.iconst (-1), 1) := by decide +kernel
theorem dX12_span_99 : decode cX12_span 99 = .ok (.if_icmp .ne 8, 3) := by decide +kernel
theorem dX12_span_102 : decode cX12_span 102 = .ok (.iload 11, 2) := by decide +kernel
theorem dX12_span_104 : decode cX12_span 104 = .ok (.goto 10, 3) := by decide +kernel
theorem dX12_span_107 : decode cX12_span 107 = .ok (.iload 6, 2) := by decide +kernel
theorem dX12_span_109 : decode cX12_span 109 = .ok (.iload 11, 2) := by decide +kernel
theorem dX12_span_111 : decode cX12_span 111 = .ok (.invokestatic 301, 3) := by decide +kernel
theorem dX12_span_114 : decode cX12_span 114 = .ok (.istore 6, 2) := by decide +kernel
theorem dX12_span_116 : decode cX12_span 116 = .ok (.iload 7, 2) := by decide +kernel
theorem dX12_span_118 : decode cX12_span 118 = .ok (.iload 11, 2) := by decide +kernel
theorem dX12_span_120 : decode cX12_span 120 = .ok (.invokestatic 304, 3) := by decide +kernel
theorem dX12_span_123 : decode cX12_span 123 = .ok (.istore 7, 2) := by decide +kernel
theorem dX12_span_125 : decode cX12_span 125 = .ok (.iload 8, 2) := by decide +kernel
theorem dX12_span_127 : decode cX12_span 127 = .ok (.iload 10, 2) := by decide +kernel
theorem dX12_span_129 : decode cX12_span 129 = .ok (.iload 5, 2) := by decide +kernel
theorem dX12_span_131 : decode cX12_span 131 = .ok (.ishr, 1) := by decide +kernel
theorem dX12_span_132 : decode cX12_span 132 = .ok (.iconst 1, 1) := by decide +kernel
theorem dX12_span_133 : decode cX12_span 133 = .ok (.iand, 1) := by decide +kernel
theorem dX12_span_134 : decode cX12_span 134 = .ok (.iadd, 1) := by decide +kernel
theorem dX12_span_135 : decode cX12_span 135 = .ok (.istore 8, 2) := by decide +kernel
theorem dX12_span_137 : decode cX12_span 137 = .ok (.iinc 9 1, 3) := by decide +kernel
theorem dX12_span_140 : decode cX12_span 140 = .ok (.goto (-68), 3) := by decide +kernel
theorem dX12_span_143 : decode cX12_span 143 = .ok (.iload 4, 2) := by decide +kernel
theorem dX12_span_145 : decode cX12_span 145 = .ok (.ifCond .ne 8, 3) := by decide +kernel
theorem dX12_span_148 : decode cX12_span 148 = .ok (.iload 6, 2) := by decide +kernel
theorem dX12_span_150 : decode cX12_span 150 = .ok (.goto 16, 3) := by decide +kernel
theorem dX12_span_153 : decode cX12_span 153 = .ok (.iload 4, 2) := by decide +kernel
theorem dX12_span_155 : decode cX12_span 155 = .ok (.iconst 1, 1) := by decide +kernel
theorem dX12_span_156 : decode cX12_span 156 = .ok (.if_icmp .ne 8, 3) := by decide +kernel
theorem dX12_span_159 : decode cX12_span 159 = .ok (.iload 7, 2) := by decide +kernel
theorem dX12_span_161 : decode cX12_span 161 = .ok (.goto 5, 3) := by decide +kernel
theorem dX12_span_164 : decode cX12_span 164 = .ok (.iload 8, 2) := by decide +kernel
theorem dX12_span_166 : decode cX12_span 166 = .ok (.ireturn, 1) := by decide +kernel
theorem ct_X12_span {g : Gw} (hG : GF g) {z : Bool} (E : Mm) (Q : RX) (P : SP) (L : LW) (T K : LN) (d st : Nat) (hWf : WF P L T K d st) (hI_E : RXI E Q P L T K d st) (x0 x1 x2 x3 x4 : Int) : CT g yX12_span cX12_span 12 (some .int) 7 160 0 0 K2 z [mR 125, mI x0, mI x1, mI x2, mI x3, mI x4] (ov E) K2 z (fun r' D' => (((1 ≤ x1 ∧ x1 ≤ 40) ∧ (0 ≤ x2 ∧ x2 ≤ 16) ∧ (0 ≤ x3 ∧ x3 ≤ 2) ∧ 0 ≤ x4 ∧ x4 ≤ (bN (sB P) : Int) - 1) ∧ r' = some (mI (if x3 = 0 then spL P L T d x0 x2.toNat x1.toNat else if x3 = 1 then spM P L T d x0 x2.toNat x1.toNat else (spB P L T d x0 x2.toNat x4.toNat x1.toNat : Nat))) ∧ ∃ E1, D' = ov E1 ∧ RXO E E1 Q P L T K d st) ∨ (¬ ((1 ≤ x1 ∧ x1 ≤ 40) ∧ (0 ≤ x2 ∧ x2 ≤ 16) ∧ (0 ≤ x3 ∧ x3 ≤ 2) ∧ 0 ≤ x4 ∧ x4 ≤ (bN (sB P) : Int) - 1) ∧ r' = some (mI 0) ∧ D' = ov (badR E 1 2))) := by
  refine CT.mk hG (by decide +kernel) (Nat.le_of_ble_eq_true rfl) (fun κ X Rt _ ok => ?_)
  have hP := hWf.1
  have hN8 := hP.B.N
  have hW40 := hP.W
  have hN11 := hP.N
  have hwN : gN (gDay P L d) ≤ 11 := Nat.le_trans hP.N (by decide)
  have hgw : gW (gDay P L d) = sW P := rfl
  have hDI24 := dyP_DI (G := (gDay P L d)) hP.B hWf.2.2.2.1 (Nat.le_refl 24)
  refine at_aload_n 1 X rfl rfl dX12_span_0 rfl ?_
  refine at_iconst 2 X (by decide) dX12_span_1 rfl ?_
  refine m_putI 5 X f_X12_152 fw_12_0 k_125 rn_125_0 dX12_span_2 rfl ?_
  have hO_E0 := RXO.z hWf hI_E
  generalize hE0 : wr E 125 0 0 = E0 at hO_E0 ⊢
  have hR_E0 := hO_E0.1.1
  refine at_aload_n 6 X rfl rfl dX12_span_5 rfl ?_
  refine at_iload_n 7 X rfl rfl dX12_span_6 rfl ?_
  refine at_iconst 8 X (by decide) dX12_span_7 rfl ?_
  refine at_bipush 10 X (by decide) (by decide) dX12_span_8 rfl ?_
  refine at_callS 13 X (ct_X12_in hG _ _ _) mo_X12_in w_1957 so_X12_in rfl rfl (crm Rt (by decide)) (Nat.le_of_ble_eq_true rfl) dX12_span_10 rfl ?_
  rintro _ _ ⟨rfl, rfl⟩
  refine at_if_eq 16 45 X dX12_span_13 rfl (by decide) (fun h13 => ?_) (fun h13 => ?_)
  · have h13 : ¬ (1 ≤ x1 ∧ x1 ≤ 40) := ite_no.mp h13
    refine at_iconst 46 X (by decide) dX12_span_45 rfl ?_
    refine at_goto 50 X dX12_span_46 (by decide) ?_
    refine at_iconst 51 X (by decide) dX12_span_50 rfl ?_
    refine at_iconst 52 X (by decide) dX12_span_51 rfl ?_
    refine at_callV 55 X _ 12 (ct_bad1 hG E0 1 2 (by decide) hO_E0.2.2.1 (by decide)) clX12 rfl k_125 mo_X12_bad w_1960 vo_X12_bad.1 vo_X12_bad.2 rfl rfl (crm Rt (by decide)) (Nat.le_of_ble_eq_true rfl) dX12_span_52 rfl ?_
    rintro _ _ ⟨rfl, rfl⟩
    have hb : ¬ ((1 ≤ x1 ∧ x1 ≤ 40) ∧ (0 ≤ x2 ∧ x2 ≤ 16) ∧ (0 ≤ x3 ∧ x3 ≤ 2) ∧ 0 ≤ x4 ∧ x4 ≤ (bN (sB P) : Int) - 1) := by omega
    refine at_if_eq 58 60 X dX12_span_55 rfl (by decide) (fun h55 => ?_) (fun h55 => ?_)
    · exact absurd h55 (by decide)
    · refine at_iconst 59 X (by decide) dX12_span_58 rfl ?_
      refine at_iret X Rt ?_ (Nat.le_refl _) (Nat.le_refl _) dX12_span_59
      exact Or.inr (⟨hb, rfl, congrArg ov (badR_of hE0)⟩)
  · have h13 : (1 ≤ x1 ∧ x1 ≤ 40) := ite_yes.mp h13
    refine at_iload_n 17 X rfl rfl dX12_span_16 rfl ?_
    refine at_iconst 18 X (by decide) dX12_span_17 rfl ?_
    refine at_bipush 20 X (by decide) (by decide) dX12_span_18 rfl ?_
    refine at_callS 23 X (ct_X12_in hG _ _ _) mo_X12_in w_1957 so_X12_in rfl rfl (crm Rt (by decide)) (Nat.le_of_ble_eq_true rfl) dX12_span_20 rfl ?_
    rintro _ _ ⟨rfl, rfl⟩
    refine at_if_eq 26 45 X dX12_span_23 rfl (by decide) (fun h23 => ?_) (fun h23 => ?_)
    · have h23 : ¬ (0 ≤ x2 ∧ x2 ≤ 16) := ite_no.mp h23
      refine at_iconst 46 X (by decide) dX12_span_45 rfl ?_
      refine at_goto 50 X dX12_span_46 (by decide) ?_
      refine at_iconst 51 X (by decide) dX12_span_50 rfl ?_
      refine at_iconst 52 X (by decide) dX12_span_51 rfl ?_
      refine at_callV 55 X _ 12 (ct_bad1 hG E0 1 2 (by decide) hO_E0.2.2.1 (by decide)) clX12 rfl k_125 mo_X12_bad w_1960 vo_X12_bad.1 vo_X12_bad.2 rfl rfl (crm Rt (by decide)) (Nat.le_of_ble_eq_true rfl) dX12_span_52 rfl ?_
      rintro _ _ ⟨rfl, rfl⟩
      have hb : ¬ ((1 ≤ x1 ∧ x1 ≤ 40) ∧ (0 ≤ x2 ∧ x2 ≤ 16) ∧ (0 ≤ x3 ∧ x3 ≤ 2) ∧ 0 ≤ x4 ∧ x4 ≤ (bN (sB P) : Int) - 1) := by omega
      refine at_if_eq 58 60 X dX12_span_55 rfl (by decide) (fun h55 => ?_) (fun h55 => ?_)
      · exact absurd h55 (by decide)
      · refine at_iconst 59 X (by decide) dX12_span_58 rfl ?_
        refine at_iret X Rt ?_ (Nat.le_refl _) (Nat.le_refl _) dX12_span_59
        exact Or.inr (⟨hb, rfl, congrArg ov (badR_of hE0)⟩)
    · have h23 : (0 ≤ x2 ∧ x2 ≤ 16) := ite_yes.mp h23
      refine at_iload 28 X rfl dX12_span_26 rfl ?_
      refine at_iconst 29 X (by decide) dX12_span_28 rfl ?_
      refine at_iconst 30 X (by decide) dX12_span_29 rfl ?_
      refine at_callS 33 X (ct_X12_in hG _ _ _) mo_X12_in w_1957 so_X12_in rfl rfl (crm Rt (by decide)) (Nat.le_of_ble_eq_true rfl) dX12_span_30 rfl ?_
      rintro _ _ ⟨rfl, rfl⟩
      refine at_if_eq 36 45 X dX12_span_33 rfl (by decide) (fun h33 => ?_) (fun h33 => ?_)
      · have h33 : ¬ (0 ≤ x3 ∧ x3 ≤ 2) := ite_no.mp h33
        refine at_iconst 46 X (by decide) dX12_span_45 rfl ?_
        refine at_goto 50 X dX12_span_46 (by decide) ?_
        refine at_iconst 51 X (by decide) dX12_span_50 rfl ?_
        refine at_iconst 52 X (by decide) dX12_span_51 rfl ?_
        refine at_callV 55 X _ 12 (ct_bad1 hG E0 1 2 (by decide) hO_E0.2.2.1 (by decide)) clX12 rfl k_125 mo_X12_bad w_1960 vo_X12_bad.1 vo_X12_bad.2 rfl rfl (crm Rt (by decide)) (Nat.le_of_ble_eq_true rfl) dX12_span_52 rfl ?_
        rintro _ _ ⟨rfl, rfl⟩
        have hb : ¬ ((1 ≤ x1 ∧ x1 ≤ 40) ∧ (0 ≤ x2 ∧ x2 ≤ 16) ∧ (0 ≤ x3 ∧ x3 ≤ 2) ∧ 0 ≤ x4 ∧ x4 ≤ (bN (sB P) : Int) - 1) := by omega
        refine at_if_eq 58 60 X dX12_span_55 rfl (by decide) (fun h55 => ?_) (fun h55 => ?_)
        · exact absurd h55 (by decide)
        · refine at_iconst 59 X (by decide) dX12_span_58 rfl ?_
          refine at_iret X Rt ?_ (Nat.le_refl _) (Nat.le_refl _) dX12_span_59
          exact Or.inr (⟨hb, rfl, congrArg ov (badR_of hE0)⟩)
      · have h33 : (0 ≤ x3 ∧ x3 ≤ 2) := ite_yes.mp h33
        refine at_aload_n 37 X rfl rfl dX12_span_36 rfl ?_
        refine at_iload 39 X rfl dX12_span_37 rfl ?_
        refine at_callV 42 X _ 12 (ct_X12_isBeam hG E0 P Q hP hR_E0 x4) clX12 rfl k_125 mo_X12_isBeam w_2122 vo_X12_isBeam.1 vo_X12_isBeam.2 rfl rfl (crm Rt (by decide)) (Nat.le_of_ble_eq_true rfl) dX12_span_39 rfl ?_
        rintro _ _ ⟨rfl, rfl⟩
        refine at_if_ne 45 49 X dX12_span_42 rfl (by decide) (fun h42 => ?_) (fun h42 => ?_)
        · have h42 : (0 ≤ x4 ∧ x4 ≤ (bN (sB P) : Int) - 1) := ite_yes.mp h42
          refine at_iconst 50 X (by decide) dX12_span_49 rfl ?_
          refine at_iconst 51 X (by decide) dX12_span_50 rfl ?_
          refine at_iconst 52 X (by decide) dX12_span_51 rfl ?_
          refine at_callV 55 X _ 12 (ct_bad0 hG E0 1 2 (by decide) hO_E0.2.2.1) clX12 rfl k_125 mo_X12_bad w_1960 vo_X12_bad.1 vo_X12_bad.2 rfl rfl (crm Rt (by decide)) (Nat.le_of_ble_eq_true rfl) dX12_span_52 rfl ?_
          rintro _ _ ⟨rfl, rfl⟩
          have hc0 : (1 ≤ x1 ∧ x1 ≤ 40) ∧ (0 ≤ x2 ∧ x2 ≤ 16) ∧ (0 ≤ x3 ∧ x3 ≤ 2) ∧ 0 ≤ x4 ∧ x4 ≤ (bN (sB P) : Int) - 1 := by omega
          refine at_if_eq 58 60 X dX12_span_55 rfl (by decide) (fun h55 => ?_) (fun h55 => ?_)
          · obtain ⟨n, rfl⟩ : ∃ n : Nat, x1 = (n : Int) := ⟨x1.toNat, by omega⟩
            obtain ⟨q, rfl⟩ : ∃ q : Nat, x2 = (q : Int) := ⟨x2.toNat, by omega⟩
            obtain ⟨b, rfl⟩ : ∃ b : Nat, x4 = (b : Int) := ⟨x4.toNat, by omega⟩
            refine at_iconst 61 X (by decide) dX12_span_60 rfl ?_
            refine at_istore 63 X dX12_span_61 rfl (by decide) ?_
            refine at_iconst 64 X (by decide) dX12_span_63 rfl ?_
            refine at_istore 66 X dX12_span_64 rfl (by decide) ?_
            refine at_iconst 67 X (by decide) dX12_span_66 rfl ?_
            refine at_istore 69 X dX12_span_67 rfl (by decide) ?_
            refine at_iconst 70 X (by decide) dX12_span_69 rfl ?_
            refine at_istore 72 X dX12_span_70 rfl (by decide) ?_
            have J72 : ∀ (f72 : Nat) (F : Mm) (i : Nat) (v : Int) (m : Int) (k : Int), 41 - i < f72 → (i ≤ n) → ((i = 0 ∧ v = -1) ∨ (0 < i ∧ v = spL P L T d x0 q i ∧ 0 ≤ v)) → (m = spM P L T d x0 q i) → (0 ≤ m ∧ m ≤ 8) → (k = (spB P L T d x0 q b i : Nat)) → (RXO E F Q P L T K d st) → AT g κ K2 z 0 0 72 [(0, mR 125), (1, mI x0), (2, mI ((n : Nat) : Int)), (3, mI ((q : Nat) : Int)), (4, mI x3), (5, mI ((b : Nat) : Int)), (6, mI v), (7, mI m), (8, mI k), (9, mI ((i : Nat) : Int))] [] (ov F) := by
              intro f72
              induction f72 with
              | zero => intro F i v m k hf72; omega
              | succ f72 ih72 =>
              intro F i v m k hf72 hi hv hm hml hk hO_F
              refine at_iload 74 X rfl dX12_span_72 rfl ?_
              have hR_F := hO_F.1.1
              have hkl := cntp_le (fun i => decide (¬ dF (spD P L T d x0 q i) b = -1)) i
              have hkl2 : spB P L T d x0 q b i ≤ i := hkl
              have hsL : spL P L T d x0 q (i + 1) = if spL P L T d x0 q i ≤ ((dN (dyP (setC (gDay P L d) (drC P (w32 (x0 + (i : Int))) q)) (sB P) T 24) : Nat) : Int) then spL P L T d x0 q i else ((dN (dyP (setC (gDay P L d) (drC P (w32 (x0 + (i : Int))) q)) (sB P) T 24) : Nat) : Int) := rfl
              have hsM : spM P L T d x0 q (i + 1) = if spM P L T d x0 q i < ((dN (dyP (setC (gDay P L d) (drC P (w32 (x0 + (i : Int))) q)) (sB P) T 24) : Nat) : Int) then ((dN (dyP (setC (gDay P L d) (drC P (w32 (x0 + (i : Int))) q)) (sB P) T 24) : Nat) : Int) else spM P L T d x0 q i := rfl
              have hsB : spB P L T d x0 q b (i + 1) = spB P L T d x0 q b i + (if decide (¬ dF (dyP (setC (gDay P L d) (drC P (w32 (x0 + (i : Int))) q)) (sB P) T 24) b = -1) = true then 1 else 0) := rfl
              have hs0 : i = 0 → spL P L T d x0 q i = 8 := fun e => by rw [e]; rfl
              refine at_iload_n 75 X rfl rfl dX12_span_74 rfl ?_
              refine at_icmp_ge 78 143 X dX12_span_75 rfl (by decide) (fun h75 => ?_) (fun h75 => ?_)
              · refine at_iload 145 X rfl dX12_span_143 rfl ?_
                refine at_if_ne 148 153 X dX12_span_145 rfl (by decide) (fun h145 => ?_) (fun h145 => ?_)
                · refine at_iload 155 X rfl dX12_span_153 rfl ?_
                  refine at_iconst 156 X (by decide) dX12_span_155 rfl ?_
                  refine at_icmp_ne 159 164 X dX12_span_156 rfl (by decide) (fun h156 => ?_) (fun h156 => ?_)
                  · refine at_iload 166 X rfl dX12_span_164 rfl ?_
                    refine at_iret X Rt ?_ (Nat.le_refl _) (Nat.le_refl _) dX12_span_166
                    exact Or.inl ⟨hc0, (by (try simp only [Int.toNat_natCast]); rw [show n = i by omega]; first | (rw [if_pos (show x3 = 0 by omega)]; exact congrArg (fun q => some (mI q)) (by omega)) | (rw [if_neg (show ¬ x3 = 0 by omega), if_pos (show x3 = 1 by omega), hm]; done) | (rw [if_neg (show ¬ x3 = 0 by omega), if_neg (show ¬ x3 = 1 by omega), hk]; done)), _, rfl, hO_F⟩
                  · refine at_iload 161 X rfl dX12_span_159 rfl ?_
                    refine at_goto 166 X dX12_span_161 (by decide) ?_
                    refine at_iret X Rt ?_ (Nat.le_refl _) (Nat.le_refl _) dX12_span_166
                    exact Or.inl ⟨hc0, (by (try simp only [Int.toNat_natCast]); rw [show n = i by omega]; first | (rw [if_pos (show x3 = 0 by omega)]; exact congrArg (fun q => some (mI q)) (by omega)) | (rw [if_neg (show ¬ x3 = 0 by omega), if_pos (show x3 = 1 by omega), hm]; done) | (rw [if_neg (show ¬ x3 = 0 by omega), if_neg (show ¬ x3 = 1 by omega), hk]; done)), _, rfl, hO_F⟩
                · refine at_iload 150 X rfl dX12_span_148 rfl ?_
                  refine at_goto 166 X dX12_span_150 (by decide) ?_
                  refine at_iret X Rt ?_ (Nat.le_refl _) (Nat.le_refl _) dX12_span_166
                  exact Or.inl ⟨hc0, (by (try simp only [Int.toNat_natCast]); rw [show n = i by omega]; first | (rw [if_pos (show x3 = 0 by omega)]; exact congrArg (fun q => some (mI q)) (by omega)) | (rw [if_neg (show ¬ x3 = 0 by omega), if_pos (show x3 = 1 by omega), hm]; done) | (rw [if_neg (show ¬ x3 = 0 by omega), if_neg (show ¬ x3 = 1 by omega), hk]; done)), _, rfl, hO_F⟩
              · refine at_aload_n 79 X rfl rfl dX12_span_78 rfl ?_
                refine at_iload_n 80 X rfl rfl dX12_span_79 rfl ?_
                refine at_iload 82 X rfl dX12_span_80 rfl ?_
                refine at_iaddV 83 X (w32 (x0 + (i : Int))) rfl dX12_span_82 rfl ?_
                refine at_iload_n 84 X rfl rfl dX12_span_83 rfl ?_
                refine at_callV 87 X _ 12 (ct_X12_drawnBits hG F Q P L T K d st hWf hO_F.1 (w32 (x0 + (i : Int))) q) clX12 rfl k_125 mo_X12_drawnBits w_2353 vo_X12_drawnBits.1 vo_X12_drawnBits.2 rfl rfl (crm Rt (by decide)) (Nat.le_of_ble_eq_true rfl) dX12_span_84 rfl ?_
                rintro _ _ ⟨rfl, F1, rfl, hI_F1, hY_F1, hs_F1, hd_F1, h0_F1, h7_F1⟩
                have hO_F1 := hO_F.nx hI_F1 hY_F1 h0_F1 h7_F1
                have hR_F1 := hI_F1.1
                have hDD := dyP_DI (G := (setC (gDay P L d) (drC P (w32 (x0 + (i : Int))) q))) hP.B hWf.2.2.2.1 (Nat.le_refl 24)
                have hdd8 : dN (dyP (setC (gDay P L d) (drC P (w32 (x0 + (i : Int))) q)) (sB P) T 24) ≤ 8 := by rw [hDD.2.1]; exact Nat.le_trans (cntp_le _ _) hN8
                have hmk8 := mk_le (p := fun k => decide (¬ dF (dyP (setC (gDay P L d) (drC P (w32 (x0 + (i : Int))) q)) (sB P) T 24) k = -1)) (n := 8) (k := 8) (Nat.le_refl 8)
                refine at_istore 89 X dX12_span_87 rfl (by decide) ?_
                refine at_iload 91 X rfl dX12_span_89 rfl ?_
                refine at_callS 94 X (ct_X12_ones hG F1 (mk (fun k => decide (¬ dF (dyP (setC (gDay P L d) (drC P (w32 (x0 + (i : Int))) q)) (sB P) T 24) k = -1)) 8) (by omega)) mo_X12_ones w_2186 so_X12_ones rfl rfl (crm Rt (by decide)) (Nat.le_of_ble_eq_true rfl) dX12_span_91 rfl ?_
                rintro _ _ ⟨rfl, rfl⟩
                rw [dF_cnt hDD hN8]
                refine at_istore 96 X dX12_span_94 rfl (by decide) ?_
                refine at_iload 98 X rfl dX12_span_96 rfl ?_
                refine at_iconst 99 X (by decide) dX12_span_98 rfl ?_
                refine at_icmp_ne 102 107 X dX12_span_99 rfl (by decide) (fun h99 => ?_) (fun h99 => ?_)
                · refine at_iload 109 X rfl dX12_span_107 rfl ?_
                  refine at_iload 111 X rfl dX12_span_109 rfl ?_
                  refine at_callS 114 X (ct_X12_less hG F1 v ((dN (dyP (setC (gDay P L d) (drC P (w32 (x0 + (i : Int))) q)) (sB P) T 24) : Nat) : Int)) mo_X12_less w_2088 so_X12_less rfl rfl (crm Rt (by decide)) (Nat.le_of_ble_eq_true rfl) dX12_span_111 rfl ?_
                  rintro _ _ ⟨rfl, rfl⟩
                  refine at_istore 116 X dX12_span_114 rfl (by decide) ?_
                  refine at_iload 118 X rfl dX12_span_116 rfl ?_
                  refine at_iload 120 X rfl dX12_span_118 rfl ?_
                  refine at_callS 123 X (ct_X12_more hG F1 m ((dN (dyP (setC (gDay P L d) (drC P (w32 (x0 + (i : Int))) q)) (sB P) T 24) : Nat) : Int)) mo_X12_more w_2091 so_X12_more rfl rfl (crm Rt (by decide)) (Nat.le_of_ble_eq_true rfl) dX12_span_120 rfl ?_
                  rintro _ _ ⟨rfl, rfl⟩
                  refine at_istore 125 X dX12_span_123 rfl (by decide) ?_
                  refine at_iload 127 X rfl dX12_span_125 rfl ?_
                  refine at_iload 129 X rfl dX12_span_127 rfl ?_
                  refine at_iload 131 X rfl dX12_span_129 rfl ?_
                  refine at_ishrV 132 X (ishr ((mk (fun k => decide (¬ dF (dyP (setC (gDay P L d) (drC P (w32 (x0 + (i : Int))) q)) (sB P) T 24) k = -1)) 8 : Nat) : Int) ((b : Nat) : Int)) rfl dX12_span_131 rfl ?_
                  refine at_iconst 133 X (by decide) dX12_span_132 rfl ?_
                  refine at_iandV 134 X (if decide (¬ dF (dyP (setC (gDay P L d) (drC P (w32 (x0 + (i : Int))) q)) (sB P) T 24) b = -1) = true then 1 else 0) ((ibit (by omega) (by omega)).trans (by rw [mk_in (by omega)])) dX12_span_133 rfl ?_
                  refine at_iaddV 135 X (k + (if decide (¬ dF (dyP (setC (gDay P L d) (drC P (w32 (x0 + (i : Int))) q)) (sB P) T 24) b = -1) = true then 1 else 0)) (w32_v rfl (by omega) (by omega)) dX12_span_134 rfl ?_
                  refine at_istore 137 X dX12_span_135 rfl (by decide) ?_
                  refine at_iincV 140 X ((i + 1 : Nat) : Int) (w32_v (by omega) (by omega) (by omega)) rfl dX12_span_137 rfl (by decide) ?_
                  refine at_goto 72 X dX12_span_140 (by decide) ?_
                  exact at_sub _ (by exact ⟨rfl, rfl, rfl, rfl, rfl, rfl, rfl, rfl, rfl, rfl, trivial⟩) (ih72 F1 (i + 1) (if v < ((dN (dyP (setC (gDay P L d) (drC P (w32 (x0 + (i : Int))) q)) (sB P) T 24) : Nat) : Int) then v else ((dN (dyP (setC (gDay P L d) (drC P (w32 (x0 + (i : Int))) q)) (sB P) T 24) : Nat) : Int)) (if ((dN (dyP (setC (gDay P L d) (drC P (w32 (x0 + (i : Int))) q)) (sB P) T 24) : Nat) : Int) < m then m else ((dN (dyP (setC (gDay P L d) (drC P (w32 (x0 + (i : Int))) q)) (sB P) T 24) : Nat) : Int)) (k + (if decide (¬ dF (dyP (setC (gDay P L d) (drC P (w32 (x0 + (i : Int))) q)) (sB P) T 24) b = -1) = true then 1 else 0)) (by first | omega | (simp only [] at *; omega)) (by first | omega | assumption) (Or.inr ⟨by omega, by rw [hsL]; split <;> omega, by first | omega | (split <;> omega)⟩) (by rw [hsM, ← hm]; split <;> split <;> omega) (by split <;> omega) (by rw [hsB, hk]; split <;> first | omega | (split <;> first | omega | contradiction)) hO_F1)
                · refine at_iload 104 X rfl dX12_span_102 rfl ?_
                  refine at_goto 114 X dX12_span_104 (by decide) ?_
                  refine at_istore 116 X dX12_span_114 rfl (by decide) ?_
                  refine at_iload 118 X rfl dX12_span_116 rfl ?_
                  refine at_iload 120 X rfl dX12_span_118 rfl ?_
                  refine at_callS 123 X (ct_X12_more hG F1 m ((dN (dyP (setC (gDay P L d) (drC P (w32 (x0 + (i : Int))) q)) (sB P) T 24) : Nat) : Int)) mo_X12_more w_2091 so_X12_more rfl rfl (crm Rt (by decide)) (Nat.le_of_ble_eq_true rfl) dX12_span_120 rfl ?_
                  rintro _ _ ⟨rfl, rfl⟩
                  refine at_istore 125 X dX12_span_123 rfl (by decide) ?_
                  refine at_iload 127 X rfl dX12_span_125 rfl ?_
                  refine at_iload 129 X rfl dX12_span_127 rfl ?_
                  refine at_iload 131 X rfl dX12_span_129 rfl ?_
                  refine at_ishrV 132 X (ishr ((mk (fun k => decide (¬ dF (dyP (setC (gDay P L d) (drC P (w32 (x0 + (i : Int))) q)) (sB P) T 24) k = -1)) 8 : Nat) : Int) ((b : Nat) : Int)) rfl dX12_span_131 rfl ?_
                  refine at_iconst 133 X (by decide) dX12_span_132 rfl ?_
                  refine at_iandV 134 X (if decide (¬ dF (dyP (setC (gDay P L d) (drC P (w32 (x0 + (i : Int))) q)) (sB P) T 24) b = -1) = true then 1 else 0) ((ibit (by omega) (by omega)).trans (by rw [mk_in (by omega)])) dX12_span_133 rfl ?_
                  refine at_iaddV 135 X (k + (if decide (¬ dF (dyP (setC (gDay P L d) (drC P (w32 (x0 + (i : Int))) q)) (sB P) T 24) b = -1) = true then 1 else 0)) (w32_v rfl (by omega) (by omega)) dX12_span_134 rfl ?_
                  refine at_istore 137 X dX12_span_135 rfl (by decide) ?_
                  refine at_iincV 140 X ((i + 1 : Nat) : Int) (w32_v (by omega) (by omega) (by omega)) rfl dX12_span_137 rfl (by decide) ?_
                  refine at_goto 72 X dX12_span_140 (by decide) ?_
                  exact at_sub _ (by exact ⟨rfl, rfl, rfl, rfl, rfl, rfl, rfl, rfl, rfl, rfl, trivial⟩) (ih72 F1 (i + 1) ((dN (dyP (setC (gDay P L d) (drC P (w32 (x0 + (i : Int))) q)) (sB P) T 24) : Nat) : Int) (if ((dN (dyP (setC (gDay P L d) (drC P (w32 (x0 + (i : Int))) q)) (sB P) T 24) : Nat) : Int) < m then m else ((dN (dyP (setC (gDay P L d) (drC P (w32 (x0 + (i : Int))) q)) (sB P) T 24) : Nat) : Int)) (k + (if decide (¬ dF (dyP (setC (gDay P L d) (drC P (w32 (x0 + (i : Int))) q)) (sB P) T 24) b = -1) = true then 1 else 0)) (by first | omega | (simp only [] at *; omega)) (by first | omega | assumption) (Or.inr ⟨by omega, by rw [hsL]; split <;> omega, by first | omega | (split <;> omega)⟩) (by rw [hsM, ← hm]; split <;> split <;> omega) (by split <;> omega) (by rw [hsB, hk]; split <;> first | omega | (split <;> first | omega | contradiction)) hO_F1)
            exact at_sub _ (by exact ⟨rfl, rfl, rfl, rfl, rfl, rfl, rfl, rfl, rfl, rfl, trivial⟩) (J72 _ E0 0 (-1) 0 0 (Nat.lt_succ_self _) (by first | omega | assumption | rfl) (Or.inl ⟨rfl, rfl⟩) rfl (by first | omega | assumption | rfl) rfl hO_E0)
          · exact absurd h55 (by decide)
        · have h42 : ¬ (0 ≤ x4 ∧ x4 ≤ (bN (sB P) : Int) - 1) := ite_no.mp h42
          refine at_iconst 46 X (by decide) dX12_span_45 rfl ?_
          refine at_goto 50 X dX12_span_46 (by decide) ?_
          refine at_iconst 51 X (by decide) dX12_span_50 rfl ?_
          refine at_iconst 52 X (by decide) dX12_span_51 rfl ?_
          refine at_callV 55 X _ 12 (ct_bad1 hG E0 1 2 (by decide) hO_E0.2.2.1 (by decide)) clX12 rfl k_125 mo_X12_bad w_1960 vo_X12_bad.1 vo_X12_bad.2 rfl rfl (crm Rt (by decide)) (Nat.le_of_ble_eq_true rfl) dX12_span_52 rfl ?_
          rintro _ _ ⟨rfl, rfl⟩
          have hb : ¬ ((1 ≤ x1 ∧ x1 ≤ 40) ∧ (0 ≤ x2 ∧ x2 ≤ 16) ∧ (0 ≤ x3 ∧ x3 ≤ 2) ∧ 0 ≤ x4 ∧ x4 ≤ (bN (sB P) : Int) - 1) := by omega
          refine at_if_eq 58 60 X dX12_span_55 rfl (by decide) (fun h55 => ?_) (fun h55 => ?_)
          · exact absurd h55 (by decide)
          · refine at_iconst 59 X (by decide) dX12_span_58 rfl ?_
            refine at_iret X Rt ?_ (Nat.le_refl _) (Nat.le_refl _) dX12_span_59
            exact Or.inr (⟨hb, rfl, congrArg ov (badR_of hE0)⟩)
