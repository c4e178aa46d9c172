theorem dX12_isToldPost_0 : decode cX12_isToldPost 0 = .ok (.iconst 0, 1) := by decide +kernel
theorem dX12_isToldPost_1 : decode cX12_isToldPost 1 = .ok (.istore_n 2, 1) := by decide +kernel
theorem dX12_isToldPost_2 : decode cX12_isToldPost 2 = .ok (.iload_n 2, 1) := by decide +kernel
theorem dX12_isToldPost_3 : decode cX12_isToldPost 3 = .ok (.aload_n 0, 1) := by decide +kernel
theorem dX12_isToldPost_4 : decode cX12_isToldPost 4 = .ok (.getfield 23, 3) := by decide +kernel
theorem dX12_isToldPost_7 : decode cX12_isToldPost 7 = .ok (.iconst 1, 1) := by decide +kernel
theorem dX12_isToldPost_8 : decode cX12_isToldPost 8 = .ok (.iaload, 1) := by decide +kernel
theorem dX12_isToldPost_9 : decode cX12_isToldPost 9 = .ok (.if_icmp .ge 23, 3) := by decide +kernel
theorem dX12_isToldPost_12 : decode cX12_isToldPost 12 = .ok (.aload_n 0, 1) := by decide +kernel
theorem dX12_isToldPost_13 : decode cX12_isToldPost 13 = .ok (.getfield 31, 3) := by decide +kernel
theorem dX12_isToldPost_16 : decode cX12_isToldPost 16 = .ok (.iload_n 2, 1) := by decide +kernel
theorem dX12_isToldPost_17 : decode cX12_isToldPost 17 = .ok (.aaload, 1) := by decide +kernel
theorem dX12_isToldPost_18 : decode cX12_isToldPost 18 = .ok (.iconst 0, 1) := by decide +kernel
theorem dX12_isToldPost_19 : decode cX12_isToldPost 19 = .ok (.iaload, 1) := by decide +kernel
theorem dX12_isToldPost_20 : decode cX12_isToldPost 20 = .ok (.iload_n 1, 1) := by decide +kernel
theorem dX12_isToldPost_21 : decode cX12_isToldPost 21 = .ok (.if_icmp .ne 5, 3) := by decide +kernel
theorem dX12_isToldPost_24 : decode cX12_isToldPost 24 = .ok (.iconst 1, 1) := by decide +kernel
theorem dX12_isToldPost_25 : decode cX12_isToldPost 25 = .ok (.ireturn, 1) := by decide +kernel
theorem dX12_isToldPost_26 : decode cX12_isToldPost 26 = .ok (.iinc 2 1, 3) := by decide +kernel
theorem dX12_isToldPost_29 : decode cX12_isToldPost 29 = .ok (.goto (-27), 3) := by decide +kernel
theorem dX12_isToldPost_32 : decode cX12_isToldPost 32 = .ok (.iconst 0, 1) := by decide +kernel
theorem dX12_isToldPost_33 : decode cX12_isToldPost 33 = .ok (.ireturn, 1) := by decide +kernel
theorem ct_X12_isToldPost {g : Gw} (hG : GF g) {z : Bool} (E : Mm) (P : SP) (Q : RX) (hP : WS P) (hR_E : RTS E P Q) (c : Nat) : CT g yX12_isToldPost cX12_isToldPost 3 (some .boolean) 0 0 0 0 K2 z [mR 125, mI ((c : Nat) : Int)] (ov E) K2 z (fun r D' => r = some (mI (if hasP P c = true then 1 else 0)) ∧ D' = ov E) := by
  refine CT.mk hG (by decide +kernel) (Nat.le_of_ble_eq_true rfl) (fun κ X Rt _ ok => ?_)
  have hN10 := hP.N
  refine at_iconst 1 X (by decide) dX12_isToldPost_0 rfl ?_
  refine at_istore_n 2 X rfl dX12_isToldPost_1 rfl (by decide) ?_
  have J2 : ∀ (f2 : Nat) (p : Nat), 11 - p < f2 → (p ≤ sN P) → ((∀ j, j < p → ¬ sX P j = c)) → AT g κ K2 z 0 0 2 [(0, mR 125), (1, mI ((c : Nat) : Int)), (2, mI ((p : Nat) : Int))] [] (ov E) := by
    intro f2
    induction f2 with
    | zero => intro p hf2; omega
    | succ f2 ih2 =>
    intro p hf2 hp hno
    refine at_iload_n 3 X rfl rfl dX12_isToldPost_2 rfl ?_
    refine at_aload_n 4 X rfl rfl dX12_isToldPost_3 rfl ?_
    refine m_getR 7 X f_X12_23 k_125 r_125_12 dX12_isToldPost_4 rfl ?_
    refine at_iconst 8 X (by decide) dX12_isToldPost_7 rfl ?_
    refine m_ialoadV 9 X 1 (by omega) ((sN P : Nat) : Int) hR_E.1.2.1 k_129 e_129 (by omega) dX12_isToldPost_8 rfl ?_
    have := hP.N
    refine at_icmp_ge 12 32 X dX12_isToldPost_9 rfl (by decide) (fun h9 => ?_) (fun h9 => ?_)
    · refine at_iconst 33 X (by decide) dX12_isToldPost_32 rfl ?_
      refine at_zret X Rt ?_ (by first | decide | (split <;> decide)) (Nat.le_refl _) (Nat.le_refl _) dX12_isToldPost_33
      exact ⟨by rw [if_neg (fun q => by obtain ⟨j, h1, h2⟩ := (hasP_iff P c).mp q; exact hno j (by omega) h2)], rfl⟩
    · refine at_aload_n 13 X rfl rfl dX12_isToldPost_12 rfl ?_
      refine m_getR 16 X f_X12_31 k_125 r_125_14 dX12_isToldPost_13 rfl ?_
      refine at_iload_n 17 X rfl rfl dX12_isToldPost_16 rfl ?_
      refine m_aaloadV 18 X p (by omega) k_141 (by decide) (by omega) (rr_141 _ (by omega)) dX12_isToldPost_17 rfl ?_
      refine at_iconst 19 X (by decide) dX12_isToldPost_18 rfl ?_
      refine m_ialoadV 20 X 0 (by omega) ((sX P p : Nat) : Int) (hR_E.2.1 p (by omega)).1 (kr_141 _ (by omega)) (er_141 _ (by omega)) (by omega) dX12_isToldPost_19 rfl ?_
      have := hP.X (p := p) (by omega)
      refine at_iload_n 21 X rfl rfl dX12_isToldPost_20 rfl ?_
      refine at_icmp_ne 24 26 X dX12_isToldPost_21 rfl (by decide) (fun h21 => ?_) (fun h21 => ?_)
      · refine at_iincV 29 X ((p + 1 : Nat) : Int) (w32_v (by omega) (by omega) (by omega)) rfl dX12_isToldPost_26 rfl (by decide) ?_
        refine at_goto 2 X dX12_isToldPost_29 (by decide) ?_
        exact at_sub _ (by exact ⟨rfl, rfl, rfl, trivial⟩) (ih2 (p + 1) (by first | omega | (simp only [] at *; omega)) (by first | omega | assumption) (fun j hj => if e : j = p then by rw [e]; omega else hno j (by omega)))
      · refine at_iconst 25 X (by decide) dX12_isToldPost_24 rfl ?_
        refine at_zret X Rt ?_ (by first | decide | (split <;> decide)) (Nat.le_refl _) (Nat.le_refl _) dX12_isToldPost_25
        exact ⟨by rw [if_pos ((hasP_iff P c).mpr ⟨p, by omega, by omega⟩)], rfl⟩
  exact at_sub _ (by exact ⟨rfl, rfl, rfl, trivial⟩) (J2 _ 0 (Nat.lt_succ_self _) (by first | omega | assumption | rfl) (fun j hj => absurd hj (Nat.not_lt_zero j)))
theorem dX12_fallsWith_0 : decode cX12_fallsWith 0 = .ok (.aload_n 0, 1) := by decide +kernel
theorem dX12_fallsWith_1 : decode cX12_fallsWith 1 = .ok (.invokevirtual 372, 3) := by decide +kernel
theorem dX12_fallsWith_4 : decode cX12_fallsWith 4 = .ok (.aload_n 0, 1) := by decide +kernel
theorem dX12_fallsWith_5 : decode cX12_fallsWith 5 = .ok (.getfield 31, 3) := by decide +kernel
theorem dX12_fallsWith_8 : decode cX12_fallsWith 8 = .ok (.aload_n 0, 1) := by decide +kernel
theorem dX12_fallsWith_9 : decode cX12_fallsWith 9 = .ok (.getfield 330, 3) := by decide +kernel
theorem dX12_fallsWith_12 : decode cX12_fallsWith 12 = .ok (.aaload, 1) := by decide +kernel
theorem dX12_fallsWith_13 : decode cX12_fallsWith 13 = .ok (.iconst 0, 1) := by decide +kernel
theorem dX12_fallsWith_14 : decode cX12_fallsWith 14 = .ok (.iload_n 1, 1) := by decide +kernel
theorem dX12_fallsWith_15 : decode cX12_fallsWith 15 = .ok (.iastore, 1) := by decide +kernel
theorem dX12_fallsWith_16 : decode cX12_fallsWith 16 = .ok (.aload_n 0, 1) := by decide +kernel
theorem dX12_fallsWith_17 : decode cX12_fallsWith 17 = .ok (.getfield 31, 3) := by decide +kernel
theorem dX12_fallsWith_20 : decode cX12_fallsWith 20 = .ok (.aload_n 0, 1) := by decide +kernel
theorem dX12_fallsWith_21 : decode cX12_fallsWith 21 = .ok (.getfield 330, 3) := by decide +kernel
theorem dX12_fallsWith_24 : decode cX12_fallsWith 24 = .ok (.aaload, 1) := by decide +kernel
theorem dX12_fallsWith_25 : decode cX12_fallsWith 25 = .ok (.iconst 1, 1) := by decide +kernel
theorem dX12_fallsWith_26 : decode cX12_fallsWith 26 = .ok (.iload_n 2, 1) := by decide +kernel
theorem dX12_fallsWith_27 : decode cX12_fallsWith 27 = .ok (.iastore, 1) := by decide +kernel
theorem dX12_fallsWith_28 : decode cX12_fallsWith 28 = .ok (.aload_n 0, 1) := by decide +kernel
theorem dX12_fallsWith_29 : decode cX12_fallsWith 29 = .ok (.dup, 1) := by decide +kernel
theorem dX12_fallsWith_30 : decode cX12_fallsWith 30 = .ok (.getfield 330, 3) := by decide +kernel
theorem dX12_fallsWith_33 : decode cX12_fallsWith 33 = .ok (.iconst 1, 1) := by decide +kernel
theorem dX12_fallsWith_34 : decode cX12_fallsWith 34 = .ok (.iadd, 1) := by decide +kernel
theorem dX12_fallsWith_35 : decode cX12_fallsWith 35 = .ok (.putfield 330, 3) := by decide +kernel
theorem dX12_fallsWith_38 : decode cX12_fallsWith 38 = .ok (.aload_n 0, 1) := by decide +kernel
theorem dX12_fallsWith_39 : decode cX12_fallsWith 39 = .ok (.aload_n 0, 1) := by decide +kernel
theorem dX12_fallsWith_40 : decode cX12_fallsWith 40 = .ok (.getfield 267, 3) := by decide +kernel
theorem dX12_fallsWith_43 : decode cX12_fallsWith 43 = .ok (.invokevirtual 375, 3) := by decide +kernel
theorem dX12_fallsWith_46 : decode cX12_fallsWith 46 = .ok (.aload_n 0, 1) := by decide +kernel
theorem dX12_fallsWith_47 : decode cX12_fallsWith 47 = .ok (.invokevirtual 397, 3) := by decide +kernel
theorem dX12_fallsWith_50 : decode cX12_fallsWith 50 = .ok (.ireturn, 1) := by decide +kernel
theorem ct_X12_fallsWith {g : Gw} (hG : GF g) {z : Bool} (E : Mm) (Q : RX) (P : SP) (L : LW) (T K : LN) (d st : Nat) (hWf : WF P L T K d st) (hI : RXI E Q P L T K d st) (c hi : Nat) (hc : c < sW P) (hhi : 1 ≤ hi ∧ hi ≤ 99) : CT g yX12_fallsWith cX12_fallsWith 3 (some .int) 6 136 0 0 K2 z [mR 125, mI ((c : Nat) : Int), mI ((hi : Nat) : Int)] (ov E) K2 z (fun r D' => r = some (mI (dN (dyP (addP (gDay P L d) c hi) (sB P) T 24) : Nat)) ∧ ∃ E1, D' = ov E1 ∧ RXI E1 Q P L T K d st ∧ RXF P E E1 ∧ RSh E1 (addP (gDay P L d) c hi) 24 ∧ RD E1 (sB P) (dyP (addP (gDay P L d) c hi) (sB P) T 24) ∧ E1 125 0 = E 125 0 ∧ E1 127 = E 127) := by
  refine CT.mk hG (by decide +kernel) (Nat.le_of_ble_eq_true rfl) (fun κ X Rt _ ok => ?_)
  have hP := hWf.1
  have hN8 := hP.B.N
  have hW40 := hP.W
  have hN10 := hP.N
  have hL6 := hP.Ln
  have hst : st < 2147483648 := by have := hWf.2.2.2.2.2.2; omega
  refine at_aload_n 1 X rfl rfl dX12_fallsWith_0 rfl ?_
  refine at_callV 4 X _ 12 (ct_X12_asTold hG E P Q hP hI.1) clX12 rfl k_125 mo_X12_asTold w_2162 vo_X12_asTold.1 vo_X12_asTold.2 rfl rfl (crm Rt (by decide)) (Nat.le_of_ble_eq_true rfl) dX12_fallsWith_1 rfl ?_
  rintro _ _ ⟨rfl, rfl⟩
  generalize hF0 : wr (wr (wr E 125 52 (sN P : Int)) 125 53 (sLn P : Int)) 125 54 (mk (sC P) 24 : Nat) = F0
  have hq0 : ∀ q, q ≠ 125 → F0 q = E q := fun q h => by rw [← hF0]; simp (disch := omega) only [wr_row]
  have h0 : ∀ k, ¬ (52 ≤ k ∧ k ≤ 54) → F0 125 k = E 125 k := fun k h => by rw [← hF0]; simp (disch := omega) only [wr_o]
  have h52 : F0 125 52 = (sN P : Int) := by rw [← hF0]; simp (disch := omega) only [wr_s, wr_o]
  have h54 : F0 125 54 = (mk (sC P) 24 : Nat) := (by rw [← hF0]; simp (disch := omega) only [wr_s, wr_o])
  have hG0 := told_G (E1 := F0) (mo := moonP P d) (L := L) hI.1 hP h52 (by rw [← hF0]; simp (disch := omega) only [wr_s, wr_o]) h54 (fun q h => hq0 q (by omega))
  have h45 : F0 125 45 = (d : Int) := (h0 45 (by omega)).trans hI.2.2.2.2.2
  refine at_aload_n 5 X rfl rfl dX12_fallsWith_4 rfl ?_
  refine m_getR 8 X f_X12_31 k_125 r_125_14 dX12_fallsWith_5 rfl ?_
  refine at_aload_n 9 X rfl rfl dX12_fallsWith_8 rfl ?_
  refine m_getIV 12 X ((sN P : Nat) : Int) h52 f_X12_330 k_125 rn_125_52 dX12_fallsWith_9 rfl ?_
  refine m_aaloadV 13 X (sN P) (by omega) k_141 (by decide) (by omega) (rr_141 _ (by omega)) dX12_fallsWith_12 rfl ?_
  refine at_iconst 14 X (by decide) dX12_fallsWith_13 rfl ?_
  refine at_iload_n 15 X rfl rfl dX12_fallsWith_14 rfl ?_
  refine m_iastoreV 16 X 0 (by omega) (kr_141 _ (by omega)) (er_141 _ (by omega)) (by omega) dX12_fallsWith_15 rfl ?_
  refine at_aload_n 17 X rfl rfl dX12_fallsWith_16 rfl ?_
  refine m_getR 20 X f_X12_31 k_125 r_125_14 dX12_fallsWith_17 rfl ?_
  refine at_aload_n 21 X rfl rfl dX12_fallsWith_20 rfl ?_
  refine m_getIV 24 X ((sN P : Nat) : Int) ((wr_o (by omega)).trans h52) f_X12_330 k_125 rn_125_52 dX12_fallsWith_21 rfl ?_
  refine m_aaloadV 25 X (sN P) (by omega) k_141 (by decide) (by omega) (rr_141 _ (by omega)) dX12_fallsWith_24 rfl ?_
  refine at_iconst 26 X (by decide) dX12_fallsWith_25 rfl ?_
  refine at_iload_n 27 X rfl rfl dX12_fallsWith_26 rfl ?_
  refine m_iastoreV 28 X 1 (by omega) (kr_141 _ (by omega)) (er_141 _ (by omega)) (by omega) dX12_fallsWith_27 rfl ?_
  refine at_aload_n 29 X rfl rfl dX12_fallsWith_28 rfl ?_
  refine at_dup 30 X (show ¬ (2 : Nat) = 1 by decide) dX12_fallsWith_29 rfl ?_
  refine m_getIV 33 X ((sN P : Nat) : Int) ((wr_o (by omega)).trans ((wr_o (by omega)).trans h52)) f_X12_330 k_125 rn_125_52 dX12_fallsWith_30 rfl ?_
  refine at_iconst 34 X (by decide) dX12_fallsWith_33 rfl ?_
  refine at_iaddV 35 X ((sN P + 1 : Nat) : Int) (w32_v (by omega) (by omega) (by omega)) dX12_fallsWith_34 rfl ?_
  refine m_putI 38 X f_X12_330 fw_12_52 k_125 rn_125_52 dX12_fallsWith_35 rfl ?_
  refine at_aload_n 39 X rfl rfl dX12_fallsWith_38 rfl ?_
  refine at_aload_n 40 X rfl rfl dX12_fallsWith_39 rfl ?_
  refine m_getIV 43 X ((d : Nat) : Int) ((wr_o (by omega)).trans ((wr_o (by omega)).trans ((wr_o (by omega)).trans h45))) f_X12_267 k_125 rn_125_45 dX12_fallsWith_40 rfl ?_
  generalize hF1 : wr (wr (wr F0 (142 + (sN P)) 0 ((c : Nat) : Int)) (142 + (sN P)) 1 ((hi : Nat) : Int)) 125 52 ((sN P + 1 : Nat) : Int) = F1
  have hq1 : ∀ q, q ≠ 125 → q ≠ 142 + sN P → F1 q = E q := fun q h1 h2 => by rw [← hF1]; simp (disch := omega) only [wr_row]; exact hq0 q h1
  have h1 : ∀ k, ¬ (52 ≤ k ∧ k ≤ 54) → F1 125 k = E 125 k := fun k h => by rw [← hF1]; simp (disch := omega) only [wr_o]; exact h0 k h
  have hR1 : RTS F1 P Q := hI.1.frN (fun q hq => hq1 q (by omega) (by omega)) hP
  have hp1 : RPg F1 (addP (gDay P L d) c hi) := by
    refine ⟨by rw [← hF1]; exact wr_s _ _ _ _, fun p hp => ?_⟩
    have hp' : p < sN P + 1 := hp
    show F1 (142 + p) 1 = ((if p = sN P then hi else sH P p : Nat) : Int) ∧ (F1 (142 + p) 0 = ((if p = sN P then c else sX P p : Nat) : Int) ∨ _)
    by_cases e : p = sN P
    · subst e
      rw [if_pos rfl, if_pos rfl, ← hF1]
      exact ⟨by rw [wr_o (by omega), wr_s], Or.inl (by rw [wr_o (by omega), wr_o (by omega), wr_s])⟩
    · rw [if_neg e, if_neg e, hq1 (142 + p) (by omega) (by omega)]
      exact ⟨(hI.1.2.1 p (by omega)).2, Or.inl (hI.1.2.1 p (by omega)).1⟩
  have hl1 : RLg F1 (addP (gDay P L d) c hi) (sLn P) (xLx Q) (xLr Q) := ⟨by rw [← hF1, wr_o (by omega), wr_row (by omega), wr_row (by omega)]; exact hG0.2.1.1, hG0.2.1.2.1, fun k hk => by rw [hq1 (209 + k) (by omega) (by omega), ← hq0 (209 + k) (by omega)]; exact hG0.2.1.2.2.1 k hk, hG0.2.1.2.2.2⟩
  have hc1 : F1 125 54 = (mk (sC P) 24 : Nat) := by rw [← hF1, wr_o (by omega), wr_row (by omega), wr_row (by omega)]; exact h54
  have hwA := addP_WG (x := c) (hi := hi) (gOf_WG hP hWf.2.2.1 (moonP_in P d).2) (show sN P < 11 by omega) hc (by omega)
  refine at_callV 46 X _ 12 (ct_X12_lays hG F1 P Q hP hR1 (addP (gDay P L d) c hi) hwA.R rfl hp1 _ _ _ hl1 hc1 (hI.2.1.fr hWf.2.2.1.2.1 (h1 28 (by omega)) (fun q a b => hq1 q (by omega) (by omega))) st hst (hI.2.2.1.fr (h1 30 (by omega)) (hq1 578 (by omega) (by omega)) (hq1 579 (by omega) (by omega))) d hWf.2.2.2.2.2.1 (fun _ _ => rfl) (fun _ _ => rfl)) clX12 rfl k_125 mo_X12_lays w_2166 vo_X12_lays.1 vo_X12_lays.2 rfl rfl (crm Rt (by decide)) (Nat.le_of_ble_eq_true rfl) dX12_fallsWith_43 rfl ?_
  rintro _ _ ⟨rfl, F2, rfl, hs_F2, hK_F2, hq_F2⟩
  refine at_aload_n 47 X rfl rfl dX12_fallsWith_46 rfl ?_
  have hqm : ∀ i, i < T.1 → F1 (581 + i) = E (581 + i) := fun i hi => by have := hWf.2.2.2.1.1; exact hq1 (581 + i) (by omega) (by omega)
  refine at_callV 50 X _ 12 (ct_X12_runs hG F2 P Q hP (hR1.frN (fun q hq => hq_F2 q (by omega) (by omega)) hP) (addP (gDay P L d) c hi) T ⟨by rw [hq_F2 125 (by omega) (by omega), h1 43 (by omega)]; exact hI.2.2.2.1.1, fun i hi => by have := hWf.2.2.2.1.1; rw [hq_F2 (581 + i) (by omega) (by omega), hqm i hi]; exact hI.2.2.2.1.2 i hi⟩ hWf.2.2.2.1 (fun h c hh hc => (hs_F2 h c hh hc).2)) clX12 rfl k_125 mo_X12_runs w_2205 vo_X12_runs.1 vo_X12_runs.2 rfl rfl (crm Rt (by decide)) (Nat.le_of_ble_eq_true rfl) dX12_fallsWith_47 rfl ?_
  rintro _ _ ⟨rfl, F3, rfl, hd3, hh3, hf3⟩
  refine at_iret X Rt ?_ (Nat.le_refl _) (Nat.le_refl _) dX12_fallsWith_50
  have hX : RXF P E F3 := ⟨fun q h => (hf3.1 q (by omega) (by omega) (by omega)).trans ((hq_F2 q (by omega) (by omega)).trans (hq1 q (by omega) (by omega))), fun k h => (hf3.2 k (by omega)).trans (by rw [hq_F2 125 (by omega) (by omega)]; exact h1 k (by omega))⟩
  exact ⟨rfl, F3, rfl, hI.fr hWf hX (hK_F2.fr (hf3.2 30 (by decide)) (hf3.1 578 (by omega) (by omega) (by omega)) (hf3.1 579 (by omega) (by omega) (by omega))), hX, fun h c hh hc => by rw [hf3.1 (683 + h) (by omega) (by omega) (by omega), hf3.1 (708 + h) (by omega) (by omega) (by omega)]; exact hs_F2 h c hh hc, hd3, (hf3.2 0 (by decide)).trans (by rw [hq_F2 125 (by omega) (by omega)]; exact h1 0 (by omega)), (hf3.1 127 (by omega) (by omega) (by omega)).trans ((hq_F2 127 (by omega) (by omega)).trans (hq1 127 (by omega) (by omega)))⟩
theorem dX12_tower_0 : decode cX12_tower 0 = .ok (.aload_n 0, 1) := by decide +kernel
theorem dX12_tower_1 : decode cX12_tower 1 = .ok (.iconst 0, 1) := by decide +kernel
theorem dX12_tower_2 : decode cX12_tower 2 = .ok (.putfield 152, 3) := by decide +kernel
theorem dX12_tower_5 : decode cX12_tower 5 = .ok (.aload_n 0, 1) := by decide +kernel
theorem dX12_tower_6 : decode cX12_tower 6 = .ok (.iload_n 1, 1) := by decide +kernel
theorem dX12_tower_7 : decode cX12_tower 7 = .ok (.iconst 1, 1) := by decide +kernel
theorem dX12_tower_8 : decode cX12_tower 8 = .ok (.bipush 99, 2) := by decide +kernel
theorem dX12_tower_10 : decode cX12_tower 10 = .ok (.invokestatic 186, 3) := by decide +kernel
theorem dX12_tower_13 : decode cX12_tower 13 = .ok (.ifCond .eq 12, 3) := by decide +kernel
theorem dX12_tower_16 : decode cX12_tower 16 = .ok (.iload_n 2, 1) := by decide +kernel
theorem dX12_tower_17 : decode cX12_tower 17 = .ok (.iconst 0, 1) := by decide +kernel
theorem dX12_tower_18 : decode cX12_tower 18 = .ok (.iconst 1, 1) := by decide +kernel
theorem dX12_tower_19 : decode cX12_tower 19 = .ok (.invokestatic 186, 3) := by decide +kernel
theorem dX12_tower_22 : decode cX12_tower 22 = .ok (.ifCond .ne 7, 3) := by decide +kernel
theorem dX12_tower_25 : decode cX12_tower 25 = .ok (.iconst 1, 1) := by decide +kernel
theorem dX12_tower_26 : decode cX12_tower 26 = .ok (.goto 4, 3) := by decide +kernel
theorem dX12_tower_29 : decode cX12_tower 29 = .ok (.iconst 0, 1) := by decide +kernel
theorem dX12_tower_30 : decode cX12_tower 30 = .ok (.iconst 1, 1) := by decide +kernel
theorem dX12_tower_31 : decode cX12_tower 31 = .ok (.iconst 2, 1) := by decide +kernel
theorem dX12_tower_32 : decode cX12_tower 32 = .ok (.invokevirtual 244, 3) := by decide +kernel
theorem dX12_tower_35 : decode cX12_tower 35 = .ok (.ifCond .eq 5, 3) := by decide +kernel
theorem dX12_tower_38 : decode cX12_tower 38 = .ok (.iconst 0, 1) := by decide +kernel
theorem dX12_tower_39 : decode cX12_tower 39 = .ok (.ireturn, 1) := by decide +kernel
theorem dX12_tower_40 : decode cX12_tower 40 = .ok (.iconst (-1), 1) := by decide +kernel
theorem dX12_tower_41 : decode cX12_tower 41 = .ok (.istore_n 3, 1) := by decide +kernel
theorem dX12_tower_42 : decode cX12_tower 42 = .ok (.iconst 0, 1) := by decide +kernel
theorem dX12_tower_43 : decode cX12_tower 43 = .ok (.istore 4, 2) := by decide +kernel
theorem dX12_tower_45 : decode cX12_tower 45 = .ok (.iconst 0, 1) := by decide +kernel
theorem dX12_tower_46 : decode cX12_tower 46 = .ok (.istore 5, 2) := by decide +kernel
theorem dX12_tower_48 : decode cX12_tower 48 = .ok (.iload 5, 2) := by decide +kernel
theorem dX12_tower_50 : decode cX12_tower 50 = .ok (.aload_n 0, 1) := by decide +kernel
theorem dX12_tower_51 : decode cX12_tower 51 = .ok (.getfield 23, 3) := by decide +kernel
theorem dX12_tower_54 : decode cX12_tower 54 = .ok (.iconst 0, 1) := by decide +kernel
theorem dX12_tower_55 : decode cX12_tower 55 = .ok (.iaload, 1) := by decide +kernel
theorem dX12_tower_56 : decode cX12_tower 56 = .ok (.if_icmp .ge 63, 3) := by decide +kernel
theorem dX12_tower_59 : decode cX12_tower 59 = .ok (.aload_n 0, 1) := by decide +kernel
theorem dX12_tower_60 : decode cX12_tower 60 = .ok (.getfield 23, 3) := by decide +kernel
theorem dX12_tower_63 : decode cX12_tower 63 = .ok (.iconst 1, 1) := by decide +kernel
theorem dX12_tower_64 : decode cX12_tower 64 = .ok (.iaload, 1) := by decide +kernel
theorem dX12_tower_65 : decode cX12_tower 65 = .ok (.bipush 10, 2) := by decide +kernel
theorem dX12_tower_67 : decode cX12_tower 67 = .ok (.if_icmp .ge 52, 3) := by decide +kernel
theorem dX12_tower_70 : decode cX12_tower 70 = .ok (.aload_n 0, 1) := by decide +kernel
theorem dX12_tower_71 : decode cX12_tower 71 = .ok (.iload 5, 2) := by decide +kernel
theorem dX12_tower_73 : decode cX12_tower 73 = .ok (.invokevirtual 433, 3) := by decide +kernel
theorem dX12_tower_76 : decode cX12_tower 76 = .ok (.ifCond .eq 6, 3) := by decide +kernel
theorem dX12_tower_79 : decode cX12_tower 79 = .ok (.goto 34, 3) := by decide +kernel
theorem dX12_tower_82 : decode cX12_tower 82 = .ok (.aload_n 0, 1) := by decide +kernel
theorem dX12_tower_83 : decode cX12_tower 83 = .ok (.iload 5, 2) := by decide +kernel
theorem dX12_tower_85 : decode cX12_tower 85 = .ok (.iload_n 1, 1) := by decide +kernel
theorem dX12_tower_86 : decode cX12_tower 86 = .ok (.invokevirtual 436, 3) := by decide +kernel
theorem dX12_tower_89 : decode cX12_tower 89 = .ok (.istore 6, 2) := by decide +kernel
theorem dX12_tower_91 : decode cX12_tower 91 = .ok (.iload_n 3, 1) := by decide +kernel
theorem dX12_tower_92 : decode cX12_tower 92 = .ok (.iconst (-1), 1) := by decide +kernel
theorem dX12_tower_93 : decode cX12_tower 93 = .ok (.if_icmp .eq 13, 3) := by decide +kernel
theorem dX12_tower_96 : decode cX12_tower 96 = .ok (.iload 6, 2) := by decide +kernel
theorem dX12_tower_98 : decode cX12_tower 98 = .ok (.iload 4, 2) := by decide +kernel
theorem dX12_tower_100 : decode cX12_tower 100 = .ok (.if_icmp .lt 6, 3) := by decide +kernel
theorem dX12_tower_103 : decode cX12_tower 103 = .ok (.goto 10, 3) := by decide +kernel
theorem dX12_tower_106 : decode cX12_tower 106 = .ok (.iload 5, 2) := by decide +kernel
theorem dX12_tower_108 : decode cX12_tower 108 = .ok (.istore_n 3, 1) := by decide +kernel
theorem dX12_tower_109 : decode cX12_tower 109 = .ok (.iload 6, 2) := by decide +kernel
theorem dX12_tower_111 : decode cX12_tower 111 = .ok (.istore 4, 2) := by decide +kernel
theorem dX12_tower_113 : decode cX12_tower 113 = .ok (.iinc 5 1, 3) := by decide +kernel
theorem dX12_tower_116 : decode cX12_tower 116 = .ok (.goto (-68), 3) := by decide +kernel
theorem dX12_tower_119 : decode cX12_tower 119 = .ok (.iload_n 2, 1) := by decide +kernel
theorem dX12_tower_120 : decode cX12_tower 120 = .ok (.ifCond .eq 8, 3) := by decide +kernel
theorem dX12_tower_123 : decode cX12_tower 123 = .ok (.iload_n 3, 1) := by decide +kernel
theorem dX12_tower_124 : decode cX12_tower 124 = .ok (.iconst (-1), 1) := by decide +kernel
theorem dX12_tower_125 : decode cX12_tower 125 = .ok (.if_icmp .ne 7, 3) := by decide +kernel
theorem dX12_tower_128 : decode cX12_tower 128 = .ok (.iload_n 3, 1) := by decide +kernel
theorem dX12_tower_129 : decode cX12_tower 129 = .ok (.goto 5, 3) := by decide +kernel
theorem dX12_tower_132 : decode cX12_tower 132 = .ok (.iload 4, 2) := by decide +kernel
theorem dX12_tower_134 : decode cX12_tower 134 = .ok (.ireturn, 1) := by decide +kernel
theorem ct_X12_tower {g : Gw} (hG : GF g) {z : Bool} (E : Mm) (Q : RX) (P : SP) (L : LW) (T K : LN) (d st : Nat) (hWf : WF P L T K d st) (hI_E : RXI E Q P L T K d st) (x0 x1 : Int) : CT g yX12_tower cX12_tower 7 (some .int) 7 158 0 0 K2 z [mR 125, mI x0, mI x1] (ov E) K2 z (fun r' D' => (((1 ≤ x0 ∧ x0 ≤ 99) ∧ (0 ≤ x1 ∧ x1 ≤ 1)) ∧ r' = some (mI (if (twA P (gDay P L d) (sB P) T x0.toNat).1 = -1 ∨ x1 = 0 then (twA P (gDay P L d) (sB P) T x0.toNat).1 else (twA P (gDay P L d) (sB P) T x0.toNat).2)) ∧ ∃ E1, D' = ov E1 ∧ RXO E E1 Q P L T K d st) ∨ (¬ ((1 ≤ x0 ∧ x0 ≤ 99) ∧ (0 ≤ x1 ∧ x1 ≤ 1)) ∧ r' = some (mI 0) ∧ D' = ov (badR E 1 2))) := by
  refine CT.mk hG (by decide +kernel) (Nat.le_of_ble_eq_true rfl) (fun κ X Rt _ ok => ?_)
  have hP := hWf.1
  have hN8 := hP.B.N
  have hW40 := hP.W
  have hN11 := hP.N
  have hwN : gN (gDay P L d) ≤ 11 := Nat.le_trans hP.N (by decide)
  have hgw : gW (gDay P L d) = sW P := rfl
  have hDI24 := dyP_DI (G := (gDay P L d)) hP.B hWf.2.2.2.1 (Nat.le_refl 24)
  refine at_aload_n 1 X rfl rfl dX12_tower_0 rfl ?_
  refine at_iconst 2 X (by decide) dX12_tower_1 rfl ?_
  refine m_putI 5 X f_X12_152 fw_12_0 k_125 rn_125_0 dX12_tower_2 rfl ?_
  have hO_E0 := RXO.z hWf hI_E
  generalize hE0 : wr E 125 0 0 = E0 at hO_E0 ⊢
  have hR_E0 := hO_E0.1.1
  refine at_aload_n 6 X rfl rfl dX12_tower_5 rfl ?_
  refine at_iload_n 7 X rfl rfl dX12_tower_6 rfl ?_
  refine at_iconst 8 X (by decide) dX12_tower_7 rfl ?_
  refine at_bipush 10 X (by decide) (by decide) dX12_tower_8 rfl ?_
  refine at_callS 13 X (ct_X12_in hG _ _ _) mo_X12_in w_1957 so_X12_in rfl rfl (crm Rt (by decide)) (Nat.le_of_ble_eq_true rfl) dX12_tower_10 rfl ?_
  rintro _ _ ⟨rfl, rfl⟩
  refine at_if_eq 16 25 X dX12_tower_13 rfl (by decide) (fun h13 => ?_) (fun h13 => ?_)
  · have h13 : ¬ (1 ≤ x0 ∧ x0 ≤ 99) := ite_no.mp h13
    refine at_iconst 26 X (by decide) dX12_tower_25 rfl ?_
    refine at_goto 30 X dX12_tower_26 (by decide) ?_
    refine at_iconst 31 X (by decide) dX12_tower_30 rfl ?_
    refine at_iconst 32 X (by decide) dX12_tower_31 rfl ?_
    refine at_callV 35 X _ 12 (ct_bad1 hG E0 1 2 (by decide) hO_E0.2.2.1 (by decide)) clX12 rfl k_125 mo_X12_bad w_1960 vo_X12_bad.1 vo_X12_bad.2 rfl rfl (crm Rt (by decide)) (Nat.le_of_ble_eq_true rfl) dX12_tower_32 rfl ?_
    rintro _ _ ⟨rfl, rfl⟩
    have hb : ¬ ((1 ≤ x0 ∧ x0 ≤ 99) ∧ (0 ≤ x1 ∧ x1 ≤ 1)) := by omega
    refine at_if_eq 38 40 X dX12_tower_35 rfl (by decide) (fun h35 => ?_) (fun h35 => ?_)
    · exact absurd h35 (by decide)
    · refine at_iconst 39 X (by decide) dX12_tower_38 rfl ?_
      refine at_iret X Rt ?_ (Nat.le_refl _) (Nat.le_refl _) dX12_tower_39
      exact Or.inr (⟨hb, rfl, congrArg ov (badR_of hE0)⟩)
  · have h13 : (1 ≤ x0 ∧ x0 ≤ 99) := ite_yes.mp h13
    refine at_iload_n 17 X rfl rfl dX12_tower_16 rfl ?_
    refine at_iconst 18 X (by decide) dX12_tower_17 rfl ?_
    refine at_iconst 19 X (by decide) dX12_tower_18 rfl ?_
    refine at_callS 22 X (ct_X12_in hG _ _ _) mo_X12_in w_1957 so_X12_in rfl rfl (crm Rt (by decide)) (Nat.le_of_ble_eq_true rfl) dX12_tower_19 rfl ?_
    rintro _ _ ⟨rfl, rfl⟩
    refine at_if_ne 25 29 X dX12_tower_22 rfl (by decide) (fun h22 => ?_) (fun h22 => ?_)
    · have h22 : (0 ≤ x1 ∧ x1 ≤ 1) := ite_yes.mp h22
      refine at_iconst 30 X (by decide) dX12_tower_29 rfl ?_
      refine at_iconst 31 X (by decide) dX12_tower_30 rfl ?_
      refine at_iconst 32 X (by decide) dX12_tower_31 rfl ?_
      refine at_callV 35 X _ 12 (ct_bad0 hG E0 1 2 (by decide) hO_E0.2.2.1) clX12 rfl k_125 mo_X12_bad w_1960 vo_X12_bad.1 vo_X12_bad.2 rfl rfl (crm Rt (by decide)) (Nat.le_of_ble_eq_true rfl) dX12_tower_32 rfl ?_
      rintro _ _ ⟨rfl, rfl⟩
      have hc0 : (1 ≤ x0 ∧ x0 ≤ 99) ∧ (0 ≤ x1 ∧ x1 ≤ 1) := by omega
      refine at_if_eq 38 40 X dX12_tower_35 rfl (by decide) (fun h35 => ?_) (fun h35 => ?_)
      · obtain ⟨hi, rfl⟩ : ∃ hi : Nat, x0 = (hi : Int) := ⟨x0.toNat, by omega⟩
        refine at_iconst 41 X (by decide) dX12_tower_40 rfl ?_
        refine at_istore_n 42 X rfl dX12_tower_41 rfl (by decide) ?_
        refine at_iconst 43 X (by decide) dX12_tower_42 rfl ?_
        refine at_istore 45 X dX12_tower_43 rfl (by decide) ?_
        refine at_iconst 46 X (by decide) dX12_tower_45 rfl ?_
        refine at_istore 48 X dX12_tower_46 rfl (by decide) ?_
        have J48 : ∀ (f48 : Nat) (F : Mm) (c : Nat) (v : Int) (m : Int), 41 - c < f48 → (c ≤ sW P) → (v = (twP P (gDay P L d) (sB P) T hi c).1) → ((v = -1 ∧ (twP P (gDay P L d) (sB P) T hi c).2 = 9) ∨ (0 ≤ v ∧ m = (twP P (gDay P L d) (sB P) T hi c).2 ∧ 0 ≤ m ∧ m ≤ 8)) → ((sN P < 10 ∨ c = 0)) → (RXO E F Q P L T K d st) → AT g κ K2 z 0 0 48 [(0, mR 125), (1, mI ((hi : Nat) : Int)), (2, mI x1), (3, mI v), (4, mI m), (5, mI ((c : Nat) : Int))] [] (ov F) := by
          intro f48
          induction f48 with
          | zero => intro F c v m hf48; omega
          | succ f48 ih48 =>
          intro F c v m hf48 hc hv hm hc10 hO_F
          have J119 : ((v, if v = -1 then 9 else m) = twA P (gDay P L d) (sB P) T hi) → AT g κ K2 z 0 0 119 [(2, mI x1), (3, mI v), (4, mI m)] [] (ov F) := by
            intro hA
            refine at_iload_n 120 X rfl rfl dX12_tower_119 rfl ?_
            refine at_if_eq 123 128 X dX12_tower_120 rfl (by decide) (fun h120 => ?_) (fun h120 => ?_)
            · refine at_iload_n 129 X rfl rfl dX12_tower_128 rfl ?_
              refine at_goto 134 X dX12_tower_129 (by decide) ?_
              refine at_iret X Rt ?_ (Nat.le_refl _) (Nat.le_refl _) dX12_tower_134
              exact Or.inl ⟨hc0, (by (try simp only [Int.toNat_natCast]); rw [← hA]; first | (rw [if_pos (Or.inl (by show v = -1; omega))]; done) | (rw [if_pos (Or.inr (by omega))]; done) | (rw [if_neg (by show ¬ (v = -1 ∨ _); omega)]; show _ = some (mI (if v = -1 then 9 else m)); rw [if_neg (by omega)]; done)), _, rfl, hO_F⟩
            · refine at_iload_n 124 X rfl rfl dX12_tower_123 rfl ?_
              refine at_iconst 125 X (by decide) dX12_tower_124 rfl ?_
              refine at_icmp_ne 128 132 X dX12_tower_125 rfl (by decide) (fun h125 => ?_) (fun h125 => ?_)
              · refine at_iload 134 X rfl dX12_tower_132 rfl ?_
                refine at_iret X Rt ?_ (Nat.le_refl _) (Nat.le_refl _) dX12_tower_134
                exact Or.inl ⟨hc0, (by (try simp only [Int.toNat_natCast]); rw [← hA]; first | (rw [if_pos (Or.inl (by show v = -1; omega))]; done) | (rw [if_pos (Or.inr (by omega))]; done) | (rw [if_neg (by show ¬ (v = -1 ∨ _); omega)]; show _ = some (mI (if v = -1 then 9 else m)); rw [if_neg (by omega)]; done)), _, rfl, hO_F⟩
              · refine at_iload_n 129 X rfl rfl dX12_tower_128 rfl ?_
                refine at_goto 134 X dX12_tower_129 (by decide) ?_
                refine at_iret X Rt ?_ (Nat.le_refl _) (Nat.le_refl _) dX12_tower_134
                exact Or.inl ⟨hc0, (by (try simp only [Int.toNat_natCast]); rw [← hA]; first | (rw [if_pos (Or.inl (by show v = -1; omega))]; done) | (rw [if_pos (Or.inr (by omega))]; done) | (rw [if_neg (by show ¬ (v = -1 ∨ _); omega)]; show _ = some (mI (if v = -1 then 9 else m)); rw [if_neg (by omega)]; done)), _, rfl, hO_F⟩
          refine at_iload 50 X rfl dX12_tower_48 rfl ?_
          have hR_F := hO_F.1.1
          have hN10 := hP.N
          refine at_aload_n 51 X rfl rfl dX12_tower_50 rfl ?_
          refine m_getR 54 X f_X12_23 k_125 r_125_12 dX12_tower_51 rfl ?_
          refine at_iconst 55 X (by decide) dX12_tower_54 rfl ?_
          refine m_ialoadV 56 X 0 (by omega) ((sW P : Nat) : Int) hR_F.1.1 k_129 e_129 (by omega) dX12_tower_55 rfl ?_
          have := hP.W
          refine at_icmp_ge 59 119 X dX12_tower_56 rfl (by decide) (fun h56 => ?_) (fun h56 => ?_)
          · exact at_sub _ (by exact ⟨rfl, rfl, rfl, trivial⟩) (J119  (by unfold twA; first | (rw [if_pos (show sN P < 10 by omega), show sW P = c by omega, hv]; refine Prod.ext rfl ?_; show (if _ then (9 : Int) else m) = _; split <;> omega) | (obtain rfl : c = 0 := (by omega); rw [if_neg (show ¬ sN P < 10 by omega), hv]; rfl)))
          · refine at_aload_n 60 X rfl rfl dX12_tower_59 rfl ?_
            refine m_getR 63 X f_X12_23 k_125 r_125_12 dX12_tower_60 rfl ?_
            refine at_iconst 64 X (by decide) dX12_tower_63 rfl ?_
            refine m_ialoadV 65 X 1 (by omega) ((sN P : Nat) : Int) hR_F.1.2.1 k_129 e_129 (by omega) dX12_tower_64 rfl ?_
            have := hP.N
            refine at_bipush 67 X (by decide) (by decide) dX12_tower_65 rfl ?_
            refine at_icmp_ge 70 119 X dX12_tower_67 rfl (by decide) (fun h67 => ?_) (fun h67 => ?_)
            · exact at_sub _ (by exact ⟨rfl, rfl, rfl, trivial⟩) (J119  (by unfold twA; first | (rw [if_pos (show sN P < 10 by omega), show sW P = c by omega, hv]; refine Prod.ext rfl ?_; show (if _ then (9 : Int) else m) = _; split <;> omega) | (obtain rfl : c = 0 := (by omega); rw [if_neg (show ¬ sN P < 10 by omega), hv]; rfl)))
            · refine at_aload_n 71 X rfl rfl dX12_tower_70 rfl ?_
              refine at_iload 73 X rfl dX12_tower_71 rfl ?_
              refine at_callV 76 X _ 12 (ct_X12_isToldPost hG F P Q hP hR_F c) clX12 rfl k_125 mo_X12_isToldPost w_2297 vo_X12_isToldPost.1 vo_X12_isToldPost.2 rfl rfl (crm Rt (by decide)) (Nat.le_of_ble_eq_true rfl) dX12_tower_73 rfl ?_
              rintro _ _ ⟨rfl, rfl⟩
              refine at_if_eq 79 82 X dX12_tower_76 rfl (by decide) (fun h76 => ?_) (fun h76 => ?_)
              · have h76 : ¬ (hasP P c = true) := ite_no.mp h76
                refine at_aload_n 83 X rfl rfl dX12_tower_82 rfl ?_
                refine at_iload 85 X rfl dX12_tower_83 rfl ?_
                refine at_iload_n 86 X rfl rfl dX12_tower_85 rfl ?_
                refine at_callV 89 X _ 12 (ct_X12_fallsWith hG F Q P L T K d st hWf hO_F.1 c hi (by omega) (by omega)) clX12 rfl k_125 mo_X12_fallsWith w_2301 vo_X12_fallsWith.1 vo_X12_fallsWith.2 rfl rfl (crm Rt (by decide)) (Nat.le_of_ble_eq_true rfl) dX12_tower_86 rfl ?_
                rintro _ _ ⟨rfl, F1, rfl, hI_F1, hY_F1, hs_F1, hd_F1, h0_F1, h7_F1⟩
                have hO_F1 := hO_F.nx hI_F1 hY_F1 h0_F1 h7_F1
                have hR_F1 := hI_F1.1
                have hDIA := dyP_DI (G := (addP (gDay P L d) c hi)) hP.B hWf.2.2.2.1 (Nat.le_refl 24)
                have hdnA : dN (dyP (addP (gDay P L d) c hi) (sB P) T 24) ≤ 8 := by rw [hDIA.2.1]; exact Nat.le_trans (cntp_le _ _) hN8
                refine at_istore 91 X dX12_tower_89 rfl (by decide) ?_
                refine at_iload_n 92 X rfl rfl dX12_tower_91 rfl ?_
                refine at_iconst 93 X (by decide) dX12_tower_92 rfl ?_
                refine at_icmp_eq 96 106 X dX12_tower_93 rfl (by decide) (fun h93 => ?_) (fun h93 => ?_)
                · refine at_iload 108 X rfl dX12_tower_106 rfl ?_
                  refine at_istore_n 109 X rfl dX12_tower_108 rfl (by decide) ?_
                  refine at_iload 111 X rfl dX12_tower_109 rfl ?_
                  refine at_istore 113 X dX12_tower_111 rfl (by decide) ?_
                  refine at_iincV 116 X ((c + 1 : Nat) : Int) (w32_v (by omega) (by omega) (by omega)) rfl dX12_tower_113 rfl (by decide) ?_
                  refine at_goto 48 X dX12_tower_116 (by decide) ?_
                  exact at_sub _ (by exact ⟨rfl, rfl, rfl, rfl, rfl, rfl, trivial⟩) (ih48 F1 (c + 1) ((c : Nat) : Int) ((dN (dyP (addP (gDay P L d) c hi) (sB P) T 24) : Nat) : Int) (by first | omega | (simp only [] at *; omega)) (by first | omega | assumption) (by rw [twP_s]; split <;> first | assumption | rfl | (rename_i hx; exact absurd (by assumption) hx.1) | (rename_i hx; exfalso; exact hx ⟨h76, by unfold nfP; omega⟩) | (rename_i hx; have := hx.2; unfold nfP at this; omega)) (by rw [twP_s]; split <;> first | assumption | (rename_i hx; exact absurd (by assumption) hx.1) | (rename_i hx; exfalso; exact hx ⟨h76, by unfold nfP; omega⟩) | (rename_i hx; have := hx.2; unfold nfP at this; exfalso; omega) | (right; unfold nfP; omega) | (rename_i hx; right; unfold nfP; exact ⟨by omega, rfl, by omega, by omega⟩)) (Or.inl (by omega)) hO_F1)
                · refine at_iload 98 X rfl dX12_tower_96 rfl ?_
                  refine at_iload 100 X rfl dX12_tower_98 rfl ?_
                  refine at_icmp_lt 103 106 X dX12_tower_100 rfl (by decide) (fun h100 => ?_) (fun h100 => ?_)
                  · refine at_iload 108 X rfl dX12_tower_106 rfl ?_
                    refine at_istore_n 109 X rfl dX12_tower_108 rfl (by decide) ?_
                    refine at_iload 111 X rfl dX12_tower_109 rfl ?_
                    refine at_istore 113 X dX12_tower_111 rfl (by decide) ?_
                    refine at_iincV 116 X ((c + 1 : Nat) : Int) (w32_v (by omega) (by omega) (by omega)) rfl dX12_tower_113 rfl (by decide) ?_
                    refine at_goto 48 X dX12_tower_116 (by decide) ?_
                    exact at_sub _ (by exact ⟨rfl, rfl, rfl, rfl, rfl, rfl, trivial⟩) (ih48 F1 (c + 1) ((c : Nat) : Int) ((dN (dyP (addP (gDay P L d) c hi) (sB P) T 24) : Nat) : Int) (by first | omega | (simp only [] at *; omega)) (by first | omega | assumption) (by rw [twP_s]; split <;> first | assumption | rfl | (rename_i hx; exact absurd (by assumption) hx.1) | (rename_i hx; exfalso; exact hx ⟨h76, by unfold nfP; omega⟩) | (rename_i hx; have := hx.2; unfold nfP at this; omega)) (by rw [twP_s]; split <;> first | assumption | (rename_i hx; exact absurd (by assumption) hx.1) | (rename_i hx; exfalso; exact hx ⟨h76, by unfold nfP; omega⟩) | (rename_i hx; have := hx.2; unfold nfP at this; exfalso; omega) | (right; unfold nfP; omega) | (rename_i hx; right; unfold nfP; exact ⟨by omega, rfl, by omega, by omega⟩)) (Or.inl (by omega)) hO_F1)
                  · refine at_goto 113 X dX12_tower_103 (by decide) ?_
                    refine at_iincV 116 X ((c + 1 : Nat) : Int) (w32_v (by omega) (by omega) (by omega)) rfl dX12_tower_113 rfl (by decide) ?_
                    refine at_goto 48 X dX12_tower_116 (by decide) ?_
                    exact at_sub _ (by exact ⟨rfl, rfl, rfl, rfl, rfl, rfl, trivial⟩) (ih48 F1 (c + 1) v m (by first | omega | (simp only [] at *; omega)) (by first | omega | assumption) (by rw [twP_s]; split <;> first | assumption | rfl | (rename_i hx; exact absurd (by assumption) hx.1) | (rename_i hx; exfalso; exact hx ⟨h76, by unfold nfP; omega⟩) | (rename_i hx; have := hx.2; unfold nfP at this; omega)) (by rw [twP_s]; split <;> first | assumption | (rename_i hx; exact absurd (by assumption) hx.1) | (rename_i hx; exfalso; exact hx ⟨h76, by unfold nfP; omega⟩) | (rename_i hx; have := hx.2; unfold nfP at this; exfalso; omega) | (right; unfold nfP; omega) | (rename_i hx; right; unfold nfP; exact ⟨by omega, rfl, by omega, by omega⟩)) (Or.inl (by omega)) hO_F1)
              · have h76 : (hasP P c = true) := ite_yes.mp h76
                refine at_goto 113 X dX12_tower_79 (by decide) ?_
                refine at_iincV 116 X ((c + 1 : Nat) : Int) (w32_v (by omega) (by omega) (by omega)) rfl dX12_tower_113 rfl (by decide) ?_
                refine at_goto 48 X dX12_tower_116 (by decide) ?_
                exact at_sub _ (by exact ⟨rfl, rfl, rfl, rfl, rfl, rfl, trivial⟩) (ih48 F (c + 1) v m (by first | omega | (simp only [] at *; omega)) (by first | omega | assumption) (by rw [twP_s]; split <;> first | assumption | rfl | (rename_i hx; exact absurd (by assumption) hx.1) | (rename_i hx; exfalso; exact hx ⟨h76, by unfold nfP; omega⟩) | (rename_i hx; have := hx.2; unfold nfP at this; omega)) (by rw [twP_s]; split <;> first | assumption | (rename_i hx; exact absurd (by assumption) hx.1) | (rename_i hx; exfalso; exact hx ⟨h76, by unfold nfP; omega⟩) | (rename_i hx; have := hx.2; unfold nfP at this; exfalso; omega) | (right; unfold nfP; omega) | (rename_i hx; right; unfold nfP; exact ⟨by omega, rfl, by omega, by omega⟩)) (Or.inl (by omega)) hO_F)
        exact at_sub _ (by exact ⟨rfl, rfl, rfl, rfl, rfl, rfl, trivial⟩) (J48 _ E0 0 (-1) 0 (Nat.lt_succ_self _) (by first | omega | assumption | rfl) rfl (Or.inl ⟨rfl, rfl⟩) (Or.inr rfl) hO_E0)
      · exact absurd h35 (by decide)
    · have h22 : ¬ (0 ≤ x1 ∧ x1 ≤ 1) := ite_no.mp h22
      refine at_iconst 26 X (by decide) dX12_tower_25 rfl ?_
      refine at_goto 30 X dX12_tower_26 (by decide) ?_
      refine at_iconst 31 X (by decide) dX12_tower_30 rfl ?_
      refine at_iconst 32 X (by decide) dX12_tower_31 rfl ?_
      refine at_callV 35 X _ 12 (ct_bad1 hG E0 1 2 (by decide) hO_E0.2.2.1 (by decide)) clX12 rfl k_125 mo_X12_bad w_1960 vo_X12_bad.1 vo_X12_bad.2 rfl rfl (crm Rt (by decide)) (Nat.le_of_ble_eq_true rfl) dX12_tower_32 rfl ?_
      rintro _ _ ⟨rfl, rfl⟩
      have hb : ¬ ((1 ≤ x0 ∧ x0 ≤ 99) ∧ (0 ≤ x1 ∧ x1 ≤ 1)) := by omega
      refine at_if_eq 38 40 X dX12_tower_35 rfl (by decide) (fun h35 => ?_) (fun h35 => ?_)
      · exact absurd h35 (by decide)
      · refine at_iconst 39 X (by decide) dX12_tower_38 rfl ?_
        refine at_iret X Rt ?_ (Nat.le_refl _) (Nat.le_refl _) dX12_tower_39
        exact Or.inr (⟨hb, rfl, congrArg ov (badR_of hE0)⟩)
theorem dX12_missing_0 : decode cX12_missing 0 = .ok (.aload_n 0, 1) := by decide +kernel
theorem dX12_missing_1 : decode cX12_missing 1 = .ok (.iconst 0, 1) := by decide +kernel
theorem dX12_missing_2 : decode cX12_missing 2 = .ok (.putfield 152, 3) := by decide +kernel
theorem dX12_missing_5 : decode cX12_missing 5 = .ok (.aload_n 0, 1) := by decide +kernel
theorem dX12_missing_6 : decode cX12_missing 6 = .ok (.iload_n 1, 1) := by decide +kernel
theorem dX12_missing_7 : decode cX12_missing 7 = .ok (.iconst 1, 1) := by decide +kernel
theorem dX12_missing_8 : decode cX12_missing 8 = .ok (.bipush 99, 2) := by decide +kernel
theorem dX12_missing_10 : decode cX12_missing 10 = .ok (.invokestatic 186, 3) := by decide +kernel
theorem dX12_missing_13 : decode cX12_missing 13 = .ok (.ifCond .eq 12, 3) := by decide +kernel
theorem dX12_missing_16 : decode cX12_missing 16 = .ok (.iload_n 2, 1) := by decide +kernel
theorem dX12_missing_17 : decode cX12_missing 17 = .ok (.iconst 0, 1) := by decide +kernel
theorem dX12_missing_18 : decode cX12_missing 18 = .ok (.iconst 1, 1) := by decide +kernel
theorem dX12_missing_19 : decode cX12_missing 19 = .ok (.invokestatic 186, 3) := by decide +kernel
theorem dX12_missing_22 : decode cX12_missing 22 = .ok (.ifCond .ne 7, 3) := by decide +kernel
theorem dX12_missing_25 : decode cX12_missing 25 = .ok (.iconst 1, 1) := by decide +kernel
theorem dX12_missing_26 : decode cX12_missing 26 = .ok (.goto 4, 3) := by decide +kernel
theorem dX12_missing_29 : decode cX12_missing 29 = .ok (.iconst 0, 1) := by decide +kernel
theorem dX12_missing_30 : decode cX12_missing 30 = .ok (.iconst 1, 1) := by decide +kernel
theorem dX12_missing_31 : decode cX12_missing 31 = .ok (.iconst 2, 1) := by decide +kernel
theorem dX12_missing_32 : decode cX12_missing 32 = .ok (.invokevirtual 244, 3) := by decide +kernel
theorem dX12_missing_35 : decode cX12_missing 35 = .ok (.ifCond .eq 5, 3) := by decide +kernel
theorem dX12_missing_38 : decode cX12_missing 38 = .ok (.iconst 0, 1) := by decide +kernel
theorem dX12_missing_39 : decode cX12_missing 39 = .ok (.ireturn, 1) := by decide +kernel
theorem dX12_missing_40 : decode cX12_missing 40 = .ok (.iconst 0, 1) := by decide +kernel
theorem dX12_missing_41 : decode cX12_missing 41 = .ok (.istore_n 3, 1) := by decide +kernel
theorem dX12_missing_42 : decode cX12_missing 42 = .ok (.iconst (-1), 1) := by decide +kernel
theorem dX12_missing_43 : decode cX12_missing 43 = .ok (.istore 4, 2) := by decide +kernel
theorem dX12_missing_45 : decode cX12_missing 45 = .ok (.iconst 0, 1) := by decide +kernel
theorem dX12_missing_46 : decode cX12_missing 46 = .ok (.istore 5, 2) := by decide +kernel
theorem dX12_missing_48 : decode cX12_missing 48 = .ok (.iload 5, 2) := by decide +kernel
theorem dX12_missing_50 : decode cX12_missing 50 = .ok (.aload_n 0, 1) := by decide +kernel
theorem dX12_missing_51 : decode cX12_missing 51 = .ok (.getfield 23, 3) := by decide +kernel
theorem dX12_missing_54 : decode cX12_missing 54 = .ok (.iconst 0, 1) := by decide +kernel
theorem dX12_missing_55 : decode cX12_missing 55 = .ok (.iaload, 1) := by decide +kernel
theorem dX12_missing_56 : decode cX12_missing 56 = .ok (.if_icmp .ge 59, 3) := by decide +kernel
theorem dX12_missing_59 : decode cX12_missing 59 = .ok (.aload_n 0, 1) := by decide +kernel
theorem dX12_missing_60 : decode cX12_missing 60 = .ok (.iload 5, 2) := by decide +kernel
theorem dX12_missing_62 : decode cX12_missing 62 = .ok (.invokevirtual 433, 3) := by decide +kernel
theorem dX12_missing_65 : decode cX12_missing 65 = .ok (.ifCond .eq 6, 3) := by decide +kernel
theorem dX12_missing_68 : decode cX12_missing 68 = .ok (.goto 41, 3) := by decide +kernel
theorem dX12_missing_71 : decode cX12_missing 71 = .ok (.aload_n 0, 1) := by decide +kernel
theorem dX12_missing_72 : decode cX12_missing 72 = .ok (.iload 5, 2) := by decide +kernel
theorem dX12_missing_74 : decode cX12_missing 74 = .ok (.iload_n 1, 1) := by decide +kernel
theorem dX12_missing_75 : decode cX12_missing 75 = .ok (.invokevirtual 436, 3) := by decide +kernel
theorem dX12_missing_78 : decode cX12_missing 78 = .ok (.pop, 1) := by decide +kernel
theorem dX12_missing_79 : decode cX12_missing 79 = .ok (.aload_n 0, 1) := by decide +kernel
theorem dX12_missing_80 : decode cX12_missing 80 = .ok (.invokevirtual 439, 3) := by decide +kernel
theorem dX12_missing_83 : decode cX12_missing 83 = .ok (.aload_n 0, 1) := by decide +kernel
theorem dX12_missing_84 : decode cX12_missing 84 = .ok (.getfield 264, 3) := by decide +kernel
theorem dX12_missing_87 : decode cX12_missing 87 = .ok (.if_icmp .ge 6, 3) := by decide +kernel
theorem dX12_missing_90 : decode cX12_missing 90 = .ok (.goto 19, 3) := by decide +kernel
theorem dX12_missing_93 : decode cX12_missing 93 = .ok (.iload_n 3, 1) := by decide +kernel
theorem dX12_missing_94 : decode cX12_missing 94 = .ok (.ifCond .ne 8, 3) := by decide +kernel
theorem dX12_missing_97 : decode cX12_missing 97 = .ok (.iload 5, 2) := by decide +kernel
theorem dX12_missing_99 : decode cX12_missing 99 = .ok (.goto 5, 3) := by decide +kernel
theorem dX12_missing_102 : decode cX12_missing 102 = .ok (.iload 4, 2) := by decide +kernel
theorem dX12_missing_104 : decode cX12_missing 104 = .ok (.istore 4, 2) := by decide +kernel
theorem dX12_missing_106 : decode cX12_missing 106 = .ok (.iinc 3 1, 3) := by decide +kernel
theorem dX12_missing_109 : decode cX12_missing 109 = .ok (.iinc 5 1, 3) := by decide +kernel
theorem dX12_missing_112 : decode cX12_missing 112 = .ok (.goto (-64), 3) := by decide +kernel
theorem dX12_missing_115 : decode cX12_missing 115 = .ok (.iload_n 2, 1) := by decide +kernel
theorem dX12_missing_116 : decode cX12_missing 116 = .ok (.ifCond .ne 7, 3) := by decide +kernel
theorem dX12_missing_119 : decode cX12_missing 119 = .ok (.iload_n 3, 1) := by decide +kernel
theorem dX12_missing_120 : decode cX12_missing 120 = .ok (.goto 5, 3) := by decide +kernel
theorem dX12_missing_123 : decode cX12_missing 123 = .ok (.iload 4, 2) := by decide +kernel
theorem dX12_missing_125 : decode cX12_missing 125 = .ok (.ireturn, 1) := by decide +kernel
theorem ct_X12_missing {g : Gw} (hG : GF g) {z : Bool} (E : Mm) (Q : RX) (P : SP) (L : LW) (T K : LN) (d st : Nat) (hWf : WF P L T K d st) (hI_E : RXI E Q P L T K d st) (x0 x1 : Int) : CT g yX12_missing cX12_missing 6 (some .int) 7 158 0 0 K2 z [mR 125, mI x0, mI x1] (ov E) K2 z (fun r' D' => (((1 ≤ x0 ∧ x0 ≤ 99) ∧ (0 ≤ x1 ∧ x1 ≤ 1)) ∧ r' = some (mI (if x1 = 0 then (cntp (msB P (gDay P L d) (sB P) T K x0.toNat) (sW P) : Nat) else fstP (msB P (gDay P L d) (sB P) T K x0.toNat) (sW P))) ∧ ∃ E1, D' = ov E1 ∧ RXO E E1 Q P L T K d st) ∨ (¬ ((1 ≤ x0 ∧ x0 ≤ 99) ∧ (0 ≤ x1 ∧ x1 ≤ 1)) ∧ r' = some (mI 0) ∧ D' = ov (badR E 1 2))) := by
  refine CT.mk hG (by decide +kernel) (Nat.le_of_ble_eq_true rfl) (fun κ X Rt _ ok => ?_)
  have hP := hWf.1
  have hN8 := hP.B.N
  have hW40 := hP.W
  have hN11 := hP.N
  have hwN : gN (gDay P L d) ≤ 11 := Nat.le_trans hP.N (by decide)
  have hgw : gW (gDay P L d) = sW P := rfl
  have hDI24 := dyP_DI (G := (gDay P L d)) hP.B hWf.2.2.2.1 (Nat.le_refl 24)
  refine at_aload_n 1 X rfl rfl dX12_missing_0 rfl ?_
  refine at_iconst 2 X (by decide) dX12_missing_1 rfl ?_
  refine m_putI 5 X f_X12_152 fw_12_0 k_125 rn_125_0 dX12_missing_2 rfl ?_
  have hO_E0 := RXO.z hWf hI_E
  generalize hE0 : wr E 125 0 0 = E0 at hO_E0 ⊢
  have hR_E0 := hO_E0.1.1
  refine at_aload_n 6 X rfl rfl dX12_missing_5 rfl ?_
  refine at_iload_n 7 X rfl rfl dX12_missing_6 rfl ?_
  refine at_iconst 8 X (by decide) dX12_missing_7 rfl ?_
  refine at_bipush 10 X (by decide) (by decide) dX12_missing_8 rfl ?_
  refine at_callS 13 X (ct_X12_in hG _ _ _) mo_X12_in w_1957 so_X12_in rfl rfl (crm Rt (by decide)) (Nat.le_of_ble_eq_true rfl) dX12_missing_10 rfl ?_
  rintro _ _ ⟨rfl, rfl⟩
  refine at_if_eq 16 25 X dX12_missing_13 rfl (by decide) (fun h13 => ?_) (fun h13 => ?_)
  · have h13 : ¬ (1 ≤ x0 ∧ x0 ≤ 99) := ite_no.mp h13
    refine at_iconst 26 X (by decide) dX12_missing_25 rfl ?_
    refine at_goto 30 X dX12_missing_26 (by decide) ?_
    refine at_iconst 31 X (by decide) dX12_missing_30 rfl ?_
    refine at_iconst 32 X (by decide) dX12_missing_31 rfl ?_
    refine at_callV 35 X _ 12 (ct_bad1 hG E0 1 2 (by decide) hO_E0.2.2.1 (by decide)) clX12 rfl k_125 mo_X12_bad w_1960 vo_X12_bad.1 vo_X12_bad.2 rfl rfl (crm Rt (by decide)) (Nat.le_of_ble_eq_true rfl) dX12_missing_32 rfl ?_
    rintro _ _ ⟨rfl, rfl⟩
    have hb : ¬ ((1 ≤ x0 ∧ x0 ≤ 99) ∧ (0 ≤ x1 ∧ x1 ≤ 1)) := by omega
    refine at_if_eq 38 40 X dX12_missing_35 rfl (by decide) (fun h35 => ?_) (fun h35 => ?_)
    · exact absurd h35 (by decide)
    · refine at_iconst 39 X (by decide) dX12_missing_38 rfl ?_
      refine at_iret X Rt ?_ (Nat.le_refl _) (Nat.le_refl _) dX12_missing_39
      exact Or.inr (⟨hb, rfl, congrArg ov (badR_of hE0)⟩)
  · have h13 : (1 ≤ x0 ∧ x0 ≤ 99) := ite_yes.mp h13
    refine at_iload_n 17 X rfl rfl dX12_missing_16 rfl ?_
    refine at_iconst 18 X (by decide) dX12_missing_17 rfl ?_
    refine at_iconst 19 X (by decide) dX12_missing_18 rfl ?_
    refine at_callS 22 X (ct_X12_in hG _ _ _) mo_X12_in w_1957 so_X12_in rfl rfl (crm Rt (by decide)) (Nat.le_of_ble_eq_true rfl) dX12_missing_19 rfl ?_
    rintro _ _ ⟨rfl, rfl⟩
    refine at_if_ne 25 29 X dX12_missing_22 rfl (by decide) (fun h22 => ?_) (fun h22 => ?_)
    · have h22 : (0 ≤ x1 ∧ x1 ≤ 1) := ite_yes.mp h22
      refine at_iconst 30 X (by decide) dX12_missing_29 rfl ?_
      refine at_iconst 31 X (by decide) dX12_missing_30 rfl ?_
      refine at_iconst 32 X (by decide) dX12_missing_31 rfl ?_
      refine at_callV 35 X _ 12 (ct_bad0 hG E0 1 2 (by decide) hO_E0.2.2.1) clX12 rfl k_125 mo_X12_bad w_1960 vo_X12_bad.1 vo_X12_bad.2 rfl rfl (crm Rt (by decide)) (Nat.le_of_ble_eq_true rfl) dX12_missing_32 rfl ?_
      rintro _ _ ⟨rfl, rfl⟩
      have hc0 : (1 ≤ x0 ∧ x0 ≤ 99) ∧ (0 ≤ x1 ∧ x1 ≤ 1) := by omega
      refine at_if_eq 38 40 X dX12_missing_35 rfl (by decide) (fun h35 => ?_) (fun h35 => ?_)
      · obtain ⟨hi, rfl⟩ : ∃ hi : Nat, x0 = (hi : Int) := ⟨x0.toNat, by omega⟩
        refine at_iconst 41 X (by decide) dX12_missing_40 rfl ?_
        refine at_istore_n 42 X rfl dX12_missing_41 rfl (by decide) ?_
        refine at_iconst 43 X (by decide) dX12_missing_42 rfl ?_
        refine at_istore 45 X dX12_missing_43 rfl (by decide) ?_
        refine at_iconst 46 X (by decide) dX12_missing_45 rfl ?_
        refine at_istore 48 X dX12_missing_46 rfl (by decide) ?_
        have J48 : ∀ (f48 : Nat) (F : Mm) (c : Nat) (n : Nat) (v : Int), 41 - c < f48 → (c ≤ sW P) → (n = cntp (msB P (gDay P L d) (sB P) T K hi) c) → (v = fstP (msB P (gDay P L d) (sB P) T K hi) c) → ((n = 0 ↔ v = -1)) → (RXO E F Q P L T K d st) → AT g κ K2 z 0 0 48 [(0, mR 125), (1, mI ((hi : Nat) : Int)), (2, mI x1), (3, mI ((n : Nat) : Int)), (4, mI v), (5, mI ((c : Nat) : Int))] [] (ov F) := by
          intro f48
          induction f48 with
          | zero => intro F c n v hf48; omega
          | succ f48 ih48 =>
          intro F c n v hf48 hc hn hv hnv hO_F
          refine at_iload 50 X rfl dX12_missing_48 rfl ?_
          have hR_F := hO_F.1.1
          have hnl := cntp_le (msB P (gDay P L d) (sB P) T K hi) c
          have hK8 := hWf.2.2.2.2.1.1
          refine at_aload_n 51 X rfl rfl dX12_missing_50 rfl ?_
          refine m_getR 54 X f_X12_23 k_125 r_125_12 dX12_missing_51 rfl ?_
          refine at_iconst 55 X (by decide) dX12_missing_54 rfl ?_
          refine m_ialoadV 56 X 0 (by omega) ((sW P : Nat) : Int) hR_F.1.1 k_129 e_129 (by omega) dX12_missing_55 rfl ?_
          have := hP.W
          refine at_icmp_ge 59 115 X dX12_missing_56 rfl (by decide) (fun h56 => ?_) (fun h56 => ?_)
          · refine at_iload_n 116 X rfl rfl dX12_missing_115 rfl ?_
            refine at_if_ne 119 123 X dX12_missing_116 rfl (by decide) (fun h116 => ?_) (fun h116 => ?_)
            · refine at_iload 125 X rfl dX12_missing_123 rfl ?_
              refine at_iret X Rt ?_ (Nat.le_refl _) (Nat.le_refl _) dX12_missing_125
              exact Or.inl ⟨hc0, (by (try simp only [Int.toNat_natCast]); rw [show sW P = c by omega] <;> first | (rw [if_pos (show x1 = 0 by omega), hn]; done) | (rw [if_neg (show ¬ x1 = 0 by omega), hv]; done)), _, rfl, hO_F⟩
            · refine at_iload_n 120 X rfl rfl dX12_missing_119 rfl ?_
              refine at_goto 125 X dX12_missing_120 (by decide) ?_
              refine at_iret X Rt ?_ (Nat.le_refl _) (Nat.le_refl _) dX12_missing_125
              exact Or.inl ⟨hc0, (by (try simp only [Int.toNat_natCast]); rw [show sW P = c by omega] <;> first | (rw [if_pos (show x1 = 0 by omega), hn]; done) | (rw [if_neg (show ¬ x1 = 0 by omega), hv]; done)), _, rfl, hO_F⟩
          · refine at_aload_n 60 X rfl rfl dX12_missing_59 rfl ?_
            refine at_iload 62 X rfl dX12_missing_60 rfl ?_
            refine at_callV 65 X _ 12 (ct_X12_isToldPost hG F P Q hP hR_F c) clX12 rfl k_125 mo_X12_isToldPost w_2297 vo_X12_isToldPost.1 vo_X12_isToldPost.2 rfl rfl (crm Rt (by decide)) (Nat.le_of_ble_eq_true rfl) dX12_missing_62 rfl ?_
            rintro _ _ ⟨rfl, rfl⟩
            refine at_if_eq 68 71 X dX12_missing_65 rfl (by decide) (fun h65 => ?_) (fun h65 => ?_)
            · have h65 : ¬ (hasP P c = true) := ite_no.mp h65
              refine at_aload_n 72 X rfl rfl dX12_missing_71 rfl ?_
              refine at_iload 74 X rfl dX12_missing_72 rfl ?_
              refine at_iload_n 75 X rfl rfl dX12_missing_74 rfl ?_
              refine at_callV 78 X _ 12 (ct_X12_fallsWith hG F Q P L T K d st hWf hO_F.1 c hi (by omega) (by omega)) clX12 rfl k_125 mo_X12_fallsWith w_2301 vo_X12_fallsWith.1 vo_X12_fallsWith.2 rfl rfl (crm Rt (by decide)) (Nat.le_of_ble_eq_true rfl) dX12_missing_75 rfl ?_
              rintro _ _ ⟨rfl, F1, rfl, hI_F1, hY_F1, hs_F1, hd_F1, h0_F1, h7_F1⟩
              have hO_F1 := hO_F.nx hI_F1 hY_F1 h0_F1 h7_F1
              have hR_F1 := hI_F1.1
              have hDIA := dyP_DI (G := (addP (gDay P L d) c hi)) hP.B hWf.2.2.2.1 (Nat.le_refl 24)
              have hdnA : dN (dyP (addP (gDay P L d) c hi) (sB P) T 24) ≤ 8 := by rw [hDIA.2.1]; exact Nat.le_trans (cntp_le _ _) hN8
              refine at_pop 79 X (show ¬ (0 : Nat) = 1 by decide) dX12_missing_78 rfl ?_
              refine at_aload_n 80 X rfl rfl dX12_missing_79 rfl ?_
              refine at_callV 83 X _ 12 (ct_X12_rightLines hG F1 K hO_F1.1.2.2.2.2.1 P hWf.2.2.2.2.1 (dF (dyP (addP (gDay P L d) c hi) (sB P) T 24)) hd_F1.2.1 hDIA.2.2.2.2.1 hN8) clX12 rfl k_125 mo_X12_rightLines w_2313 vo_X12_rightLines.1 vo_X12_rightLines.2 rfl rfl (crm Rt (by decide)) (Nat.le_of_ble_eq_true rfl) dX12_missing_80 rfl ?_
              rintro _ _ ⟨rfl, rfl⟩
              have hrl : rlP K (dF (dyP (addP (gDay P L d) c hi) (sB P) T 24)) K.1 ≤ K.1 := rlP_le _ _ _
              refine at_aload_n 84 X rfl rfl dX12_missing_83 rfl ?_
              refine m_getIV 87 X ((K.1 : Nat) : Int) hO_F1.1.2.2.2.2.1.1 f_X12_264 k_125 rn_125_44 dX12_missing_84 rfl ?_
              refine at_icmp_ge 90 93 X dX12_missing_87 rfl (by decide) (fun h87 => ?_) (fun h87 => ?_)
              · have hms : msB P (gDay P L d) (sB P) T K hi c = true := (msB_iff _ _ _ _ _ _ _).mpr ⟨h65, by omega⟩
                refine at_iload_n 94 X rfl rfl dX12_missing_93 rfl ?_
                refine at_if_ne 97 102 X dX12_missing_94 rfl (by decide) (fun h94 => ?_) (fun h94 => ?_)
                · refine at_iload 104 X rfl dX12_missing_102 rfl ?_
                  refine at_istore 106 X dX12_missing_104 rfl (by decide) ?_
                  refine at_iincV 109 X ((n + 1 : Nat) : Int) (w32_v (by omega) (by omega) (by omega)) rfl dX12_missing_106 rfl (by decide) ?_
                  refine at_iincV 112 X ((c + 1 : Nat) : Int) (w32_v (by omega) (by omega) (by omega)) rfl dX12_missing_109 rfl (by decide) ?_
                  refine at_goto 48 X dX12_missing_112 (by decide) ?_
                  exact at_sub _ (by exact ⟨rfl, rfl, rfl, rfl, rfl, rfl, trivial⟩) (ih48 F1 (c + 1) (n + 1) v (by first | omega | (simp only [] at *; omega)) (by first | omega | assumption) (by rw [cntp_s, hn]; first | (rw [if_pos hms]; done) | (rw [if_neg hms, Nat.add_zero]; done)) (by rw [fst_s, ← hv]; first | (rw [if_neg (fun q => hms q.2)]; done) | (rw [if_pos ⟨by omega, hms⟩]; done) | (rw [if_neg (fun q => absurd q.1 (by omega))]; done)) (by omega) hO_F1)
                · refine at_iload 99 X rfl dX12_missing_97 rfl ?_
                  refine at_goto 104 X dX12_missing_99 (by decide) ?_
                  refine at_istore 106 X dX12_missing_104 rfl (by decide) ?_
                  refine at_iincV 109 X ((n + 1 : Nat) : Int) (w32_v (by omega) (by omega) (by omega)) rfl dX12_missing_106 rfl (by decide) ?_
                  refine at_iincV 112 X ((c + 1 : Nat) : Int) (w32_v (by omega) (by omega) (by omega)) rfl dX12_missing_109 rfl (by decide) ?_
                  refine at_goto 48 X dX12_missing_112 (by decide) ?_
                  exact at_sub _ (by exact ⟨rfl, rfl, rfl, rfl, rfl, rfl, trivial⟩) (ih48 F1 (c + 1) (n + 1) ((c : Nat) : Int) (by first | omega | (simp only [] at *; omega)) (by first | omega | assumption) (by rw [cntp_s, hn]; first | (rw [if_pos hms]; done) | (rw [if_neg hms, Nat.add_zero]; done)) (by rw [fst_s, ← hv]; first | (rw [if_neg (fun q => hms q.2)]; done) | (rw [if_pos ⟨by omega, hms⟩]; done) | (rw [if_neg (fun q => absurd q.1 (by omega))]; done)) (by omega) hO_F1)
              · have hms : ¬ msB P (gDay P L d) (sB P) T K hi c = true := fun q => by have := ((msB_iff _ _ _ _ _ _ _).mp q).2; omega
                refine at_goto 109 X dX12_missing_90 (by decide) ?_
                refine at_iincV 112 X ((c + 1 : Nat) : Int) (w32_v (by omega) (by omega) (by omega)) rfl dX12_missing_109 rfl (by decide) ?_
                refine at_goto 48 X dX12_missing_112 (by decide) ?_
                exact at_sub _ (by exact ⟨rfl, rfl, rfl, rfl, rfl, rfl, trivial⟩) (ih48 F1 (c + 1) n v (by first | omega | (simp only [] at *; omega)) (by first | omega | assumption) (by rw [cntp_s, hn]; first | (rw [if_pos hms]; done) | (rw [if_neg hms, Nat.add_zero]; done)) (by rw [fst_s, ← hv]; first | (rw [if_neg (fun q => hms q.2)]; done) | (rw [if_pos ⟨by omega, hms⟩]; done) | (rw [if_neg (fun q => absurd q.1 (by omega))]; done)) (by omega) hO_F1)
            · have h65 : (hasP P c = true) := ite_yes.mp h65
              have hms : ¬ msB P (gDay P L d) (sB P) T K hi c = true := fun q => ((msB_iff _ _ _ _ _ _ _).mp q).1 h65
              refine at_goto 109 X dX12_missing_68 (by decide) ?_
              refine at_iincV 112 X ((c + 1 : Nat) : Int) (w32_v (by omega) (by omega) (by omega)) rfl dX12_missing_109 rfl (by decide) ?_
              refine at_goto 48 X dX12_missing_112 (by decide) ?_
              exact at_sub _ (by exact ⟨rfl, rfl, rfl, rfl, rfl, rfl, trivial⟩) (ih48 F (c + 1) n v (by first | omega | (simp only [] at *; omega)) (by first | omega | assumption) (by rw [cntp_s, hn]; first | (rw [if_pos hms]; done) | (rw [if_neg hms, Nat.add_zero]; done)) (by rw [fst_s, ← hv]; first | (rw [if_neg (fun q => hms q.2)]; done) | (rw [if_pos ⟨by omega, hms⟩]; done) | (rw [if_neg (fun q => absurd q.1 (by omega))]; done)) (by omega) hO_F)
        exact at_sub _ (by exact ⟨rfl, rfl, rfl, rfl, rfl, rfl, trivial⟩) (J48 _ E0 0 0 (-1) (Nat.lt_succ_self _) (by first | omega | assumption | rfl) rfl rfl (by omega) hO_E0)
      · exact absurd h35 (by decide)
    · have h22 : ¬ (0 ≤ x1 ∧ x1 ≤ 1) := ite_no.mp h22
      refine at_iconst 26 X (by decide) dX12_missing_25 rfl ?_
      refine at_goto 30 X dX12_missing_26 (by decide) ?_
      refine at_iconst 31 X (by decide) dX12_missing_30 rfl ?_
      refine at_iconst 32 X (by decide) dX12_missing_31 rfl ?_
      refine at_callV 35 X _ 12 (ct_bad1 hG E0 1 2 (by decide) hO_E0.2.2.1 (by decide)) clX12 rfl k_125 mo_X12_bad w_1960 vo_X12_bad.1 vo_X12_bad.2 rfl rfl (crm Rt (by decide)) (Nat.le_of_ble_eq_true rfl) dX12_missing_32 rfl ?_
      rintro _ _ ⟨rfl, rfl⟩
      have hb : ¬ ((1 ≤ x0 ∧ x0 ≤ 99) ∧ (0 ≤ x1 ∧ x1 ≤ 1)) := by omega
      refine at_if_eq 38 40 X dX12_missing_35 rfl (by decide) (fun h35 => ?_) (fun h35 => ?_)
      · exact absurd h35 (by decide)
      · refine at_iconst 39 X (by decide) dX12_missing_38 rfl ?_
        refine at_iret X Rt ?_ (Nat.le_refl _) (Nat.le_refl _) dX12_missing_39
        exact Or.inr (⟨hb, rfl, congrArg ov (badR_of hE0)⟩)
theorem dX12_isWhole_0 : decode cX12_isWhole 0 = .ok (.aload_n 0, 1) := by decide +kernel
theorem dX12_isWhole_1 : decode cX12_isWhole 1 = .ok (.invokevirtual 372, 3) := by decide +kernel
theorem dX12_isWhole_4 : decode cX12_isWhole 4 = .ok (.aload_n 0, 1) := by decide +kernel
theorem dX12_isWhole_5 : decode cX12_isWhole 5 = .ok (.iload_n 1, 1) := by decide +kernel
theorem dX12_isWhole_6 : decode cX12_isWhole 6 = .ok (.invokevirtual 375, 3) := by decide +kernel
theorem dX12_isWhole_9 : decode cX12_isWhole 9 = .ok (.aload_n 0, 1) := by decide +kernel
theorem dX12_isWhole_10 : decode cX12_isWhole 10 = .ok (.invokevirtual 397, 3) := by decide +kernel
theorem dX12_isWhole_13 : decode cX12_isWhole 13 = .ok (.ifCond .ne 7, 3) := by decide +kernel
theorem dX12_isWhole_16 : decode cX12_isWhole 16 = .ok (.iconst 1, 1) := by decide +kernel
theorem dX12_isWhole_17 : decode cX12_isWhole 17 = .ok (.goto 4, 3) := by decide +kernel
theorem dX12_isWhole_20 : decode cX12_isWhole 20 = .ok (.iconst 0, 1) := by decide +kernel
theorem dX12_isWhole_21 : decode cX12_isWhole 21 = .ok (.ireturn, 1) := by decide +kernel
theorem ct_X12_isWhole {g : Gw} (hG : GF g) {z : Bool} (E : Mm) (Q : RX) (P : SP) (L : LW) (T K : LN) (d st : Nat) (hWf : WF P L T K d st) (hI : RXI E Q P L T K d st) (dd : Nat) (hdd : dd < 400) : CT g yX12_isWhole cX12_isWhole 2 (some .boolean) 6 136 0 0 K2 z [mR 125, mI ((dd : Nat) : Int)] (ov E) K2 z (fun r D' => r = some (mI (if whD P L T dd = true then 1 else 0)) ∧ ∃ E1, D' = ov E1 ∧ RXI E1 Q P L T K d st ∧ RXF P E E1 ∧ RSh E1 (gDay P L dd) 24 ∧ RD E1 (sB P) (dyP (gDay P L dd) (sB P) T 24) ∧ E1 125 0 = E 125 0 ∧ E1 127 = E 127) := by
  refine CT.mk hG (by decide +kernel) (Nat.le_of_ble_eq_true rfl) (fun κ X Rt _ ok => ?_)
  have hP := hWf.1
  have hN8 := hP.B.N
  have hW40 := hP.W
  have hN10 := hP.N
  have hL6 := hP.Ln
  have hst : st < 2147483648 := by have := hWf.2.2.2.2.2.2; omega
  refine at_aload_n 1 X rfl rfl dX12_isWhole_0 rfl ?_
  refine at_callV 4 X _ 12 (ct_X12_asTold hG E P Q hP hI.1) clX12 rfl k_125 mo_X12_asTold w_2162 vo_X12_asTold.1 vo_X12_asTold.2 rfl rfl (crm Rt (by decide)) (Nat.le_of_ble_eq_true rfl) dX12_isWhole_1 rfl ?_
  rintro _ _ ⟨rfl, rfl⟩
  generalize hF0 : wr (wr (wr E 125 52 (sN P : Int)) 125 53 (sLn P : Int)) 125 54 (mk (sC P) 24 : Nat) = F0
  have hq0 : ∀ q, q ≠ 125 → F0 q = E q := fun q h => by rw [← hF0]; simp (disch := omega) only [wr_row]
  have h0 : ∀ k, ¬ (52 ≤ k ∧ k ≤ 54) → F0 125 k = E 125 k := fun k h => by rw [← hF0]; simp (disch := omega) only [wr_o]
  have h52 : F0 125 52 = (sN P : Int) := by rw [← hF0]; simp (disch := omega) only [wr_s, wr_o]
  have h54 : F0 125 54 = (mk (sC P) 24 : Nat) := (by rw [← hF0]; simp (disch := omega) only [wr_s, wr_o])
  have hG0 := told_G (E1 := F0) (mo := moonP P dd) (L := L) hI.1 hP h52 (by rw [← hF0]; simp (disch := omega) only [wr_s, wr_o]) h54 (fun q h => hq0 q (by omega))
  refine at_aload_n 5 X rfl rfl dX12_isWhole_4 rfl ?_
  refine at_iload_n 6 X rfl rfl dX12_isWhole_5 rfl ?_
  have hq1 : ∀ q, q ≠ 125 → q ≠ 142 + sN P → F0 q = E q := fun q h _ => hq0 q h
  have hR1 : RTS F0 P Q := hI.1.fr (fun q hq => hq0 q (by omega)) hP
  have h1 := h0
  refine at_callV 9 X _ 12 (ct_X12_lays hG F0 P Q hP (hI.1.fr (fun q hq => hq0 q (by omega)) hP) (gDay P L dd) (gOf_WG hP hWf.2.2.1 (moonP_in P dd).2).R rfl hG0.1 _ _ _ hG0.2.1 hG0.2.2 (hI.2.1.fr hWf.2.2.1.2.1 (h0 28 (by omega)) (fun q a b => hq0 q (by omega))) st hst (hI.2.2.1.fr (h0 30 (by omega)) (hq0 578 (by decide)) (hq0 579 (by decide))) dd hdd (fun _ _ => rfl) (fun _ _ => rfl)) clX12 rfl k_125 mo_X12_lays w_2166 vo_X12_lays.1 vo_X12_lays.2 rfl rfl (crm Rt (by decide)) (Nat.le_of_ble_eq_true rfl) dX12_isWhole_6 rfl ?_
  rintro _ _ ⟨rfl, F2, rfl, hs_F2, hK_F2, hq_F2⟩
  refine at_aload_n 10 X rfl rfl dX12_isWhole_9 rfl ?_
  have hqm : ∀ i, i < T.1 → F0 (581 + i) = E (581 + i) := fun i hi => by have := hWf.2.2.2.1.1; exact hq1 (581 + i) (by omega) (by omega)
  refine at_callV 13 X _ 12 (ct_X12_runs hG F2 P Q hP (hR1.frN (fun q hq => hq_F2 q (by omega) (by omega)) hP) (gDay P L dd) T ⟨by rw [hq_F2 125 (by omega) (by omega), h1 43 (by omega)]; exact hI.2.2.2.1.1, fun i hi => by have := hWf.2.2.2.1.1; rw [hq_F2 (581 + i) (by omega) (by omega), hqm i hi]; exact hI.2.2.2.1.2 i hi⟩ hWf.2.2.2.1 (fun h c hh hc => (hs_F2 h c hh hc).2)) clX12 rfl k_125 mo_X12_runs w_2205 vo_X12_runs.1 vo_X12_runs.2 rfl rfl (crm Rt (by decide)) (Nat.le_of_ble_eq_true rfl) dX12_isWhole_10 rfl ?_
  rintro _ _ ⟨rfl, F3, rfl, hd3, hh3, hf3⟩
  refine at_if_ne 16 20 X dX12_isWhole_13 rfl (by decide) (fun h13 => ?_) (fun h13 => ?_)
  · refine at_iconst 21 X (by decide) dX12_isWhole_20 rfl ?_
    refine at_zret X Rt ?_ (by first | decide | (split <;> decide)) (Nat.le_refl _) (Nat.le_refl _) dX12_isWhole_21
    have hX : RXF P E F3 := ⟨fun q h => (hf3.1 q (by omega) (by omega) (by omega)).trans ((hq_F2 q (by omega) (by omega)).trans (hq1 q (by omega) (by omega))), fun k h => (hf3.2 k (by omega)).trans (by rw [hq_F2 125 (by omega) (by omega)]; exact h1 k (by omega))⟩
    exact ⟨by rw [if_neg (show ¬ whD P L T dd = true from fun q => by have := of_decide_eq_true q; have : dN (dyP (gDay P L dd) (sB P) T 24) = 0 := this; omega)], F3, rfl, hI.fr hWf hX (hK_F2.fr (hf3.2 30 (by decide)) (hf3.1 578 (by omega) (by omega) (by omega)) (hf3.1 579 (by omega) (by omega) (by omega))), hX, fun h c hh hc => by rw [hf3.1 (683 + h) (by omega) (by omega) (by omega), hf3.1 (708 + h) (by omega) (by omega) (by omega)]; exact hs_F2 h c hh hc, hd3, (hf3.2 0 (by decide)).trans (by rw [hq_F2 125 (by omega) (by omega)]; exact h1 0 (by omega)), (hf3.1 127 (by omega) (by omega) (by omega)).trans ((hq_F2 127 (by omega) (by omega)).trans (hq1 127 (by omega) (by omega)))⟩
  · refine at_iconst 17 X (by decide) dX12_isWhole_16 rfl ?_
    refine at_goto 21 X dX12_isWhole_17 (by decide) ?_
    refine at_zret X Rt ?_ (by first | decide | (split <;> decide)) (Nat.le_refl _) (Nat.le_refl _) dX12_isWhole_21
    have hX : RXF P E F3 := ⟨fun q h => (hf3.1 q (by omega) (by omega) (by omega)).trans ((hq_F2 q (by omega) (by omega)).trans (hq1 q (by omega) (by omega))), fun k h => (hf3.2 k (by omega)).trans (by rw [hq_F2 125 (by omega) (by omega)]; exact h1 k (by omega))⟩
    exact ⟨by rw [if_pos (show whD P L T dd = true from decide_eq_true (by show dN (dyP (gDay P L dd) (sB P) T 24) = 0; omega))], F3, rfl, hI.fr hWf hX (hK_F2.fr (hf3.2 30 (by decide)) (hf3.1 578 (by omega) (by omega) (by omega)) (hf3.1 579 (by omega) (by omega) (by omega))), hX, fun h c hh hc => by rw [hf3.1 (683 + h) (by omega) (by omega) (by omega), hf3.1 (708 + h) (by omega) (by omega) (by omega)]; exact hs_F2 h c hh hc, hd3, (hf3.2 0 (by decide)).trans (by rw [hq_F2 125 (by omega) (by omega)]; exact h1 0 (by omega)), (hf3.1 127 (by omega) (by omega) (by omega)).trans ((hq_F2 127 (by omega) (by omega)).trans (hq1 127 (by omega) (by omega)))⟩
theorem dX12_whole_0 : decode cX12_whole 0 = .ok (.aload_n 0, 1) := by decide +kernel
theorem dX12_whole_1 : decode cX12_whole 1 = .ok (.iconst 0, 1) := by decide +kernel
theorem dX12_whole_2 : decode cX12_whole 2 = .ok (.putfield 152, 3) := by decide +kernel
theorem dX12_whole_5 : decode cX12_whole 5 = .ok (.aload_n 0, 1) := by decide +kernel
theorem dX12_whole_6 : decode cX12_whole 6 = .ok (.iload_n 1, 1) := by decide +kernel
theorem dX12_whole_7 : decode cX12_whole 7 = .ok (.invokestatic 442, 3) := by decide +kernel
theorem dX12_whole_10 : decode cX12_whole 10 = .ok (.ifCond .eq 15, 3) := by decide +kernel
theorem dX12_whole_13 : decode cX12_whole 13 = .ok (.iload_n 2, 1) := by decide +kernel
theorem dX12_whole_14 : decode cX12_whole 14 = .ok (.invokestatic 442, 3) := by decide +kernel
theorem dX12_whole_17 : decode cX12_whole 17 = .ok (.ifCond .eq 8, 3) := by decide +kernel
theorem dX12_whole_20 : decode cX12_whole 20 = .ok (.iload_n 1, 1) := by decide +kernel
theorem dX12_whole_21 : decode cX12_whole 21 = .ok (.iload_n 2, 1) := by decide +kernel
theorem dX12_whole_22 : decode cX12_whole 22 = .ok (.if_icmp .le 7, 3) := by decide +kernel
theorem dX12_whole_25 : decode cX12_whole 25 = .ok (.iconst 1, 1) := by decide +kernel
theorem dX12_whole_26 : decode cX12_whole 26 = .ok (.goto 4, 3) := by decide +kernel
theorem dX12_whole_29 : decode cX12_whole 29 = .ok (.iconst 0, 1) := by decide +kernel
theorem dX12_whole_30 : decode cX12_whole 30 = .ok (.iconst 1, 1) := by decide +kernel
theorem dX12_whole_31 : decode cX12_whole 31 = .ok (.iconst 2, 1) := by decide +kernel
theorem dX12_whole_32 : decode cX12_whole 32 = .ok (.invokevirtual 244, 3) := by decide +kernel
theorem dX12_whole_35 : decode cX12_whole 35 = .ok (.ifCond .eq 5, 3) := by decide +kernel
theorem dX12_whole_38 : decode cX12_whole 38 = .ok (.iconst 0, 1) := by decide +kernel
theorem dX12_whole_39 : decode cX12_whole 39 = .ok (.ireturn, 1) := by decide +kernel
theorem dX12_whole_40 : decode cX12_whole 40 = .ok (.iconst 0, 1) := by decide +kernel
theorem dX12_whole_41 : decode cX12_whole 41 = .ok (.istore_n 3, 1) := by decide +kernel
theorem dX12_whole_42 : decode cX12_whole 42 = .ok (.iload_n 1, 1) := by decide +kernel
theorem dX12_whole_43 : decode cX12_whole 43 = .ok (.istore 4, 2) := by decide +kernel
theorem dX12_whole_45 : decode cX12_whole 45 = .ok (.iload 4, 2) := by decide +kernel
theorem dX12_whole_47 : decode cX12_whole 47 = .ok (.iload_n 2, 1) := by decide +kernel
theorem dX12_whole_48 : decode cX12_whole 48 = .ok (.if_icmp .gt 26, 3) := by decide +kernel
theorem dX12_whole_51 : decode cX12_whole 51 = .ok (.iload_n 3, 1) := by decide +kernel
theorem dX12_whole_52 : decode cX12_whole 52 = .ok (.aload_n 0, 1) := by decide +kernel
theorem dX12_whole_53 : decode cX12_whole 53 = .ok (.iload 4, 2) := by decide +kernel
theorem dX12_whole_55 : decode cX12_whole 55 = .ok (.invokevirtual 445, 3) := by decide +kernel
theorem dX12_whole_58 : decode cX12_whole 58 = .ok (.ifCond .eq 7, 3) := by decide +kernel
theorem dX12_whole_61 : decode cX12_whole 61 = .ok (.iconst 1, 1) := by decide +kernel
theorem dX12_whole_62 : decode cX12_whole 62 = .ok (.goto 4, 3) := by decide +kernel
theorem dX12_whole_65 : decode cX12_whole 65 = .ok (.iconst 0, 1) := by decide +kernel
theorem dX12_whole_66 : decode cX12_whole 66 = .ok (.iadd, 1) := by decide +kernel
theorem dX12_whole_67 : decode cX12_whole 67 = .ok (.istore_n 3, 1) := by decide +kernel
theorem dX12_whole_68 : decode cX12_whole 68 = .ok (.iinc 4 1, 3) := by decide +kernel
theorem dX12_whole_71 : decode cX12_whole 71 = .ok (.goto (-26), 3) := by decide +kernel
theorem dX12_whole_74 : decode cX12_whole 74 = .ok (.iload_n 3, 1) := by decide +kernel
theorem dX12_whole_75 : decode cX12_whole 75 = .ok (.ireturn, 1) := by decide +kernel
theorem ct_X12_whole {g : Gw} (hG : GF g) {z : Bool} (E : Mm) (Q : RX) (P : SP) (L : LW) (T K : LN) (d st : Nat) (hWf : WF P L T K d st) (hI_E : RXI E Q P L T K d st) (x0 x1 : Int) : CT g yX12_whole cX12_whole 5 (some .int) 7 157 0 0 K2 z [mR 125, mI x0, mI x1] (ov E) K2 z (fun r' D' => (((0 ≤ x0 ∧ x0 ≤ 399) ∧ (0 ≤ x1 ∧ x1 ≤ 399) ∧ x0 ≤ x1) ∧ r' = some (mI (cntp (fun i => whD P L T (x0.toNat + i)) (x1.toNat + 1 - x0.toNat) : Nat)) ∧ ∃ E1, D' = ov E1 ∧ RXO E E1 Q P L T K d st) ∨ (¬ ((0 ≤ x0 ∧ x0 ≤ 399) ∧ (0 ≤ x1 ∧ x1 ≤ 399) ∧ x0 ≤ x1) ∧ r' = some (mI 0) ∧ D' = ov (badR E 1 2))) := by
  refine CT.mk hG (by decide +kernel) (Nat.le_of_ble_eq_true rfl) (fun κ X Rt _ ok => ?_)
  have hP := hWf.1
  have hN8 := hP.B.N
  have hW40 := hP.W
  have hN11 := hP.N
  have hwN : gN (gDay P L d) ≤ 11 := Nat.le_trans hP.N (by decide)
  have hgw : gW (gDay P L d) = sW P := rfl
  have hDI24 := dyP_DI (G := (gDay P L d)) hP.B hWf.2.2.2.1 (Nat.le_refl 24)
  refine at_aload_n 1 X rfl rfl dX12_whole_0 rfl ?_
  refine at_iconst 2 X (by decide) dX12_whole_1 rfl ?_
  refine m_putI 5 X f_X12_152 fw_12_0 k_125 rn_125_0 dX12_whole_2 rfl ?_
  have hO_E0 := RXO.z hWf hI_E
  generalize hE0 : wr E 125 0 0 = E0 at hO_E0 ⊢
  have hR_E0 := hO_E0.1.1
  refine at_aload_n 6 X rfl rfl dX12_whole_5 rfl ?_
  refine at_iload_n 7 X rfl rfl dX12_whole_6 rfl ?_
  refine at_callS 10 X (ct_X12_isDay hG E0 x0) mo_X12_isDay w_2329 so_X12_isDay rfl rfl (crm Rt (by decide)) (Nat.le_of_ble_eq_true rfl) dX12_whole_7 rfl ?_
  rintro _ _ ⟨rfl, rfl⟩
  refine at_if_eq 13 25 X dX12_whole_10 rfl (by decide) (fun h10 => ?_) (fun h10 => ?_)
  · have h10 : ¬ (0 ≤ x0 ∧ x0 ≤ 399) := ite_no.mp h10
    refine at_iconst 26 X (by decide) dX12_whole_25 rfl ?_
    refine at_goto 30 X dX12_whole_26 (by decide) ?_
    refine at_iconst 31 X (by decide) dX12_whole_30 rfl ?_
    refine at_iconst 32 X (by decide) dX12_whole_31 rfl ?_
    refine at_callV 35 X _ 12 (ct_bad1 hG E0 1 2 (by decide) hO_E0.2.2.1 (by decide)) clX12 rfl k_125 mo_X12_bad w_1960 vo_X12_bad.1 vo_X12_bad.2 rfl rfl (crm Rt (by decide)) (Nat.le_of_ble_eq_true rfl) dX12_whole_32 rfl ?_
    rintro _ _ ⟨rfl, rfl⟩
    have hb : ¬ ((0 ≤ x0 ∧ x0 ≤ 399) ∧ (0 ≤ x1 ∧ x1 ≤ 399) ∧ x0 ≤ x1) := by omega
    refine at_if_eq 38 40 X dX12_whole_35 rfl (by decide) (fun h35 => ?_) (fun h35 => ?_)
    · exact absurd h35 (by decide)
    · refine at_iconst 39 X (by decide) dX12_whole_38 rfl ?_
      refine at_iret X Rt ?_ (Nat.le_refl _) (Nat.le_refl _) dX12_whole_39
      exact Or.inr (⟨hb, rfl, congrArg ov (badR_of hE0)⟩)
  · have h10 : (0 ≤ x0 ∧ x0 ≤ 399) := ite_yes.mp h10
    refine at_iload_n 14 X rfl rfl dX12_whole_13 rfl ?_
    refine at_callS 17 X (ct_X12_isDay hG E0 x1) mo_X12_isDay w_2329 so_X12_isDay rfl rfl (crm Rt (by decide)) (Nat.le_of_ble_eq_true rfl) dX12_whole_14 rfl ?_
    rintro _ _ ⟨rfl, rfl⟩
    refine at_if_eq 20 25 X dX12_whole_17 rfl (by decide) (fun h17 => ?_) (fun h17 => ?_)
    · have h17 : ¬ (0 ≤ x1 ∧ x1 ≤ 399) := ite_no.mp h17
      refine at_iconst 26 X (by decide) dX12_whole_25 rfl ?_
      refine at_goto 30 X dX12_whole_26 (by decide) ?_
      refine at_iconst 31 X (by decide) dX12_whole_30 rfl ?_
      refine at_iconst 32 X (by decide) dX12_whole_31 rfl ?_
      refine at_callV 35 X _ 12 (ct_bad1 hG E0 1 2 (by decide) hO_E0.2.2.1 (by decide)) clX12 rfl k_125 mo_X12_bad w_1960 vo_X12_bad.1 vo_X12_bad.2 rfl rfl (crm Rt (by decide)) (Nat.le_of_ble_eq_true rfl) dX12_whole_32 rfl ?_
      rintro _ _ ⟨rfl, rfl⟩
      have hb : ¬ ((0 ≤ x0 ∧ x0 ≤ 399) ∧ (0 ≤ x1 ∧ x1 ≤ 399) ∧ x0 ≤ x1) := by omega
      refine at_if_eq 38 40 X dX12_whole_35 rfl (by decide) (fun h35 => ?_) (fun h35 => ?_)
      · exact absurd h35 (by decide)
      · refine at_iconst 39 X (by decide) dX12_whole_38 rfl ?_
        refine at_iret X Rt ?_ (Nat.le_refl _) (Nat.le_refl _) dX12_whole_39
        exact Or.inr (⟨hb, rfl, congrArg ov (badR_of hE0)⟩)
    · have h17 : (0 ≤ x1 ∧ x1 ≤ 399) := ite_yes.mp h17
      refine at_iload_n 21 X rfl rfl dX12_whole_20 rfl ?_
      refine at_iload_n 22 X rfl rfl dX12_whole_21 rfl ?_
      refine at_icmp_le 25 29 X dX12_whole_22 rfl (by decide) (fun h22 => ?_) (fun h22 => ?_)
      · refine at_iconst 30 X (by decide) dX12_whole_29 rfl ?_
        refine at_iconst 31 X (by decide) dX12_whole_30 rfl ?_
        refine at_iconst 32 X (by decide) dX12_whole_31 rfl ?_
        refine at_callV 35 X _ 12 (ct_bad0 hG E0 1 2 (by decide) hO_E0.2.2.1) clX12 rfl k_125 mo_X12_bad w_1960 vo_X12_bad.1 vo_X12_bad.2 rfl rfl (crm Rt (by decide)) (Nat.le_of_ble_eq_true rfl) dX12_whole_32 rfl ?_
        rintro _ _ ⟨rfl, rfl⟩
        have hc0 : (0 ≤ x0 ∧ x0 ≤ 399) ∧ (0 ≤ x1 ∧ x1 ≤ 399) ∧ x0 ≤ x1 := by omega
        refine at_if_eq 38 40 X dX12_whole_35 rfl (by decide) (fun h35 => ?_) (fun h35 => ?_)
        · obtain ⟨f, rfl⟩ : ∃ f : Nat, x0 = (f : Int) := ⟨x0.toNat, by omega⟩
          obtain ⟨t, rfl⟩ : ∃ t : Nat, x1 = (t : Int) := ⟨x1.toNat, by omega⟩
          refine at_iconst 41 X (by decide) dX12_whole_40 rfl ?_
          refine at_istore_n 42 X rfl dX12_whole_41 rfl (by decide) ?_
          refine at_iload_n 43 X rfl rfl dX12_whole_42 rfl ?_
          refine at_istore 45 X dX12_whole_43 rfl (by decide) ?_
          have J45 : ∀ (f45 : Nat) (F : Mm) (h : Nat) (n : Nat), 401 - h < f45 → (f ≤ h ∧ h ≤ t + 1) → (n = cntp (fun i => whD P L T (f + i)) (h - f)) → (RXO E F Q P L T K d st) → AT g κ K2 z 0 0 45 [(0, mR 125), (2, mI ((t : Nat) : Int)), (3, mI ((n : Nat) : Int)), (4, mI ((h : Nat) : Int))] [] (ov F) := by
            intro f45
            induction f45 with
            | zero => intro F h n hf45; omega
            | succ f45 ih45 =>
            intro F h n hf45 hh hn hO_F
            refine at_iload 47 X rfl dX12_whole_45 rfl ?_
            have hnl := cntp_le (fun i => whD P L T (f + i)) (h - f)
            refine at_iload_n 48 X rfl rfl dX12_whole_47 rfl ?_
            refine at_icmp_gt 51 74 X dX12_whole_48 rfl (by decide) (fun h48 => ?_) (fun h48 => ?_)
            · refine at_iload_n 75 X rfl rfl dX12_whole_74 rfl ?_
              refine at_iret X Rt ?_ (Nat.le_refl _) (Nat.le_refl _) dX12_whole_75
              exact Or.inl ⟨hc0, (by (try simp only [Int.toNat_natCast]); rw [hn, show h = t + 1 by omega]), _, rfl, hO_F⟩
            · refine at_iload_n 52 X rfl rfl dX12_whole_51 rfl ?_
              refine at_aload_n 53 X rfl rfl dX12_whole_52 rfl ?_
              refine at_iload 55 X rfl dX12_whole_53 rfl ?_
              refine at_callV 58 X _ 12 (ct_X12_isWhole hG F Q P L T K d st hWf hO_F.1 h (by omega)) clX12 rfl k_125 mo_X12_isWhole w_2332 vo_X12_isWhole.1 vo_X12_isWhole.2 rfl rfl (crm Rt (by decide)) (Nat.le_of_ble_eq_true rfl) dX12_whole_55 rfl ?_
              rintro _ _ ⟨rfl, F1, rfl, hI_F1, hY_F1, hs_F1, hd_F1, h0_F1, h7_F1⟩
              have hO_F1 := hO_F.nx hI_F1 hY_F1 h0_F1 h7_F1
              refine at_if_eq 61 65 X dX12_whole_58 rfl (by decide) (fun h58 => ?_) (fun h58 => ?_)
              · have h58 : ¬ (whD P L T h = true) := ite_no.mp h58
                refine at_iconst 66 X (by decide) dX12_whole_65 rfl ?_
                refine at_iaddV 67 X ((n + 0 : Nat) : Int) (w32_v (by omega) (by omega) (by omega)) dX12_whole_66 rfl ?_
                refine at_istore_n 68 X rfl dX12_whole_67 rfl (by decide) ?_
                refine at_iincV 71 X ((h + 1 : Nat) : Int) (w32_v (by omega) (by omega) (by omega)) rfl dX12_whole_68 rfl (by decide) ?_
                refine at_goto 45 X dX12_whole_71 (by decide) ?_
                exact at_sub _ (by exact ⟨rfl, rfl, rfl, rfl, trivial⟩) (ih45 F1 (h + 1) (n + 0) (by first | omega | (simp only [] at *; omega)) (by omega) (by rw [show h + 1 - f = (h - f) + 1 by omega, cntp_s, show f + (h - f) = h by omega, hn]; first | (rw [if_pos (by assumption)]; done) | (rw [if_neg (by assumption), Nat.add_zero]; done)) hO_F1)
              · have h58 : (whD P L T h = true) := ite_yes.mp h58
                refine at_iconst 62 X (by decide) dX12_whole_61 rfl ?_
                refine at_goto 66 X dX12_whole_62 (by decide) ?_
                refine at_iaddV 67 X ((n + 1 : Nat) : Int) (w32_v (by omega) (by omega) (by omega)) dX12_whole_66 rfl ?_
                refine at_istore_n 68 X rfl dX12_whole_67 rfl (by decide) ?_
                refine at_iincV 71 X ((h + 1 : Nat) : Int) (w32_v (by omega) (by omega) (by omega)) rfl dX12_whole_68 rfl (by decide) ?_
                refine at_goto 45 X dX12_whole_71 (by decide) ?_
                exact at_sub _ (by exact ⟨rfl, rfl, rfl, rfl, trivial⟩) (ih45 F1 (h + 1) (n + 1) (by first | omega | (simp only [] at *; omega)) (by omega) (by rw [show h + 1 - f = (h - f) + 1 by omega, cntp_s, show f + (h - f) = h by omega, hn]; first | (rw [if_pos (by assumption)]; done) | (rw [if_neg (by assumption), Nat.add_zero]; done)) hO_F1)
          exact at_sub _ (by exact ⟨rfl, rfl, rfl, rfl, trivial⟩) (J45 _ E0 f 0 (Nat.lt_succ_self _) (by omega) (by rw [Nat.sub_self]; rfl) hO_E0)
        · exact absurd h35 (by decide)
      · refine at_iconst 26 X (by decide) dX12_whole_25 rfl ?_
        refine at_goto 30 X dX12_whole_26 (by decide) ?_
        refine at_iconst 31 X (by decide) dX12_whole_30 rfl ?_
        refine at_iconst 32 X (by decide) dX12_whole_31 rfl ?_
        refine at_callV 35 X _ 12 (ct_bad1 hG E0 1 2 (by decide) hO_E0.2.2.1 (by decide)) clX12 rfl k_125 mo_X12_bad w_1960 vo_X12_bad.1 vo_X12_bad.2 rfl rfl (crm Rt (by decide)) (Nat.le_of_ble_eq_true rfl) dX12_whole_32 rfl ?_
        rintro _ _ ⟨rfl, rfl⟩
        have hb : ¬ ((0 ≤ x0 ∧ x0 ≤ 399) ∧ (0 ≤ x1 ∧ x1 ≤ 399) ∧ x0 ≤ x1) := by omega
        refine at_if_eq 38 40 X dX12_whole_35 rfl (by decide) (fun h35 => ?_) (fun h35 => ?_)
        · exact absurd h35 (by decide)
        · refine at_iconst 39 X (by decide) dX12_whole_38 rfl ?_
          refine at_iret X Rt ?_ (Nat.le_refl _) (Nat.le_refl _) dX12_whole_39
          exact Or.inr (⟨hb, rfl, congrArg ov (badR_of hE0)⟩)
theorem dX12_next_0 : decode cX12_next 0 = .ok (.aload_n 0, 1) := by decide +kernel
theorem dX12_next_1 : decode cX12_next 1 = .ok (.iconst 0, 1) := by decide +kernel
theorem dX12_next_2 : decode cX12_next 2 = .ok (.putfield 152, 3) := by decide +kernel
theorem dX12_next_5 : decode cX12_next 5 = .ok (.aload_n 0, 1) := by decide +kernel
theorem dX12_next_6 : decode cX12_next 6 = .ok (.iload_n 1, 1) := by decide +kernel
theorem dX12_next_7 : decode cX12_next 7 = .ok (.invokestatic 442, 3) := by decide +kernel
theorem dX12_next_10 : decode cX12_next 10 = .ok (.ifCond .ne 7, 3) := by decide +kernel
theorem dX12_next_13 : decode cX12_next 13 = .ok (.iconst 1, 1) := by decide +kernel
theorem dX12_next_14 : decode cX12_next 14 = .ok (.goto 4, 3) := by decide +kernel
theorem dX12_next_17 : decode cX12_next 17 = .ok (.iconst 0, 1) := by decide +kernel
theorem dX12_next_18 : decode cX12_next 18 = .ok (.iconst 1, 1) := by decide +kernel
theorem dX12_next_19 : decode cX12_next 19 = .ok (.iconst 2, 1) := by decide +kernel
theorem dX12_next_20 : decode cX12_next 20 = .ok (.invokevirtual 244, 3) := by decide +kernel
theorem dX12_next_23 : decode cX12_next 23 = .ok (.ifCond .eq 5, 3) := by decide +kernel
theorem dX12_next_26 : decode cX12_next 26 = .ok (.iconst 0, 1) := by decide +kernel
theorem dX12_next_27 : decode cX12_next 27 = .ok (.ireturn, 1) := by decide +kernel
theorem dX12_next_28 : decode cX12_next 28 = .ok (.iload_n 1, 1) := by decide +kernel
theorem dX12_next_29 : decode cX12_next 29 = .ok (.istore_n 2, 1) := by decide +kernel
theorem dX12_next_30 : decode cX12_next 30 = .ok (.iload_n 2, 1) := by decide +kernel
theorem dX12_next_31 : decode cX12_next 31 = .ok (.sipush 399, 3) := by decide +kernel
theorem dX12_next_34 : decode cX12_next 34 = .ok (.if_icmp .gt 19, 3) := by decide +kernel
theorem dX12_next_37 : decode cX12_next 37 = .ok (.aload_n 0, 1) := by decide +kernel
theorem dX12_next_38 : decode cX12_next 38 = .ok (.iload_n 2, 1) := by decide +kernel
theorem dX12_next_39 : decode cX12_next 39 = .ok (.invokevirtual 445, 3) := by decide +kernel
theorem dX12_next_42 : decode cX12_next 42 = .ok (.ifCond .eq 5, 3) := by decide +kernel
theorem dX12_next_45 : decode cX12_next 45 = .ok (.iload_n 2, 1) := by decide +kernel
theorem dX12_next_46 : decode cX12_next 46 = .ok (.ireturn, 1) := by decide +kernel
theorem dX12_next_47 : decode cX12_next 47 = .ok (.iinc 2 1, 3) := by decide +kernel
theorem dX12_next_50 : decode cX12_next 50 = .ok (.goto (-20), 3) := by decide +kernel
theorem dX12_next_53 : decode cX12_next 53 = .ok (.iconst (-1), 1) := by decide +kernel
theorem dX12_next_54 : decode cX12_next 54 = .ok (.ireturn, 1) := by decide +kernel
theorem ct_X12_next {g : Gw} (hG : GF g) {z : Bool} (E : Mm) (Q : RX) (P : SP) (L : LW) (T K : LN) (d st : Nat) (hWf : WF P L T K d st) (hI_E : RXI E Q P L T K d st) (x0 : Int) : CT g yX12_next cX12_next 3 (some .int) 7 157 0 0 K2 z [mR 125, mI x0] (ov E) K2 z (fun r' D' => ((0 ≤ x0 ∧ x0 ≤ 399) ∧ r' = some (mI (whF P L T x0.toNat)) ∧ ∃ E1, D' = ov E1 ∧ RXO E E1 Q P L T K d st) ∨ (¬ (0 ≤ x0 ∧ x0 ≤ 399) ∧ r' = some (mI 0) ∧ D' = ov (badR E 1 2))) := by
  refine CT.mk hG (by decide +kernel) (Nat.le_of_ble_eq_true rfl) (fun κ X Rt _ ok => ?_)
  have hP := hWf.1
  have hN8 := hP.B.N
  have hW40 := hP.W
  have hN11 := hP.N
  have hwN : gN (gDay P L d) ≤ 11 := Nat.le_trans hP.N (by decide)
  have hgw : gW (gDay P L d) = sW P := rfl
  have hDI24 := dyP_DI (G := (gDay P L d)) hP.B hWf.2.2.2.1 (Nat.le_refl 24)
  refine at_aload_n 1 X rfl rfl dX12_next_0 rfl ?_
  refine at_iconst 2 X (by decide) dX12_next_1 rfl ?_
  refine m_putI 5 X f_X12_152 fw_12_0 k_125 rn_125_0 dX12_next_2 rfl ?_
  have hO_E0 := RXO.z hWf hI_E
  generalize hE0 : wr E 125 0 0 = E0 at hO_E0 ⊢
  have hR_E0 := hO_E0.1.1
  refine at_aload_n 6 X rfl rfl dX12_next_5 rfl ?_
  refine at_iload_n 7 X rfl rfl dX12_next_6 rfl ?_
  refine at_callS 10 X (ct_X12_isDay hG E0 x0) mo_X12_isDay w_2329 so_X12_isDay rfl rfl (crm Rt (by decide)) (Nat.le_of_ble_eq_true rfl) dX12_next_7 rfl ?_
  rintro _ _ ⟨rfl, rfl⟩
  refine at_if_ne 13 17 X dX12_next_10 rfl (by decide) (fun h10 => ?_) (fun h10 => ?_)
  · have h10 : (0 ≤ x0 ∧ x0 ≤ 399) := ite_yes.mp h10
    refine at_iconst 18 X (by decide) dX12_next_17 rfl ?_
    refine at_iconst 19 X (by decide) dX12_next_18 rfl ?_
    refine at_iconst 20 X (by decide) dX12_next_19 rfl ?_
    refine at_callV 23 X _ 12 (ct_bad0 hG E0 1 2 (by decide) hO_E0.2.2.1) clX12 rfl k_125 mo_X12_bad w_1960 vo_X12_bad.1 vo_X12_bad.2 rfl rfl (crm Rt (by decide)) (Nat.le_of_ble_eq_true rfl) dX12_next_20 rfl ?_
    rintro _ _ ⟨rfl, rfl⟩
    have hc0 : 0 ≤ x0 ∧ x0 ≤ 399 := by omega
    refine at_if_eq 26 28 X dX12_next_23 rfl (by decide) (fun h23 => ?_) (fun h23 => ?_)
    · obtain ⟨f, rfl⟩ : ∃ f : Nat, x0 = (f : Int) := ⟨x0.toNat, by omega⟩
      refine at_iload_n 29 X rfl rfl dX12_next_28 rfl ?_
      refine at_istore_n 30 X rfl dX12_next_29 rfl (by decide) ?_
      have J30 : ∀ (f30 : Nat) (F : Mm) (h : Nat), 401 - h < f30 → (f ≤ h ∧ h ≤ 400) → ((∀ j, j < h - f → ¬ whD P L T (f + j) = true)) → (RXO E F Q P L T K d st) → AT g κ K2 z 0 0 30 [(0, mR 125), (2, mI ((h : Nat) : Int))] [] (ov F) := by
        intro f30
        induction f30 with
        | zero => intro F h hf30; omega
        | succ f30 ih30 =>
        intro F h hf30 hh hno hO_F
        refine at_iload_n 31 X rfl rfl dX12_next_30 rfl ?_
        refine at_sipush 34 X (by decide) (by decide) dX12_next_31 rfl ?_
        refine at_icmp_gt 37 53 X dX12_next_34 rfl (by decide) (fun h34 => ?_) (fun h34 => ?_)
        · refine at_iconst 54 X (by decide) dX12_next_53 rfl ?_
          refine at_iret X Rt ?_ (Nat.le_refl _) (Nat.le_refl _) dX12_next_54
          exact Or.inl ⟨hc0, (by unfold whF; rw [Int.toNat_natCast, if_pos (fst_none (fun j hj => hno j (by omega)))]), _, rfl, hO_F⟩
        · refine at_aload_n 38 X rfl rfl dX12_next_37 rfl ?_
          refine at_iload_n 39 X rfl rfl dX12_next_38 rfl ?_
          refine at_callV 42 X _ 12 (ct_X12_isWhole hG F Q P L T K d st hWf hO_F.1 h (by omega)) clX12 rfl k_125 mo_X12_isWhole w_2332 vo_X12_isWhole.1 vo_X12_isWhole.2 rfl rfl (crm Rt (by decide)) (Nat.le_of_ble_eq_true rfl) dX12_next_39 rfl ?_
          rintro _ _ ⟨rfl, F1, rfl, hI_F1, hY_F1, hs_F1, hd_F1, h0_F1, h7_F1⟩
          have hO_F1 := hO_F.nx hI_F1 hY_F1 h0_F1 h7_F1
          refine at_if_eq 45 47 X dX12_next_42 rfl (by decide) (fun h42 => ?_) (fun h42 => ?_)
          · have h42 : ¬ (whD P L T h = true) := ite_no.mp h42
            refine at_iincV 50 X ((h + 1 : Nat) : Int) (w32_v (by omega) (by omega) (by omega)) rfl dX12_next_47 rfl (by decide) ?_
            refine at_goto 30 X dX12_next_50 (by decide) ?_
            exact at_sub _ (by exact ⟨rfl, rfl, trivial⟩) (ih30 F1 (h + 1) (by first | omega | (simp only [] at *; omega)) (by omega) (fun j hj => if e : j < h - f then hno j e else by rw [show f + j = h by omega]; assumption) hO_F1)
          · have h42 : (whD P L T h = true) := ite_yes.mp h42
            refine at_iload_n 46 X rfl rfl dX12_next_45 rfl ?_
            refine at_iret X Rt ?_ (Nat.le_refl _) (Nat.le_refl _) dX12_next_46
            exact Or.inl ⟨hc0, (by have hf := fst_at hno (show whD P L T (f + (h - f)) = true by rw [show f + (h - f) = h by omega]; assumption) (n := 400 - f) (by omega); unfold whF; rw [Int.toNat_natCast, if_neg (by rw [hf]; omega), hf]; exact congrArg (fun q => some (mI q)) (by omega)), _, rfl, hO_F1⟩
      exact at_sub _ (by exact ⟨rfl, rfl, trivial⟩) (J30 _ E0 f (Nat.lt_succ_self _) (by omega) (fun j hj => by omega) hO_E0)
    · exact absurd h23 (by decide)
  · have h10 : ¬ (0 ≤ x0 ∧ x0 ≤ 399) := ite_no.mp h10
    refine at_iconst 14 X (by decide) dX12_next_13 rfl ?_
    refine at_goto 18 X dX12_next_14 (by decide) ?_
    refine at_iconst 19 X (by decide) dX12_next_18 rfl ?_
    refine at_iconst 20 X (by decide) dX12_next_19 rfl ?_
    refine at_callV 23 X _ 12 (ct_bad1 hG E0 1 2 (by decide) hO_E0.2.2.1 (by decide)) clX12 rfl k_125 mo_X12_bad w_1960 vo_X12_bad.1 vo_X12_bad.2 rfl rfl (crm Rt (by decide)) (Nat.le_of_ble_eq_true rfl) dX12_next_20 rfl ?_
    rintro _ _ ⟨rfl, rfl⟩
    have hb : ¬ (0 ≤ x0 ∧ x0 ≤ 399) := by omega
    refine at_if_eq 26 28 X dX12_next_23 rfl (by decide) (fun h23 => ?_) (fun h23 => ?_)
    · exact absurd h23 (by decide)
    · refine at_iconst 27 X (by decide) dX12_next_26 rfl ?_
      refine at_iret X Rt ?_ (Nat.le_refl _) (Nat.le_refl _) dX12_next_27
      exact Or.inr (⟨hb, rfl, congrArg ov (badR_of hE0)⟩)
