theorem dX12_lays_0 : decode cX12_lays 0 = .ok (.aload_n 0, 1) := by decide +kernel
theorem dX12_lays_1 : decode cX12_lays 1 = .ok (.iload_n 1, 1) := by decide +kernel
theorem dX12_lays_2 : decode cX12_lays 2 = .ok (.invokevirtual 366, 3) := by decide +kernel
theorem dX12_lays_5 : decode cX12_lays 5 = .ok (.aload_n 0, 1) := by decide +kernel
theorem dX12_lays_6 : decode cX12_lays 6 = .ok (.invokevirtual 369, 3) := by decide +kernel
theorem dX12_lays_9 : decode cX12_lays 9 = .ok (.return_, 1) := by decide +kernel
theorem ct_X12_lays {g : Gw} (hG : GF g) {z : Bool} (E : Mm) (P : SP) (Q : RX) (hP : WS P) (hR_E : RTS E P Q) (G : GP) (hW : WR G) (hgw : gW G = sW P) (hp_E : RPg E G) (nl : Nat) (lx lr : Nat → Nat) (hl_E : RLg E G nl lx lr) (hc_E : E 125 54 = (mk (gC G) 24 : Nat)) (hlw_E : RLw E (gLw G)) (st : Nat) (hst : st < 2147483648) (hK_E : RKn E (gLw G) st) (d : Nat) (hd : d < 400) (hgt : ∀ h, h < 24 → gT' G h = ltP P (moonP P d) h) (hgr : ∀ h, h < 24 → gR G h = lrP P (moonP P d) h) : CT g yX12_lays cX12_lays 2 none 5 115 0 0 K2 z [mR 125, mI ((d : Nat) : Int)] (ov E) K2 z (fun r D' => r = none ∧ ∃ E1, D' = ov E1 ∧ RSh E1 G 24 ∧ RKn E1 (gLw G) st ∧ ∀ q, ¬ (576 ≤ q ∧ q ≤ 579) → ¬ (658 ≤ q ∧ q ≤ 731) → E1 q = E q) := by
  refine CT.mk hG (by decide +kernel) (Nat.le_of_ble_eq_true rfl) (fun κ X Rt _ ok => ?_)
  refine at_aload_n 1 X rfl rfl dX12_lays_0 rfl ?_
  refine at_iload_n 2 X rfl rfl dX12_lays_1 rfl ?_
  refine at_callV 5 X _ 12 (ct_X12_laysRaw hG E P Q hP hR_E G hW hp_E d hd hgw hgt hgr) clX12 rfl k_125 mo_X12_laysRaw w_2170 vo_X12_laysRaw.1 vo_X12_laysRaw.2 rfl rfl (crm Rt (by decide)) (Nat.le_of_ble_eq_true rfl) dX12_lays_2 rfl ?_
  rintro _ _ ⟨rfl, F1, rfl, hrw_F1, hq_F1⟩
  refine at_aload_n 6 X rfl rfl dX12_lays_5 rfl ?_
  refine at_callV 9 X _ 12 (ct_X12_laysShades hG F1 P Q hP (hR_E.fr (fun q hq => hq_F1 q (by omega)) hP) G hW hgw ⟨by rw [hq_F1 125 (by omega)]; exact hp_E.1, fun p hp => by have := hW.2.1; rw [hq_F1 (142 + p) (by omega)]; exact hp_E.2 p hp⟩ nl lx lr ⟨by rw [hq_F1 125 (by omega)]; exact hl_E.1, hl_E.2.1, fun k hk => by have := hl_E.2.1; rw [hq_F1 (209 + k) (by omega)]; exact hl_E.2.2.1 k hk, hl_E.2.2.2⟩ (by rw [hq_F1 125 (by omega)]; exact hc_E) hrw_F1 (hlw_E.fr hW.2.2.2.2.2.1 (by rw [hq_F1 125 (by omega)]) (fun q a b => hq_F1 q (by omega))) st hst (hK_E.fr (by rw [hq_F1 125 (by omega)]) (hq_F1 578 (by omega)) (hq_F1 579 (by omega)))) clX12 rfl k_125 mo_X12_laysShades w_2174 vo_X12_laysShades.1 vo_X12_laysShades.2 rfl rfl (crm Rt (by decide)) (Nat.le_of_ble_eq_true rfl) dX12_lays_6 rfl ?_
  rintro _ _ ⟨rfl, F2, rfl, hs_F2, hK_F2, hq_F2⟩
  refine at_vret X Rt ?_ (Nat.le_refl _) (Nat.le_refl _) dX12_lays_9
  exact ⟨rfl, F2, rfl, hs_F2, hK_F2, fun q h1 h2 => (hq_F2 q h1 (by omega) (by omega)).trans (hq_F1 q (by omega))⟩
theorem dX12_laysNow_0 : decode cX12_laysNow 0 = .ok (.aload_n 0, 1) := by decide +kernel
theorem dX12_laysNow_1 : decode cX12_laysNow 1 = .ok (.invokevirtual 372, 3) := by decide +kernel
theorem dX12_laysNow_4 : decode cX12_laysNow 4 = .ok (.aload_n 0, 1) := by decide +kernel
theorem dX12_laysNow_5 : decode cX12_laysNow 5 = .ok (.aload_n 0, 1) := by decide +kernel
theorem dX12_laysNow_6 : decode cX12_laysNow 6 = .ok (.getfield 267, 3) := by decide +kernel
theorem dX12_laysNow_9 : decode cX12_laysNow 9 = .ok (.invokevirtual 375, 3) := by decide +kernel
theorem dX12_laysNow_12 : decode cX12_laysNow 12 = .ok (.return_, 1) := by decide +kernel
theorem ct_X12_laysNow {g : Gw} (hG : GF g) {z : Bool} (E : Mm) (Q : RX) (P : SP) (L : LW) (T K : LN) (d st : Nat) (hWf : WF P L T K d st) (hI : RXI E Q P L T K d st) : CT g yX12_laysNow cX12_laysNow 1 none 6 136 0 0 K2 z [mR 125] (ov E) K2 z (fun r D' => r = none ∧ ∃ E1, D' = ov E1 ∧ RXI E1 Q P L T K d st ∧ RXF P E E1 ∧ RSh E1 (gDay P L d) 24 ∧ E1 125 60 = E 125 60 ∧ (E1 125 52 = (sN P : Int) ∧ E1 125 53 = (sLn P : Int) ∧ E1 125 54 = (mk (sC P) 24 : Nat)) ∧ E1 125 0 = E 125 0 ∧ E1 127 = E 127) := by
  refine CT.mk hG (by decide +kernel) (Nat.le_of_ble_eq_true rfl) (fun κ X Rt _ ok => ?_)
  have hP := hWf.1
  refine at_aload_n 1 X rfl rfl dX12_laysNow_0 rfl ?_
  refine at_callV 4 X _ 12 (ct_X12_asTold hG E P Q hP hI.1) clX12 rfl k_125 mo_X12_asTold w_2162 vo_X12_asTold.1 vo_X12_asTold.2 rfl rfl (crm Rt (by decide)) (Nat.le_of_ble_eq_true rfl) dX12_laysNow_1 rfl ?_
  rintro _ _ ⟨rfl, rfl⟩
  generalize hF0 : wr (wr (wr E 125 52 (sN P : Int)) 125 53 (sLn P : Int)) 125 54 (mk (sC P) 24 : Nat) = F0
  have hq0 : ∀ q, q ≠ 125 → F0 q = E q := fun q h => by rw [← hF0]; simp (disch := omega) only [wr_row]
  have h0 : ∀ k, ¬ (52 ≤ k ∧ k ≤ 54) → F0 125 k = E 125 k := fun k h => by rw [← hF0]; simp (disch := omega) only [wr_o]
  have hG0 := told_G (E1 := F0) (mo := moonP P d) (L := L) hI.1 hP (by rw [← hF0]; simp (disch := omega) only [wr_s, wr_o]) (by rw [← hF0]; simp (disch := omega) only [wr_s, wr_o]) (by rw [← hF0]; simp (disch := omega) only [wr_s, wr_o]) (fun q h => hq0 q (by omega))
  refine at_aload_n 5 X rfl rfl dX12_laysNow_4 rfl ?_
  refine at_aload_n 6 X rfl rfl dX12_laysNow_5 rfl ?_
  refine m_getIV 9 X ((d : Nat) : Int) ((h0 45 (by omega)).trans hI.2.2.2.2.2) f_X12_267 k_125 rn_125_45 dX12_laysNow_6 rfl ?_
  refine at_callV 12 X _ 12 (ct_X12_lays hG F0 P Q hP (hI.1.fr (fun q hq => hq0 q (by omega)) hP) (gDay P L d) (gOf_WG hP hWf.2.2.1 (moonP_in P d).2).R rfl hG0.1 _ _ _ hG0.2.1 hG0.2.2 (hI.2.1.fr hWf.2.2.1.2.1 (h0 28 (by omega)) (fun q a b => hq0 q (by omega))) st (by have := hWf.2.2.2.2.2.2; omega) (hI.2.2.1.fr (h0 30 (by omega)) (hq0 578 (by decide)) (hq0 579 (by decide))) d hWf.2.2.2.2.2.1 (fun _ _ => rfl) (fun _ _ => rfl)) clX12 rfl k_125 mo_X12_lays w_2166 vo_X12_lays.1 vo_X12_lays.2 rfl rfl (crm Rt (by decide)) (Nat.le_of_ble_eq_true rfl) dX12_laysNow_9 rfl ?_
  rintro _ _ ⟨rfl, F1, rfl, hs_F1, hK_F1, hq_F1⟩
  refine at_vret X Rt ?_ (Nat.le_refl _) (Nat.le_refl _) dX12_laysNow_12
  have hX : RXF P E F1 := ⟨fun q h => (hq_F1 q (by omega) (by omega)).trans (hq0 q (by omega)), fun k h => by rw [hq_F1 125 (by omega) (by omega)]; exact h0 k (by omega)⟩
  exact ⟨rfl, F1, rfl, hI.fr hWf hX hK_F1, hX, hs_F1, by rw [hq_F1 125 (by omega) (by omega), h0 60 (by omega)], ⟨by rw [hq_F1 125 (by omega) (by omega)]; exact hG0.1.1, by rw [hq_F1 125 (by omega) (by omega)]; exact hG0.2.1.1, by rw [hq_F1 125 (by omega) (by omega)]; exact hG0.2.2⟩, by rw [hq_F1 125 (by omega) (by omega), h0 0 (by omega)], (hq_F1 127 (by omega) (by omega)).trans (hq0 127 (by omega))⟩
theorem dX12_runsNow_0 : decode cX12_runsNow 0 = .ok (.aload_n 0, 1) := by decide +kernel
theorem dX12_runsNow_1 : decode cX12_runsNow 1 = .ok (.invokevirtual 378, 3) := by decide +kernel
theorem dX12_runsNow_4 : decode cX12_runsNow 4 = .ok (.aload_n 0, 1) := by decide +kernel
theorem dX12_runsNow_5 : decode cX12_runsNow 5 = .ok (.invokevirtual 397, 3) := by decide +kernel
theorem dX12_runsNow_8 : decode cX12_runsNow 8 = .ok (.ireturn, 1) := by decide +kernel
theorem ct_X12_runsNow {g : Gw} (hG : GF g) {z : Bool} (E : Mm) (Q : RX) (P : SP) (L : LW) (T K : LN) (d st : Nat) (hWf : WF P L T K d st) (hI : RXI E Q P L T K d st) : CT g yX12_runsNow cX12_runsNow 1 (some .int) 7 156 0 0 K2 z [mR 125] (ov E) K2 z (fun r D' => r = some (mI (dN (dyP (gDay P L d) (sB P) T 24) : Nat)) ∧ ∃ E1, D' = ov E1 ∧ RXI E1 Q P L T K d st ∧ RXF P E E1 ∧ RSh E1 (gDay P L d) 24 ∧ RD E1 (sB P) (dyP (gDay P L d) (sB P) T 24) ∧ RHr E1 (gDay P L d) (sB P) T (sW P) 24 ∧ E1 125 0 = E 125 0 ∧ E1 127 = E 127) := by
  refine CT.mk hG (by decide +kernel) (Nat.le_of_ble_eq_true rfl) (fun κ X Rt _ ok => ?_)
  have hP := hWf.1
  refine at_aload_n 1 X rfl rfl dX12_runsNow_0 rfl ?_
  refine at_callV 4 X _ 12 (ct_X12_laysNow hG E Q P L T K d st hWf hI) clX12 rfl k_125 mo_X12_laysNow w_2158 vo_X12_laysNow.1 vo_X12_laysNow.2 rfl rfl (crm Rt (by decide)) (Nat.le_of_ble_eq_true rfl) dX12_runsNow_1 rfl ?_
  rintro _ _ ⟨rfl, F1, rfl, hI1, hX1, hs1, h60, h523, h01, h71⟩
  refine at_aload_n 5 X rfl rfl dX12_runsNow_4 rfl ?_
  refine at_callV 8 X _ 12 (ct_X12_runs hG F1 P Q hP hI1.1 (gDay P L d) T hI1.2.2.2.1 hWf.2.2.2.1 (fun h c hh hc => (hs1 h c hh hc).2)) clX12 rfl k_125 mo_X12_runs w_2205 vo_X12_runs.1 vo_X12_runs.2 rfl rfl (crm Rt (by decide)) (Nat.le_of_ble_eq_true rfl) dX12_runsNow_5 rfl ?_
  rintro _ _ ⟨rfl, F2, rfl, hd2, hh2, hf2⟩
  refine at_iret X Rt ?_ (Nat.le_refl _) (Nat.le_refl _) dX12_runsNow_8
  have hX2 : RXF P F1 F2 := ⟨fun q h => hf2.1 q (by omega) (by omega) (by omega), fun k h => hf2.2 k (by omega)⟩
  exact ⟨rfl, F2, rfl, hI1.fr hWf hX2 (hI1.2.2.1.fr (hf2.2 30 (by decide)) (hf2.1 578 (by omega) (by omega) (by omega)) (hf2.1 579 (by omega) (by omega) (by omega))), hX1.tr hX2, fun h c hh hc => by rw [hf2.1 (683 + h) (by omega) (by omega) (by omega), hf2.1 (708 + h) (by omega) (by omega) (by omega)]; exact hs1 h c hh hc, hd2, hh2, by rw [hf2.2 0 (by decide)]; exact h01, (hf2.1 127 (by omega) (by omega) (by omega)).trans h71⟩
theorem ct_bad0 {g : Gw} (hG : GF g) {z : Bool} (E : Mm) (wh : Int) (k : Nat) (hk : k < 3) (h0 : E 125 0 = 0) : CT g yX12_bad cX12_bad 4 (some .boolean) 0 0 0 0 K2 z [mR 125, mI 0, mI wh, mI (k : Int)] (ov E) K2 z (fun r D' => r = some (mI 0) ∧ D' = ov E) := by
  have h := ct_X12_bad hG E 0 wh k hk (z := z)
  rw [show badE E 0 wh k = E from if_neg (by omega)] at h
  rw [if_pos h0] at h
  exact h
theorem ct_bad1 {g : Gw} (hG : GF g) {z : Bool} (E : Mm) (wh : Int) (k : Nat) (hk : k < 3) (h0 : E 125 0 = 0) (hwh : ¬ wh = 0) : CT g yX12_bad cX12_bad 4 (some .boolean) 0 0 0 0 K2 z [mR 125, mI 1, mI wh, mI (k : Int)] (ov E) K2 z (fun r D' => r = some (mI 1) ∧ D' = ov (wr (wr E 125 0 wh) 127 k (w32 (E 127 k + 1)))) := by
  have h := ct_X12_bad hG E 1 wh k hk (z := z)
  rw [show badE E 1 wh k = wr (wr E 125 0 wh) 127 k (w32 (E 127 k + 1)) from if_pos ⟨by decide, h0⟩] at h
  rw [if_neg (by rw [wr_o (by omega), wr_s]; exact hwh)] at h
  exact h
