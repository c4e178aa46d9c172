/-- the beams that fell, as the order of falls has them -/
def OKO (d : DS) : Prop := ∀ k, ¬ dF d k = -1 ↔ ∃ i, i < dN d ∧ dO d i = k
theorem drS_OKO {G : GP} {B : BM} {h b : Nat} {d : DS} (ho : OKO d) : OKO (drS G B h b d) := by
  by_cases c : ovr G B h (dP d) b
  · rw [drS_yes c]
    intro k
    show ¬ updf (dF d) b (h : Int) k = -1 ↔ ∃ i, i < dN d + 1 ∧ (if i = dN d then b else dO d i) = k
    by_cases e : k = b
    · subst e
      rw [updf_s]
      exact ⟨fun _ => ⟨dN d, by omega, if_pos rfl⟩, fun _ => by omega⟩
    · rw [updf_o e, ho k]
      constructor
      · rintro ⟨i, hi, q⟩
        exact ⟨i, by omega, by rw [if_neg (by omega)]; exact q⟩
      · rintro ⟨i, hi, q⟩
        by_cases c2 : i = dN d
        · rw [if_pos c2] at q; exact absurd q.symm e
        · rw [if_neg c2] at q; exact ⟨i, by omega, q⟩
  · rw [drS_no c]; exact ho
theorem drN_OKO {G : GP} {B : BM} {h : Nat} {d : DS} (ho : OKO d) : ∀ n, OKO (drN G B h d n)
  | 0 => ho
  | n + 1 => drS_OKO (drN_OKO ho n)
theorem dyP_OKO (G : GP) (B : BM) (T : LN) : ∀ n, OKO (dyP G B T n)
  | 0 => fun k => ⟨fun h => absurd rfl h, fun ⟨i, hi, _⟩ => absurd hi (Nat.not_lt_zero i)⟩
  | n + 1 => drN_OKO (G := G) (B := B) (h := n) (d := mvD T n (dyP G B T n)) (fun k => dyP_OKO G B T n k) _
def fbP (o : Nat → Nat) : Nat → Nat := itr (fun i v => v ||| 2 ^ o i) 0
theorem fbP_tb {o : Nat → Nat} {k : Nat} : ∀ {n : Nat}, (fbP o n).testBit k = true ↔ ∃ i, i < n ∧ o i = k
  | 0 => by
    show (0 : Nat).testBit k = true ↔ _
    rw [Nat.zero_testBit]
    exact ⟨fun h => absurd h (by decide), fun ⟨i, hi, _⟩ => absurd hi (Nat.not_lt_zero i)⟩
  | n + 1 => by
    show (fbP o n ||| 2 ^ o n).testBit k = true ↔ _
    rw [Nat.testBit_or, Bool.or_eq_true, fbP_tb (n := n), Nat.testBit_two_pow, decide_eq_true_iff]
    constructor
    · rintro (⟨i, hi, q⟩ | q)
      · exact ⟨i, by omega, q⟩
      · exact ⟨n, by omega, q⟩
    · rintro ⟨i, hi, q⟩
      by_cases c : i = n
      · subst c; exact Or.inr q
      · exact Or.inl ⟨i, by omega, q⟩
theorem fbP_lt {o : Nat → Nat} : ∀ {n : Nat}, (∀ i, i < n → o i < 8) → fbP o n < 256
  | 0, _ => by show 0 < 256; decide
  | n + 1, h => by
    have h1 := fbP_lt (n := n) (fun i hi => h i (by omega))
    have h2 : 2 ^ o n < 2 ^ 8 := Nat.pow_lt_pow_right (by decide) (h n (by omega))
    exact Nat.or_lt_two_pow (n := 8) h1 h2
theorem fb_mk {W : Nat} {B : BM} {d : DS} (hd : DI W B d) (hB : bN B ≤ 8) (ho : OKO d) : fbP (dO d) (dN d) = mk (fun k => decide (¬ dF d k = -1)) 8 := by
  refine Nat.eq_of_testBit_eq (fun k => ?_)
  rw [Bool.eq_iff_iff, fbP_tb, ← ho k, mk_tb, Bool.and_eq_true, decide_eq_true_iff, decide_eq_true_iff]
  constructor
  · intro h
    refine ⟨?_, h⟩
    by_cases c : k < 8
    · exact c
    · exact absurd (hd.2.2.2.1 k (by omega)).2 h
  · exact fun h => h.2
theorem dX12_fallenBits_0 : decode cX12_fallenBits 0 = .ok (.iconst 0, 1) := by decide +kernel
theorem dX12_fallenBits_1 : decode cX12_fallenBits 1 = .ok (.istore_n 1, 1) := by decide +kernel
theorem dX12_fallenBits_2 : decode cX12_fallenBits 2 = .ok (.iconst 0, 1) := by decide +kernel
theorem dX12_fallenBits_3 : decode cX12_fallenBits 3 = .ok (.istore_n 2, 1) := by decide +kernel
theorem dX12_fallenBits_4 : decode cX12_fallenBits 4 = .ok (.iload_n 2, 1) := by decide +kernel
theorem dX12_fallenBits_5 : decode cX12_fallenBits 5 = .ok (.aload_n 0, 1) := by decide +kernel
theorem dX12_fallenBits_6 : decode cX12_fallenBits 6 = .ok (.getfield 387, 3) := by decide +kernel
theorem dX12_fallenBits_9 : decode cX12_fallenBits 9 = .ok (.if_icmp .ge 20, 3) := by decide +kernel
theorem dX12_fallenBits_12 : decode cX12_fallenBits 12 = .ok (.iload_n 1, 1) := by decide +kernel
theorem dX12_fallenBits_13 : decode cX12_fallenBits 13 = .ok (.iconst 1, 1) := by decide +kernel
theorem dX12_fallenBits_14 : decode cX12_fallenBits 14 = .ok (.aload_n 0, 1) := by decide +kernel
theorem dX12_fallenBits_15 : decode cX12_fallenBits 15 = .ok (.getfield 133, 3) := by decide +kernel
theorem dX12_fallenBits_18 : decode cX12_fallenBits 18 = .ok (.iload_n 2, 1) := by decide +kernel
theorem dX12_fallenBits_19 : decode cX12_fallenBits 19 = .ok (.iaload, 1) := by decide +kernel
theorem dX12_fallenBits_20 : decode cX12_fallenBits 20 = .ok (.ishl, 1) := by decide +kernel
theorem dX12_fallenBits_21 : decode cX12_fallenBits 21 = .ok (.ior, 1) := by decide +kernel
theorem dX12_fallenBits_22 : decode cX12_fallenBits 22 = .ok (.istore_n 1, 1) := by decide +kernel
theorem dX12_fallenBits_23 : decode cX12_fallenBits 23 = .ok (.iinc 2 1, 3) := by decide +kernel
theorem dX12_fallenBits_26 : decode cX12_fallenBits 26 = .ok (.goto (-22), 3) := by decide +kernel
theorem dX12_fallenBits_29 : decode cX12_fallenBits 29 = .ok (.iload_n 1, 1) := by decide +kernel
theorem dX12_fallenBits_30 : decode cX12_fallenBits 30 = .ok (.ireturn, 1) := by decide +kernel
theorem ct_X12_fallenBits {g : Gw} (hG : GF g) {z : Bool} (E : Mm) {W : Nat} {B : BM} {D : DS} (hd : RD E B D) (hD : DI W B D) (hB : bN B ≤ 8) (ho : OKO D) : CT g yX12_fallenBits cX12_fallenBits 3 (some .int) 0 0 0 0 K2 z [mR 125] (ov E) K2 z (fun r D' => r = some (mI (mk (fun k => decide (¬ dF D k = -1)) 8 : Nat)) ∧ D' = ov E) := by
  refine CT.mk hG (by decide +kernel) (Nat.le_of_ble_eq_true rfl) (fun κ X Rt _ ok => ?_)
  have hdn8 : dN D ≤ 8 := by rw [hD.2.1]; exact Nat.le_trans (cntp_le _ _) hB
  refine at_iconst 1 X (by decide) dX12_fallenBits_0 rfl ?_
  refine at_istore_n 2 X rfl dX12_fallenBits_1 rfl (by decide) ?_
  refine at_iconst 3 X (by decide) dX12_fallenBits_2 rfl ?_
  refine at_istore_n 4 X rfl dX12_fallenBits_3 rfl (by decide) ?_
  have J4 : ∀ (f4 : Nat) (i : Nat) (v : Nat), 9 - i < f4 → (i ≤ dN D) → (v = fbP (dO D) i) → AT g κ K2 z 0 0 4 [(0, mR 125), (1, mI ((v : Nat) : Int)), (2, mI ((i : Nat) : Int))] [] (ov E) := by
    intro f4
    induction f4 with
    | zero => intro i v hf4; omega
    | succ f4 ih4 =>
    intro i v hf4 hi hv
    refine at_iload_n 5 X rfl rfl dX12_fallenBits_4 rfl ?_
    refine at_aload_n 6 X rfl rfl dX12_fallenBits_5 rfl ?_
    refine m_getIV 9 X ((dN D : Nat) : Int) hd.2.2.2 f_X12_387 k_125 rn_125_60 dX12_fallenBits_6 rfl ?_
    refine at_icmp_ge 12 29 X dX12_fallenBits_9 rfl (by decide) (fun h9 => ?_) (fun h9 => ?_)
    · refine at_iload_n 30 X rfl rfl dX12_fallenBits_29 rfl ?_
      refine at_iret X Rt ?_ (Nat.le_refl _) (Nat.le_refl _) dX12_fallenBits_30
      exact ⟨by rw [hv, show i = dN D by omega, fb_mk hD hB ho], rfl⟩
    · have hvl := fbP_lt (o := dO D) (n := i) (fun j hj => by have := hD.2.2.2.2.2 j (by omega); omega)
      refine at_iload_n 13 X rfl rfl dX12_fallenBits_12 rfl ?_
      refine at_iconst 14 X (by decide) dX12_fallenBits_13 rfl ?_
      refine at_aload_n 15 X rfl rfl dX12_fallenBits_14 rfl ?_
      refine m_getR 18 X f_X12_133 k_125 r_125_59 dX12_fallenBits_15 rfl ?_
      refine at_iload_n 19 X rfl rfl dX12_fallenBits_18 rfl ?_
      refine m_ialoadV 20 X i (by omega) ((dO D i : Nat) : Int) (hd.2.2.1 i (by omega)) k_784 e_784 (by omega) dX12_fallenBits_19 rfl ?_
      have := hD.2.2.2.2.2 i (by omega)
      refine at_ishlV 21 X ((2 ^ dO D i : Nat) : Int) (ishl1 (by omega)) dX12_fallenBits_20 rfl ?_
      refine at_iorV 22 X ((v ||| 2 ^ dO D i : Nat) : Int) (ior_nat (by omega) (p2_31 (by omega))) dX12_fallenBits_21 rfl ?_
      refine at_istore_n 23 X rfl dX12_fallenBits_22 rfl (by decide) ?_
      refine at_iincV 26 X ((i + 1 : Nat) : Int) (w32_v (by omega) (by omega) (by omega)) rfl dX12_fallenBits_23 rfl (by decide) ?_
      refine at_goto 4 X dX12_fallenBits_26 (by decide) ?_
      exact at_sub _ (by exact ⟨rfl, rfl, rfl, trivial⟩) (ih4 (i + 1) (v ||| 2 ^ dO D i) (by first | omega | (simp only [] at *; omega)) (by first | omega | assumption) (by rw [hv]; rfl))
  exact at_sub _ (by exact ⟨rfl, rfl, rfl, trivial⟩) (J4 _ 0 0 (Nat.lt_succ_self _) (by first | omega | assumption | rfl) rfl)
theorem dX12_fallen_0 : decode cX12_fallen 0 = .ok (.aload_n 0, 1) := by decide +kernel
theorem dX12_fallen_1 : decode cX12_fallen 1 = .ok (.iconst 0, 1) := by decide +kernel
theorem dX12_fallen_2 : decode cX12_fallen 2 = .ok (.putfield 152, 3) := by decide +kernel
theorem dX12_fallen_5 : decode cX12_fallen 5 = .ok (.aload_n 0, 1) := by decide +kernel
theorem dX12_fallen_6 : decode cX12_fallen 6 = .ok (.invokevirtual 400, 3) := by decide +kernel
theorem dX12_fallen_9 : decode cX12_fallen 9 = .ok (.pop, 1) := by decide +kernel
theorem dX12_fallen_10 : decode cX12_fallen 10 = .ok (.aload_n 0, 1) := by decide +kernel
theorem dX12_fallen_11 : decode cX12_fallen 11 = .ok (.invokevirtual 407, 3) := by decide +kernel
theorem dX12_fallen_14 : decode cX12_fallen 14 = .ok (.ireturn, 1) := by decide +kernel
theorem ct_X12_fallen {g : Gw} (hG : GF g) {z : Bool} (E : Mm) (Q : RX) (P : SP) (L : LW) (T K : LN) (d st : Nat) (hWf : WF P L T K d st) (hI_E : RXI E Q P L T K d st) : CT g yX12_fallen cX12_fallen 1 (some .int) 8 176 0 0 K2 z [mR 125] (ov E) K2 z (fun r' D' => (r' = some (mI (mk (fun k => decide (¬ dF (dyP (gDay P L d) (sB P) T 24) k = -1)) 8 : Nat)) ∧ ∃ E1, D' = ov E1 ∧ RXO E E1 Q P L T K d st)) := by
  refine CT.mk hG (by decide +kernel) (Nat.le_of_ble_eq_true rfl) (fun κ X Rt _ ok => ?_)
  have hP := hWf.1
  have hN8 := hP.B.N
  have hW40 := hP.W
  have hN11 := hP.N
  have hwN : gN (gDay P L d) ≤ 11 := Nat.le_trans hP.N (by decide)
  have hgw : gW (gDay P L d) = sW P := rfl
  have hDI24 := dyP_DI (G := (gDay P L d)) hP.B hWf.2.2.2.1 (Nat.le_refl 24)
  refine at_aload_n 1 X rfl rfl dX12_fallen_0 rfl ?_
  refine at_iconst 2 X (by decide) dX12_fallen_1 rfl ?_
  refine m_putI 5 X f_X12_152 fw_12_0 k_125 rn_125_0 dX12_fallen_2 rfl ?_
  have hO_E0 := RXO.z hWf hI_E
  generalize hE0 : wr E 125 0 0 = E0 at hO_E0 ⊢
  have hR_E0 := hO_E0.1.1
  refine at_aload_n 6 X rfl rfl dX12_fallen_5 rfl ?_
  refine at_callV 9 X _ 12 (ct_X12_runsNow hG E0 Q P L T K d st hWf hO_E0.1) clX12 rfl k_125 mo_X12_runsNow w_2201 vo_X12_runsNow.1 vo_X12_runsNow.2 rfl rfl (crm Rt (by decide)) (Nat.le_of_ble_eq_true rfl) dX12_fallen_6 rfl ?_
  rintro _ _ ⟨rfl, F1, rfl, hI_F1, hY_F1, hs_F1, hd_F1, hr_F1, h0_F1, h7_F1⟩
  have hO_F1 := hO_E0.nx hI_F1 hY_F1 h0_F1 h7_F1
  have hR_F1 := hI_F1.1
  refine at_pop 10 X (show ¬ (0 : Nat) = 1 by decide) dX12_fallen_9 rfl ?_
  refine at_aload_n 11 X rfl rfl dX12_fallen_10 rfl ?_
  refine at_callV 14 X _ 12 (ct_X12_fallenBits hG F1 hd_F1 hDI24 (by omega) (dyP_OKO (gDay P L d) (sB P) T 24)) clX12 rfl k_125 mo_X12_fallenBits w_2249 vo_X12_fallenBits.1 vo_X12_fallenBits.2 rfl rfl (crm Rt (by decide)) (Nat.le_of_ble_eq_true rfl) dX12_fallen_11 rfl ?_
  rintro _ _ ⟨rfl, rfl⟩
  refine at_iret X Rt ?_ (Nat.le_refl _) (Nat.le_refl _) dX12_fallen_14
  exact ⟨(by rfl), _, rfl, hO_F1⟩
theorem dX12_order_0 : decode cX12_order 0 = .ok (.aload_n 0, 1) := by decide +kernel
theorem dX12_order_1 : decode cX12_order 1 = .ok (.iconst 0, 1) := by decide +kernel
theorem dX12_order_2 : decode cX12_order 2 = .ok (.putfield 152, 3) := by decide +kernel
theorem dX12_order_5 : decode cX12_order 5 = .ok (.aload_n 0, 1) := by decide +kernel
theorem dX12_order_6 : decode cX12_order 6 = .ok (.invokevirtual 400, 3) := by decide +kernel
theorem dX12_order_9 : decode cX12_order 9 = .ok (.pop, 1) := by decide +kernel
theorem dX12_order_10 : decode cX12_order 10 = .ok (.iload_n 1, 1) := by decide +kernel
theorem dX12_order_11 : decode cX12_order 11 = .ok (.iconst 0, 1) := by decide +kernel
theorem dX12_order_12 : decode cX12_order 12 = .ok (.aload_n 0, 1) := by decide +kernel
theorem dX12_order_13 : decode cX12_order 13 = .ok (.getfield 387, 3) := by decide +kernel
theorem dX12_order_16 : decode cX12_order 16 = .ok (.iconst 1, 1) := by decide +kernel
theorem dX12_order_17 : decode cX12_order 17 = .ok (.isub, 1) := by decide +kernel
theorem dX12_order_18 : decode cX12_order 18 = .ok (.invokestatic 186, 3) := by decide +kernel
theorem dX12_order_21 : decode cX12_order 21 = .ok (.ifCond .eq 12, 3) := by decide +kernel
theorem dX12_order_24 : decode cX12_order 24 = .ok (.aload_n 0, 1) := by decide +kernel
theorem dX12_order_25 : decode cX12_order 25 = .ok (.getfield 133, 3) := by decide +kernel
theorem dX12_order_28 : decode cX12_order 28 = .ok (.iload_n 1, 1) := by decide +kernel
theorem dX12_order_29 : decode cX12_order 29 = .ok (.iaload, 1) := by decide +kernel
theorem dX12_order_30 : decode cX12_order 30 = .ok (.goto 4, 3) := by decide +kernel
theorem dX12_order_33 : decode cX12_order 33 = .ok (.iconst (-1), 1) := by decide +kernel
theorem dX12_order_34 : decode cX12_order 34 = .ok (.ireturn, 1) := by decide +kernel
theorem ct_X12_order {g : Gw} (hG : GF g) {z : Bool} (E : Mm) (Q : RX) (P : SP) (L : LW) (T K : LN) (d st : Nat) (hWf : WF P L T K d st) (hI_E : RXI E Q P L T K d st) (x0 : Int) : CT g yX12_order cX12_order 2 (some .int) 8 176 0 0 K2 z [mR 125, mI x0] (ov E) K2 z (fun r' D' => (r' = some (mI (if 0 ≤ x0 ∧ x0 < (dN (dyP (gDay P L d) (sB P) T 24) : Int) then (dO (dyP (gDay P L d) (sB P) T 24) x0.toNat : Int) else -1)) ∧ ∃ E1, D' = ov E1 ∧ RXO E E1 Q P L T K d st)) := by
  refine CT.mk hG (by decide +kernel) (Nat.le_of_ble_eq_true rfl) (fun κ X Rt _ ok => ?_)
  have hP := hWf.1
  have hN8 := hP.B.N
  have hW40 := hP.W
  have hN11 := hP.N
  have hwN : gN (gDay P L d) ≤ 11 := Nat.le_trans hP.N (by decide)
  have hgw : gW (gDay P L d) = sW P := rfl
  have hDI24 := dyP_DI (G := (gDay P L d)) hP.B hWf.2.2.2.1 (Nat.le_refl 24)
  refine at_aload_n 1 X rfl rfl dX12_order_0 rfl ?_
  refine at_iconst 2 X (by decide) dX12_order_1 rfl ?_
  refine m_putI 5 X f_X12_152 fw_12_0 k_125 rn_125_0 dX12_order_2 rfl ?_
  have hO_E0 := RXO.z hWf hI_E
  generalize hE0 : wr E 125 0 0 = E0 at hO_E0 ⊢
  have hR_E0 := hO_E0.1.1
  refine at_aload_n 6 X rfl rfl dX12_order_5 rfl ?_
  refine at_callV 9 X _ 12 (ct_X12_runsNow hG E0 Q P L T K d st hWf hO_E0.1) clX12 rfl k_125 mo_X12_runsNow w_2201 vo_X12_runsNow.1 vo_X12_runsNow.2 rfl rfl (crm Rt (by decide)) (Nat.le_of_ble_eq_true rfl) dX12_order_6 rfl ?_
  rintro _ _ ⟨rfl, F1, rfl, hI_F1, hY_F1, hs_F1, hd_F1, hr_F1, h0_F1, h7_F1⟩
  have hO_F1 := hO_E0.nx hI_F1 hY_F1 h0_F1 h7_F1
  have hR_F1 := hI_F1.1
  refine at_pop 10 X (show ¬ (0 : Nat) = 1 by decide) dX12_order_9 rfl ?_
  have hdn8 : dN (dyP (gDay P L d) (sB P) T 24) ≤ 8 := by rw [hDI24.2.1]; exact Nat.le_trans (cntp_le _ _) hN8
  refine at_iload_n 11 X rfl rfl dX12_order_10 rfl ?_
  refine at_iconst 12 X (by decide) dX12_order_11 rfl ?_
  refine at_aload_n 13 X rfl rfl dX12_order_12 rfl ?_
  refine m_getIV 16 X ((dN (dyP (gDay P L d) (sB P) T 24) : Nat) : Int) hd_F1.2.2.2 f_X12_387 k_125 rn_125_60 dX12_order_13 rfl ?_
  refine at_iconst 17 X (by decide) dX12_order_16 rfl ?_
  refine at_isubV 18 X (((dN (dyP (gDay P L d) (sB P) T 24) : Nat) : Int) - 1) (w32_v rfl (by omega) (by omega)) dX12_order_17 rfl ?_
  refine at_callS 21 X (ct_X12_in hG _ _ _) mo_X12_in w_1957 so_X12_in rfl rfl (crm Rt (by decide)) (Nat.le_of_ble_eq_true rfl) dX12_order_18 rfl ?_
  rintro _ _ ⟨rfl, rfl⟩
  refine at_if_eq 24 33 X dX12_order_21 rfl (by decide) (fun h21 => ?_) (fun h21 => ?_)
  · have h21 : ¬ (0 ≤ x0 ∧ x0 ≤ (((dN (dyP (gDay P L d) (sB P) T 24) : Nat) : Int) - 1)) := ite_no.mp h21
    refine at_iconst 34 X (by decide) dX12_order_33 rfl ?_
    refine at_iret X Rt ?_ (Nat.le_refl _) (Nat.le_refl _) dX12_order_34
    exact ⟨(by first | rw [if_pos (by omega)] | rw [if_neg (by omega)]), _, rfl, hO_F1⟩
  · have h21 : (0 ≤ x0 ∧ x0 ≤ (((dN (dyP (gDay P L d) (sB P) T 24) : Nat) : Int) - 1)) := ite_yes.mp h21
    refine at_aload_n 25 X rfl rfl dX12_order_24 rfl ?_
    refine m_getR 28 X f_X12_133 k_125 r_125_59 dX12_order_25 rfl ?_
    refine at_iload_n 29 X rfl rfl dX12_order_28 rfl ?_
    refine m_ialoadV 30 X x0.toNat (by omega) ((dO (dyP (gDay P L d) (sB P) T 24) x0.toNat : Nat) : Int) (hd_F1.2.2.1 x0.toNat (by omega)) k_784 e_784 (by omega) dX12_order_29 rfl ?_
    have := hDI24.2.2.2.2.2 x0.toNat (by omega)
    refine at_goto 34 X dX12_order_30 (by decide) ?_
    refine at_iret X Rt ?_ (Nat.le_refl _) (Nat.le_refl _) dX12_order_34
    exact ⟨(by first | rw [if_pos (by omega)] | rw [if_neg (by omega)]), _, rfl, hO_F1⟩
theorem dX12_heaviest_0 : decode cX12_heaviest 0 = .ok (.aload_n 0, 1) := by decide +kernel
theorem dX12_heaviest_1 : decode cX12_heaviest 1 = .ok (.iconst 0, 1) := by decide +kernel
theorem dX12_heaviest_2 : decode cX12_heaviest 2 = .ok (.putfield 152, 3) := by decide +kernel
theorem dX12_heaviest_5 : decode cX12_heaviest 5 = .ok (.iconst (-1), 1) := by decide +kernel
theorem dX12_heaviest_6 : decode cX12_heaviest 6 = .ok (.istore_n 1, 1) := by decide +kernel
theorem dX12_heaviest_7 : decode cX12_heaviest 7 = .ok (.lconst 0, 1) := by decide +kernel
theorem dX12_heaviest_8 : decode cX12_heaviest 8 = .ok (.lstore_n 2, 1) := by decide +kernel
theorem dX12_heaviest_9 : decode cX12_heaviest 9 = .ok (.iconst 0, 1) := by decide +kernel
theorem dX12_heaviest_10 : decode cX12_heaviest 10 = .ok (.istore 4, 2) := by decide +kernel
theorem dX12_heaviest_12 : decode cX12_heaviest 12 = .ok (.iload 4, 2) := by decide +kernel
theorem dX12_heaviest_14 : decode cX12_heaviest 14 = .ok (.aload_n 0, 1) := by decide +kernel
theorem dX12_heaviest_15 : decode cX12_heaviest 15 = .ok (.getfield 23, 3) := by decide +kernel
theorem dX12_heaviest_18 : decode cX12_heaviest 18 = .ok (.bipush 6, 2) := by decide +kernel
theorem dX12_heaviest_20 : decode cX12_heaviest 20 = .ok (.iaload, 1) := by decide +kernel
theorem dX12_heaviest_21 : decode cX12_heaviest 21 = .ok (.if_icmp .ge 62, 3) := by decide +kernel
theorem dX12_heaviest_24 : decode cX12_heaviest 24 = .ok (.aload_n 0, 1) := by decide +kernel
theorem dX12_heaviest_25 : decode cX12_heaviest 25 = .ok (.iload 4, 2) := by decide +kernel
theorem dX12_heaviest_27 : decode cX12_heaviest 27 = .ok (.iconst 0, 1) := by decide +kernel
theorem dX12_heaviest_28 : decode cX12_heaviest 28 = .ok (.invokevirtual 383, 3) := by decide +kernel
theorem dX12_heaviest_31 : decode cX12_heaviest 31 = .ok (.aload_n 0, 1) := by decide +kernel
theorem dX12_heaviest_32 : decode cX12_heaviest 32 = .ok (.iload 4, 2) := by decide +kernel
theorem dX12_heaviest_34 : decode cX12_heaviest 34 = .ok (.iconst 1, 1) := by decide +kernel
theorem dX12_heaviest_35 : decode cX12_heaviest 35 = .ok (.invokevirtual 383, 3) := by decide +kernel
theorem dX12_heaviest_38 : decode cX12_heaviest 38 = .ok (.lcmp, 1) := by decide +kernel
theorem dX12_heaviest_39 : decode cX12_heaviest 39 = .ok (.ifCond .le 13, 3) := by decide +kernel
theorem dX12_heaviest_42 : decode cX12_heaviest 42 = .ok (.aload_n 0, 1) := by decide +kernel
theorem dX12_heaviest_43 : decode cX12_heaviest 43 = .ok (.iload 4, 2) := by decide +kernel
theorem dX12_heaviest_45 : decode cX12_heaviest 45 = .ok (.iconst 0, 1) := by decide +kernel
theorem dX12_heaviest_46 : decode cX12_heaviest 46 = .ok (.invokevirtual 383, 3) := by decide +kernel
theorem dX12_heaviest_49 : decode cX12_heaviest 49 = .ok (.goto 10, 3) := by decide +kernel
theorem dX12_heaviest_52 : decode cX12_heaviest 52 = .ok (.aload_n 0, 1) := by decide +kernel
theorem dX12_heaviest_53 : decode cX12_heaviest 53 = .ok (.iload 4, 2) := by decide +kernel
theorem dX12_heaviest_55 : decode cX12_heaviest 55 = .ok (.iconst 1, 1) := by decide +kernel
theorem dX12_heaviest_56 : decode cX12_heaviest 56 = .ok (.invokevirtual 383, 3) := by decide +kernel
theorem dX12_heaviest_59 : decode cX12_heaviest 59 = .ok (.lstore 5, 2) := by decide +kernel
theorem dX12_heaviest_61 : decode cX12_heaviest 61 = .ok (.lload 5, 2) := by decide +kernel
theorem dX12_heaviest_63 : decode cX12_heaviest 63 = .ok (.lload_n 2, 1) := by decide +kernel
theorem dX12_heaviest_64 : decode cX12_heaviest 64 = .ok (.lcmp, 1) := by decide +kernel
theorem dX12_heaviest_65 : decode cX12_heaviest 65 = .ok (.ifCond .gt 6, 3) := by decide +kernel
theorem dX12_heaviest_68 : decode cX12_heaviest 68 = .ok (.goto 9, 3) := by decide +kernel
theorem dX12_heaviest_71 : decode cX12_heaviest 71 = .ok (.iload 4, 2) := by decide +kernel
theorem dX12_heaviest_73 : decode cX12_heaviest 73 = .ok (.istore_n 1, 1) := by decide +kernel
theorem dX12_heaviest_74 : decode cX12_heaviest 74 = .ok (.lload 5, 2) := by decide +kernel
theorem dX12_heaviest_76 : decode cX12_heaviest 76 = .ok (.lstore_n 2, 1) := by decide +kernel
theorem dX12_heaviest_77 : decode cX12_heaviest 77 = .ok (.iinc 4 1, 3) := by decide +kernel
theorem dX12_heaviest_80 : decode cX12_heaviest 80 = .ok (.goto (-68), 3) := by decide +kernel
theorem dX12_heaviest_83 : decode cX12_heaviest 83 = .ok (.iload_n 1, 1) := by decide +kernel
theorem dX12_heaviest_84 : decode cX12_heaviest 84 = .ok (.ireturn, 1) := by decide +kernel
theorem ct_X12_heaviest {g : Gw} (hG : GF g) {z : Bool} (E : Mm) (Q : RX) (P : SP) (L : LW) (T K : LN) (d st : Nat) (hWf : WF P L T K d st) (hI_E : RXI E Q P L T K d st) : CT g yX12_heaviest cX12_heaviest 7 (some .int) 1 25 0 0 K2 z [mR 125] (ov E) K2 z (fun r' D' => (r' = some (mI ((hvP (sB P) (bN (sB P))).1)) ∧ ∃ E1, D' = ov E1 ∧ RXO E E1 Q P L T K d st)) := by
  refine CT.mk hG (by decide +kernel) (Nat.le_of_ble_eq_true rfl) (fun κ X Rt _ ok => ?_)
  have hP := hWf.1
  have hN8 := hP.B.N
  have hW40 := hP.W
  have hN11 := hP.N
  have hwN : gN (gDay P L d) ≤ 11 := Nat.le_trans hP.N (by decide)
  have hgw : gW (gDay P L d) = sW P := rfl
  have hDI24 := dyP_DI (G := (gDay P L d)) hP.B hWf.2.2.2.1 (Nat.le_refl 24)
  refine at_aload_n 1 X rfl rfl dX12_heaviest_0 rfl ?_
  refine at_iconst 2 X (by decide) dX12_heaviest_1 rfl ?_
  refine m_putI 5 X f_X12_152 fw_12_0 k_125 rn_125_0 dX12_heaviest_2 rfl ?_
  have hO_E0 := RXO.z hWf hI_E
  generalize hE0 : wr E 125 0 0 = E0 at hO_E0 ⊢
  have hR_E0 := hO_E0.1.1
  refine at_iconst 6 X (by decide) dX12_heaviest_5 rfl ?_
  refine at_istore_n 7 X rfl dX12_heaviest_6 rfl (by decide) ?_
  refine at_lconst 8 X (v := 0) (by decide) (by decide) dX12_heaviest_7 rfl ?_
  refine at_lstore_n 9 X rfl dX12_heaviest_8 rfl (by decide) ?_
  refine at_iconst 10 X (by decide) dX12_heaviest_9 rfl ?_
  refine at_istore 12 X dX12_heaviest_10 rfl (by decide) ?_
  have J12 : ∀ (f12 : Nat) (b : Nat) (v : Int) (m : Int), 8 - b < f12 → (b ≤ bN (sB P)) → (v = (hvP (sB P) b).1) → (m = (hvP (sB P) b).2) → AT g κ K2 z 0 0 12 [(0, mR 125), (1, mI v), (2, mL m), (4, mI ((b : Nat) : Int))] [] (ov E0) := by
    intro f12
    induction f12 with
    | zero => intro b v m hf12; omega
    | succ f12 ih12 =>
    intro b v m hf12 hb hv hm
    refine at_iload 14 X rfl dX12_heaviest_12 rfl ?_
    refine at_aload_n 15 X rfl rfl dX12_heaviest_14 rfl ?_
    refine m_getR 18 X f_X12_23 k_125 r_125_12 dX12_heaviest_15 rfl ?_
    refine at_bipush 20 X (by decide) (by decide) dX12_heaviest_18 rfl ?_
    refine m_ialoadV 21 X 6 (by omega) ((bN (sB P) : Nat) : Int) hR_E0.1.2.2.2.2.2.2.1 k_129 e_129 (by omega) dX12_heaviest_20 rfl ?_
    have := hP.B.N
    refine at_icmp_ge 24 83 X dX12_heaviest_21 rfl (by decide) (fun h21 => ?_) (fun h21 => ?_)
    · refine at_iload_n 84 X rfl rfl dX12_heaviest_83 rfl ?_
      refine at_iret X Rt ?_ (Nat.le_refl _) (Nat.le_refl _) dX12_heaviest_84
      exact ⟨(by rw [hv, show b = bN (sB P) by omega]), _, rfl, hO_E0⟩
    · refine at_aload_n 25 X rfl rfl dX12_heaviest_24 rfl ?_
      refine at_iload 27 X rfl dX12_heaviest_25 rfl ?_
      refine at_iconst 28 X (by decide) dX12_heaviest_27 rfl ?_
      refine at_callV 31 X _ 12 (ct_X12_putsOf hG E0 P Q hP hR_E0 b 0 (by omega)) clX12 rfl k_125 mo_X12_putsOf w_2213 vo_X12_putsOf.1 vo_X12_putsOf.2 rfl rfl (crm Rt (by decide)) (Nat.le_of_ble_eq_true rfl) dX12_heaviest_28 rfl ?_
      rintro _ _ ⟨rfl, rfl⟩
      have hLle := onL_le hP.B (b := b) (by omega)
      have hRle := onR_le hP.B (b := b) (by omega)
      refine at_aload_n 32 X rfl rfl dX12_heaviest_31 rfl ?_
      refine at_iload 34 X rfl dX12_heaviest_32 rfl ?_
      refine at_iconst 35 X (by decide) dX12_heaviest_34 rfl ?_
      refine at_callV 38 X _ 12 (ct_X12_putsOf hG E0 P Q hP hR_E0 b 1 (by omega)) clX12 rfl k_125 mo_X12_putsOf w_2213 vo_X12_putsOf.1 vo_X12_putsOf.2 rfl rfl (crm Rt (by decide)) (Nat.le_of_ble_eq_true rfl) dX12_heaviest_35 rfl ?_
      rintro _ _ ⟨rfl, rfl⟩
      have hLle := onL_le hP.B (b := b) (by omega)
      have hRle := onR_le hP.B (b := b) (by omega)
      refine at_lif_le 39 42 52 X dX12_heaviest_38 rfl dX12_heaviest_39 rfl (by decide) (fun h38 => ?_) (fun h38 => ?_)
      · refine at_aload_n 53 X rfl rfl dX12_heaviest_52 rfl ?_
        refine at_iload 55 X rfl dX12_heaviest_53 rfl ?_
        refine at_iconst 56 X (by decide) dX12_heaviest_55 rfl ?_
        refine at_callV 59 X _ 12 (ct_X12_putsOf hG E0 P Q hP hR_E0 b 1 (by omega)) clX12 rfl k_125 mo_X12_putsOf w_2213 vo_X12_putsOf.1 vo_X12_putsOf.2 rfl rfl (crm Rt (by decide)) (Nat.le_of_ble_eq_true rfl) dX12_heaviest_56 rfl ?_
        rintro _ _ ⟨rfl, rfl⟩
        have hLle := onL_le hP.B (b := b) (by omega)
        have hRle := onR_le hP.B (b := b) (by omega)
        refine at_lstore 61 X dX12_heaviest_59 rfl (by decide) ?_
        refine at_lload 63 X rfl dX12_heaviest_61 rfl ?_
        refine at_lload_n 64 X rfl rfl dX12_heaviest_63 rfl ?_
        refine at_lif_gt 65 68 71 X dX12_heaviest_64 rfl dX12_heaviest_65 rfl (by decide) (fun h64 => ?_) (fun h64 => ?_)
        · refine at_iload 73 X rfl dX12_heaviest_71 rfl ?_
          refine at_istore_n 74 X rfl dX12_heaviest_73 rfl (by decide) ?_
          refine at_lload 76 X rfl dX12_heaviest_74 rfl ?_
          refine at_lstore_n 77 X rfl dX12_heaviest_76 rfl (by decide) ?_
          refine at_iincV 80 X ((b + 1 : Nat) : Int) (w32_v (by omega) (by omega) (by omega)) rfl dX12_heaviest_77 rfl (by decide) ?_
          refine at_goto 12 X dX12_heaviest_80 (by decide) ?_
          exact at_sub _ (by exact ⟨rfl, rfl, rfl, rfl, trivial⟩) (ih12 (b + 1) ((b : Nat) : Int) (onR (sB P) b) (by first | omega | (simp only [] at *; omega)) (by first | omega | assumption) (by rw [hvP_s, ← hm]; first | (rw [if_pos (show (onR (sB P) b : Int) < (onL (sB P) b : Int) by omega)]; first | rw [if_pos (show m < (onL (sB P) b : Int) by omega)] | (rw [if_neg (show ¬ m < (onL (sB P) b : Int) by omega)]; assumption)) | (rw [if_neg (show ¬ (onR (sB P) b : Int) < (onL (sB P) b : Int) by omega)]; first | rw [if_pos (show m < (onR (sB P) b : Int) by omega)] | (rw [if_neg (show ¬ m < (onR (sB P) b : Int) by omega)]; assumption))) (by rw [hvP_s, ← hm]; first | (rw [if_pos (show (onR (sB P) b : Int) < (onL (sB P) b : Int) by omega)]; first | rw [if_pos (show m < (onL (sB P) b : Int) by omega)] | (rw [if_neg (show ¬ m < (onL (sB P) b : Int) by omega)]; assumption)) | (rw [if_neg (show ¬ (onR (sB P) b : Int) < (onL (sB P) b : Int) by omega)]; first | rw [if_pos (show m < (onR (sB P) b : Int) by omega)] | (rw [if_neg (show ¬ m < (onR (sB P) b : Int) by omega)]; assumption))))
        · refine at_goto 77 X dX12_heaviest_68 (by decide) ?_
          refine at_iincV 80 X ((b + 1 : Nat) : Int) (w32_v (by omega) (by omega) (by omega)) rfl dX12_heaviest_77 rfl (by decide) ?_
          refine at_goto 12 X dX12_heaviest_80 (by decide) ?_
          exact at_sub _ (by exact ⟨rfl, rfl, rfl, rfl, trivial⟩) (ih12 (b + 1) v m (by first | omega | (simp only [] at *; omega)) (by first | omega | assumption) (by rw [hvP_s, ← hm]; first | (rw [if_pos (show (onR (sB P) b : Int) < (onL (sB P) b : Int) by omega)]; first | rw [if_pos (show m < (onL (sB P) b : Int) by omega)] | (rw [if_neg (show ¬ m < (onL (sB P) b : Int) by omega)]; assumption)) | (rw [if_neg (show ¬ (onR (sB P) b : Int) < (onL (sB P) b : Int) by omega)]; first | rw [if_pos (show m < (onR (sB P) b : Int) by omega)] | (rw [if_neg (show ¬ m < (onR (sB P) b : Int) by omega)]; assumption))) (by rw [hvP_s, ← hm]; first | (rw [if_pos (show (onR (sB P) b : Int) < (onL (sB P) b : Int) by omega)]; first | rw [if_pos (show m < (onL (sB P) b : Int) by omega)] | (rw [if_neg (show ¬ m < (onL (sB P) b : Int) by omega)]; assumption)) | (rw [if_neg (show ¬ (onR (sB P) b : Int) < (onL (sB P) b : Int) by omega)]; first | rw [if_pos (show m < (onR (sB P) b : Int) by omega)] | (rw [if_neg (show ¬ m < (onR (sB P) b : Int) by omega)]; assumption))))
      · refine at_aload_n 43 X rfl rfl dX12_heaviest_42 rfl ?_
        refine at_iload 45 X rfl dX12_heaviest_43 rfl ?_
        refine at_iconst 46 X (by decide) dX12_heaviest_45 rfl ?_
        refine at_callV 49 X _ 12 (ct_X12_putsOf hG E0 P Q hP hR_E0 b 0 (by omega)) clX12 rfl k_125 mo_X12_putsOf w_2213 vo_X12_putsOf.1 vo_X12_putsOf.2 rfl rfl (crm Rt (by decide)) (Nat.le_of_ble_eq_true rfl) dX12_heaviest_46 rfl ?_
        rintro _ _ ⟨rfl, rfl⟩
        have hLle := onL_le hP.B (b := b) (by omega)
        have hRle := onR_le hP.B (b := b) (by omega)
        refine at_goto 59 X dX12_heaviest_49 (by decide) ?_
        refine at_lstore 61 X dX12_heaviest_59 rfl (by decide) ?_
        refine at_lload 63 X rfl dX12_heaviest_61 rfl ?_
        refine at_lload_n 64 X rfl rfl dX12_heaviest_63 rfl ?_
        refine at_lif_gt 65 68 71 X dX12_heaviest_64 rfl dX12_heaviest_65 rfl (by decide) (fun h64 => ?_) (fun h64 => ?_)
        · refine at_iload 73 X rfl dX12_heaviest_71 rfl ?_
          refine at_istore_n 74 X rfl dX12_heaviest_73 rfl (by decide) ?_
          refine at_lload 76 X rfl dX12_heaviest_74 rfl ?_
          refine at_lstore_n 77 X rfl dX12_heaviest_76 rfl (by decide) ?_
          refine at_iincV 80 X ((b + 1 : Nat) : Int) (w32_v (by omega) (by omega) (by omega)) rfl dX12_heaviest_77 rfl (by decide) ?_
          refine at_goto 12 X dX12_heaviest_80 (by decide) ?_
          exact at_sub _ (by exact ⟨rfl, rfl, rfl, rfl, trivial⟩) (ih12 (b + 1) ((b : Nat) : Int) (onL (sB P) b) (by first | omega | (simp only [] at *; omega)) (by first | omega | assumption) (by rw [hvP_s, ← hm]; first | (rw [if_pos (show (onR (sB P) b : Int) < (onL (sB P) b : Int) by omega)]; first | rw [if_pos (show m < (onL (sB P) b : Int) by omega)] | (rw [if_neg (show ¬ m < (onL (sB P) b : Int) by omega)]; assumption)) | (rw [if_neg (show ¬ (onR (sB P) b : Int) < (onL (sB P) b : Int) by omega)]; first | rw [if_pos (show m < (onR (sB P) b : Int) by omega)] | (rw [if_neg (show ¬ m < (onR (sB P) b : Int) by omega)]; assumption))) (by rw [hvP_s, ← hm]; first | (rw [if_pos (show (onR (sB P) b : Int) < (onL (sB P) b : Int) by omega)]; first | rw [if_pos (show m < (onL (sB P) b : Int) by omega)] | (rw [if_neg (show ¬ m < (onL (sB P) b : Int) by omega)]; assumption)) | (rw [if_neg (show ¬ (onR (sB P) b : Int) < (onL (sB P) b : Int) by omega)]; first | rw [if_pos (show m < (onR (sB P) b : Int) by omega)] | (rw [if_neg (show ¬ m < (onR (sB P) b : Int) by omega)]; assumption))))
        · refine at_goto 77 X dX12_heaviest_68 (by decide) ?_
          refine at_iincV 80 X ((b + 1 : Nat) : Int) (w32_v (by omega) (by omega) (by omega)) rfl dX12_heaviest_77 rfl (by decide) ?_
          refine at_goto 12 X dX12_heaviest_80 (by decide) ?_
          exact at_sub _ (by exact ⟨rfl, rfl, rfl, rfl, trivial⟩) (ih12 (b + 1) v m (by first | omega | (simp only [] at *; omega)) (by first | omega | assumption) (by rw [hvP_s, ← hm]; first | (rw [if_pos (show (onR (sB P) b : Int) < (onL (sB P) b : Int) by omega)]; first | rw [if_pos (show m < (onL (sB P) b : Int) by omega)] | (rw [if_neg (show ¬ m < (onL (sB P) b : Int) by omega)]; assumption)) | (rw [if_neg (show ¬ (onR (sB P) b : Int) < (onL (sB P) b : Int) by omega)]; first | rw [if_pos (show m < (onR (sB P) b : Int) by omega)] | (rw [if_neg (show ¬ m < (onR (sB P) b : Int) by omega)]; assumption))) (by rw [hvP_s, ← hm]; first | (rw [if_pos (show (onR (sB P) b : Int) < (onL (sB P) b : Int) by omega)]; first | rw [if_pos (show m < (onL (sB P) b : Int) by omega)] | (rw [if_neg (show ¬ m < (onL (sB P) b : Int) by omega)]; assumption)) | (rw [if_neg (show ¬ (onR (sB P) b : Int) < (onL (sB P) b : Int) by omega)]; first | rw [if_pos (show m < (onR (sB P) b : Int) by omega)] | (rw [if_neg (show ¬ m < (onR (sB P) b : Int) by omega)]; assumption))))
  exact at_sub _ (by exact ⟨rfl, rfl, rfl, rfl, trivial⟩) (J12 _ 0 (-1) 0 (Nat.lt_succ_self _) (by first | omega | assumption | rfl) rfl rfl)
theorem dX12_rightLines_0 : decode cX12_rightLines 0 = .ok (.iconst 0, 1) := by decide +kernel
theorem dX12_rightLines_1 : decode cX12_rightLines 1 = .ok (.istore_n 1, 1) := by decide +kernel
theorem dX12_rightLines_2 : decode cX12_rightLines 2 = .ok (.iload_n 1, 1) := by decide +kernel
theorem dX12_rightLines_3 : decode cX12_rightLines 3 = .ok (.aload_n 0, 1) := by decide +kernel
theorem dX12_rightLines_4 : decode cX12_rightLines 4 = .ok (.getfield 264, 3) := by decide +kernel
theorem dX12_rightLines_7 : decode cX12_rightLines 7 = .ok (.if_icmp .ge 55, 3) := by decide +kernel
theorem dX12_rightLines_10 : decode cX12_rightLines 10 = .ok (.aload_n 0, 1) := by decide +kernel
theorem dX12_rightLines_11 : decode cX12_rightLines 11 = .ok (.getfield 130, 3) := by decide +kernel
theorem dX12_rightLines_14 : decode cX12_rightLines 14 = .ok (.aload_n 0, 1) := by decide +kernel
theorem dX12_rightLines_15 : decode cX12_rightLines 15 = .ok (.getfield 98, 3) := by decide +kernel
theorem dX12_rightLines_18 : decode cX12_rightLines 18 = .ok (.iload_n 1, 1) := by decide +kernel
theorem dX12_rightLines_19 : decode cX12_rightLines 19 = .ok (.aaload, 1) := by decide +kernel
theorem dX12_rightLines_20 : decode cX12_rightLines 20 = .ok (.iconst 0, 1) := by decide +kernel
theorem dX12_rightLines_21 : decode cX12_rightLines 21 = .ok (.iaload, 1) := by decide +kernel
theorem dX12_rightLines_22 : decode cX12_rightLines 22 = .ok (.iaload, 1) := by decide +kernel
theorem dX12_rightLines_23 : decode cX12_rightLines 23 = .ok (.iconst (-1), 1) := by decide +kernel
theorem dX12_rightLines_24 : decode cX12_rightLines 24 = .ok (.if_icmp .ne 8, 3) := by decide +kernel
theorem dX12_rightLines_27 : decode cX12_rightLines 27 = .ok (.bipush 24, 2) := by decide +kernel
theorem dX12_rightLines_29 : decode cX12_rightLines 29 = .ok (.goto 16, 3) := by decide +kernel
theorem dX12_rightLines_32 : decode cX12_rightLines 32 = .ok (.aload_n 0, 1) := by decide +kernel
theorem dX12_rightLines_33 : decode cX12_rightLines 33 = .ok (.getfield 130, 3) := by decide +kernel
theorem dX12_rightLines_36 : decode cX12_rightLines 36 = .ok (.aload_n 0, 1) := by decide +kernel
theorem dX12_rightLines_37 : decode cX12_rightLines 37 = .ok (.getfield 98, 3) := by decide +kernel
theorem dX12_rightLines_40 : decode cX12_rightLines 40 = .ok (.iload_n 1, 1) := by decide +kernel
theorem dX12_rightLines_41 : decode cX12_rightLines 41 = .ok (.aaload, 1) := by decide +kernel
theorem dX12_rightLines_42 : decode cX12_rightLines 42 = .ok (.iconst 0, 1) := by decide +kernel
theorem dX12_rightLines_43 : decode cX12_rightLines 43 = .ok (.iaload, 1) := by decide +kernel
theorem dX12_rightLines_44 : decode cX12_rightLines 44 = .ok (.iaload, 1) := by decide +kernel
theorem dX12_rightLines_45 : decode cX12_rightLines 45 = .ok (.aload_n 0, 1) := by decide +kernel
theorem dX12_rightLines_46 : decode cX12_rightLines 46 = .ok (.getfield 98, 3) := by decide +kernel
theorem dX12_rightLines_49 : decode cX12_rightLines 49 = .ok (.iload_n 1, 1) := by decide +kernel
theorem dX12_rightLines_50 : decode cX12_rightLines 50 = .ok (.aaload, 1) := by decide +kernel
theorem dX12_rightLines_51 : decode cX12_rightLines 51 = .ok (.iconst 1, 1) := by decide +kernel
theorem dX12_rightLines_52 : decode cX12_rightLines 52 = .ok (.iaload, 1) := by decide +kernel
theorem dX12_rightLines_53 : decode cX12_rightLines 53 = .ok (.if_icmp .ne 9, 3) := by decide +kernel
theorem dX12_rightLines_56 : decode cX12_rightLines 56 = .ok (.iinc 1 1, 3) := by decide +kernel
theorem dX12_rightLines_59 : decode cX12_rightLines 59 = .ok (.goto (-57), 3) := by decide +kernel
theorem dX12_rightLines_62 : decode cX12_rightLines 62 = .ok (.iload_n 1, 1) := by decide +kernel
theorem dX12_rightLines_63 : decode cX12_rightLines 63 = .ok (.ireturn, 1) := by decide +kernel
theorem ct_X12_rightLines {g : Gw} (hG : GF g) {z : Bool} (E : Mm) (K : LN) (hK : RBk E K) (P : SP) (hWK : WK P K) (f : Nat → Int) (hf : ∀ k, k < bN (sB P) → E 783 k = f k) (hff : ∀ k, k < bN (sB P) → -1 ≤ f k ∧ f k < 24) (hN8 : bN (sB P) ≤ 8) : CT g yX12_rightLines cX12_rightLines 2 (some .int) 0 0 0 0 K2 z [mR 125] (ov E) K2 z (fun r D' => r = some (mI (rlP K f K.1 : Nat)) ∧ D' = ov E) := by
  refine CT.mk hG (by decide +kernel) (Nat.le_of_ble_eq_true rfl) (fun κ X Rt _ ok => ?_)
  have hK8 := hWK.1
  refine at_iconst 1 X (by decide) dX12_rightLines_0 rfl ?_
  refine at_istore_n 2 X rfl dX12_rightLines_1 rfl (by decide) ?_
  have J2 : ∀ (f2 : Nat) (i : Nat), 9 - i < f2 → (i ≤ K.1) → ((∀ j, j < i → okL K f j = true)) → AT g κ K2 z 0 0 2 [(0, mR 125), (1, mI ((i : Nat) : Int))] [] (ov E) := by
    intro f2
    induction f2 with
    | zero => intro i hf2; omega
    | succ f2 ih2 =>
    intro i hf2 hi ho
    refine at_iload_n 3 X rfl rfl dX12_rightLines_2 rfl ?_
    refine at_aload_n 4 X rfl rfl dX12_rightLines_3 rfl ?_
    refine m_getIV 7 X ((K.1 : Nat) : Int) hK.1 f_X12_264 k_125 rn_125_44 dX12_rightLines_4 rfl ?_
    refine at_icmp_ge 10 62 X dX12_rightLines_7 rfl (by decide) (fun h7 => ?_) (fun h7 => ?_)
    · refine at_iload_n 63 X rfl rfl dX12_rightLines_62 rfl ?_
      refine at_iret X Rt ?_ (Nat.le_refl _) (Nat.le_refl _) dX12_rightLines_63
      first
        | exact ⟨by rw [show i = K.1 by omega, rlP_all (by rw [← show i = K.1 by omega]; exact ho)], rfl⟩
        | exact ⟨by rw [rlP_stop ho (by unfold okL; rw [decide_eq_true_iff]; first | (rw [if_pos (by omega)]; omega) | (rw [if_neg (by omega)]; omega)) (by omega)], rfl⟩
    · refine at_aload_n 11 X rfl rfl dX12_rightLines_10 rfl ?_
      refine m_getR 14 X f_X12_130 k_125 r_125_58 dX12_rightLines_11 rfl ?_
      refine at_aload_n 15 X rfl rfl dX12_rightLines_14 rfl ?_
      refine m_getR 18 X f_X12_98 k_125 r_125_39 dX12_rightLines_15 rfl ?_
      refine at_iload_n 19 X rfl rfl dX12_rightLines_18 rfl ?_
      refine m_aaloadV 20 X i (by omega) k_614 (by decide) (by omega) (rr_614 _ (by omega)) dX12_rightLines_19 rfl ?_
      refine at_iconst 21 X (by decide) dX12_rightLines_20 rfl ?_
      refine m_ialoadV 22 X 0 (by omega) ((K.2.1 i : Nat) : Int) (hK.2 i (by omega)).1 (kr_614 _ (by omega)) (er_614 _ (by omega)) (by omega) dX12_rightLines_21 rfl ?_
      have hKi := hWK.2 i (by omega)
      refine m_ialoadV 23 X (K.2.1 i) (by omega) (f (K.2.1 i)) (hf (K.2.1 i) (by omega)) k_783 e_783 (by omega) dX12_rightLines_22 rfl ?_
      have hfk := hff (K.2.1 i) (by omega)
      refine at_iconst 24 X (by decide) dX12_rightLines_23 rfl ?_
      refine at_icmp_ne 27 32 X dX12_rightLines_24 rfl (by decide) (fun h24 => ?_) (fun h24 => ?_)
      · refine at_aload_n 33 X rfl rfl dX12_rightLines_32 rfl ?_
        refine m_getR 36 X f_X12_130 k_125 r_125_58 dX12_rightLines_33 rfl ?_
        refine at_aload_n 37 X rfl rfl dX12_rightLines_36 rfl ?_
        refine m_getR 40 X f_X12_98 k_125 r_125_39 dX12_rightLines_37 rfl ?_
        refine at_iload_n 41 X rfl rfl dX12_rightLines_40 rfl ?_
        refine m_aaloadV 42 X i (by omega) k_614 (by decide) (by omega) (rr_614 _ (by omega)) dX12_rightLines_41 rfl ?_
        refine at_iconst 43 X (by decide) dX12_rightLines_42 rfl ?_
        refine m_ialoadV 44 X 0 (by omega) ((K.2.1 i : Nat) : Int) (hK.2 i (by omega)).1 (kr_614 _ (by omega)) (er_614 _ (by omega)) (by omega) dX12_rightLines_43 rfl ?_
        have hKi := hWK.2 i (by omega)
        refine m_ialoadV 45 X (K.2.1 i) (by omega) (f (K.2.1 i)) (hf (K.2.1 i) (by omega)) k_783 e_783 (by omega) dX12_rightLines_44 rfl ?_
        have hfk := hff (K.2.1 i) (by omega)
        refine at_aload_n 46 X rfl rfl dX12_rightLines_45 rfl ?_
        refine m_getR 49 X f_X12_98 k_125 r_125_39 dX12_rightLines_46 rfl ?_
        refine at_iload_n 50 X rfl rfl dX12_rightLines_49 rfl ?_
        refine m_aaloadV 51 X i (by omega) k_614 (by decide) (by omega) (rr_614 _ (by omega)) dX12_rightLines_50 rfl ?_
        refine at_iconst 52 X (by decide) dX12_rightLines_51 rfl ?_
        refine m_ialoadV 53 X 1 (by omega) ((K.2.2.1 i : Nat) : Int) (hK.2 i (by omega)).2 (kr_614 _ (by omega)) (er_614 _ (by omega)) (by omega) dX12_rightLines_52 rfl ?_
        have hKi := hWK.2 i (by omega)
        refine at_icmp_ne 56 62 X dX12_rightLines_53 rfl (by decide) (fun h53 => ?_) (fun h53 => ?_)
        · refine at_iload_n 63 X rfl rfl dX12_rightLines_62 rfl ?_
          refine at_iret X Rt ?_ (Nat.le_refl _) (Nat.le_refl _) dX12_rightLines_63
          first
            | exact ⟨by rw [show i = K.1 by omega, rlP_all (by rw [← show i = K.1 by omega]; exact ho)], rfl⟩
            | exact ⟨by rw [rlP_stop ho (by unfold okL; rw [decide_eq_true_iff]; first | (rw [if_pos (by omega)]; omega) | (rw [if_neg (by omega)]; omega)) (by omega)], rfl⟩
        · refine at_iincV 59 X ((i + 1 : Nat) : Int) (w32_v (by omega) (by omega) (by omega)) rfl dX12_rightLines_56 rfl (by decide) ?_
          refine at_goto 2 X dX12_rightLines_59 (by decide) ?_
          exact at_sub _ (by exact ⟨rfl, rfl, trivial⟩) (ih2 (i + 1) (by first | omega | (simp only [] at *; omega)) (by first | omega | assumption) (fun j hj => if c : j = i then (by subst c; unfold okL; rw [decide_eq_true_iff]; first | (rw [if_pos (by omega)]; omega) | (rw [if_neg (by omega)]; omega)) else ho j (by omega)))
      · refine at_bipush 29 X (by decide) (by decide) dX12_rightLines_27 rfl ?_
        refine at_goto 45 X dX12_rightLines_29 (by decide) ?_
        refine at_aload_n 46 X rfl rfl dX12_rightLines_45 rfl ?_
        refine m_getR 49 X f_X12_98 k_125 r_125_39 dX12_rightLines_46 rfl ?_
        refine at_iload_n 50 X rfl rfl dX12_rightLines_49 rfl ?_
        refine m_aaloadV 51 X i (by omega) k_614 (by decide) (by omega) (rr_614 _ (by omega)) dX12_rightLines_50 rfl ?_
        refine at_iconst 52 X (by decide) dX12_rightLines_51 rfl ?_
        refine m_ialoadV 53 X 1 (by omega) ((K.2.2.1 i : Nat) : Int) (hK.2 i (by omega)).2 (kr_614 _ (by omega)) (er_614 _ (by omega)) (by omega) dX12_rightLines_52 rfl ?_
        have hKi := hWK.2 i (by omega)
        refine at_icmp_ne 56 62 X dX12_rightLines_53 rfl (by decide) (fun h53 => ?_) (fun h53 => ?_)
        · refine at_iload_n 63 X rfl rfl dX12_rightLines_62 rfl ?_
          refine at_iret X Rt ?_ (Nat.le_refl _) (Nat.le_refl _) dX12_rightLines_63
          first
            | exact ⟨by rw [show i = K.1 by omega, rlP_all (by rw [← show i = K.1 by omega]; exact ho)], rfl⟩
            | exact ⟨by rw [rlP_stop ho (by unfold okL; rw [decide_eq_true_iff]; first | (rw [if_pos (by omega)]; omega) | (rw [if_neg (by omega)]; omega)) (by omega)], rfl⟩
        · refine at_iincV 59 X ((i + 1 : Nat) : Int) (w32_v (by omega) (by omega) (by omega)) rfl dX12_rightLines_56 rfl (by decide) ?_
          refine at_goto 2 X dX12_rightLines_59 (by decide) ?_
          exact at_sub _ (by exact ⟨rfl, rfl, trivial⟩) (ih2 (i + 1) (by first | omega | (simp only [] at *; omega)) (by first | omega | assumption) (fun j hj => if c : j = i then (by subst c; unfold okL; rw [decide_eq_true_iff]; first | (rw [if_pos (by omega)]; omega) | (rw [if_neg (by omega)]; omega)) else ho j (by omega)))
  exact at_sub _ (by exact ⟨rfl, rfl, trivial⟩) (J2 _ 0 (Nat.lt_succ_self _) (by first | omega | assumption | rfl) (fun j hj => absurd hj (Nat.not_lt_zero j)))
theorem dX12_right_0 : decode cX12_right 0 = .ok (.aload_n 0, 1) := by decide +kernel
theorem dX12_right_1 : decode cX12_right 1 = .ok (.iconst 0, 1) := by decide +kernel
theorem dX12_right_2 : decode cX12_right 2 = .ok (.putfield 152, 3) := by decide +kernel
theorem dX12_right_5 : decode cX12_right 5 = .ok (.aload_n 0, 1) := by decide +kernel
theorem dX12_right_6 : decode cX12_right 6 = .ok (.invokevirtual 400, 3) := by decide +kernel
theorem dX12_right_9 : decode cX12_right 9 = .ok (.pop, 1) := by decide +kernel
theorem dX12_right_10 : decode cX12_right 10 = .ok (.aload_n 0, 1) := by decide +kernel
theorem dX12_right_11 : decode cX12_right 11 = .ok (.invokevirtual 439, 3) := by decide +kernel
theorem dX12_right_14 : decode cX12_right 14 = .ok (.ireturn, 1) := by decide +kernel
theorem ct_X12_right {g : Gw} (hG : GF g) {z : Bool} (E : Mm) (Q : RX) (P : SP) (L : LW) (T K : LN) (d st : Nat) (hWf : WF P L T K d st) (hI_E : RXI E Q P L T K d st) : CT g yX12_right cX12_right 1 (some .int) 8 176 0 0 K2 z [mR 125] (ov E) K2 z (fun r' D' => (r' = some (mI (rlP K (dF (dyP (gDay P L d) (sB P) T 24)) K.1 : Nat)) ∧ ∃ E1, D' = ov E1 ∧ RXO E E1 Q P L T K d st)) := by
  refine CT.mk hG (by decide +kernel) (Nat.le_of_ble_eq_true rfl) (fun κ X Rt _ ok => ?_)
  have hP := hWf.1
  have hN8 := hP.B.N
  have hW40 := hP.W
  have hN11 := hP.N
  have hwN : gN (gDay P L d) ≤ 11 := Nat.le_trans hP.N (by decide)
  have hgw : gW (gDay P L d) = sW P := rfl
  have hDI24 := dyP_DI (G := (gDay P L d)) hP.B hWf.2.2.2.1 (Nat.le_refl 24)
  refine at_aload_n 1 X rfl rfl dX12_right_0 rfl ?_
  refine at_iconst 2 X (by decide) dX12_right_1 rfl ?_
  refine m_putI 5 X f_X12_152 fw_12_0 k_125 rn_125_0 dX12_right_2 rfl ?_
  have hO_E0 := RXO.z hWf hI_E
  generalize hE0 : wr E 125 0 0 = E0 at hO_E0 ⊢
  have hR_E0 := hO_E0.1.1
  refine at_aload_n 6 X rfl rfl dX12_right_5 rfl ?_
  refine at_callV 9 X _ 12 (ct_X12_runsNow hG E0 Q P L T K d st hWf hO_E0.1) clX12 rfl k_125 mo_X12_runsNow w_2201 vo_X12_runsNow.1 vo_X12_runsNow.2 rfl rfl (crm Rt (by decide)) (Nat.le_of_ble_eq_true rfl) dX12_right_6 rfl ?_
  rintro _ _ ⟨rfl, F1, rfl, hI_F1, hY_F1, hs_F1, hd_F1, hr_F1, h0_F1, h7_F1⟩
  have hO_F1 := hO_E0.nx hI_F1 hY_F1 h0_F1 h7_F1
  have hR_F1 := hI_F1.1
  refine at_pop 10 X (show ¬ (0 : Nat) = 1 by decide) dX12_right_9 rfl ?_
  refine at_aload_n 11 X rfl rfl dX12_right_10 rfl ?_
  refine at_callV 14 X _ 12 (ct_X12_rightLines hG F1 K hO_F1.1.2.2.2.2.1 P hWf.2.2.2.2.1 (dF (dyP (gDay P L d) (sB P) T 24)) hd_F1.2.1 hDI24.2.2.2.2.1 hN8) clX12 rfl k_125 mo_X12_rightLines w_2313 vo_X12_rightLines.1 vo_X12_rightLines.2 rfl rfl (crm Rt (by decide)) (Nat.le_of_ble_eq_true rfl) dX12_right_11 rfl ?_
  rintro _ _ ⟨rfl, rfl⟩
  refine at_iret X Rt ?_ (Nat.le_refl _) (Nat.le_refl _) dX12_right_14
  exact ⟨(by rfl), _, rfl, hO_F1⟩
