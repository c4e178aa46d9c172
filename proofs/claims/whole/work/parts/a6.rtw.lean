/-! the reference while a post is taken away: told but for the posts -/
def RTW (E : Mm) (P : SP) (Q : RX) : Prop := RTo E P Q ∧ True ∧ RSu E P Q ∧ RMo E P ∧ RCl E P Q ∧ RLa E P Q ∧ RBe E (sB P)
theorem RTS.w {E : Mm} {P : SP} {Q : RX} (h : RTS E P Q) : RTW E P Q := ⟨h.1, trivial, h.2.2⟩
theorem RTW.fr3 {E E1 : Mm} {P : SP} {Q : RX} (h : RTW E P Q) (hf : ∀ q, q = 129 ∨ (167 ≤ q ∧ q ≤ 178) ∨ (184 ≤ q ∧ q ≤ 186) ∨ (195 ≤ q ∧ q ≤ 200) ∨ (209 ≤ q ∧ q ≤ 214) ∨ (228 ≤ q ∧ q ≤ 235) ∨ (246 ≤ q ∧ q ≤ 253) → E1 q = E q) (hP : WS P) : RTW E1 P Q := by
  obtain ⟨h1, h2, h3, h4, h5, h6, h7⟩ := h
  have hM := hP.M
  have hC := hP.Cn
  have hL := hP.Ln
  have hB := hP.B.N
  refine ⟨?_, trivial, ⟨h3.1, fun k hk => ?_, h3.2.2⟩, fun m hm => ?_, ⟨fun k hk => ?_, h5.2⟩, ⟨fun k hk => ?_, h6.2⟩, fun b hb => ?_⟩
  · unfold RTo at h1 ⊢
    rw [hf 129 (by omega)]
    exact h1
  · have := h3.1
    rw [hf (167 + k) (by omega)]; exact h3.2.1 k hk
  · rw [hf (184 + m) (by omega)]; exact h4 m hm
  · rw [hf (195 + k) (by omega)]; exact h5.1 k hk
  · rw [hf (209 + k) (by omega)]; exact h6.1 k hk
  · rw [hf (228 + b) (by omega), hf (246 + b) (by omega)]; exact h7 b hb
theorem RTW.fr {E E1 : Mm} {P : SP} {Q : RX} (h : RTW E P Q) (hf : ∀ q, q = 129 ∨ (142 ≤ q ∧ q ≤ 151) ∨ (167 ≤ q ∧ q ≤ 178) ∨ (184 ≤ q ∧ q ≤ 186) ∨ (195 ≤ q ∧ q ≤ 200) ∨ (209 ≤ q ∧ q ≤ 214) ∨ (228 ≤ q ∧ q ≤ 235) ∨ (246 ≤ q ∧ q ≤ 253) → E1 q = E q) (hP : WS P) : RTW E1 P Q := h.fr3 (fun q hq => hf q (by omega)) hP
theorem cw_X12_isPost {g : Gw} (hG : GF g) {z : Bool} (E : Mm) (P : SP) (Q : RX) (hP : WS P) (hR_E : RTW E P Q) (x : Int) : CT g yX12_isPost cX12_isPost 2 (some .boolean) 1 22 0 0 K2 z [mR 125, mI x] (ov E) K2 z (fun r D' => r = some (mI (if 0 ≤ x ∧ x ≤ (sN P : Int) - 1 then 1 else 0)) ∧ D' = ov E) := by
  refine CT.mk hG (by decide +kernel) (Nat.le_of_ble_eq_true rfl) (fun κ X Rt _ ok => ?_)
  refine at_iload_n 1 X rfl rfl dX12_isPost_0 rfl ?_
  refine at_iconst 2 X (by decide) dX12_isPost_1 rfl ?_
  refine at_aload_n 3 X rfl rfl dX12_isPost_2 rfl ?_
  refine m_getR 6 X f_X12_23 k_125 r_125_12 dX12_isPost_3 rfl ?_
  refine at_iconst 7 X (by decide) dX12_isPost_6 rfl ?_
  refine m_ialoadV 8 X 1 (by omega) ((sN P : Nat) : Int) hR_E.1.2.1 k_129 e_129 (by omega) dX12_isPost_7 rfl ?_
  have := hP.N
  refine at_iconst 9 X (by decide) dX12_isPost_8 rfl ?_
  refine at_isubV 10 X (((sN P : Nat) : Int) - 1) (w32_v rfl (by omega) (by omega)) dX12_isPost_9 rfl ?_
  refine at_callS 13 X (ct_X12_in hG _ _ _) mo_X12_in w_1957 so_X12_in rfl rfl (crm Rt (by decide)) (Nat.le_of_ble_eq_true rfl) dX12_isPost_10 rfl ?_
  rintro _ _ ⟨rfl, rfl⟩
  refine at_zret X Rt ?_ (by first | decide | (split <;> decide)) (Nat.le_refl _) (Nat.le_refl _) dX12_isPost_13
  exact ⟨rfl, rfl⟩
theorem cw_X12_isBeam {g : Gw} (hG : GF g) {z : Bool} (E : Mm) (P : SP) (Q : RX) (hP : WS P) (hR_E : RTW E P Q) (x : Int) : CT g yX12_isBeam cX12_isBeam 2 (some .boolean) 1 22 0 0 K2 z [mR 125, mI x] (ov E) K2 z (fun r D' => r = some (mI (if 0 ≤ x ∧ x ≤ (bN (sB P) : Int) - 1 then 1 else 0)) ∧ D' = ov E) := by
  refine CT.mk hG (by decide +kernel) (Nat.le_of_ble_eq_true rfl) (fun κ X Rt _ ok => ?_)
  refine at_iload_n 1 X rfl rfl dX12_isBeam_0 rfl ?_
  refine at_iconst 2 X (by decide) dX12_isBeam_1 rfl ?_
  refine at_aload_n 3 X rfl rfl dX12_isBeam_2 rfl ?_
  refine m_getR 6 X f_X12_23 k_125 r_125_12 dX12_isBeam_3 rfl ?_
  refine at_bipush 8 X (by decide) (by decide) dX12_isBeam_6 rfl ?_
  refine m_ialoadV 9 X 6 (by omega) ((bN (sB P) : Nat) : Int) hR_E.1.2.2.2.2.2.2.1 k_129 e_129 (by omega) dX12_isBeam_8 rfl ?_
  have := hP.B.N
  refine at_iconst 10 X (by decide) dX12_isBeam_9 rfl ?_
  refine at_isubV 11 X (((bN (sB P) : Nat) : Int) - 1) (w32_v rfl (by omega) (by omega)) dX12_isBeam_10 rfl ?_
  refine at_callS 14 X (ct_X12_in hG _ _ _) mo_X12_in w_1957 so_X12_in rfl rfl (crm Rt (by decide)) (Nat.le_of_ble_eq_true rfl) dX12_isBeam_11 rfl ?_
  rintro _ _ ⟨rfl, rfl⟩
  refine at_zret X Rt ?_ (by first | decide | (split <;> decide)) (Nat.le_refl _) (Nat.le_refl _) dX12_isBeam_14
  exact ⟨rfl, rfl⟩
theorem cw_X12_isCell {g : Gw} (hG : GF g) {z : Bool} (E : Mm) (P : SP) (Q : RX) (hP : WS P) (hR_E : RTW E P Q) (x : Int) : CT g yX12_isCell cX12_isCell 2 (some .boolean) 1 22 0 0 K2 z [mR 125, mI x] (ov E) K2 z (fun r D' => r = some (mI (if 0 ≤ x ∧ x ≤ (sW P : Int) - 1 then 1 else 0)) ∧ D' = ov E) := by
  refine CT.mk hG (by decide +kernel) (Nat.le_of_ble_eq_true rfl) (fun κ X Rt _ ok => ?_)
  refine at_iload_n 1 X rfl rfl dX12_isCell_0 rfl ?_
  refine at_iconst 2 X (by decide) dX12_isCell_1 rfl ?_
  refine at_aload_n 3 X rfl rfl dX12_isCell_2 rfl ?_
  refine m_getR 6 X f_X12_23 k_125 r_125_12 dX12_isCell_3 rfl ?_
  refine at_iconst 7 X (by decide) dX12_isCell_6 rfl ?_
  refine m_ialoadV 8 X 0 (by omega) ((sW P : Nat) : Int) hR_E.1.1 k_129 e_129 (by omega) dX12_isCell_7 rfl ?_
  have := hP.W
  refine at_iconst 9 X (by decide) dX12_isCell_8 rfl ?_
  refine at_isubV 10 X (((sW P : Nat) : Int) - 1) (w32_v rfl (by omega) (by omega)) dX12_isCell_9 rfl ?_
  refine at_callS 13 X (ct_X12_in hG _ _ _) mo_X12_in w_1957 so_X12_in rfl rfl (crm Rt (by decide)) (Nat.le_of_ble_eq_true rfl) dX12_isCell_10 rfl ?_
  rintro _ _ ⟨rfl, rfl⟩
  refine at_zret X Rt ?_ (by first | decide | (split <;> decide)) (Nat.le_refl _) (Nat.le_refl _) dX12_isCell_13
  exact ⟨rfl, rfl⟩
theorem cw_X12_cloudsTold {g : Gw} (hG : GF g) {z : Bool} (E : Mm) (P : SP) (Q : RX) (hP : WS P) (hR_E : RTW E P Q) : CT g yX12_cloudsTold cX12_cloudsTold 4 (some .int) 0 0 0 0 K2 z [mR 125] (ov E) K2 z (fun r D' => r = some (mI (mk (sC P) 24 : Nat)) ∧ D' = ov E) := by
  refine CT.mk hG (by decide +kernel) (Nat.le_of_ble_eq_true rfl) (fun κ X Rt _ ok => ?_)
  refine at_iconst 1 X (by decide) dX12_cloudsTold_0 rfl ?_
  refine at_istore_n 2 X rfl dX12_cloudsTold_1 rfl (by decide) ?_
  refine at_iconst 3 X (by decide) dX12_cloudsTold_2 rfl ?_
  refine at_istore_n 4 X rfl dX12_cloudsTold_3 rfl (by decide) ?_
  have J4 : ∀ (f4 : Nat) (k : Nat) (v : Nat), 6 - k < f4 → (k ≤ sCn P) → (v = mk (fun h => clB Q h k) 24) → AT g κ K2 z 0 0 4 [(0, mR 125), (1, mI ((v : Nat) : Int)), (2, mI ((k : Nat) : Int))] [] (ov E) := by
    intro f4
    induction f4 with
    | zero => intro k v hf4; omega
    | succ f4 ih4 =>
    intro k v hf4 hk hv
    refine at_iload_n 5 X rfl rfl dX12_cloudsTold_4 rfl ?_
    refine at_aload_n 6 X rfl rfl dX12_cloudsTold_5 rfl ?_
    refine m_getR 9 X f_X12_23 k_125 r_125_12 dX12_cloudsTold_6 rfl ?_
    refine at_iconst 10 X (by decide) dX12_cloudsTold_9 rfl ?_
    refine m_ialoadV 11 X 4 (by omega) ((sCn P : Nat) : Int) hR_E.1.2.2.2.2.1 k_129 e_129 (by omega) dX12_cloudsTold_10 rfl ?_
    have := hP.Cn
    refine at_icmp_ge 14 53 X dX12_cloudsTold_11 rfl (by decide) (fun h11 => ?_) (fun h11 => ?_)
    · refine at_iload_n 54 X rfl rfl dX12_cloudsTold_53 rfl ?_
      refine at_iret X Rt ?_ (Nat.le_refl _) (Nat.le_refl _) dX12_cloudsTold_54
      exact ⟨by rw [hv, show k = sCn P by omega, mk_congr (p := fun h => clB Q h (sCn P)) (q := sC P) (fun j hj => (hR_E.2.2.2.2.1.2 j hj).symm)], rfl⟩
    · refine at_aload_n 15 X rfl rfl dX12_cloudsTold_14 rfl ?_
      refine m_getR 18 X f_X12_49 k_125 r_125_20 dX12_cloudsTold_15 rfl ?_
      refine at_iload_n 19 X rfl rfl dX12_cloudsTold_18 rfl ?_
      refine m_aaloadV 20 X k (by omega) k_194 (by decide) (by omega) (rr_194 _ (by omega)) dX12_cloudsTold_19 rfl ?_
      refine at_iconst 21 X (by decide) dX12_cloudsTold_20 rfl ?_
      refine m_ialoadV 22 X 0 (by omega) ((xCf Q k : Nat) : Int) (hR_E.2.2.2.2.1.1 k (by omega)).1 (kr_194 _ (by omega)) (er_194 _ (by omega)) (by omega) dX12_cloudsTold_21 rfl ?_
      have := (hR_E.2.2.2.2.1.1 k (by omega)).2.2
      refine at_istore_n 23 X rfl dX12_cloudsTold_22 rfl (by decide) ?_
      have J23 : ∀ (f23 : Nat) (t : Nat) (u : Nat), 24 - t < f23 → (xCf Q k ≤ t ∧ t ≤ 24) → (t ≤ xCt Q k + 1 ∨ t = xCf Q k) → (u = mk (fun h => clB Q h k || (decide (xCf Q k ≤ h) && decide (h < t))) 24) → AT g κ K2 z 0 0 23 [(0, mR 125), (1, mI ((u : Nat) : Int)), (2, mI ((k : Nat) : Int)), (3, mI ((t : Nat) : Int))] [] (ov E) := by
        intro f23
        induction f23 with
        | zero => intro t u hf23; omega
        | succ f23 ih23 =>
        intro t u hf23 ht ht2 hu
        refine at_iload_n 24 X rfl rfl dX12_cloudsTold_23 rfl ?_
        refine at_aload_n 25 X rfl rfl dX12_cloudsTold_24 rfl ?_
        refine m_getR 28 X f_X12_49 k_125 r_125_20 dX12_cloudsTold_25 rfl ?_
        refine at_iload_n 29 X rfl rfl dX12_cloudsTold_28 rfl ?_
        refine m_aaloadV 30 X k (by omega) k_194 (by decide) (by omega) (rr_194 _ (by omega)) dX12_cloudsTold_29 rfl ?_
        refine at_iconst 31 X (by decide) dX12_cloudsTold_30 rfl ?_
        refine m_ialoadV 32 X 1 (by omega) ((xCt Q k : Nat) : Int) (hR_E.2.2.2.2.1.1 k (by omega)).2.1 (kr_194 _ (by omega)) (er_194 _ (by omega)) (by omega) dX12_cloudsTold_31 rfl ?_
        have := (hR_E.2.2.2.2.1.1 k (by omega)).2.2
        refine at_icmp_gt 35 47 X dX12_cloudsTold_32 rfl (by decide) (fun h32 => ?_) (fun h32 => ?_)
        · refine at_iincV 50 X ((k + 1 : Nat) : Int) (w32_v (by omega) (by omega) (by omega)) rfl dX12_cloudsTold_47 rfl (by decide) ?_
          refine at_goto 4 X dX12_cloudsTold_50 (by decide) ?_
          exact at_sub _ (by exact ⟨rfl, rfl, rfl, trivial⟩) (ih4 (k + 1) u (by first | omega | (simp only [] at *; omega)) (by first | omega | assumption) (by rw [hu]; exact mk_congr (fun j hj => by rw [clB_s]; congr 1; rw [show decide (j < t) = decide (j ≤ xCt Q k) from decide_eq_decide.mpr (by omega)] <;> rfl)))
        · refine at_iload_n 36 X rfl rfl dX12_cloudsTold_35 rfl ?_
          refine at_iconst 37 X (by decide) dX12_cloudsTold_36 rfl ?_
          refine at_iload_n 38 X rfl rfl dX12_cloudsTold_37 rfl ?_
          refine at_ishlV 39 X ((2 ^ t : Nat) : Int) (ishl1 (by omega)) dX12_cloudsTold_38 rfl ?_
          refine at_iorV 40 X ((mk (fun h => clB Q h k || (decide (xCf Q k ≤ h) && decide (h < t))) 24 ||| 2 ^ t : Nat) : Int) (by rw [hu]; exact ior_nat (by have := mk24 (p := (fun h => clB Q h k || (decide (xCf Q k ≤ h) && decide (h < t)))) (Nat.le_refl 24); omega) (p2_31 (by omega))) dX12_cloudsTold_39 rfl ?_
          refine at_istore_n 41 X rfl dX12_cloudsTold_40 rfl (by decide) ?_
          refine at_iincV 44 X ((t + 1 : Nat) : Int) (w32_v (by omega) (by omega) (by omega)) rfl dX12_cloudsTold_41 rfl (by decide) ?_
          refine at_goto 23 X dX12_cloudsTold_44 (by decide) ?_
          exact at_sub _ (by exact ⟨rfl, rfl, rfl, rfl, trivial⟩) (ih23 (t + 1) (mk (fun h => clB Q h k || (decide (xCf Q k ≤ h) && decide (h < t))) 24 ||| 2 ^ t) (by first | omega | (simp only [] at *; omega)) (by omega) (Or.inl (by omega)) (or_mk (by omega) (fun j hj => by rw [Bool.or_assoc]; congr 1; exact dec_step (by omega))))
      exact at_sub _ (by exact ⟨rfl, rfl, rfl, rfl, trivial⟩) (J23 _ (xCf Q k) v (Nat.lt_succ_self _) (by omega) (by first | omega | assumption | rfl) (by rw [hv]; exact mk_congr (fun j hj => by rw [show (decide (xCf Q k ≤ j) && decide (j < xCf Q k)) = false from by rw [Bool.and_eq_false_iff, decide_eq_false_iff_not, decide_eq_false_iff_not]; omega, Bool.or_false])))
  exact at_sub _ (by exact ⟨rfl, rfl, rfl, trivial⟩) (J4 _ 0 0 (Nat.lt_succ_self _) (by first | omega | assumption | rfl) ((mk_none (fun j _ => rfl)).symm))
theorem cw_X12_moonOf {g : Gw} (hG : GF g) {z : Bool} (E : Mm) (P : SP) (Q : RX) (hP : WS P) (hR_E : RTW E P Q) (d : Nat) (hd : d < 400) : CT g yX12_moonOf cX12_moonOf 3 (some .int) 0 0 0 0 K2 z [mR 125, mI ((d : Nat) : Int)] (ov E) K2 z (fun r D' => r = some (mI (moonP P d)) ∧ D' = ov E) := by
  refine CT.mk hG (by decide +kernel) (Nat.le_of_ble_eq_true rfl) (fun κ X Rt _ ok => ?_)
  refine at_iconst 1 X (by decide) dX12_moonOf_0 rfl ?_
  refine at_istore_n 2 X rfl dX12_moonOf_1 rfl (by decide) ?_
  have J2 : ∀ (f2 : Nat) (m : Nat), 3 - m < f2 → (m ≤ sM P) → (itr (fun m v => if v = -1 ∧ d % sMb P m = sMl P m then (m : Int) else v) (-1) m = -1) → AT g κ K2 z 0 0 2 [(0, mR 125), (1, mI ((d : Nat) : Int)), (2, mI ((m : Nat) : Int))] [] (ov E) := by
    intro f2
    induction f2 with
    | zero => intro m hf2; omega
    | succ f2 ih2 =>
    intro m hf2 hm hv
    refine at_iload_n 3 X rfl rfl dX12_moonOf_2 rfl ?_
    refine at_aload_n 4 X rfl rfl dX12_moonOf_3 rfl ?_
    refine m_getR 7 X f_X12_23 k_125 r_125_12 dX12_moonOf_4 rfl ?_
    refine at_iconst 8 X (by decide) dX12_moonOf_7 rfl ?_
    refine m_ialoadV 9 X 3 (by omega) ((sM P : Nat) : Int) hR_E.1.2.2.2.1 k_129 e_129 (by omega) dX12_moonOf_8 rfl ?_
    have := hP.M
    refine at_icmp_ge 12 41 X dX12_moonOf_9 rfl (by decide) (fun h9 => ?_) (fun h9 => ?_)
    · refine at_iconst 42 X (by decide) dX12_moonOf_41 rfl ?_
      refine at_iret X Rt ?_ (Nat.le_refl _) (Nat.le_refl _) dX12_moonOf_42
      exact ⟨by rw [moonP, show sM P = m by omega, hv], rfl⟩
    · refine at_iload_n 13 X rfl rfl dX12_moonOf_12 rfl ?_
      refine at_aload_n 14 X rfl rfl dX12_moonOf_13 rfl ?_
      refine m_getR 17 X f_X12_43 k_125 r_125_18 dX12_moonOf_14 rfl ?_
      refine at_iload_n 18 X rfl rfl dX12_moonOf_17 rfl ?_
      refine m_aaloadV 19 X m (by omega) k_183 (by decide) (by omega) (rr_183 _ (by omega)) dX12_moonOf_18 rfl ?_
      refine at_iconst 20 X (by decide) dX12_moonOf_19 rfl ?_
      refine m_ialoadV 21 X 0 (by omega) ((sMb P m : Nat) : Int) (hR_E.2.2.2.1 m (by omega)).1 (kr_183 _ (by omega)) (er_183 _ (by omega)) (by omega) dX12_moonOf_20 rfl ?_
      have := hP.Mb (m := m) (by omega)
      have hmod := Nat.mod_lt d (show 0 < sMb P m by omega)
      refine at_iremV 22 X (by omega) ((d % sMb P m : Nat) : Int) (w32_v (Int.ofNat_tmod _ _).symm (by omega) (by omega)) dX12_moonOf_21 rfl ?_
      refine at_aload_n 23 X rfl rfl dX12_moonOf_22 rfl ?_
      refine m_getR 26 X f_X12_43 k_125 r_125_18 dX12_moonOf_23 rfl ?_
      refine at_iload_n 27 X rfl rfl dX12_moonOf_26 rfl ?_
      refine m_aaloadV 28 X m (by omega) k_183 (by decide) (by omega) (rr_183 _ (by omega)) dX12_moonOf_27 rfl ?_
      refine at_iconst 29 X (by decide) dX12_moonOf_28 rfl ?_
      refine m_ialoadV 30 X 1 (by omega) ((sMl P m : Nat) : Int) (hR_E.2.2.2.1 m (by omega)).2.1 (kr_183 _ (by omega)) (er_183 _ (by omega)) (by omega) dX12_moonOf_29 rfl ?_
      have := hP.Ml (m := m) (by omega)
      refine at_icmp_ne 33 35 X dX12_moonOf_30 rfl (by decide) (fun h30 => ?_) (fun h30 => ?_)
      · refine at_iincV 38 X ((m + 1 : Nat) : Int) (w32_v (by omega) (by omega) (by omega)) rfl dX12_moonOf_35 rfl (by decide) ?_
        refine at_goto 2 X dX12_moonOf_38 (by decide) ?_
        exact at_sub _ (by exact ⟨rfl, rfl, rfl, trivial⟩) (ih2 (m + 1) (by first | omega | (simp only [] at *; omega)) (by omega) (by rw [itr_s, if_neg (by omega)]; exact hv))
      · refine at_iload_n 34 X rfl rfl dX12_moonOf_33 rfl ?_
        refine at_iret X Rt ?_ (Nat.le_refl _) (Nat.le_refl _) dX12_moonOf_34
        have e : itr (fun m v => if v = -1 ∧ d % sMb P m = sMl P m then (m : Int) else v) (-1) (m + 1) = m := by rw [itr_s, if_pos ⟨hv, by omega⟩]
        exact ⟨by rw [moonP, moon_fix e (by omega)], rfl⟩
  exact at_sub _ (by exact ⟨rfl, rfl, rfl, trivial⟩) (J2 _ 0 (Nat.lt_succ_self _) (by omega) rfl)
theorem cw_X12_sunAt {g : Gw} (hG : GF g) {z : Bool} (E : Mm) (P : SP) (Q : RX) (hP : WS P) (hR_E : RTW E P Q) (h : Nat) (hh : h < 24) : CT g yX12_sunAt cX12_sunAt 4 (some .int) 0 0 0 0 K2 z [mR 125, mI ((h : Nat) : Int)] (ov E) K2 z (fun r D' => ∃ v : Int, r = some (mI v) ∧ sunK P Q h v ∧ D' = ov E) := by
  refine CT.mk hG (by decide +kernel) (Nat.le_of_ble_eq_true rfl) (fun κ X Rt _ ok => ?_)
  refine at_iconst 1 X (by decide) dX12_sunAt_0 rfl ?_
  refine at_istore_n 2 X rfl dX12_sunAt_1 rfl (by decide) ?_
  refine at_iconst 3 X (by decide) dX12_sunAt_2 rfl ?_
  refine at_istore_n 4 X rfl dX12_sunAt_3 rfl (by decide) ?_
  have J4 : ∀ (f4 : Nat) (k : Nat) (v : Int), 12 - k < f4 → (k ≤ xNs Q) → (k = 0 ∨ h < sDk P) → ((v = -1 ∧ ∀ j, j < k → h < xTk Q j) ∨ ∃ b : Nat, b < k ∧ v = (b : Int) ∧ xTk Q b ≤ h ∧ ∀ j, j < k → xTk Q j ≤ h → xTk Q j ≤ xTk Q b) → AT g κ K2 z 0 0 4 [(0, mR 125), (1, mI ((h : Nat) : Int)), (2, mI v), (3, mI ((k : Nat) : Int))] [] (ov E) := by
    intro f4
    induction f4 with
    | zero => intro k v hf4; omega
    | succ f4 ih4 =>
    intro k v hf4 hk hd hv
    refine at_iload_n 5 X rfl rfl dX12_sunAt_4 rfl ?_
    refine at_aload_n 6 X rfl rfl dX12_sunAt_5 rfl ?_
    refine m_getR 9 X f_X12_23 k_125 r_125_12 dX12_sunAt_6 rfl ?_
    refine at_iconst 10 X (by decide) dX12_sunAt_9 rfl ?_
    refine m_ialoadV 11 X 2 (by omega) ((xNs Q : Nat) : Int) hR_E.1.2.2.1 k_129 e_129 (by omega) dX12_sunAt_10 rfl ?_
    have := hR_E.2.2.1.1
    refine at_icmp_ge 14 69 X dX12_sunAt_11 rfl (by decide) (fun h11 => ?_) (fun h11 => ?_)
    · refine at_iload_n 70 X rfl rfl dX12_sunAt_69 rfl ?_
      refine at_iret X Rt ?_ (Nat.le_refl _) (Nat.le_refl _) dX12_sunAt_70
      refine ⟨_, rfl, ?_, rfl⟩
      by_cases c : h < sDk P
      · exact sunK_of hR_E.2.2.1 hh c (by omega) hv
      · rcases hv with ⟨q1, q2⟩ | ⟨b, q1, q2, q3, q4⟩
        · exact Or.inl ⟨q1, if_neg c⟩
        · exfalso; omega
    · refine at_iload_n 15 X rfl rfl dX12_sunAt_14 rfl ?_
      refine at_aload_n 16 X rfl rfl dX12_sunAt_15 rfl ?_
      refine m_getR 19 X f_X12_23 k_125 r_125_12 dX12_sunAt_16 rfl ?_
      refine at_bipush 21 X (by decide) (by decide) dX12_sunAt_19 rfl ?_
      refine m_ialoadV 22 X 7 (by omega) ((sDk P : Nat) : Int) hR_E.1.2.2.2.2.2.2.2 k_129 e_129 (by omega) dX12_sunAt_21 rfl ?_
      have := hP.Dk
      refine at_icmp_ge 25 69 X dX12_sunAt_22 rfl (by decide) (fun h22 => ?_) (fun h22 => ?_)
      · refine at_iload_n 70 X rfl rfl dX12_sunAt_69 rfl ?_
        refine at_iret X Rt ?_ (Nat.le_refl _) (Nat.le_refl _) dX12_sunAt_70
        refine ⟨_, rfl, ?_, rfl⟩
        by_cases c : h < sDk P
        · exact sunK_of hR_E.2.2.1 hh c (by omega) hv
        · rcases hv with ⟨q1, q2⟩ | ⟨b, q1, q2, q3, q4⟩
          · exact Or.inl ⟨q1, if_neg c⟩
          · exfalso; omega
      · refine at_aload_n 26 X rfl rfl dX12_sunAt_25 rfl ?_
        refine m_getR 29 X f_X12_37 k_125 r_125_16 dX12_sunAt_26 rfl ?_
        refine at_iload_n 30 X rfl rfl dX12_sunAt_29 rfl ?_
        refine m_aaloadV 31 X k (by omega) k_166 (by decide) (by omega) (rr_166 _ (by omega)) dX12_sunAt_30 rfl ?_
        refine at_iconst 32 X (by decide) dX12_sunAt_31 rfl ?_
        refine m_ialoadV 33 X 0 (by omega) ((xTk Q k : Nat) : Int) (hR_E.2.2.1.2.1 k (by omega)).2.2.1 (kr_166 _ (by omega)) (er_166 _ (by omega)) (by omega) dX12_sunAt_32 rfl ?_
        have := (hR_E.2.2.1.2.1 k (by omega)).1
        refine at_iload_n 34 X rfl rfl dX12_sunAt_33 rfl ?_
        refine at_icmp_gt 37 63 X dX12_sunAt_34 rfl (by decide) (fun h34 => ?_) (fun h34 => ?_)
        · refine at_iincV 66 X ((k + 1 : Nat) : Int) (w32_v (by omega) (by omega) (by omega)) rfl dX12_sunAt_63 rfl (by decide) ?_
          refine at_goto 4 X dX12_sunAt_66 (by decide) ?_
          exact at_sub _ (by exact ⟨rfl, rfl, rfl, rfl, trivial⟩) (ih4 (k + 1) v (by first | omega | (simp only [] at *; omega)) (by first | omega | assumption) (Or.inr (by omega)) (by first
  | (rcases hv with ⟨q1, q2⟩ | ⟨b, q1, q2, q3, q4⟩
     · exact Or.inl ⟨q1, fun j hj => if e : j = k then by rw [e]; omega else q2 j (by omega)⟩
     · exact Or.inr ⟨b, by omega, q2, q3, fun j hj hj2 => if e : j = k then by rw [e] at hj2; omega else q4 j (by omega) hj2⟩)
  | exact Or.inr ⟨k, by omega, rfl, by omega, fun j hj hj2 => if e : j = k then by rw [e]; omega else by rcases hv with ⟨q1, q2⟩ | ⟨b, q1, q2, q3, q4⟩; (have := q2 j (by omega); omega); (omega)⟩
  | exact Or.inr ⟨k, by omega, rfl, by omega, fun j hj hj2 => if e : j = k then by rw [e]; omega else by have := hb4 j (by omega) hj2; omega⟩
  | exact Or.inr ⟨b, by omega, rfl, hb3, fun j hj hj2 => if e : j = k then by rw [e]; omega else hb4 j (by omega) hj2⟩))
        · refine at_iload_n 38 X rfl rfl dX12_sunAt_37 rfl ?_
          refine at_iconst 39 X (by decide) dX12_sunAt_38 rfl ?_
          refine at_icmp_eq 42 61 X dX12_sunAt_39 rfl (by decide) (fun h39 => ?_) (fun h39 => ?_)
          · refine at_iload_n 62 X rfl rfl dX12_sunAt_61 rfl ?_
            refine at_istore_n 63 X rfl dX12_sunAt_62 rfl (by decide) ?_
            refine at_iincV 66 X ((k + 1 : Nat) : Int) (w32_v (by omega) (by omega) (by omega)) rfl dX12_sunAt_63 rfl (by decide) ?_
            refine at_goto 4 X dX12_sunAt_66 (by decide) ?_
            exact at_sub _ (by exact ⟨rfl, rfl, rfl, rfl, trivial⟩) (ih4 (k + 1) ((k : Nat) : Int) (by first | omega | (simp only [] at *; omega)) (by first | omega | assumption) (Or.inr (by omega)) (by first
  | (rcases hv with ⟨q1, q2⟩ | ⟨b, q1, q2, q3, q4⟩
     · exact Or.inl ⟨q1, fun j hj => if e : j = k then by rw [e]; omega else q2 j (by omega)⟩
     · exact Or.inr ⟨b, by omega, q2, q3, fun j hj hj2 => if e : j = k then by rw [e] at hj2; omega else q4 j (by omega) hj2⟩)
  | exact Or.inr ⟨k, by omega, rfl, by omega, fun j hj hj2 => if e : j = k then by rw [e]; omega else by rcases hv with ⟨q1, q2⟩ | ⟨b, q1, q2, q3, q4⟩; (have := q2 j (by omega); omega); (omega)⟩
  | exact Or.inr ⟨k, by omega, rfl, by omega, fun j hj hj2 => if e : j = k then by rw [e]; omega else by have := hb4 j (by omega) hj2; omega⟩
  | exact Or.inr ⟨b, by omega, rfl, hb3, fun j hj hj2 => if e : j = k then by rw [e]; omega else hb4 j (by omega) hj2⟩))
          · obtain ⟨b, hb1, rfl, hb3, hb4⟩ := hv.resolve_left (fun q => by omega)
            refine at_aload_n 43 X rfl rfl dX12_sunAt_42 rfl ?_
            refine m_getR 46 X f_X12_37 k_125 r_125_16 dX12_sunAt_43 rfl ?_
            refine at_iload_n 47 X rfl rfl dX12_sunAt_46 rfl ?_
            refine m_aaloadV 48 X k (by omega) k_166 (by decide) (by omega) (rr_166 _ (by omega)) dX12_sunAt_47 rfl ?_
            refine at_iconst 49 X (by decide) dX12_sunAt_48 rfl ?_
            refine m_ialoadV 50 X 0 (by omega) ((xTk Q k : Nat) : Int) (hR_E.2.2.1.2.1 k (by omega)).2.2.1 (kr_166 _ (by omega)) (er_166 _ (by omega)) (by omega) dX12_sunAt_49 rfl ?_
            have := (hR_E.2.2.1.2.1 k (by omega)).1
            refine at_aload_n 51 X rfl rfl dX12_sunAt_50 rfl ?_
            refine m_getR 54 X f_X12_37 k_125 r_125_16 dX12_sunAt_51 rfl ?_
            refine at_iload_n 55 X rfl rfl dX12_sunAt_54 rfl ?_
            refine m_aaloadV 56 X b (by omega) k_166 (by decide) (by omega) (rr_166 _ (by omega)) dX12_sunAt_55 rfl ?_
            refine at_iconst 57 X (by decide) dX12_sunAt_56 rfl ?_
            refine m_ialoadV 58 X 0 (by omega) ((xTk Q b : Nat) : Int) (hR_E.2.2.1.2.1 b (by omega)).2.2.1 (kr_166 _ (by omega)) (er_166 _ (by omega)) (by omega) dX12_sunAt_57 rfl ?_
            have := (hR_E.2.2.1.2.1 b (by omega)).1
            refine at_icmp_le 61 63 X dX12_sunAt_58 rfl (by decide) (fun h58 => ?_) (fun h58 => ?_)
            · refine at_iincV 66 X ((k + 1 : Nat) : Int) (w32_v (by omega) (by omega) (by omega)) rfl dX12_sunAt_63 rfl (by decide) ?_
              refine at_goto 4 X dX12_sunAt_66 (by decide) ?_
              exact at_sub _ (by exact ⟨rfl, rfl, rfl, rfl, trivial⟩) (ih4 (k + 1) ((b : Nat) : Int) (by first | omega | (simp only [] at *; omega)) (by first | omega | assumption) (Or.inr (by omega)) (by first
  | (rcases hv with ⟨q1, q2⟩ | ⟨b, q1, q2, q3, q4⟩
     · exact Or.inl ⟨q1, fun j hj => if e : j = k then by rw [e]; omega else q2 j (by omega)⟩
     · exact Or.inr ⟨b, by omega, q2, q3, fun j hj hj2 => if e : j = k then by rw [e] at hj2; omega else q4 j (by omega) hj2⟩)
  | exact Or.inr ⟨k, by omega, rfl, by omega, fun j hj hj2 => if e : j = k then by rw [e]; omega else by rcases hv with ⟨q1, q2⟩ | ⟨b, q1, q2, q3, q4⟩; (have := q2 j (by omega); omega); (omega)⟩
  | exact Or.inr ⟨k, by omega, rfl, by omega, fun j hj hj2 => if e : j = k then by rw [e]; omega else by have := hb4 j (by omega) hj2; omega⟩
  | exact Or.inr ⟨b, by omega, rfl, hb3, fun j hj hj2 => if e : j = k then by rw [e]; omega else hb4 j (by omega) hj2⟩))
            · refine at_iload_n 62 X rfl rfl dX12_sunAt_61 rfl ?_
              refine at_istore_n 63 X rfl dX12_sunAt_62 rfl (by decide) ?_
              refine at_iincV 66 X ((k + 1 : Nat) : Int) (w32_v (by omega) (by omega) (by omega)) rfl dX12_sunAt_63 rfl (by decide) ?_
              refine at_goto 4 X dX12_sunAt_66 (by decide) ?_
              exact at_sub _ (by exact ⟨rfl, rfl, rfl, rfl, trivial⟩) (ih4 (k + 1) ((k : Nat) : Int) (by first | omega | (simp only [] at *; omega)) (by first | omega | assumption) (Or.inr (by omega)) (by first
  | (rcases hv with ⟨q1, q2⟩ | ⟨b, q1, q2, q3, q4⟩
     · exact Or.inl ⟨q1, fun j hj => if e : j = k then by rw [e]; omega else q2 j (by omega)⟩
     · exact Or.inr ⟨b, by omega, q2, q3, fun j hj hj2 => if e : j = k then by rw [e] at hj2; omega else q4 j (by omega) hj2⟩)
  | exact Or.inr ⟨k, by omega, rfl, by omega, fun j hj hj2 => if e : j = k then by rw [e]; omega else by rcases hv with ⟨q1, q2⟩ | ⟨b, q1, q2, q3, q4⟩; (have := q2 j (by omega); omega); (omega)⟩
  | exact Or.inr ⟨k, by omega, rfl, by omega, fun j hj hj2 => if e : j = k then by rw [e]; omega else by have := hb4 j (by omega) hj2; omega⟩
  | exact Or.inr ⟨b, by omega, rfl, hb3, fun j hj hj2 => if e : j = k then by rw [e]; omega else hb4 j (by omega) hj2⟩))
  exact at_sub _ (by exact ⟨rfl, rfl, rfl, rfl, trivial⟩) (J4 _ 0 (-1) (Nat.lt_succ_self _) (by first | omega | assumption | rfl) (Or.inl rfl) (Or.inl ⟨rfl, fun j hj => absurd hj (Nat.not_lt_zero j)⟩))
theorem cw_X12_lightOf0 {g : Gw} (hG : GF g) {z : Bool} (E : Mm) (P : SP) (Q : RX) (hP : WS P) (hR_E : RTW E P Q) (h d : Nat) (hh : h < 24) (hd : d < 400) : CT g yX12_lightOf cX12_lightOf 6 (some .int) 1 23 0 0 K2 z [mR 125, mI ((h : Nat) : Int), mI ((d : Nat) : Int), mI 0] (ov E) K2 z (fun r D' => r = some (mI (lkP P (moonP P d) h : Nat)) ∧ D' = ov E) := by
  refine CT.mk hG (by decide +kernel) (Nat.le_of_ble_eq_true rfl) (fun κ X Rt _ ok => ?_)
  refine at_aload_n 1 X rfl rfl dX12_lightOf_0 rfl ?_
  refine at_iload_n 2 X rfl rfl dX12_lightOf_1 rfl ?_
  refine at_callV 5 X _ 12 (cw_X12_sunAt hG E P Q hP hR_E h (by omega)) clX12 rfl k_125 mo_X12_sunAt w_2142 vo_X12_sunAt.1 vo_X12_sunAt.2 rfl rfl (crm Rt (by decide)) (Nat.le_of_ble_eq_true rfl) dX12_lightOf_2 rfl ?_
  rintro _ _ ⟨sv, rfl, hsv, rfl⟩
  have hs1 := sunP_in P h
  refine at_istore 7 X dX12_lightOf_5 rfl (by decide) ?_
  refine at_iload 9 X rfl dX12_lightOf_7 rfl ?_
  refine at_iconst 10 X (by decide) dX12_lightOf_9 rfl ?_
  refine at_icmp_ne 13 21 X dX12_lightOf_10 rfl (by decide) (fun h10 => ?_) (fun h10 => ?_)
  · refine at_iconst 22 X (by decide) dX12_lightOf_21 rfl ?_
    refine at_istore 24 X dX12_lightOf_22 rfl (by decide) ?_
    refine at_iload 26 X rfl dX12_lightOf_24 rfl ?_
    refine at_iconst 27 X (by decide) dX12_lightOf_26 rfl ?_
    refine at_icmp_eq 30 50 X dX12_lightOf_27 rfl (by decide) (fun h27 => ?_) (fun h27 => ?_)
    · refine at_iload 52 X rfl dX12_lightOf_50 rfl ?_
      refine at_iconst 53 X (by decide) dX12_lightOf_52 rfl ?_
      refine at_icmp_ne 56 60 X dX12_lightOf_53 rfl (by decide) (fun h53 => ?_) (fun h53 => ?_)
      · exact absurd h53 (by decide)
      · refine at_iconst 57 X (by decide) dX12_lightOf_56 rfl ?_
        refine at_goto 86 X dX12_lightOf_57 (by decide) ?_
        refine at_iret X Rt ?_ (Nat.le_refl _) (Nat.le_refl _) dX12_lightOf_86
        refine ⟨?_, rfl⟩
        unfold lkP
        first
          | (rw [if_pos (by rcases hsv with q | ⟨k, q1, q2, q3⟩ <;> omega)]; rfl)
          | (rw [if_neg (by rcases hsv with q | ⟨k, q1, q2, q3⟩ <;> omega), if_pos (by omega)]; rfl)
          | (rw [if_neg (by rcases hsv with q | ⟨k, q1, q2, q3⟩ <;> omega), if_neg (by omega)]; rfl)
    · refine at_iload_n 31 X rfl rfl dX12_lightOf_30 rfl ?_
      refine at_if_ne 34 38 X dX12_lightOf_31 rfl (by decide) (fun h31 => ?_) (fun h31 => ?_)
      · exact absurd h31 (by decide)
      · refine at_iconst 35 X (by decide) dX12_lightOf_34 rfl ?_
        refine at_goto 49 X dX12_lightOf_35 (by decide) ?_
        refine at_iret X Rt ?_ (Nat.le_refl _) (Nat.le_refl _) dX12_lightOf_49
        refine ⟨?_, rfl⟩
        unfold lkP
        first
          | (rw [if_pos (by rcases hsv with q | ⟨k, q1, q2, q3⟩ <;> omega)]; rfl)
          | (rw [if_neg (by rcases hsv with q | ⟨k, q1, q2, q3⟩ <;> omega), if_pos (by omega)]; rfl)
          | (rw [if_neg (by rcases hsv with q | ⟨k, q1, q2, q3⟩ <;> omega), if_neg (by omega)]; rfl)
  · refine at_aload_n 14 X rfl rfl dX12_lightOf_13 rfl ?_
    refine at_iload_n 15 X rfl rfl dX12_lightOf_14 rfl ?_
    refine at_callV 18 X _ 12 (cw_X12_moonOf hG E P Q hP hR_E d (by omega)) clX12 rfl k_125 mo_X12_moonOf w_2146 vo_X12_moonOf.1 vo_X12_moonOf.2 rfl rfl (crm Rt (by decide)) (Nat.le_of_ble_eq_true rfl) dX12_lightOf_15 rfl ?_
    rintro _ _ ⟨rfl, rfl⟩
    have hmo := moonP_in P d
    refine at_goto 22 X dX12_lightOf_18 (by decide) ?_
    refine at_istore 24 X dX12_lightOf_22 rfl (by decide) ?_
    refine at_iload 26 X rfl dX12_lightOf_24 rfl ?_
    refine at_iconst 27 X (by decide) dX12_lightOf_26 rfl ?_
    refine at_icmp_eq 30 50 X dX12_lightOf_27 rfl (by decide) (fun h27 => ?_) (fun h27 => ?_)
    · refine at_iload 52 X rfl dX12_lightOf_50 rfl ?_
      refine at_iconst 53 X (by decide) dX12_lightOf_52 rfl ?_
      refine at_icmp_ne 56 60 X dX12_lightOf_53 rfl (by decide) (fun h53 => ?_) (fun h53 => ?_)
      · refine at_iload_n 61 X rfl rfl dX12_lightOf_60 rfl ?_
        refine at_if_ne 64 68 X dX12_lightOf_61 rfl (by decide) (fun h61 => ?_) (fun h61 => ?_)
        · exact absurd h61 (by decide)
        · refine at_iconst 65 X (by decide) dX12_lightOf_64 rfl ?_
          refine at_goto 86 X dX12_lightOf_65 (by decide) ?_
          refine at_iret X Rt ?_ (Nat.le_refl _) (Nat.le_refl _) dX12_lightOf_86
          refine ⟨?_, rfl⟩
          unfold lkP
          first
            | (rw [if_pos (by rcases hsv with q | ⟨k, q1, q2, q3⟩ <;> omega)]; rfl)
            | (rw [if_neg (by rcases hsv with q | ⟨k, q1, q2, q3⟩ <;> omega), if_pos (by omega)]; rfl)
            | (rw [if_neg (by rcases hsv with q | ⟨k, q1, q2, q3⟩ <;> omega), if_neg (by omega)]; rfl)
      · refine at_iconst 57 X (by decide) dX12_lightOf_56 rfl ?_
        refine at_goto 86 X dX12_lightOf_57 (by decide) ?_
        refine at_iret X Rt ?_ (Nat.le_refl _) (Nat.le_refl _) dX12_lightOf_86
        refine ⟨?_, rfl⟩
        unfold lkP
        first
          | (rw [if_pos (by rcases hsv with q | ⟨k, q1, q2, q3⟩ <;> omega)]; rfl)
          | (rw [if_neg (by rcases hsv with q | ⟨k, q1, q2, q3⟩ <;> omega), if_pos (by omega)]; rfl)
          | (rw [if_neg (by rcases hsv with q | ⟨k, q1, q2, q3⟩ <;> omega), if_neg (by omega)]; rfl)
    · refine at_iload_n 31 X rfl rfl dX12_lightOf_30 rfl ?_
      refine at_if_ne 34 38 X dX12_lightOf_31 rfl (by decide) (fun h31 => ?_) (fun h31 => ?_)
      · exact absurd h31 (by decide)
      · refine at_iconst 35 X (by decide) dX12_lightOf_34 rfl ?_
        refine at_goto 49 X dX12_lightOf_35 (by decide) ?_
        refine at_iret X Rt ?_ (Nat.le_refl _) (Nat.le_refl _) dX12_lightOf_49
        refine ⟨?_, rfl⟩
        unfold lkP
        first
          | (rw [if_pos (by rcases hsv with q | ⟨k, q1, q2, q3⟩ <;> omega)]; rfl)
          | (rw [if_neg (by rcases hsv with q | ⟨k, q1, q2, q3⟩ <;> omega), if_pos (by omega)]; rfl)
          | (rw [if_neg (by rcases hsv with q | ⟨k, q1, q2, q3⟩ <;> omega), if_neg (by omega)]; rfl)
theorem cw_X12_lightOf1 {g : Gw} (hG : GF g) {z : Bool} (E : Mm) (P : SP) (Q : RX) (hP : WS P) (hR_E : RTW E P Q) (h d : Nat) (hh : h < 24) (hd : d < 400) : CT g yX12_lightOf cX12_lightOf 6 (some .int) 1 23 0 0 K2 z [mR 125, mI ((h : Nat) : Int), mI ((d : Nat) : Int), mI 1] (ov E) K2 z (fun r D' => r = some (mI (ltP P (moonP P d) h : Nat)) ∧ D' = ov E) := by
  refine CT.mk hG (by decide +kernel) (Nat.le_of_ble_eq_true rfl) (fun κ X Rt _ ok => ?_)
  refine at_aload_n 1 X rfl rfl dX12_lightOf_0 rfl ?_
  refine at_iload_n 2 X rfl rfl dX12_lightOf_1 rfl ?_
  refine at_callV 5 X _ 12 (cw_X12_sunAt hG E P Q hP hR_E h (by omega)) clX12 rfl k_125 mo_X12_sunAt w_2142 vo_X12_sunAt.1 vo_X12_sunAt.2 rfl rfl (crm Rt (by decide)) (Nat.le_of_ble_eq_true rfl) dX12_lightOf_2 rfl ?_
  rintro _ _ ⟨sv, rfl, hsv, rfl⟩
  have hs1 := sunP_in P h
  refine at_istore 7 X dX12_lightOf_5 rfl (by decide) ?_
  refine at_iload 9 X rfl dX12_lightOf_7 rfl ?_
  refine at_iconst 10 X (by decide) dX12_lightOf_9 rfl ?_
  refine at_icmp_ne 13 21 X dX12_lightOf_10 rfl (by decide) (fun h10 => ?_) (fun h10 => ?_)
  · refine at_iconst 22 X (by decide) dX12_lightOf_21 rfl ?_
    refine at_istore 24 X dX12_lightOf_22 rfl (by decide) ?_
    refine at_iload 26 X rfl dX12_lightOf_24 rfl ?_
    refine at_iconst 27 X (by decide) dX12_lightOf_26 rfl ?_
    refine at_icmp_eq 30 50 X dX12_lightOf_27 rfl (by decide) (fun h27 => ?_) (fun h27 => ?_)
    · refine at_iload 52 X rfl dX12_lightOf_50 rfl ?_
      refine at_iconst 53 X (by decide) dX12_lightOf_52 rfl ?_
      refine at_icmp_ne 56 60 X dX12_lightOf_53 rfl (by decide) (fun h53 => ?_) (fun h53 => ?_)
      · exact absurd h53 (by decide)
      · refine at_iconst 57 X (by decide) dX12_lightOf_56 rfl ?_
        refine at_goto 86 X dX12_lightOf_57 (by decide) ?_
        refine at_iret X Rt ?_ (Nat.le_refl _) (Nat.le_refl _) dX12_lightOf_86
        refine ⟨?_, rfl⟩
        unfold ltP
        first
          | (rw [if_pos (show 0 ≤ sunP P h by omega), ← hk3, Int.toNat_natCast]; have := hP.Sl (t := xTk Q k) (by omega); have := (hR_E.2.2.1.2.1 k hk1).2.1; exact congrArg (fun q => some (mI q)) (by omega))
          | (rw [if_neg (show ¬ 0 ≤ sunP P h by rcases hsv with q | ⟨k, q1, q2, q3⟩ <;> omega), if_pos (show 0 ≤ moonP P d by omega), hm, Int.toNat_natCast]; done)
          | (rw [if_neg (show ¬ 0 ≤ sunP P h by rcases hsv with q | ⟨k, q1, q2, q3⟩ <;> omega), if_neg (show ¬ 0 ≤ moonP P d by omega)]; rfl)
    · refine at_iload_n 31 X rfl rfl dX12_lightOf_30 rfl ?_
      refine at_if_ne 34 38 X dX12_lightOf_31 rfl (by decide) (fun h31 => ?_) (fun h31 => ?_)
      · have hxn := hR_E.2.2.1.1
        obtain ⟨k, hk1, rfl, hk3⟩ := (hsv.resolve_left (fun q => by omega))
        refine at_aload_n 39 X rfl rfl dX12_lightOf_38 rfl ?_
        refine m_getR 42 X f_X12_37 k_125 r_125_16 dX12_lightOf_39 rfl ?_
        refine at_iload 44 X rfl dX12_lightOf_42 rfl ?_
        refine m_aaloadV 45 X k (by omega) k_166 (by decide) (by omega) (rr_166 _ (by omega)) dX12_lightOf_44 rfl ?_
        refine at_iconst 46 X (by decide) dX12_lightOf_45 rfl ?_
        refine at_iload_n 47 X rfl rfl dX12_lightOf_46 rfl ?_
        refine at_isubV 48 X 2 (w32_v (by decide) (by decide) (by decide)) dX12_lightOf_47 rfl ?_
        refine m_ialoadV 49 X 2 (by omega) (sSl P (xTk Q k)) (hR_E.2.2.1.2.1 k (by omega)).2.2.2.2 (kr_166 _ (by omega)) (er_166 _ (by omega)) (by omega) dX12_lightOf_48 rfl ?_
        refine at_iret X Rt ?_ (Nat.le_refl _) (Nat.le_refl _) dX12_lightOf_49
        refine ⟨?_, rfl⟩
        unfold ltP
        first
          | (rw [if_pos (show 0 ≤ sunP P h by omega), ← hk3, Int.toNat_natCast]; have := hP.Sl (t := xTk Q k) (by omega); have := (hR_E.2.2.1.2.1 k hk1).2.1; exact congrArg (fun q => some (mI q)) (by omega))
          | (rw [if_neg (show ¬ 0 ≤ sunP P h by rcases hsv with q | ⟨k, q1, q2, q3⟩ <;> omega), if_pos (show 0 ≤ moonP P d by omega), hm, Int.toNat_natCast]; done)
          | (rw [if_neg (show ¬ 0 ≤ sunP P h by rcases hsv with q | ⟨k, q1, q2, q3⟩ <;> omega), if_neg (show ¬ 0 ≤ moonP P d by omega)]; rfl)
      · exact absurd h31 (by decide)
  · refine at_aload_n 14 X rfl rfl dX12_lightOf_13 rfl ?_
    refine at_iload_n 15 X rfl rfl dX12_lightOf_14 rfl ?_
    refine at_callV 18 X _ 12 (cw_X12_moonOf hG E P Q hP hR_E d (by omega)) clX12 rfl k_125 mo_X12_moonOf w_2146 vo_X12_moonOf.1 vo_X12_moonOf.2 rfl rfl (crm Rt (by decide)) (Nat.le_of_ble_eq_true rfl) dX12_lightOf_15 rfl ?_
    rintro _ _ ⟨rfl, rfl⟩
    have hmo := moonP_in P d
    refine at_goto 22 X dX12_lightOf_18 (by decide) ?_
    refine at_istore 24 X dX12_lightOf_22 rfl (by decide) ?_
    refine at_iload 26 X rfl dX12_lightOf_24 rfl ?_
    refine at_iconst 27 X (by decide) dX12_lightOf_26 rfl ?_
    refine at_icmp_eq 30 50 X dX12_lightOf_27 rfl (by decide) (fun h27 => ?_) (fun h27 => ?_)
    · refine at_iload 52 X rfl dX12_lightOf_50 rfl ?_
      refine at_iconst 53 X (by decide) dX12_lightOf_52 rfl ?_
      refine at_icmp_ne 56 60 X dX12_lightOf_53 rfl (by decide) (fun h53 => ?_) (fun h53 => ?_)
      · refine at_iload_n 61 X rfl rfl dX12_lightOf_60 rfl ?_
        refine at_if_ne 64 68 X dX12_lightOf_61 rfl (by decide) (fun h61 => ?_) (fun h61 => ?_)
        · refine at_iload_n 69 X rfl rfl dX12_lightOf_68 rfl ?_
          refine at_iconst 70 X (by decide) dX12_lightOf_69 rfl ?_
          refine at_icmp_ne 73 85 X dX12_lightOf_70 rfl (by decide) (fun h70 => ?_) (fun h70 => ?_)
          · exact absurd h70 (by decide)
          · have hM3 := hP.M
            obtain ⟨m, hm⟩ : ∃ m : Nat, moonP P d = (m : Int) := ⟨(moonP P d).toNat, by omega⟩
            rw [hm]
            refine at_aload_n 74 X rfl rfl dX12_lightOf_73 rfl ?_
            refine m_getR 77 X f_X12_43 k_125 r_125_18 dX12_lightOf_74 rfl ?_
            refine at_iload 79 X rfl dX12_lightOf_77 rfl ?_
            refine m_aaloadV 80 X m (by omega) k_183 (by decide) (by omega) (rr_183 _ (by omega)) dX12_lightOf_79 rfl ?_
            refine at_iconst 81 X (by decide) dX12_lightOf_80 rfl ?_
            refine m_ialoadV 82 X 2 (by omega) ((sMn P m : Nat) : Int) (hR_E.2.2.2.1 m (by omega)).2.2 (kr_183 _ (by omega)) (er_183 _ (by omega)) (by omega) dX12_lightOf_81 rfl ?_
            have := hP.Mn (m := m) (by omega)
            refine at_goto 86 X dX12_lightOf_82 (by decide) ?_
            refine at_iret X Rt ?_ (Nat.le_refl _) (Nat.le_refl _) dX12_lightOf_86
            refine ⟨?_, rfl⟩
            unfold ltP
            first
              | (rw [if_pos (show 0 ≤ sunP P h by omega), ← hk3, Int.toNat_natCast]; have := hP.Sl (t := xTk Q k) (by omega); have := (hR_E.2.2.1.2.1 k hk1).2.1; exact congrArg (fun q => some (mI q)) (by omega))
              | (rw [if_neg (show ¬ 0 ≤ sunP P h by rcases hsv with q | ⟨k, q1, q2, q3⟩ <;> omega), if_pos (show 0 ≤ moonP P d by omega), hm, Int.toNat_natCast]; done)
              | (rw [if_neg (show ¬ 0 ≤ sunP P h by rcases hsv with q | ⟨k, q1, q2, q3⟩ <;> omega), if_neg (show ¬ 0 ≤ moonP P d by omega)]; rfl)
        · exact absurd h61 (by decide)
      · refine at_iconst 57 X (by decide) dX12_lightOf_56 rfl ?_
        refine at_goto 86 X dX12_lightOf_57 (by decide) ?_
        refine at_iret X Rt ?_ (Nat.le_refl _) (Nat.le_refl _) dX12_lightOf_86
        refine ⟨?_, rfl⟩
        unfold ltP
        first
          | (rw [if_pos (show 0 ≤ sunP P h by omega), ← hk3, Int.toNat_natCast]; have := hP.Sl (t := xTk Q k) (by omega); have := (hR_E.2.2.1.2.1 k hk1).2.1; exact congrArg (fun q => some (mI q)) (by omega))
          | (rw [if_neg (show ¬ 0 ≤ sunP P h by rcases hsv with q | ⟨k, q1, q2, q3⟩ <;> omega), if_pos (show 0 ≤ moonP P d by omega), hm, Int.toNat_natCast]; done)
          | (rw [if_neg (show ¬ 0 ≤ sunP P h by rcases hsv with q | ⟨k, q1, q2, q3⟩ <;> omega), if_neg (show ¬ 0 ≤ moonP P d by omega)]; rfl)
    · refine at_iload_n 31 X rfl rfl dX12_lightOf_30 rfl ?_
      refine at_if_ne 34 38 X dX12_lightOf_31 rfl (by decide) (fun h31 => ?_) (fun h31 => ?_)
      · have hxn := hR_E.2.2.1.1
        obtain ⟨k, hk1, rfl, hk3⟩ := (hsv.resolve_left (fun q => by omega))
        refine at_aload_n 39 X rfl rfl dX12_lightOf_38 rfl ?_
        refine m_getR 42 X f_X12_37 k_125 r_125_16 dX12_lightOf_39 rfl ?_
        refine at_iload 44 X rfl dX12_lightOf_42 rfl ?_
        refine m_aaloadV 45 X k (by omega) k_166 (by decide) (by omega) (rr_166 _ (by omega)) dX12_lightOf_44 rfl ?_
        refine at_iconst 46 X (by decide) dX12_lightOf_45 rfl ?_
        refine at_iload_n 47 X rfl rfl dX12_lightOf_46 rfl ?_
        refine at_isubV 48 X 2 (w32_v (by decide) (by decide) (by decide)) dX12_lightOf_47 rfl ?_
        refine m_ialoadV 49 X 2 (by omega) (sSl P (xTk Q k)) (hR_E.2.2.1.2.1 k (by omega)).2.2.2.2 (kr_166 _ (by omega)) (er_166 _ (by omega)) (by omega) dX12_lightOf_48 rfl ?_
        refine at_iret X Rt ?_ (Nat.le_refl _) (Nat.le_refl _) dX12_lightOf_49
        refine ⟨?_, rfl⟩
        unfold ltP
        first
          | (rw [if_pos (show 0 ≤ sunP P h by omega), ← hk3, Int.toNat_natCast]; have := hP.Sl (t := xTk Q k) (by omega); have := (hR_E.2.2.1.2.1 k hk1).2.1; exact congrArg (fun q => some (mI q)) (by omega))
          | (rw [if_neg (show ¬ 0 ≤ sunP P h by rcases hsv with q | ⟨k, q1, q2, q3⟩ <;> omega), if_pos (show 0 ≤ moonP P d by omega), hm, Int.toNat_natCast]; done)
          | (rw [if_neg (show ¬ 0 ≤ sunP P h by rcases hsv with q | ⟨k, q1, q2, q3⟩ <;> omega), if_neg (show ¬ 0 ≤ moonP P d by omega)]; rfl)
      · exact absurd h31 (by decide)
theorem cw_X12_lightOf2 {g : Gw} (hG : GF g) {z : Bool} (E : Mm) (P : SP) (Q : RX) (hP : WS P) (hR_E : RTW E P Q) (h d : Nat) (hh : h < 24) (hd : d < 400) : CT g yX12_lightOf cX12_lightOf 6 (some .int) 1 23 0 0 K2 z [mR 125, mI ((h : Nat) : Int), mI ((d : Nat) : Int), mI 2] (ov E) K2 z (fun r D' => r = some (mI (if lrP P (moonP P d) h then 1 else 0)) ∧ D' = ov E) := by
  refine CT.mk hG (by decide +kernel) (Nat.le_of_ble_eq_true rfl) (fun κ X Rt _ ok => ?_)
  refine at_aload_n 1 X rfl rfl dX12_lightOf_0 rfl ?_
  refine at_iload_n 2 X rfl rfl dX12_lightOf_1 rfl ?_
  refine at_callV 5 X _ 12 (cw_X12_sunAt hG E P Q hP hR_E h (by omega)) clX12 rfl k_125 mo_X12_sunAt w_2142 vo_X12_sunAt.1 vo_X12_sunAt.2 rfl rfl (crm Rt (by decide)) (Nat.le_of_ble_eq_true rfl) dX12_lightOf_2 rfl ?_
  rintro _ _ ⟨sv, rfl, hsv, rfl⟩
  have hs1 := sunP_in P h
  refine at_istore 7 X dX12_lightOf_5 rfl (by decide) ?_
  refine at_iload 9 X rfl dX12_lightOf_7 rfl ?_
  refine at_iconst 10 X (by decide) dX12_lightOf_9 rfl ?_
  refine at_icmp_ne 13 21 X dX12_lightOf_10 rfl (by decide) (fun h10 => ?_) (fun h10 => ?_)
  · refine at_iconst 22 X (by decide) dX12_lightOf_21 rfl ?_
    refine at_istore 24 X dX12_lightOf_22 rfl (by decide) ?_
    refine at_iload 26 X rfl dX12_lightOf_24 rfl ?_
    refine at_iconst 27 X (by decide) dX12_lightOf_26 rfl ?_
    refine at_icmp_eq 30 50 X dX12_lightOf_27 rfl (by decide) (fun h27 => ?_) (fun h27 => ?_)
    · refine at_iload 52 X rfl dX12_lightOf_50 rfl ?_
      refine at_iconst 53 X (by decide) dX12_lightOf_52 rfl ?_
      refine at_icmp_ne 56 60 X dX12_lightOf_53 rfl (by decide) (fun h53 => ?_) (fun h53 => ?_)
      · exact absurd h53 (by decide)
      · refine at_iconst 57 X (by decide) dX12_lightOf_56 rfl ?_
        refine at_goto 86 X dX12_lightOf_57 (by decide) ?_
        refine at_iret X Rt ?_ (Nat.le_refl _) (Nat.le_refl _) dX12_lightOf_86
        refine ⟨?_, rfl⟩
        first
          | (rw [show lrP P (moonP P d) h = sSw P (xTk Q k) from by unfold lrP; rw [if_pos (show 0 ≤ sunP P h by omega), ← hk3, Int.toNat_natCast]]; done)
          | (rw [show lrP P (moonP P d) h = true from by unfold lrP; rw [if_neg (show ¬ 0 ≤ sunP P h by rcases hsv with q | ⟨k, q1, q2, q3⟩ <;> omega), decide_eq_true (by omega)]]; rfl)
          | (rw [show lrP P (moonP P d) h = false from by unfold lrP; rw [if_neg (show ¬ 0 ≤ sunP P h by rcases hsv with q | ⟨k, q1, q2, q3⟩ <;> omega), decide_eq_false (by omega)]]; rfl)
    · refine at_iload_n 31 X rfl rfl dX12_lightOf_30 rfl ?_
      refine at_if_ne 34 38 X dX12_lightOf_31 rfl (by decide) (fun h31 => ?_) (fun h31 => ?_)
      · have hxn := hR_E.2.2.1.1
        obtain ⟨k, hk1, rfl, hk3⟩ := (hsv.resolve_left (fun q => by omega))
        refine at_aload_n 39 X rfl rfl dX12_lightOf_38 rfl ?_
        refine m_getR 42 X f_X12_37 k_125 r_125_16 dX12_lightOf_39 rfl ?_
        refine at_iload 44 X rfl dX12_lightOf_42 rfl ?_
        refine m_aaloadV 45 X k (by omega) k_166 (by decide) (by omega) (rr_166 _ (by omega)) dX12_lightOf_44 rfl ?_
        refine at_iconst 46 X (by decide) dX12_lightOf_45 rfl ?_
        refine at_iload_n 47 X rfl rfl dX12_lightOf_46 rfl ?_
        refine at_isubV 48 X 1 (w32_v (by decide) (by decide) (by decide)) dX12_lightOf_47 rfl ?_
        refine m_ialoadV 49 X 1 (by omega) (if sSw P (xTk Q k) then 1 else 0) (hR_E.2.2.1.2.1 k (by omega)).2.2.2.1 (kr_166 _ (by omega)) (er_166 _ (by omega)) (by omega) dX12_lightOf_48 rfl ?_
        refine at_iret X Rt ?_ (Nat.le_refl _) (Nat.le_refl _) dX12_lightOf_49
        refine ⟨?_, rfl⟩
        first
          | (rw [show lrP P (moonP P d) h = sSw P (xTk Q k) from by unfold lrP; rw [if_pos (show 0 ≤ sunP P h by omega), ← hk3, Int.toNat_natCast]]; done)
          | (rw [show lrP P (moonP P d) h = true from by unfold lrP; rw [if_neg (show ¬ 0 ≤ sunP P h by rcases hsv with q | ⟨k, q1, q2, q3⟩ <;> omega), decide_eq_true (by omega)]]; rfl)
          | (rw [show lrP P (moonP P d) h = false from by unfold lrP; rw [if_neg (show ¬ 0 ≤ sunP P h by rcases hsv with q | ⟨k, q1, q2, q3⟩ <;> omega), decide_eq_false (by omega)]]; rfl)
      · exact absurd h31 (by decide)
  · refine at_aload_n 14 X rfl rfl dX12_lightOf_13 rfl ?_
    refine at_iload_n 15 X rfl rfl dX12_lightOf_14 rfl ?_
    refine at_callV 18 X _ 12 (cw_X12_moonOf hG E P Q hP hR_E d (by omega)) clX12 rfl k_125 mo_X12_moonOf w_2146 vo_X12_moonOf.1 vo_X12_moonOf.2 rfl rfl (crm Rt (by decide)) (Nat.le_of_ble_eq_true rfl) dX12_lightOf_15 rfl ?_
    rintro _ _ ⟨rfl, rfl⟩
    have hmo := moonP_in P d
    refine at_goto 22 X dX12_lightOf_18 (by decide) ?_
    refine at_istore 24 X dX12_lightOf_22 rfl (by decide) ?_
    refine at_iload 26 X rfl dX12_lightOf_24 rfl ?_
    refine at_iconst 27 X (by decide) dX12_lightOf_26 rfl ?_
    refine at_icmp_eq 30 50 X dX12_lightOf_27 rfl (by decide) (fun h27 => ?_) (fun h27 => ?_)
    · refine at_iload 52 X rfl dX12_lightOf_50 rfl ?_
      refine at_iconst 53 X (by decide) dX12_lightOf_52 rfl ?_
      refine at_icmp_ne 56 60 X dX12_lightOf_53 rfl (by decide) (fun h53 => ?_) (fun h53 => ?_)
      · refine at_iload_n 61 X rfl rfl dX12_lightOf_60 rfl ?_
        refine at_if_ne 64 68 X dX12_lightOf_61 rfl (by decide) (fun h61 => ?_) (fun h61 => ?_)
        · refine at_iload_n 69 X rfl rfl dX12_lightOf_68 rfl ?_
          refine at_iconst 70 X (by decide) dX12_lightOf_69 rfl ?_
          refine at_icmp_ne 73 85 X dX12_lightOf_70 rfl (by decide) (fun h70 => ?_) (fun h70 => ?_)
          · refine at_iconst 86 X (by decide) dX12_lightOf_85 rfl ?_
            refine at_iret X Rt ?_ (Nat.le_refl _) (Nat.le_refl _) dX12_lightOf_86
            refine ⟨?_, rfl⟩
            first
              | (rw [show lrP P (moonP P d) h = sSw P (xTk Q k) from by unfold lrP; rw [if_pos (show 0 ≤ sunP P h by omega), ← hk3, Int.toNat_natCast]]; done)
              | (rw [show lrP P (moonP P d) h = true from by unfold lrP; rw [if_neg (show ¬ 0 ≤ sunP P h by rcases hsv with q | ⟨k, q1, q2, q3⟩ <;> omega), decide_eq_true (by omega)]]; rfl)
              | (rw [show lrP P (moonP P d) h = false from by unfold lrP; rw [if_neg (show ¬ 0 ≤ sunP P h by rcases hsv with q | ⟨k, q1, q2, q3⟩ <;> omega), decide_eq_false (by omega)]]; rfl)
          · exact absurd h70 (by decide)
        · exact absurd h61 (by decide)
      · refine at_iconst 57 X (by decide) dX12_lightOf_56 rfl ?_
        refine at_goto 86 X dX12_lightOf_57 (by decide) ?_
        refine at_iret X Rt ?_ (Nat.le_refl _) (Nat.le_refl _) dX12_lightOf_86
        refine ⟨?_, rfl⟩
        first
          | (rw [show lrP P (moonP P d) h = sSw P (xTk Q k) from by unfold lrP; rw [if_pos (show 0 ≤ sunP P h by omega), ← hk3, Int.toNat_natCast]]; done)
          | (rw [show lrP P (moonP P d) h = true from by unfold lrP; rw [if_neg (show ¬ 0 ≤ sunP P h by rcases hsv with q | ⟨k, q1, q2, q3⟩ <;> omega), decide_eq_true (by omega)]]; rfl)
          | (rw [show lrP P (moonP P d) h = false from by unfold lrP; rw [if_neg (show ¬ 0 ≤ sunP P h by rcases hsv with q | ⟨k, q1, q2, q3⟩ <;> omega), decide_eq_false (by omega)]]; rfl)
    · refine at_iload_n 31 X rfl rfl dX12_lightOf_30 rfl ?_
      refine at_if_ne 34 38 X dX12_lightOf_31 rfl (by decide) (fun h31 => ?_) (fun h31 => ?_)
      · have hxn := hR_E.2.2.1.1
        obtain ⟨k, hk1, rfl, hk3⟩ := (hsv.resolve_left (fun q => by omega))
        refine at_aload_n 39 X rfl rfl dX12_lightOf_38 rfl ?_
        refine m_getR 42 X f_X12_37 k_125 r_125_16 dX12_lightOf_39 rfl ?_
        refine at_iload 44 X rfl dX12_lightOf_42 rfl ?_
        refine m_aaloadV 45 X k (by omega) k_166 (by decide) (by omega) (rr_166 _ (by omega)) dX12_lightOf_44 rfl ?_
        refine at_iconst 46 X (by decide) dX12_lightOf_45 rfl ?_
        refine at_iload_n 47 X rfl rfl dX12_lightOf_46 rfl ?_
        refine at_isubV 48 X 1 (w32_v (by decide) (by decide) (by decide)) dX12_lightOf_47 rfl ?_
        refine m_ialoadV 49 X 1 (by omega) (if sSw P (xTk Q k) then 1 else 0) (hR_E.2.2.1.2.1 k (by omega)).2.2.2.1 (kr_166 _ (by omega)) (er_166 _ (by omega)) (by omega) dX12_lightOf_48 rfl ?_
        refine at_iret X Rt ?_ (Nat.le_refl _) (Nat.le_refl _) dX12_lightOf_49
        refine ⟨?_, rfl⟩
        first
          | (rw [show lrP P (moonP P d) h = sSw P (xTk Q k) from by unfold lrP; rw [if_pos (show 0 ≤ sunP P h by omega), ← hk3, Int.toNat_natCast]]; done)
          | (rw [show lrP P (moonP P d) h = true from by unfold lrP; rw [if_neg (show ¬ 0 ≤ sunP P h by rcases hsv with q | ⟨k, q1, q2, q3⟩ <;> omega), decide_eq_true (by omega)]]; rfl)
          | (rw [show lrP P (moonP P d) h = false from by unfold lrP; rw [if_neg (show ¬ 0 ≤ sunP P h by rcases hsv with q | ⟨k, q1, q2, q3⟩ <;> omega), decide_eq_false (by omega)]]; rfl)
      · exact absurd h31 (by decide)
theorem cw_X12_asTold {g : Gw} (hG : GF g) {z : Bool} (E : Mm) (P : SP) (Q : RX) (hP : WS P) (hR_E : RTW E P Q) : CT g yX12_asTold cX12_asTold 1 none 1 23 0 0 K2 z [mR 125] (ov E) K2 z (fun r D' => r = none ∧ D' = ov (wr (wr (wr E 125 52 (sN P : Int)) 125 53 (sLn P : Int)) 125 54 (mk (sC P) 24 : Nat))) := by
  refine CT.mk hG (by decide +kernel) (Nat.le_of_ble_eq_true rfl) (fun κ X Rt _ ok => ?_)
  refine at_aload_n 1 X rfl rfl dX12_asTold_0 rfl ?_
  refine at_aload_n 2 X rfl rfl dX12_asTold_1 rfl ?_
  refine m_getR 5 X f_X12_23 k_125 r_125_12 dX12_asTold_2 rfl ?_
  refine at_iconst 6 X (by decide) dX12_asTold_5 rfl ?_
  refine m_ialoadV 7 X 1 (by omega) ((sN P : Nat) : Int) hR_E.1.2.1 k_129 e_129 (by omega) dX12_asTold_6 rfl ?_
  have := hP.N
  refine m_putI 10 X f_X12_330 fw_12_52 k_125 rn_125_52 dX12_asTold_7 rfl ?_
  refine at_aload_n 11 X rfl rfl dX12_asTold_10 rfl ?_
  refine at_aload_n 12 X rfl rfl dX12_asTold_11 rfl ?_
  refine m_getR 15 X f_X12_23 k_125 r_125_12 dX12_asTold_12 rfl ?_
  refine at_iconst 16 X (by decide) dX12_asTold_15 rfl ?_
  refine m_ialoadV 17 X 5 (by omega) ((sLn P : Nat) : Int) ((wr_o (by omega)).trans hR_E.1.2.2.2.2.2.1) k_129 e_129 (by omega) dX12_asTold_16 rfl ?_
  have := hP.Ln
  refine m_putI 20 X f_X12_333 fw_12_53 k_125 rn_125_53 dX12_asTold_17 rfl ?_
  refine at_aload_n 21 X rfl rfl dX12_asTold_20 rfl ?_
  refine at_aload_n 22 X rfl rfl dX12_asTold_21 rfl ?_
  refine at_callV 25 X _ 12 (cw_X12_cloudsTold hG (wr (wr E 125 52 ((sN P : Nat) : Int)) 125 53 ((sLn P : Nat) : Int)) P Q hP (hR_E.fr (fun q hq => by simp (disch := omega) only [wr_row]) hP)) clX12 rfl k_125 mo_X12_cloudsTold w_2134 vo_X12_cloudsTold.1 vo_X12_cloudsTold.2 rfl rfl (crm Rt (by decide)) (Nat.le_of_ble_eq_true rfl) dX12_asTold_22 rfl ?_
  rintro _ _ ⟨rfl, rfl⟩
  refine m_putI 28 X f_X12_339 fw_12_54 k_125 rn_125_54 dX12_asTold_25 rfl ?_
  refine at_vret X Rt ?_ (Nat.le_refl _) (Nat.le_refl _) dX12_asTold_28
  exact ⟨rfl, rfl⟩
theorem cw_X12_laysRaw {g : Gw} (hG : GF g) {z : Bool} (E : Mm) (P : SP) (Q : RX) (hP : WS P) (hR_E : RTW E P Q) (G : GP) (hW : WR G) (hp_E : RPg E G) (d : Nat) (hd : d < 400) (hgw : gW G = sW P) (hgt : ∀ h, h < 24 → gT' G h = ltP P (moonP P d) h) (hgr : ∀ h, h < 24 → gR G h = lrP P (moonP P d) h) : CT g yX12_laysRaw cX12_laysRaw 7 none 2 48 0 0 K2 z [mR 125, mI ((d : Nat) : Int)] (ov E) K2 z (fun r D' => r = none ∧ ∃ E1, D' = ov E1 ∧ RRw E1 G 24 ∧ ∀ q, ¬ (658 ≤ q ∧ q ≤ 681) → E1 q = E q) := by
  refine CT.mk hG (by decide +kernel) (Nat.le_of_ble_eq_true rfl) (fun κ X Rt _ ok => ?_)
  have hN11 := hW.2.1
  have hW40 := hW.1
  refine at_iconst 1 X (by decide) dX12_laysRaw_0 rfl ?_
  refine at_istore_n 2 X rfl dX12_laysRaw_1 rfl (by decide) ?_
  have J2 : ∀ (f2 : Nat) (F : Mm) (h : Nat), 24 - h < f2 → (h ≤ 24) → (RRw F G h) → ((∀ q, ¬ (658 ≤ q ∧ q ≤ 681) → F q = E q)) → AT g κ K2 z 0 0 2 [(0, mR 125), (1, mI ((d : Nat) : Int)), (2, mI ((h : Nat) : Int))] [] (ov F) := by
    intro f2
    induction f2 with
    | zero => intro F h hf2; omega
    | succ f2 ih2 =>
    intro F h hf2 hh ho_F hf_F
    refine at_iload_n 3 X rfl rfl dX12_laysRaw_2 rfl ?_
    refine at_bipush 5 X (by decide) (by decide) dX12_laysRaw_3 rfl ?_
    refine at_icmp_ge 8 164 X dX12_laysRaw_5 rfl (by decide) (fun h5 => ?_) (fun h5 => ?_)
    · refine at_vret X Rt ?_ (Nat.le_refl _) (Nat.le_refl _) dX12_laysRaw_164
      have h24 : h = 24 := by omega
      subst h24
      exact ⟨rfl, F, rfl, ho_F, hf_F⟩
    · refine at_iconst 9 X (by decide) dX12_laysRaw_8 rfl ?_
      refine at_istore_n 10 X rfl dX12_laysRaw_9 rfl (by decide) ?_
      have J10 : ∀ (f10 : Nat) (F2 : Mm) (x : Nat), 40 - x < f10 → (x ≤ sW P) → ((∀ t c, t < h → c < gW G → F2 (658 + t) c = (mk (fun p => shG G t p c) (gN G) : Nat))) → ((∀ c, c < x → F2 (658 + h) c = ((0 : Nat) : Int))) → ((∀ q, ¬ (658 ≤ q ∧ q ≤ 681) → F2 q = E q)) → AT g κ K2 z 0 0 10 [(0, mR 125), (1, mI ((d : Nat) : Int)), (2, mI ((h : Nat) : Int)), (3, mI ((x : Nat) : Int))] [] (ov F2) := by
        intro f10
        induction f10 with
        | zero => intro F2 x hf10; omega
        | succ f10 ih10 =>
        intro F2 x hf10 hx ho_F2 hr_F2 hf_F2
        refine at_iload_n 11 X rfl rfl dX12_laysRaw_10 rfl ?_
        have hR_F2 : RTW F2 P Q := hR_E.fr (fun q hq => hf_F2 q (by omega)) hP
        refine at_aload_n 12 X rfl rfl dX12_laysRaw_11 rfl ?_
        refine m_getR 15 X f_X12_23 k_125 r_125_12 dX12_laysRaw_12 rfl ?_
        refine at_iconst 16 X (by decide) dX12_laysRaw_15 rfl ?_
        refine m_ialoadV 17 X 0 (by omega) ((sW P : Nat) : Int) hR_F2.1.1 k_129 e_129 (by omega) dX12_laysRaw_16 rfl ?_
        have := hP.W
        refine at_icmp_ge 20 35 X dX12_laysRaw_17 rfl (by decide) (fun h17 => ?_) (fun h17 => ?_)
        · refine at_aload_n 36 X rfl rfl dX12_laysRaw_35 rfl ?_
          have hR_F2 : RTW F2 P Q := hR_E.fr (fun q hq => hf_F2 q (by omega)) hP
          have hp_F2 : RPg F2 G := ⟨by rw [hf_F2 125 (by omega)]; exact hp_E.1, fun p hp => by rw [hf_F2 (142 + p) (by omega)]; exact hp_E.2 p hp⟩
          refine at_iload_n 37 X rfl rfl dX12_laysRaw_36 rfl ?_
          refine at_iload_n 38 X rfl rfl dX12_laysRaw_37 rfl ?_
          refine at_iconst 39 X (by decide) dX12_laysRaw_38 rfl ?_
          refine at_callV 42 X _ 12 (cw_X12_lightOf1 hG F2 P Q hP hR_F2 h d (by omega) (by omega)) clX12 rfl k_125 mo_X12_lightOf w_2138 vo_X12_lightOf.1 vo_X12_lightOf.2 rfl rfl (crm Rt (by decide)) (Nat.le_of_ble_eq_true rfl) dX12_laysRaw_39 rfl ?_
          rintro _ _ ⟨rfl, rfl⟩
          rw [← hgt h (by omega)]
          refine at_istore_n 43 X rfl dX12_laysRaw_42 rfl (by decide) ?_
          have J61 : ∀ (wy : Int), ((gR G h = true ∧ wy = 1) ∨ (gR G h = false ∧ wy = -1)) → AT g κ K2 z 0 0 61 [(0, mR 125), (1, mI ((d : Nat) : Int)), (2, mI ((h : Nat) : Int)), (3, mI ((gT' G h : Nat) : Int)), (4, mI wy)] [] (ov F2) := by
            intro wy hwy
            refine at_iconst 62 X (by decide) dX12_laysRaw_61 rfl ?_
            refine at_istore 64 X dX12_laysRaw_62 rfl (by decide) ?_
            have J64 : ∀ (f64 : Nat) (F3 : Mm) (p : Nat), 11 - p < f64 → (p ≤ gN G) → ((∀ t c, t < h → c < gW G → F3 (658 + t) c = (mk (fun p => shG G t p c) (gN G) : Nat))) → ((∀ c, c < gW G → F3 (658 + h) c = (mk (fun p => shG G h p c) p : Nat))) → ((∀ q, ¬ (658 ≤ q ∧ q ≤ 681) → F3 q = E q)) → AT g κ K2 z 0 0 64 [(0, mR 125), (1, mI ((d : Nat) : Int)), (2, mI ((h : Nat) : Int)), (3, mI ((gT' G h : Nat) : Int)), (4, mI wy), (5, mI ((p : Nat) : Int))] [] (ov F3) := by
              intro f64
              induction f64 with
              | zero => intro F3 p hf64; omega
              | succ f64 ih64 =>
              intro F3 p hf64 hp ho_F3 hr_F3 hf_F3
              refine at_iload 66 X rfl dX12_laysRaw_64 rfl ?_
              have hR_F3 : RTW F3 P Q := hR_E.fr (fun q hq => hf_F3 q (by omega)) hP
              have hp_F3 : RPg F3 G := ⟨by rw [hf_F3 125 (by omega)]; exact hp_E.1, fun p hp => by rw [hf_F3 (142 + p) (by omega)]; exact hp_E.2 p hp⟩
              refine at_aload_n 67 X rfl rfl dX12_laysRaw_66 rfl ?_
              refine m_getIV 70 X ((gN G : Nat) : Int) hp_F3.1 f_X12_330 k_125 rn_125_52 dX12_laysRaw_67 rfl ?_
              have := hW.2.1
              refine at_icmp_ge 73 158 X dX12_laysRaw_70 rfl (by decide) (fun h70 => ?_) (fun h70 => ?_)
              · refine at_iincV 161 X ((h + 1 : Nat) : Int) (w32_v (by omega) (by omega) (by omega)) rfl dX12_laysRaw_158 rfl (by decide) ?_
                refine at_goto 2 X dX12_laysRaw_161 (by decide) ?_
                exact at_sub _ (by exact ⟨rfl, rfl, rfl, trivial⟩) (ih2 F3 (h + 1) (by first | omega | (simp only [] at *; omega)) (by first | omega | assumption) (fun t c ht hc => if e : t = h then by subst e; have e2 := hr_F3 c hc; rw [show gN G = p by omega]; exact e2 else ho_F3 t c (by omega) hc) hf_F3)
              · refine at_iconst 74 X (by decide) dX12_laysRaw_73 rfl ?_
                refine at_istore 76 X dX12_laysRaw_74 rfl (by decide) ?_
                have J76 : ∀ (f76 : Nat) (F4 : Mm) (i : Nat) (n : Nat), 42 - i < f76 → (n = i + 1) → (i ≤ (gH G p * gT' G h / 10)) → (i ≤ 41) → ((gR G h = true → gX G p + i < gW G ∨ i = 0) ∧ (gR G h = false → i ≤ gX G p)) → ((∀ t c, t < h → c < gW G → F4 (658 + t) c = (mk (fun p => shG G t p c) (gN G) : Nat))) → ((∀ c, c < gW G → F4 (658 + h) c = (mk (shI G h p i c) (p + 1) : Nat))) → ((∀ q, ¬ (658 ≤ q ∧ q ≤ 681) → F4 q = E q)) → AT g κ K2 z 0 0 76 [(0, mR 125), (1, mI ((d : Nat) : Int)), (2, mI ((h : Nat) : Int)), (3, mI ((gT' G h : Nat) : Int)), (4, mI wy), (5, mI ((p : Nat) : Int)), (6, mI ((n : Nat) : Int))] [] (ov F4) := by
                  intro f76
                  induction f76 with
                  | zero => intro F4 i n hf76; omega
                  | succ f76 ih76 =>
                  intro F4 i n hf76 hn hi hi40 hreach ho_F4 hr_F4 hf_F4
                  refine at_iload 78 X rfl dX12_laysRaw_76 rfl ?_
                  have hR_F4 : RTW F4 P Q := hR_E.fr (fun q hq => hf_F4 q (by omega)) hP
                  have hp_F4 : RPg F4 G := ⟨by rw [hf_F4 125 (by omega)]; exact hp_E.1, fun p hp => by rw [hf_F4 (142 + p) (by omega)]; exact hp_E.2 p hp⟩
                  refine at_aload_n 79 X rfl rfl dX12_laysRaw_78 rfl ?_
                  refine m_getR 82 X f_X12_31 k_125 r_125_14 dX12_laysRaw_79 rfl ?_
                  refine at_iload 84 X rfl dX12_laysRaw_82 rfl ?_
                  refine m_aaloadV 85 X p (by omega) k_141 (by decide) (by omega) (rr_141 _ (by omega)) dX12_laysRaw_84 rfl ?_
                  refine at_iconst 86 X (by decide) dX12_laysRaw_85 rfl ?_
                  refine m_ialoadV 87 X 1 (by omega) ((gH G p : Nat) : Int) (hp_F4.2 p (by omega)).1 (kr_141 _ (by omega)) (er_141 _ (by omega)) (by omega) dX12_laysRaw_86 rfl ?_
                  have := (hW.2.2.1 p (by omega)).1
                  refine at_iload_n 88 X rfl rfl dX12_laysRaw_87 rfl ?_
                  have hm := Nat.mul_le_mul (show gH G p ≤ 99 by omega) (show gT' G h ≤ 99 from hW.2.2.2.1 h (by omega))
                  refine at_imulV 89 X (((gH G p) * (gT' G h) : Nat) : Int) (w32_v (Int.natCast_mul _ _).symm (by omega) (by omega)) dX12_laysRaw_88 rfl ?_
                  refine at_bipush 91 X (by decide) (by decide) dX12_laysRaw_89 rfl ?_
                  refine at_idivV 92 X (by omega) (((gH G p * gT' G h / 10) : Nat) : Int) (w32_v (Int.ofNat_tdiv (gH G p * gT' G h) 10).symm (by omega) (by omega)) dX12_laysRaw_91 rfl ?_
                  refine at_icmp_gt 95 152 X dX12_laysRaw_92 rfl (by decide) (fun h92 => ?_) (fun h92 => ?_)
                  · have hfin : ∀ c, c < gW G → shB (gW G) (gX G p) i (gR G h) c = shG G h p c := fun c hc => by rw [show i = (gH G p * gT' G h / 10) by omega]; rfl
                    refine at_iincV 155 X ((p + 1 : Nat) : Int) (w32_v (by omega) (by omega) (by omega)) rfl dX12_laysRaw_152 rfl (by decide) ?_
                    refine at_goto 64 X dX12_laysRaw_155 (by decide) ?_
                    exact at_sub _ (by exact ⟨rfl, rfl, rfl, rfl, rfl, rfl, trivial⟩) (ih64 F4 (p + 1) (by first | omega | (simp only [] at *; omega)) (by first | omega | assumption) ho_F4 (fun c hc => by rw [hr_F4 c hc]; exact congrArg (fun q : Nat => (q : Int)) (mk_congr (fun j hj => if e : j = p then by subst e; unfold shI; rw [if_pos rfl]; exact hfin c hc else if_neg e))) hf_F4)
                  · have hx0 : gX G p < gW G := (hW.2.2.1 p (by omega)).2.resolve_right (fun q => by rw [q.2, Nat.zero_mul] at h92; omega)
                    have hwn : wy * ((n : Nat) : Int) = (if gR G h = true then (n : Int) else -(n : Int)) := by
                      rcases hwy with ⟨q1, q2⟩ | ⟨q1, q2⟩
                      · rw [q1, q2, if_pos rfl]; omega
                      · rw [q1, q2, if_neg (by decide)]; omega
                    refine at_aload_n 96 X rfl rfl dX12_laysRaw_95 rfl ?_
                    refine at_aload_n 97 X rfl rfl dX12_laysRaw_96 rfl ?_
                    refine m_getR 100 X f_X12_31 k_125 r_125_14 dX12_laysRaw_97 rfl ?_
                    refine at_iload 102 X rfl dX12_laysRaw_100 rfl ?_
                    refine m_aaloadV 103 X p (by omega) k_141 (by decide) (by omega) (rr_141 _ (by omega)) dX12_laysRaw_102 rfl ?_
                    refine at_iconst 104 X (by decide) dX12_laysRaw_103 rfl ?_
                    refine m_ialoadV 105 X 0 (by omega) (F4 (142 + p) 0) rfl (kr_141 _ (by omega)) (er_141 _ (by omega)) (by omega) dX12_laysRaw_104 rfl ?_
                    have := (hp_F4.2 p (by omega)).2
                    have := (hW.2.2.1 p (by omega)).2
                    refine at_iload 107 X rfl dX12_laysRaw_105 rfl ?_
                    refine at_iload 109 X rfl dX12_laysRaw_107 rfl ?_
                    refine at_imulV 110 X (if gR G h = true then (n : Int) else -(n : Int)) (w32_v hwn (by split <;> omega) (by split <;> omega)) dX12_laysRaw_109 rfl ?_
                    refine at_iaddV 111 X (F4 (142 + p) 0 + (if gR G h = true then (n : Int) else -(n : Int))) (w32_v rfl (by split <;> omega) (by split <;> omega)) dX12_laysRaw_110 rfl ?_
                    refine at_callV 114 X _ 12 (cw_X12_isCell hG F4 P Q hP hR_F4 (F4 (142 + p) 0 + (if gR G h = true then (n : Int) else -(n : Int)))) clX12 rfl k_125 mo_X12_isCell w_2154 vo_X12_isCell.1 vo_X12_isCell.2 rfl rfl (crm Rt (by decide)) (Nat.le_of_ble_eq_true rfl) dX12_laysRaw_111 rfl ?_
                    rintro _ _ ⟨rfl, rfl⟩
                    refine at_if_eq 117 152 X dX12_laysRaw_114 rfl (by decide) (fun h114 => ?_) (fun h114 => ?_)
                    · have h114 : ¬ (0 ≤ (F4 (142 + p) 0 + (if gR G h = true then (n : Int) else -(n : Int))) ∧ (F4 (142 + p) 0 + (if gR G h = true then (n : Int) else -(n : Int))) ≤ (sW P : Int) - 1) := ite_no.mp h114
                      have hfin : ∀ c, c < gW G → shB (gW G) (gX G p) i (gR G h) c = shG G h p c := fun c hc => sh_far hc (by omega) (by split at h114 <;> first | exact Or.inl ⟨by assumption, by omega⟩ | exact Or.inr ⟨Bool.eq_false_iff.mpr (by assumption), by omega⟩)
                      refine at_iincV 155 X ((p + 1 : Nat) : Int) (w32_v (by omega) (by omega) (by omega)) rfl dX12_laysRaw_152 rfl (by decide) ?_
                      refine at_goto 64 X dX12_laysRaw_155 (by decide) ?_
                      exact at_sub _ (by exact ⟨rfl, rfl, rfl, rfl, rfl, rfl, trivial⟩) (ih64 F4 (p + 1) (by first | omega | (simp only [] at *; omega)) (by first | omega | assumption) ho_F4 (fun c hc => by rw [hr_F4 c hc]; exact congrArg (fun q : Nat => (q : Int)) (mk_congr (fun j hj => if e : j = p then by subst e; unfold shI; rw [if_pos rfl]; exact hfin c hc else if_neg e))) hf_F4)
                    · have h114 : (0 ≤ (F4 (142 + p) 0 + (if gR G h = true then (n : Int) else -(n : Int))) ∧ (F4 (142 + p) 0 + (if gR G h = true then (n : Int) else -(n : Int))) ≤ (sW P : Int) - 1) := ite_yes.mp h114
                      have hX : F4 (142 + p) 0 = (gX G p : Int) := by omega
                      have hcell : (if gR G h = true then gX G p + n else gX G p - n) < gW G := by split at h114 <;> rename_i hz <;> first | (rw [if_pos hz]; omega) | (rw [if_neg hz]; omega)
                      refine at_aload_n 118 X rfl rfl dX12_laysRaw_117 rfl ?_
                      refine m_getR 121 X f_X12_110 k_125 r_125_49 dX12_laysRaw_118 rfl ?_
                      refine at_iload_n 122 X rfl rfl dX12_laysRaw_121 rfl ?_
                      refine m_aaloadV 123 X h (by omega) k_657 (by decide) (by omega) (rr_657 _ (by omega)) dX12_laysRaw_122 rfl ?_
                      refine at_aload_n 124 X rfl rfl dX12_laysRaw_123 rfl ?_
                      refine m_getR 127 X f_X12_31 k_125 r_125_14 dX12_laysRaw_124 rfl ?_
                      refine at_iload 129 X rfl dX12_laysRaw_127 rfl ?_
                      refine m_aaloadV 130 X p (by omega) k_141 (by decide) (by omega) (rr_141 _ (by omega)) dX12_laysRaw_129 rfl ?_
                      refine at_iconst 131 X (by decide) dX12_laysRaw_130 rfl ?_
                      refine m_ialoadV 132 X 0 (by omega) (F4 (142 + p) 0) rfl (kr_141 _ (by omega)) (er_141 _ (by omega)) (by omega) dX12_laysRaw_131 rfl ?_
                      have := (hp_F4.2 p (by omega)).2
                      have := (hW.2.2.1 p (by omega)).2
                      refine at_iload 134 X rfl dX12_laysRaw_132 rfl ?_
                      refine at_iload 136 X rfl dX12_laysRaw_134 rfl ?_
                      refine at_imulV 137 X (if gR G h = true then (n : Int) else -(n : Int)) (w32_v hwn (by split <;> omega) (by split <;> omega)) dX12_laysRaw_136 rfl ?_
                      refine at_iaddV 138 X (((if gR G h = true then gX G p + n else gX G p - n) : Nat) : Int) (w32_v (by rw [hX]; split at h114 <;> rename_i hz <;> first | (rw [if_pos hz, if_pos hz]; omega) | (rw [if_neg hz, if_neg hz]; omega)) (by omega) (by omega)) dX12_laysRaw_137 rfl ?_
                      refine at_dup2 139 X (show ¬ (0 : Nat) = 1 by decide) (show ¬ (2 : Nat) = 1 by decide) dX12_laysRaw_138 rfl ?_
                      refine m_ialoadV 140 X (if gR G h = true then gX G p + n else gX G p - n) (by omega) ((mk (shI G h p i (if gR G h = true then gX G p + n else gX G p - n)) (p + 1) : Nat) : Int) (hr_F4 _ hcell) (kr_657 _ (by omega)) (er_657 _ (by omega)) (by omega) dX12_laysRaw_139 rfl ?_
                      have hmk := mk11 (p := shI G h p i (if gR G h = true then gX G p + n else gX G p - n)) (n := p + 1) (by omega)
                      refine at_iconst 141 X (by decide) dX12_laysRaw_140 rfl ?_
                      refine at_iload 143 X rfl dX12_laysRaw_141 rfl ?_
                      refine at_ishlV 144 X ((2 ^ p : Nat) : Int) (ishl1 (by omega)) dX12_laysRaw_143 rfl ?_
                      refine at_iorV 145 X ((mk (shI G h p (i + 1) (if gR G h = true then gX G p + n else gX G p - n)) (p + 1) : Nat) : Int) ((ior_nat (by omega) (p2_31 (by omega))).trans (mk_or1 (by omega) (fun j hj => shI_at hcell (by rw [hn]) (by split at h114 <;> rename_i hz <;> first | exact Or.inl hz | exact Or.inr (by omega))))) dX12_laysRaw_144 rfl ?_
                      refine m_iastoreV 146 X (if gR G h = true then gX G p + n else gX G p - n) (by omega) (kr_657 _ (by omega)) (er_657 _ (by omega)) (by omega) dX12_laysRaw_145 rfl ?_
                      refine at_iincV 149 X ((n + 1 : Nat) : Int) (w32_v (by omega) (by omega) (by omega)) rfl dX12_laysRaw_146 rfl (by decide) ?_
                      refine at_goto 76 X dX12_laysRaw_149 (by decide) ?_
                      exact at_sub _ (by exact ⟨rfl, rfl, rfl, rfl, rfl, rfl, rfl, trivial⟩) (ih76 (wr F4 (658 + h) (if gR G h = true then gX G p + n else gX G p - n) ((mk (shI G h p (i + 1) (if gR G h = true then gX G p + n else gX G p - n)) (p + 1) : Nat) : Int)) (i + 1) (n + 1) (by first | omega | (simp only [] at *; omega)) (by omega) (by omega) (by split at h114 <;> omega) (by split at h114 <;> rename_i hz <;> first | exact ⟨fun _ => Or.inl (by omega), fun q => by rw [hz] at q; cases q⟩ | exact ⟨fun q => absurd q hz, fun _ => by omega⟩) (fun t c ht hc => by rw [wr_o (Or.inl (by omega))]; exact ho_F4 t c ht hc) (fun c hc => if e : c = (if gR G h = true then gX G p + n else gX G p - n) then by subst e; exact wr_s _ _ _ _ else by rw [wr_o (Or.inr e), hr_F4 c hc]; exact congrArg (fun q : Nat => (q : Int)) (mk_congr (fun j hj => (shI_off (by rw [hn] at e; exact e) (by rw [hn] at h114; split at h114 <;> rename_i hz <;> first | exact Or.inl ⟨hz, by omega⟩ | exact Or.inr ⟨hz, by omega⟩)).symm))) (fun q hq => by rw [wr_row (by omega)]; exact hf_F4 q hq))
                exact at_sub _ (by exact ⟨rfl, rfl, rfl, rfl, rfl, rfl, rfl, trivial⟩) (J76 _ F3 0 1 (Nat.lt_succ_self _) rfl (by first | omega | assumption | rfl) (by first | omega | assumption | rfl) ⟨fun _ => Or.inr rfl, fun _ => Nat.zero_le _⟩ ho_F3 (fun c hc => by rw [hr_F3 c hc, mk_f (p := shI G h p 0 c) (by unfold shI; rw [if_pos rfl, shB_0]; decide)]; exact congrArg (fun q : Nat => (q : Int)) (mk_congr (fun j hj => (if_neg (by omega)).symm))) hf_F3)
            exact at_sub _ (by exact ⟨rfl, rfl, rfl, rfl, rfl, rfl, trivial⟩) (J64 _ F2 0 (Nat.lt_succ_self _) (by first | omega | assumption | rfl) ho_F2 (fun c hc => hr_F2 c (by omega)) hf_F2)
          refine at_aload_n 44 X rfl rfl dX12_laysRaw_43 rfl ?_
          refine at_iload_n 45 X rfl rfl dX12_laysRaw_44 rfl ?_
          refine at_iload_n 46 X rfl rfl dX12_laysRaw_45 rfl ?_
          refine at_iconst 47 X (by decide) dX12_laysRaw_46 rfl ?_
          refine at_callV 50 X _ 12 (cw_X12_lightOf2 hG F2 P Q hP hR_F2 h d (by omega) (by omega)) clX12 rfl k_125 mo_X12_lightOf w_2138 vo_X12_lightOf.1 vo_X12_lightOf.2 rfl rfl (crm Rt (by decide)) (Nat.le_of_ble_eq_true rfl) dX12_laysRaw_47 rfl ?_
          rintro _ _ ⟨rfl, rfl⟩
          rw [← hgr h (by omega)]
          refine at_iconst 51 X (by decide) dX12_laysRaw_50 rfl ?_
          refine at_icmp_ne 54 58 X dX12_laysRaw_51 rfl (by decide) (fun h51 => ?_) (fun h51 => ?_)
          · have hgR : gR G h = false := by
              cases e : gR G h with
              | false => rfl
              | true => rw [e] at h51; exact absurd rfl h51
            refine at_iconst 59 X (by decide) dX12_laysRaw_58 rfl ?_
            refine at_istore 61 X dX12_laysRaw_59 rfl (by decide) ?_
            exact at_sub _ (by exact ⟨rfl, rfl, rfl, rfl, rfl, trivial⟩) (J61 (-1) (by first | exact Or.inl ⟨hgR, rfl⟩ | exact Or.inr ⟨hgR, rfl⟩))
          · have hgR : gR G h = true := by
              cases e : gR G h with
              | false => rw [e] at h51; exact absurd h51 (by decide)
              | true => rfl
            refine at_iconst 55 X (by decide) dX12_laysRaw_54 rfl ?_
            refine at_goto 59 X dX12_laysRaw_55 (by decide) ?_
            refine at_istore 61 X dX12_laysRaw_59 rfl (by decide) ?_
            exact at_sub _ (by exact ⟨rfl, rfl, rfl, rfl, rfl, trivial⟩) (J61 1 (by first | exact Or.inl ⟨hgR, rfl⟩ | exact Or.inr ⟨hgR, rfl⟩))
        · refine at_aload_n 21 X rfl rfl dX12_laysRaw_20 rfl ?_
          refine m_getR 24 X f_X12_110 k_125 r_125_49 dX12_laysRaw_21 rfl ?_
          refine at_iload_n 25 X rfl rfl dX12_laysRaw_24 rfl ?_
          refine m_aaloadV 26 X h (by omega) k_657 (by decide) (by omega) (rr_657 _ (by omega)) dX12_laysRaw_25 rfl ?_
          refine at_iload_n 27 X rfl rfl dX12_laysRaw_26 rfl ?_
          refine at_iconst 28 X (by decide) dX12_laysRaw_27 rfl ?_
          refine m_iastoreV 29 X x (by omega) (kr_657 _ (by omega)) (er_657 _ (by omega)) (by omega) dX12_laysRaw_28 rfl ?_
          refine at_iincV 32 X ((x + 1 : Nat) : Int) (w32_v (by omega) (by omega) (by omega)) rfl dX12_laysRaw_29 rfl (by decide) ?_
          refine at_goto 10 X dX12_laysRaw_32 (by decide) ?_
          exact at_sub _ (by exact ⟨rfl, rfl, rfl, rfl, trivial⟩) (ih10 (wr F2 (658 + h) x 0) (x + 1) (by first | omega | (simp only [] at *; omega)) (by first | omega | assumption) (fun t c ht hc => by rw [wr_o (by omega)]; exact ho_F2 t c ht hc) (fun c hc => if e : c = x then by subst e; exact wr_s _ _ _ _ else by rw [wr_o (Or.inr e)]; exact hr_F2 c (by omega)) (fun q hq => by rw [wr_row (by omega)]; exact hf_F2 q hq))
      exact at_sub _ (by exact ⟨rfl, rfl, rfl, rfl, trivial⟩) (J10 _ F 0 (Nat.lt_succ_self _) (by first | omega | assumption | rfl) ho_F (fun c hc => absurd hc (Nat.not_lt_zero c)) hf_F)
  exact at_sub _ (by exact ⟨rfl, rfl, rfl, trivial⟩) (J2 _ E 0 (Nat.lt_succ_self _) (by first | omega | assumption | rfl) (fun t c ht => absurd ht (Nat.not_lt_zero t)) (fun _ _ => rfl))
theorem cw_X12_laysShades {g : Gw} (hG : GF g) {z : Bool} (E : Mm) (P : SP) (Q : RX) (hP : WS P) (hR_E : RTW E P Q) (G : GP) (hW : WR G) (hgw : gW G = sW P) (hp_E : RPg E G) (nl : Nat) (lx lr : Nat → Nat) (hl_E : RLg E G nl lx lr) (hc_E : E 125 54 = (mk (gC G) 24 : Nat)) (hrw_E : RRw E G 24) (hlw_E : RLw E (gLw G)) (st : Nat) (hst : st < 2147483648) (hK_E : RKn E (gLw G) st) : CT g yX12_laysShades cX12_laysShades 6 none 4 90 0 0 K2 z [mR 125] (ov E) K2 z (fun r D' => r = none ∧ ∃ E1, D' = ov E1 ∧ RSh E1 G 24 ∧ RKn E1 (gLw G) st ∧ (∀ q, ¬ (576 ≤ q ∧ q ≤ 579) → ¬ (683 ≤ q ∧ q ≤ 706) → ¬ (708 ≤ q ∧ q ≤ 731) → E1 q = E q)) := by
  refine CT.mk hG (by decide +kernel) (Nat.le_of_ble_eq_true rfl) (fun κ X Rt _ ok => ?_)
  have hN11 := hW.2.1
  have hW40 := hW.1
  refine at_iconst 1 X (by decide) dX12_laysShades_0 rfl ?_
  refine at_istore_n 2 X rfl dX12_laysShades_1 rfl (by decide) ?_
  refine at_iconst 3 X (by decide) dX12_laysShades_2 rfl ?_
  refine at_istore_n 4 X rfl dX12_laysShades_3 rfl (by decide) ?_
  have J4 : ∀ (f4 : Nat) (F : Mm) (h : Nat) (la : Int), 24 - h < f4 → (h ≤ 24) → (la = itr (fun i v => if gC G i then v else (i : Int)) (-1) h) → (RSh F G h) → (RKn F (gLw G) st) → ((∀ q, ¬ (576 ≤ q ∧ q ≤ 579) → ¬ (683 ≤ q ∧ q ≤ 706) → ¬ (708 ≤ q ∧ q ≤ 731) → F q = E q)) → AT g κ K2 z 0 0 4 [(0, mR 125), (1, mI la), (2, mI ((h : Nat) : Int))] [] (ov F) := by
    intro f4
    induction f4 with
    | zero => intro F h la hf4; omega
    | succ f4 ih4 =>
    intro F h la hf4 hh hla hs_F hK_F hf_F
    refine at_iload_n 5 X rfl rfl dX12_laysShades_4 rfl ?_
    refine at_bipush 7 X (by decide) (by decide) dX12_laysShades_5 rfl ?_
    refine at_icmp_ge 10 184 X dX12_laysShades_7 rfl (by decide) (fun h7 => ?_) (fun h7 => ?_)
    · refine at_vret X Rt ?_ (Nat.le_refl _) (Nat.le_refl _) dX12_laysShades_184
      have h24 : h = 24 := by omega
      subst h24
      exact ⟨rfl, F, rfl, hs_F, hK_F, hf_F⟩
    · have hc_F : F 125 54 = (mk (gC G) 24 : Nat) := by rw [hf_F 125 (by omega) (by omega) (by omega)]; exact hc_E
      have J38 : ∀ (cl : Int) (lb : Int), (cl = if gC G h = true then 1 else 0) → (lb = lcl (gC G) h) → AT g κ K2 z 0 0 38 [(0, mR 125), (1, mI lb), (2, mI ((h : Nat) : Int)), (3, mI cl)] [] (ov F) := by
        intro cl lb hcl hlb
        refine at_iconst 39 X (by decide) dX12_laysShades_38 rfl ?_
        refine at_istore 41 X dX12_laysShades_39 rfl (by decide) ?_
        have J41 : ∀ (f41 : Nat) (F2 : Mm) (x : Nat), 40 - x < f41 → (x ≤ sW P) → (RSh F2 G h) → ((∀ c, c < x → F2 (683 + h) c = (shd G (gLm G c) h c : Nat) ∧ F2 (708 + h) c = bOn G h c)) → (RKn F2 (gLw G) st) → ((∀ q, ¬ (576 ≤ q ∧ q ≤ 579) → ¬ (683 ≤ q ∧ q ≤ 706) → ¬ (708 ≤ q ∧ q ≤ 731) → F2 q = E q)) → AT g κ K2 z 0 0 41 [(0, mR 125), (1, mI lb), (2, mI ((h : Nat) : Int)), (3, mI cl), (4, mI ((x : Nat) : Int))] [] (ov F2) := by
          intro f41
          induction f41 with
          | zero => intro F2 x hf41; omega
          | succ f41 ih41 =>
          intro F2 x hf41 hx hs_F2 hn_F2 hK_F2 hf_F2
          refine at_iload 43 X rfl dX12_laysShades_41 rfl ?_
          have hR_F2 : RTW F2 P Q := hR_E.fr (fun q hq => hf_F2 q (by omega) (by omega) (by omega)) hP
          have hp_F2 : RPg F2 G := ⟨by rw [hf_F2 125 (by omega) (by omega) (by omega)]; exact hp_E.1, fun p hp => by rw [hf_F2 (142 + p) (by omega) (by omega) (by omega)]; exact hp_E.2 p hp⟩
          have hl_F2 : RLg F2 G nl lx lr := ⟨by rw [hf_F2 125 (by omega) (by omega) (by omega)]; exact hl_E.1, hl_E.2.1, fun k hk => by have := hl_E.2.1; rw [hf_F2 (209 + k) (by omega) (by omega) (by omega)]; exact hl_E.2.2.1 k hk, hl_E.2.2.2⟩
          have hlw_F2 : RLw F2 (gLw G) := hlw_E.fr hW.2.2.2.2.2.1 (by rw [hf_F2 125 (by omega) (by omega) (by omega)]) (fun q h1 h2 => hf_F2 q (by omega) (by omega) (by omega))
          have hrw_F2 : RRw F2 G 24 := fun h c hh hc => by rw [hf_F2 (658 + h) (by omega) (by omega) (by omega)]; exact hrw_E h c hh hc
          have hc_F2 : F2 125 54 = (mk (gC G) 24 : Nat) := by rw [hf_F2 125 (by omega) (by omega) (by omega)]; exact hc_E
          refine at_aload_n 44 X rfl rfl dX12_laysShades_43 rfl ?_
          refine m_getR 47 X f_X12_23 k_125 r_125_12 dX12_laysShades_44 rfl ?_
          refine at_iconst 48 X (by decide) dX12_laysShades_47 rfl ?_
          refine m_ialoadV 49 X 0 (by omega) ((sW P : Nat) : Int) hR_F2.1.1 k_129 e_129 (by omega) dX12_laysShades_48 rfl ?_
          have := hP.W
          refine at_icmp_ge 52 178 X dX12_laysShades_49 rfl (by decide) (fun h49 => ?_) (fun h49 => ?_)
          · refine at_iincV 181 X ((h + 1 : Nat) : Int) (w32_v (by omega) (by omega) (by omega)) rfl dX12_laysShades_178 rfl (by decide) ?_
            refine at_goto 4 X dX12_laysShades_181 (by decide) ?_
            exact at_sub _ (by exact ⟨rfl, rfl, rfl, trivial⟩) (ih4 F2 (h + 1) lb (by first | omega | (simp only [] at *; omega)) (by first | omega | assumption) hlb (fun t c ht hc => if e : t = h then by subst e; exact hn_F2 c (by omega) else hs_F2 t c (by omega) hc) hK_F2 hf_F2)
          · refine at_aload_n 53 X rfl rfl dX12_laysShades_52 rfl ?_
            refine at_iload 55 X rfl dX12_laysShades_53 rfl ?_
            refine at_callV 58 X _ 12 (ct_X12_isLit hG F2 G hW nl lx lr hl_F2 x (by omega)) clX12 rfl k_125 mo_X12_isLit w_2178 vo_X12_isLit.1 vo_X12_isLit.2 rfl rfl (crm Rt (by decide)) (Nat.le_of_ble_eq_true rfl) dX12_laysShades_55 rfl ?_
            rintro _ _ ⟨rfl, rfl⟩
            refine at_istore 60 X dX12_laysShades_58 rfl (by decide) ?_
            refine at_aload_n 61 X rfl rfl dX12_laysShades_60 rfl ?_
            refine m_getR 64 X f_X12_113 k_125 r_125_50 dX12_laysShades_61 rfl ?_
            refine at_iload_n 65 X rfl rfl dX12_laysShades_64 rfl ?_
            refine m_aaloadV 66 X h (by omega) k_682 (by decide) (by omega) (rr_682 _ (by omega)) dX12_laysShades_65 rfl ?_
            refine at_iload 68 X rfl dX12_laysShades_66 rfl ?_
            have J107 : ∀ (n : Nat), (n = shd G (gLm G x) h x) → AT g κ K2 z 0 0 107 [(0, mR 125), (1, mI lb), (2, mI ((h : Nat) : Int)), (3, mI cl), (4, mI ((x : Nat) : Int)), (5, mI (if gLm G x = true then 1 else 0))] [mI ((n : Nat) : Int), mI ((x : Nat) : Int), mR (683 + h)] (ov F2) := by
              intro n hn
              have hn2 := shd_lt G hN11 (gLm G x) h x
              have hcn := cntp_le (fun j => n.testBit j) 24
              have hc11 : cntp (fun j => n.testBit j) 24 ≤ 11 := by rw [hn, cnt_24 G hN11]; exact cntp_le _ _
              refine m_iastoreV 108 X x (by omega) (kr_682 _ (by omega)) (er_682 _ (by omega)) (by omega) dX12_laysShades_107 rfl ?_
              refine at_aload_n 109 X rfl rfl dX12_laysShades_108 rfl ?_
              refine m_getR 112 X f_X12_116 k_125 r_125_51 dX12_laysShades_109 rfl ?_
              refine at_iload_n 113 X rfl rfl dX12_laysShades_112 rfl ?_
              refine m_aaloadV 114 X h (by omega) k_707 (by decide) (by omega) (rr_707 _ (by omega)) dX12_laysShades_113 rfl ?_
              refine at_iload 116 X rfl dX12_laysShades_114 rfl ?_
              refine at_aload_n 117 X rfl rfl dX12_laysShades_116 rfl ?_
              refine at_iload 119 X rfl dX12_laysShades_117 rfl ?_
              refine at_callV 122 X _ 12 (ct_X12_isPosted hG (wr F2 (683 + h) x ((n : Nat) : Int)) G hW ⟨by rw [wr_row (by omega)]; exact hp_F2.1, fun p hp => by rw [wr_row (by omega)]; exact hp_F2.2 p hp⟩ x (by omega)) clX12 rfl k_125 mo_X12_isPosted w_2182 vo_X12_isPosted.1 vo_X12_isPosted.2 rfl rfl (crm Rt (by decide)) (Nat.le_of_ble_eq_true rfl) dX12_laysShades_119 rfl ?_
              rintro _ _ ⟨rfl, rfl⟩
              refine at_if_eq 125 131 X dX12_laysShades_122 rfl (by decide) (fun h122 => ?_) (fun h122 => ?_)
              · have h122 : ¬ (isP G x = true) := ite_no.mp h122
                refine at_aload_n 132 X rfl rfl dX12_laysShades_131 rfl ?_
                refine at_aload_n 133 X rfl rfl dX12_laysShades_132 rfl ?_
                refine m_getR 136 X f_X12_113 k_125 r_125_50 dX12_laysShades_133 rfl ?_
                refine at_iload_n 137 X rfl rfl dX12_laysShades_136 rfl ?_
                refine m_aaloadV 138 X h (by omega) k_682 (by decide) (by omega) (rr_682 _ (by omega)) dX12_laysShades_137 rfl ?_
                refine at_iload 140 X rfl dX12_laysShades_138 rfl ?_
                refine m_ialoadV 141 X x (by omega) ((n : Nat) : Int) (wr_s _ _ _ _) (kr_682 _ (by omega)) (er_682 _ (by omega)) (by omega) dX12_laysShades_140 rfl ?_
                refine at_callS 144 X (ct_X12_ones hG (wr F2 (683 + h) x ((n : Nat) : Int)) n (by omega)) mo_X12_ones w_2186 so_X12_ones rfl rfl (crm Rt (by decide)) (Nat.le_of_ble_eq_true rfl) dX12_laysShades_141 rfl ?_
                rintro _ _ ⟨rfl, rfl⟩
                have := cntp_le (fun j => (n).testBit j) 24
                refine at_aload_n 145 X rfl rfl dX12_laysShades_144 rfl ?_
                refine at_aload_n 146 X rfl rfl dX12_laysShades_145 rfl ?_
                refine m_getR 149 X f_X12_113 k_125 r_125_50 dX12_laysShades_146 rfl ?_
                refine at_iload_n 150 X rfl rfl dX12_laysShades_149 rfl ?_
                refine m_aaloadV 151 X h (by omega) k_682 (by decide) (by omega) (rr_682 _ (by omega)) dX12_laysShades_150 rfl ?_
                refine at_iload 153 X rfl dX12_laysShades_151 rfl ?_
                refine m_ialoadV 154 X x (by omega) ((n : Nat) : Int) (wr_s _ _ _ _) (kr_682 _ (by omega)) (er_682 _ (by omega)) (by omega) dX12_laysShades_153 rfl ?_
                refine at_callV 157 X _ 12 (ct_X12_tallOf hG (wr F2 (683 + h) x ((n : Nat) : Int)) G hW ⟨by rw [wr_row (by omega)]; exact hp_F2.1, fun p hp => by rw [wr_row (by omega)]; exact hp_F2.2 p hp⟩ n (by omega)) clX12 rfl k_125 mo_X12_tallOf w_2189 vo_X12_tallOf.1 vo_X12_tallOf.2 rfl rfl (crm Rt (by decide)) (Nat.le_of_ble_eq_true rfl) dX12_laysShades_154 rfl ?_
                rintro _ _ ⟨rfl, rfl⟩
                have htl : talG G n ≤ 99 := talG_le G (fun p hp => (hW.2.2.1 p hp).1) _
                refine at_iload_n 158 X rfl rfl dX12_laysShades_157 rfl ?_
                refine at_iload 160 X rfl dX12_laysShades_158 rfl ?_
                refine at_if_eq 163 167 X dX12_laysShades_160 rfl (by decide) (fun h160 => ?_) (fun h160 => ?_)
                · have h160 : ¬ (gLm G x = true) := ite_no.mp h160
                  refine at_iconst 168 X (by decide) dX12_laysShades_167 rfl ?_
                  refine at_callV 171 X _ 12 (ct_X12_bearingOf hG (wr F2 (683 + h) x ((n : Nat) : Int)) (gLw G) (hlw_F2.fr hW.2.2.2.2.2.1 (by rw [wr_row (by omega)]) (fun q h1 h2 => wr_row (by omega))) hW.2.2.2.2 st hst ⟨by rw [wr_row (by omega)]; exact hK_F2.1, by rw [wr_row (by omega), wr_row (by omega)]; exact hK_F2.2⟩ (cntp (fun j => (n).testBit j) 24) (talG G n) h 0 (by omega) (by omega) (by omega) (by omega)) clX12 rfl k_125 mo_X12_bearingOf w_2077 vo_X12_bearingOf.1 vo_X12_bearingOf.2 rfl rfl (crm Rt (by decide)) (Nat.le_of_ble_eq_true rfl) dX12_laysShades_168 rfl ?_
                  rintro _ _ ⟨rfl, F6, rfl, hK_F6, hq_F6⟩
                  have hbv : borP (gLw G) ((cntp (fun j => (n).testBit j) 24 : Nat) : Int) ((talG G n : Nat) : Int) ((h : Nat) : Int) 0 = bOn G h x := by rw [bOn_n h122, hn, cnt_24 G hN11]; first | (rw [if_pos h160]; done) | (rw [if_neg h160]; done) | (rw [if_pos h160]; rfl) | (rw [if_neg h160]; rfl)
                  refine m_iastoreV 172 X x (by omega) (kr_707 _ (by omega)) (er_707 _ (by omega)) (by omega) dX12_laysShades_171 rfl ?_
                  refine at_iincV 175 X ((x + 1 : Nat) : Int) (w32_v (by omega) (by omega) (by omega)) rfl dX12_laysShades_172 rfl (by decide) ?_
                  refine at_goto 41 X dX12_laysShades_175 (by decide) ?_
                  exact at_sub _ (by exact ⟨rfl, rfl, rfl, rfl, rfl, trivial⟩) (ih41 (wr F6 (708 + h) x (borP (gLw G) ((cntp (fun j => (n).testBit j) 24 : Nat) : Int) ((talG G n : Nat) : Int) ((h : Nat) : Int) 0)) (x + 1) (by first | omega | (simp only [] at *; omega)) (by first | omega | assumption) (fun t c ht hc => by rw [wr_row (by omega), wr_row (by omega), hq_F6 (683 + t) (by omega) (by omega) (by omega) (by omega), hq_F6 (708 + t) (by omega) (by omega) (by omega) (by omega), wr_row (by omega), wr_row (by omega)]; exact hs_F2 t c ht hc) (fun c hc => if e : c = x then by subst e; rw [wr_row (by omega), wr_s, hq_F6 (683 + h) (by omega) (by omega) (by omega) (by omega), wr_s]; exact ⟨congrArg (fun q : Nat => (q : Int)) hn, hbv⟩ else by rw [wr_row (by omega), wr_o (Or.inr e), hq_F6 (683 + h) (by omega) (by omega) (by omega) (by omega), hq_F6 (708 + h) (by omega) (by omega) (by omega) (by omega), wr_o (Or.inr e), wr_row (by omega)]; exact hn_F2 c (by omega)) ⟨by rw [wr_row (by omega)]; exact hK_F6.1, by rw [wr_row (by omega), wr_row (by omega)]; exact hK_F6.2⟩ (fun q h1 h2 h3 => by rw [wr_row (by omega), hq_F6 q (by omega) (by omega) (by omega) (by omega), wr_row (by omega)]; exact hf_F2 q h1 h2 h3))
                · have h160 : (gLm G x = true) := ite_yes.mp h160
                  refine at_iconst 164 X (by decide) dX12_laysShades_163 rfl ?_
                  refine at_goto 168 X dX12_laysShades_164 (by decide) ?_
                  refine at_callV 171 X _ 12 (ct_X12_bearingOf hG (wr F2 (683 + h) x ((n : Nat) : Int)) (gLw G) (hlw_F2.fr hW.2.2.2.2.2.1 (by rw [wr_row (by omega)]) (fun q h1 h2 => wr_row (by omega))) hW.2.2.2.2 st hst ⟨by rw [wr_row (by omega)]; exact hK_F2.1, by rw [wr_row (by omega), wr_row (by omega)]; exact hK_F2.2⟩ (cntp (fun j => (n).testBit j) 24) (talG G n) h 1 (by omega) (by omega) (by omega) (by omega)) clX12 rfl k_125 mo_X12_bearingOf w_2077 vo_X12_bearingOf.1 vo_X12_bearingOf.2 rfl rfl (crm Rt (by decide)) (Nat.le_of_ble_eq_true rfl) dX12_laysShades_168 rfl ?_
                  rintro _ _ ⟨rfl, F6, rfl, hK_F6, hq_F6⟩
                  have hbv : borP (gLw G) ((cntp (fun j => (n).testBit j) 24 : Nat) : Int) ((talG G n : Nat) : Int) ((h : Nat) : Int) 1 = bOn G h x := by rw [bOn_n h122, hn, cnt_24 G hN11]; first | (rw [if_pos h160]; done) | (rw [if_neg h160]; done) | (rw [if_pos h160]; rfl) | (rw [if_neg h160]; rfl)
                  refine m_iastoreV 172 X x (by omega) (kr_707 _ (by omega)) (er_707 _ (by omega)) (by omega) dX12_laysShades_171 rfl ?_
                  refine at_iincV 175 X ((x + 1 : Nat) : Int) (w32_v (by omega) (by omega) (by omega)) rfl dX12_laysShades_172 rfl (by decide) ?_
                  refine at_goto 41 X dX12_laysShades_175 (by decide) ?_
                  exact at_sub _ (by exact ⟨rfl, rfl, rfl, rfl, rfl, trivial⟩) (ih41 (wr F6 (708 + h) x (borP (gLw G) ((cntp (fun j => (n).testBit j) 24 : Nat) : Int) ((talG G n : Nat) : Int) ((h : Nat) : Int) 1)) (x + 1) (by first | omega | (simp only [] at *; omega)) (by first | omega | assumption) (fun t c ht hc => by rw [wr_row (by omega), wr_row (by omega), hq_F6 (683 + t) (by omega) (by omega) (by omega) (by omega), hq_F6 (708 + t) (by omega) (by omega) (by omega) (by omega), wr_row (by omega), wr_row (by omega)]; exact hs_F2 t c ht hc) (fun c hc => if e : c = x then by subst e; rw [wr_row (by omega), wr_s, hq_F6 (683 + h) (by omega) (by omega) (by omega) (by omega), wr_s]; exact ⟨congrArg (fun q : Nat => (q : Int)) hn, hbv⟩ else by rw [wr_row (by omega), wr_o (Or.inr e), hq_F6 (683 + h) (by omega) (by omega) (by omega) (by omega), hq_F6 (708 + h) (by omega) (by omega) (by omega) (by omega), wr_o (Or.inr e), wr_row (by omega)]; exact hn_F2 c (by omega)) ⟨by rw [wr_row (by omega)]; exact hK_F6.1, by rw [wr_row (by omega), wr_row (by omega)]; exact hK_F6.2⟩ (fun q h1 h2 h3 => by rw [wr_row (by omega), hq_F6 q (by omega) (by omega) (by omega) (by omega), wr_row (by omega)]; exact hf_F2 q h1 h2 h3))
              · have h122 : (isP G x = true) := ite_yes.mp h122
                refine at_sipush 128 X (by decide) (by decide) dX12_laysShades_125 rfl ?_
                refine at_goto 171 X dX12_laysShades_128 (by decide) ?_
                refine m_iastoreV 172 X x (by omega) (kr_707 _ (by omega)) (er_707 _ (by omega)) (by omega) dX12_laysShades_171 rfl ?_
                refine at_iincV 175 X ((x + 1 : Nat) : Int) (w32_v (by omega) (by omega) (by omega)) rfl dX12_laysShades_172 rfl (by decide) ?_
                refine at_goto 41 X dX12_laysShades_175 (by decide) ?_
                exact at_sub _ (by exact ⟨rfl, rfl, rfl, rfl, rfl, trivial⟩) (ih41 (wr (wr F2 (683 + h) x ((n : Nat) : Int)) (708 + h) x 999) (x + 1) (by first | omega | (simp only [] at *; omega)) (by first | omega | assumption) (fun t c ht hc => by rw [wr_row (by omega), wr_row (by omega), wr_row (by omega), wr_row (by omega)]; exact hs_F2 t c ht hc) (fun c hc => if e : c = x then by subst e; rw [wr_row (by omega), wr_s, wr_s]; exact ⟨congrArg (fun q : Nat => (q : Int)) hn, (bOn_p h122).symm⟩ else by rw [wr_row (by omega), wr_o (Or.inr e), wr_o (Or.inr e), wr_row (by omega)]; exact hn_F2 c (by omega)) ⟨by rw [wr_row (by omega), wr_row (by omega)]; exact hK_F2.1, by rw [wr_row (by omega), wr_row (by omega), wr_row (by omega), wr_row (by omega)]; exact hK_F2.2⟩ (fun q h1 h2 h3 => by rw [wr_row (by omega), wr_row (by omega)]; exact hf_F2 q h1 h2 h3))
            refine at_iload_n 69 X rfl rfl dX12_laysShades_68 rfl ?_
            refine at_if_ne 72 84 X dX12_laysShades_69 rfl (by decide) (fun h69 => ?_) (fun h69 => ?_)
            · refine at_iload 86 X rfl dX12_laysShades_84 rfl ?_
              refine at_if_eq 89 106 X dX12_laysShades_86 rfl (by decide) (fun h86 => ?_) (fun h86 => ?_)
              · have h86 : ¬ (gLm G x = true) := ite_no.mp h86
                refine at_iconst 107 X (by decide) dX12_laysShades_106 rfl ?_
                exact at_sub _ (by exact ⟨rfl, rfl, rfl, rfl, rfl, rfl, trivial⟩) (J107 0 (by first | exact (shd_clear (fun q => by rw [if_pos q] at hcl; omega)).symm | exact ((congrArg (fun m => shd G m h x) h86).trans (shd_cloud hl)).symm | exact (shd_dark (Decidable.byContradiction (fun q => by rw [if_neg q] at hcl; omega)) (by first | exact Or.inr h86 | exact Or.inl (by omega))).symm))
              · have h86 : (gLm G x = true) := ite_yes.mp h86
                have hlin := lcl_in (gC G) h
                rw [hlb]
                refine at_iload_n 90 X rfl rfl dX12_laysShades_89 rfl ?_
                refine at_iconst 91 X (by decide) dX12_laysShades_90 rfl ?_
                refine at_icmp_eq 94 106 X dX12_laysShades_91 rfl (by decide) (fun h91 => ?_) (fun h91 => ?_)
                · refine at_iconst 107 X (by decide) dX12_laysShades_106 rfl ?_
                  rw [← hlb]
                  exact at_sub _ (by exact ⟨rfl, rfl, rfl, rfl, rfl, rfl, trivial⟩) (J107 0 (by first | exact (shd_clear (fun q => by rw [if_pos q] at hcl; omega)).symm | exact ((congrArg (fun m => shd G m h x) h86).trans (shd_cloud hl)).symm | exact (shd_dark (Decidable.byContradiction (fun q => by rw [if_neg q] at hcl; omega)) (by first | exact Or.inr h86 | exact Or.inl (by omega))).symm))
                · obtain ⟨l, hl⟩ : ∃ l : Nat, lcl (gC G) h = (l : Int) := ⟨(lcl (gC G) h).toNat, by omega⟩
                  rw [hl]
                  refine at_aload_n 95 X rfl rfl dX12_laysShades_94 rfl ?_
                  refine m_getR 98 X f_X12_110 k_125 r_125_49 dX12_laysShades_95 rfl ?_
                  refine at_iload_n 99 X rfl rfl dX12_laysShades_98 rfl ?_
                  refine m_aaloadV 100 X l (by omega) k_657 (by decide) (by omega) (rr_657 _ (by omega)) dX12_laysShades_99 rfl ?_
                  refine at_iload 102 X rfl dX12_laysShades_100 rfl ?_
                  refine m_ialoadV 103 X x (by omega) ((mk (fun p => shG G l p x) (gN G) : Nat) : Int) (hrw_F2 l x (by omega) (by omega)) (kr_657 _ (by omega)) (er_657 _ (by omega)) (by omega) dX12_laysShades_102 rfl ?_
                  have := mk11 (p := fun p => shG G l p x) hN11
                  refine at_goto 107 X dX12_laysShades_103 (by decide) ?_
                  rw [← hl, ← hlb]
                  exact at_sub _ (by exact ⟨rfl, rfl, rfl, rfl, rfl, rfl, trivial⟩) (J107 (mk (fun p => shG G l p x) (gN G)) (by first | exact (shd_clear (fun q => by rw [if_pos q] at hcl; omega)).symm | exact ((congrArg (fun m => shd G m h x) h86).trans (shd_cloud hl)).symm | exact (shd_dark (Decidable.byContradiction (fun q => by rw [if_neg q] at hcl; omega)) (by first | exact Or.inr h86 | exact Or.inl (by omega))).symm))
            · refine at_aload_n 73 X rfl rfl dX12_laysShades_72 rfl ?_
              refine m_getR 76 X f_X12_110 k_125 r_125_49 dX12_laysShades_73 rfl ?_
              refine at_iload_n 77 X rfl rfl dX12_laysShades_76 rfl ?_
              refine m_aaloadV 78 X h (by omega) k_657 (by decide) (by omega) (rr_657 _ (by omega)) dX12_laysShades_77 rfl ?_
              refine at_iload 80 X rfl dX12_laysShades_78 rfl ?_
              refine m_ialoadV 81 X x (by omega) ((mk (fun p => shG G h p x) (gN G) : Nat) : Int) (hrw_F2 h x (by omega) (by omega)) (kr_657 _ (by omega)) (er_657 _ (by omega)) (by omega) dX12_laysShades_80 rfl ?_
              have := mk11 (p := fun p => shG G h p x) hN11
              refine at_goto 107 X dX12_laysShades_81 (by decide) ?_
              exact at_sub _ (by exact ⟨rfl, rfl, rfl, rfl, rfl, rfl, trivial⟩) (J107 (mk (fun p => shG G h p x) (gN G)) (by first | exact (shd_clear (fun q => by rw [if_pos q] at hcl; omega)).symm | exact ((congrArg (fun m => shd G m h x) h86).trans (shd_cloud hl)).symm | exact (shd_dark (Decidable.byContradiction (fun q => by rw [if_neg q] at hcl; omega)) (by first | exact Or.inr h86 | exact Or.inl (by omega))).symm))
        exact at_sub _ (by exact ⟨rfl, rfl, rfl, rfl, rfl, trivial⟩) (J41 _ F 0 (Nat.lt_succ_self _) (by first | omega | assumption | rfl) hs_F (fun c hc => absurd hc (Nat.not_lt_zero c)) hK_F hf_F)
      refine at_aload_n 11 X rfl rfl dX12_laysShades_10 rfl ?_
      refine m_getIV 14 X ((mk (gC G) 24 : Nat) : Int) hc_F f_X12_339 k_125 rn_125_54 dX12_laysShades_11 rfl ?_
      have := mk24 (p := gC G) (Nat.le_refl 24)
      refine at_iload_n 15 X rfl rfl dX12_laysShades_14 rfl ?_
      refine at_ishrV 16 X (ishr ((mk (gC G) 24 : Nat) : Int) ((h : Nat) : Int)) rfl dX12_laysShades_15 rfl ?_
      refine at_iconst 17 X (by decide) dX12_laysShades_16 rfl ?_
      refine at_iandV 18 X (if gC G h = true then 1 else 0) ((ibit (by omega) (by omega)).trans (by rw [mk_in (by omega)])) dX12_laysShades_17 rfl ?_
      refine at_iconst 19 X (by decide) dX12_laysShades_18 rfl ?_
      refine at_icmp_ne 22 26 X dX12_laysShades_19 rfl (by decide) (fun h19 => ?_) (fun h19 => ?_)
      · have hC : ¬ gC G h = true := fun q => h19 (by rw [if_pos q])
        refine at_iconst 27 X (by decide) dX12_laysShades_26 rfl ?_
        refine at_istore_n 28 X rfl dX12_laysShades_27 rfl (by decide) ?_
        refine at_iload_n 29 X rfl rfl dX12_laysShades_28 rfl ?_
        refine at_if_eq 32 36 X dX12_laysShades_29 rfl (by decide) (fun h29 => ?_) (fun h29 => ?_)
        · refine at_iload_n 37 X rfl rfl dX12_laysShades_36 rfl ?_
          refine at_istore_n 38 X rfl dX12_laysShades_37 rfl (by decide) ?_
          exact at_sub _ (by exact ⟨rfl, rfl, rfl, rfl, trivial⟩) (J38 0 ((h : Nat) : Int) (by first | (rw [if_pos hC]; done) | (rw [if_neg hC]; done)) (by unfold lcl; rw [itr_s]; first | (rw [if_pos hC]; exact hla) | (rw [if_neg hC]; done)))
        · exact absurd h29 (by decide)
      · have hC : gC G h = true := Decidable.byContradiction (fun q => by rw [if_neg q] at h19; exact absurd h19 (by decide))
        refine at_iconst 23 X (by decide) dX12_laysShades_22 rfl ?_
        refine at_goto 27 X dX12_laysShades_23 (by decide) ?_
        refine at_istore_n 28 X rfl dX12_laysShades_27 rfl (by decide) ?_
        refine at_iload_n 29 X rfl rfl dX12_laysShades_28 rfl ?_
        refine at_if_eq 32 36 X dX12_laysShades_29 rfl (by decide) (fun h29 => ?_) (fun h29 => ?_)
        · exact absurd h29 (by decide)
        · refine at_iload_n 33 X rfl rfl dX12_laysShades_32 rfl ?_
          refine at_goto 37 X dX12_laysShades_33 (by decide) ?_
          refine at_istore_n 38 X rfl dX12_laysShades_37 rfl (by decide) ?_
          exact at_sub _ (by exact ⟨rfl, rfl, rfl, rfl, trivial⟩) (J38 1 la (by first | (rw [if_pos hC]; done) | (rw [if_neg hC]; done)) (by unfold lcl; rw [itr_s]; first | (rw [if_pos hC]; exact hla) | (rw [if_neg hC]; done)))
  exact at_sub _ (by exact ⟨rfl, rfl, rfl, trivial⟩) (J4 _ E 0 (-1) (Nat.lt_succ_self _) (by first | omega | assumption | rfl) rfl (fun t c ht => absurd ht (Nat.not_lt_zero t)) hK_E (fun _ _ _ _ => rfl))
theorem cw_X12_putsOf {g : Gw} (hG : GF g) {z : Bool} (E : Mm) (P : SP) (Q : RX) (hP : WS P) (hR_E : RTW E P Q) (b : Nat) (e : Int) (hb : b < bN (sB P)) : CT g yX12_putsOf cX12_putsOf 6 (some .long) 0 0 0 0 K2 z [mR 125, mI ((b : Nat) : Int), mI e] (ov E) K2 z (fun r D' => r = some (mL (if e = 0 then (onL (sB P) b : Int) else (onR (sB P) b : Int))) ∧ D' = ov E) := by
  refine CT.mk hG (by decide +kernel) (Nat.le_of_ble_eq_true rfl) (fun κ X Rt _ ok => ?_)
  have hN8 := hP.B.N
  have hlb := hP.B.L hb
  refine at_aload_n 1 X rfl rfl dX12_putsOf_0 rfl ?_
  refine m_getR 4 X f_X12_61 k_125 r_125_24 dX12_putsOf_1 rfl ?_
  refine at_iload_n 5 X rfl rfl dX12_putsOf_4 rfl ?_
  refine m_aaloadV 6 X b (by omega) k_227 (by decide) (by omega) (rr_227 _ (by omega)) dX12_putsOf_5 rfl ?_
  refine at_iconst 7 X (by decide) dX12_putsOf_6 rfl ?_
  refine m_ialoadV 8 X 1 (by omega) ((bL (sB P) b : Nat) : Int) (hR_E.2.2.2.2.2.2 b (by omega)).2.1 (kr_227 _ (by omega)) (er_227 _ (by omega)) (by omega) dX12_putsOf_7 rfl ?_
  have := hP.B.L (b := b) (by omega)
  refine at_istore_n 9 X rfl dX12_putsOf_8 rfl (by decide) ?_
  refine at_iconst 10 X (by decide) dX12_putsOf_9 rfl ?_
  refine at_istore 12 X dX12_putsOf_10 rfl (by decide) ?_
  refine at_iconst 13 X (by decide) dX12_putsOf_12 rfl ?_
  refine at_istore 15 X dX12_putsOf_13 rfl (by decide) ?_
  have J15 : ∀ (f15 : Nat) (p : Nat) (v : Nat), 20 - p < f15 → (p ≤ bL (sB P) b) → (v = if e = 0 then sumL (sB P) b p else sumR (sB P) b p) → (v ≤ p * 2052) → AT g κ K2 z 0 0 15 [(0, mR 125), (1, mI ((b : Nat) : Int)), (2, mI e), (3, mI ((bL (sB P) b : Nat) : Int)), (4, mI ((v : Nat) : Int)), (5, mI ((p : Nat) : Int))] [] (ov E) := by
    intro f15
    induction f15 with
    | zero => intro p v hf15; omega
    | succ f15 ih15 =>
    intro p v hf15 hp hv hvl
    refine at_iload 17 X rfl dX12_putsOf_15 rfl ?_
    refine at_iload_n 18 X rfl rfl dX12_putsOf_17 rfl ?_
    refine at_icmp_ge 21 66 X dX12_putsOf_18 rfl (by decide) (fun h18 => ?_) (fun h18 => ?_)
    · have hun := un_le (bL (sB P) b - 1)
      have hun0 := Int.natCast_nonneg (UN / (bL (sB P) b - 1))
      have hq1 := onL_le hP.B hb
      have hq2 := onR_le hP.B hb
      refine at_ldc2 69 X (n := 232792560) w_2217 (by decide) (by decide) dX12_putsOf_66 rfl ?_
      refine at_iload_n 70 X rfl rfl dX12_putsOf_69 rfl ?_
      refine at_iconst 71 X (by decide) dX12_putsOf_70 rfl ?_
      refine at_isubV 72 X ((bL (sB P) b - 1 : Nat) : Int) (w32_v (by omega) (by omega) (by omega)) dX12_putsOf_71 rfl ?_
      refine at_i2l 73 X dX12_putsOf_72 rfl ?_
      refine at_ldivV 74 X (by omega) ((UN / (bL (sB P) b - 1) : Nat) : Int) (w64_v (Int.ofNat_tdiv 232792560 (bL (sB P) b - 1)).symm (by omega) (by omega)) dX12_putsOf_73 rfl ?_
      refine at_iload 76 X rfl dX12_putsOf_74 rfl ?_
      refine at_i2l 77 X dX12_putsOf_76 rfl ?_
      refine at_lmulV 78 X (if e = 0 then (onL (sB P) b : Int) else (onR (sB P) b : Int)) (w64_v (by rw [hv, ← Int.natCast_mul, show p = bL (sB P) b by omega]; split <;> exact congrArg (fun q : Nat => (q : Int)) (Nat.mul_comm _ _)) (by split <;> omega) (by split <;> omega)) dX12_putsOf_77 rfl ?_
      refine at_lret X Rt ?_ (Nat.le_refl _) (Nat.le_refl _) dX12_putsOf_78
      exact ⟨rfl, rfl⟩
    · refine at_iload 23 X rfl dX12_putsOf_21 rfl ?_
      refine at_aload_n 24 X rfl rfl dX12_putsOf_23 rfl ?_
      refine m_getR 27 X f_X12_61 k_125 r_125_24 dX12_putsOf_24 rfl ?_
      refine at_iload_n 28 X rfl rfl dX12_putsOf_27 rfl ?_
      refine m_aaloadV 29 X b (by omega) k_227 (by decide) (by omega) (rr_227 _ (by omega)) dX12_putsOf_28 rfl ?_
      refine at_iconst 30 X (by decide) dX12_putsOf_29 rfl ?_
      refine m_ialoadV 31 X 2 (by omega) ((bH (sB P) b : Nat) : Int) (hR_E.2.2.2.2.2.2 b (by omega)).2.2.1 (kr_227 _ (by omega)) (er_227 _ (by omega)) (by omega) dX12_putsOf_30 rfl ?_
      have := hP.B.H (b := b) (by omega)
      refine at_aload_n 32 X rfl rfl dX12_putsOf_31 rfl ?_
      refine m_getR 35 X f_X12_67 k_125 r_125_26 dX12_putsOf_32 rfl ?_
      refine at_iload_n 36 X rfl rfl dX12_putsOf_35 rfl ?_
      refine m_aaloadV 37 X b (by omega) k_245 (by decide) (by omega) (rr_245 _ (by omega)) dX12_putsOf_36 rfl ?_
      refine at_iload 39 X rfl dX12_putsOf_37 rfl ?_
      refine m_ialoadV 40 X p (by omega) ((bD (sB P) b p : Nat) : Int) ((hR_E.2.2.2.2.2.2 b (by omega)).2.2.2 p (by omega)) (kr_245 _ (by omega)) (er_245 _ (by omega)) (by omega) dX12_putsOf_39 rfl ?_
      have := hP.B.D (b := b) (p := p) (by omega) (by omega)
      refine at_iaddV 41 X ((bH (sB P) b + bD (sB P) b p : Nat) : Int) (w32_v (by omega) (by omega) (by omega)) dX12_putsOf_40 rfl ?_
      refine at_iload_n 42 X rfl rfl dX12_putsOf_41 rfl ?_
      refine at_if_ne 45 54 X dX12_putsOf_42 rfl (by decide) (fun h42 => ?_) (fun h42 => ?_)
      · refine at_iload 56 X rfl dX12_putsOf_54 rfl ?_
        have hm1 := Nat.mul_le_mul (show (bH (sB P) b + bD (sB P) b p) ≤ 108 by omega) (show p ≤ 19 by omega)
        have hm2 := Nat.mul_le_mul (show (bH (sB P) b + bD (sB P) b p) ≤ 108 by omega) (show bL (sB P) b - 1 - p ≤ 19 by omega)
        refine at_imulV 57 X (((bH (sB P) b + bD (sB P) b p) * p : Nat) : Int) (w32_v (Int.natCast_mul _ _).symm (by omega) (by omega)) dX12_putsOf_56 rfl ?_
        refine at_iaddV 58 X ((v + ((bH (sB P) b + bD (sB P) b p) * p) : Nat) : Int) (w32_v (by omega) (by omega) (by omega)) dX12_putsOf_57 rfl ?_
        refine at_istore 60 X dX12_putsOf_58 rfl (by decide) ?_
        refine at_iincV 63 X ((p + 1 : Nat) : Int) (w32_v (by omega) (by omega) (by omega)) rfl dX12_putsOf_60 rfl (by decide) ?_
        refine at_goto 15 X dX12_putsOf_63 (by decide) ?_
        exact at_sub _ (by exact ⟨rfl, rfl, rfl, rfl, rfl, rfl, trivial⟩) (ih15 (p + 1) (v + ((bH (sB P) b + bD (sB P) b p) * p)) (by first | omega | (simp only [] at *; omega)) (by first | omega | assumption) (by first | (rw [hv, if_pos (show e = 0 by omega), if_pos (show e = 0 by omega)]; rfl) | (rw [hv, if_neg (show ¬ e = 0 by omega), if_neg (show ¬ e = 0 by omega)]; rfl)) (by first | omega | assumption))
      · refine at_iload_n 46 X rfl rfl dX12_putsOf_45 rfl ?_
        refine at_iconst 47 X (by decide) dX12_putsOf_46 rfl ?_
        refine at_isubV 48 X ((bL (sB P) b - 1 : Nat) : Int) (w32_v (by omega) (by omega) (by omega)) dX12_putsOf_47 rfl ?_
        refine at_iload 50 X rfl dX12_putsOf_48 rfl ?_
        refine at_isubV 51 X ((bL (sB P) b - 1 - p : Nat) : Int) (w32_v (by omega) (by omega) (by omega)) dX12_putsOf_50 rfl ?_
        refine at_goto 56 X dX12_putsOf_51 (by decide) ?_
        have hm1 := Nat.mul_le_mul (show (bH (sB P) b + bD (sB P) b p) ≤ 108 by omega) (show p ≤ 19 by omega)
        have hm2 := Nat.mul_le_mul (show (bH (sB P) b + bD (sB P) b p) ≤ 108 by omega) (show bL (sB P) b - 1 - p ≤ 19 by omega)
        refine at_imulV 57 X (((bH (sB P) b + bD (sB P) b p) * (bL (sB P) b - 1 - p) : Nat) : Int) (w32_v (Int.natCast_mul _ _).symm (by omega) (by omega)) dX12_putsOf_56 rfl ?_
        refine at_iaddV 58 X ((v + ((bH (sB P) b + bD (sB P) b p) * (bL (sB P) b - 1 - p)) : Nat) : Int) (w32_v (by omega) (by omega) (by omega)) dX12_putsOf_57 rfl ?_
        refine at_istore 60 X dX12_putsOf_58 rfl (by decide) ?_
        refine at_iincV 63 X ((p + 1 : Nat) : Int) (w32_v (by omega) (by omega) (by omega)) rfl dX12_putsOf_60 rfl (by decide) ?_
        refine at_goto 15 X dX12_putsOf_63 (by decide) ?_
        exact at_sub _ (by exact ⟨rfl, rfl, rfl, rfl, rfl, rfl, trivial⟩) (ih15 (p + 1) (v + ((bH (sB P) b + bD (sB P) b p) * (bL (sB P) b - 1 - p))) (by first | omega | (simp only [] at *; omega)) (by first | omega | assumption) (by first | (rw [hv, if_pos (show e = 0 by omega), if_pos (show e = 0 by omega)]; rfl) | (rw [hv, if_neg (show ¬ e = 0 by omega), if_neg (show ¬ e = 0 by omega)]; rfl)) (by first | omega | assumption))
  exact at_sub _ (by exact ⟨rfl, rfl, rfl, rfl, rfl, rfl, trivial⟩) (J15 _ 0 0 (Nat.lt_succ_self _) (by omega) (by split <;> rfl) (by first | omega | assumption | rfl))
theorem cw_X12_rest {g : Gw} (hG : GF g) {z : Bool} (E : Mm) (P : SP) (Q : RX) (hP : WS P) (hR_E : RTW E P Q) (pl : Nat → Int) (hpl_E : ∀ b, b < bN (sB P) → E 782 b = pl b) (hPL : PLo (sW P) (sB P) pl) (h : Nat) (hh : h < 24) : CT g yX12_rest cX12_rest 3 none 1 25 0 0 K2 z [mR 125, mI ((h : Nat) : Int)] (ov E) K2 z (fun r D' => r = none ∧ ∃ E1, D' = ov E1 ∧ (∀ c, c < sW P → E1 (733 + h) c = wtN (sB P) pl c (bN (sB P))) ∧ ∀ q, q ≠ 733 + h → E1 q = E q) := by
  refine CT.mk hG (by decide +kernel) (Nat.le_of_ble_eq_true rfl) (fun κ X Rt _ ok => ?_)
  have hN8 := hP.B.N
  have hW40 := hP.W
  refine at_iconst 1 X (by decide) dX12_rest_0 rfl ?_
  refine at_istore_n 2 X rfl dX12_rest_1 rfl (by decide) ?_
  have J2 : ∀ (f2 : Nat) (F : Mm) (c : Nat), 40 - c < f2 → (c ≤ sW P) → ((∀ j, j < c → F (733 + h) j = 0)) → ((∀ q, q ≠ 733 + h → F q = E q)) → AT g κ K2 z 0 0 2 [(0, mR 125), (1, mI ((h : Nat) : Int)), (2, mI ((c : Nat) : Int))] [] (ov F) := by
    intro f2
    induction f2 with
    | zero => intro F c hf2; omega
    | succ f2 ih2 =>
    intro F c hf2 hc hz hf_F
    refine at_iload_n 3 X rfl rfl dX12_rest_2 rfl ?_
    have hR_F : RTW F P Q := hR_E.fr (fun q hq => hf_F q (by omega)) hP
    refine at_aload_n 4 X rfl rfl dX12_rest_3 rfl ?_
    refine m_getR 7 X f_X12_23 k_125 r_125_12 dX12_rest_4 rfl ?_
    refine at_iconst 8 X (by decide) dX12_rest_7 rfl ?_
    refine m_ialoadV 9 X 0 (by omega) ((sW P : Nat) : Int) hR_F.1.1 k_129 e_129 (by omega) dX12_rest_8 rfl ?_
    have := hP.W
    refine at_icmp_ge 12 27 X dX12_rest_9 rfl (by decide) (fun h9 => ?_) (fun h9 => ?_)
    · refine at_iconst 28 X (by decide) dX12_rest_27 rfl ?_
      refine at_istore_n 29 X rfl dX12_rest_28 rfl (by decide) ?_
      have J29 : ∀ (f29 : Nat) (F2 : Mm) (b : Nat), 8 - b < f29 → (b ≤ bN (sB P)) → ((∀ c, c < sW P → F2 (733 + h) c = wtN (sB P) pl c b)) → ((∀ q, q ≠ 733 + h → F2 q = E q)) → AT g κ K2 z 0 0 29 [(0, mR 125), (1, mI ((h : Nat) : Int)), (2, mI ((b : Nat) : Int))] [] (ov F2) := by
        intro f29
        induction f29 with
        | zero => intro F2 b hf29; omega
        | succ f29 ih29 =>
        intro F2 b hf29 hb hr_F2 hf_F2
        refine at_iload_n 30 X rfl rfl dX12_rest_29 rfl ?_
        have hR_F2 : RTW F2 P Q := hR_E.fr (fun q hq => hf_F2 q (by omega)) hP
        have hpl_F2 : ∀ b, b < bN (sB P) → F2 782 b = pl b := by rw [hf_F2 782 (by omega)]; exact hpl_E
        refine at_aload_n 31 X rfl rfl dX12_rest_30 rfl ?_
        refine m_getR 34 X f_X12_23 k_125 r_125_12 dX12_rest_31 rfl ?_
        refine at_bipush 36 X (by decide) (by decide) dX12_rest_34 rfl ?_
        refine m_ialoadV 37 X 6 (by omega) ((bN (sB P) : Nat) : Int) hR_F2.1.2.2.2.2.2.2.1 k_129 e_129 (by omega) dX12_rest_36 rfl ?_
        have := hP.B.N
        refine at_icmp_ge 40 114 X dX12_rest_37 rfl (by decide) (fun h37 => ?_) (fun h37 => ?_)
        · refine at_vret X Rt ?_ (Nat.le_refl _) (Nat.le_refl _) dX12_rest_114
          exact ⟨rfl, F2, rfl, fun c hc => by rw [show bN (sB P) = b by omega]; exact hr_F2 c hc, hf_F2⟩
        · refine at_aload_n 41 X rfl rfl dX12_rest_40 rfl ?_
          refine m_getR 44 X f_X12_127 k_125 r_125_57 dX12_rest_41 rfl ?_
          refine at_iload_n 45 X rfl rfl dX12_rest_44 rfl ?_
          refine m_ialoadV 46 X b (by omega) (pl b) (hpl_F2 b (by omega)) k_782 e_782 (by omega) dX12_rest_45 rfl ?_
          have := hPL b (by omega)
          refine at_iconst 47 X (by decide) dX12_rest_46 rfl ?_
          refine at_icmp_ne 50 53 X dX12_rest_47 rfl (by decide) (fun h47 => ?_) (fun h47 => ?_)
          · obtain ⟨x, hx⟩ : ∃ x : Nat, pl b = (x : Int) := ⟨(pl b).toNat, by omega⟩
            have hl2 := hP.B.L (b := b) (by omega)
            refine at_aload_n 54 X rfl rfl dX12_rest_53 rfl ?_
            refine m_getR 57 X f_X12_121 k_125 r_125_55 dX12_rest_54 rfl ?_
            refine at_iload_n 58 X rfl rfl dX12_rest_57 rfl ?_
            refine m_aaloadV 59 X h (by omega) k_732 (by decide) (by omega) (rr_732 _ (by omega)) dX12_rest_58 rfl ?_
            refine at_aload_n 60 X rfl rfl dX12_rest_59 rfl ?_
            refine m_getR 63 X f_X12_127 k_125 r_125_57 dX12_rest_60 rfl ?_
            refine at_iload_n 64 X rfl rfl dX12_rest_63 rfl ?_
            refine m_ialoadV 65 X b (by omega) ((x : Nat) : Int) ((hpl_F2 b (by omega)).trans hx) k_782 e_782 (by omega) dX12_rest_64 rfl ?_
            refine at_dup2 66 X (show ¬ (0 : Nat) = 1 by decide) (show ¬ (2 : Nat) = 1 by decide) dX12_rest_65 rfl ?_
            refine m_laloadV 67 X x (by omega) (wtN (sB P) pl x b) (hr_F2 x (by omega)) (kr_732 _ (by omega)) (er_732 _ (by omega)) (by omega) dX12_rest_66 rfl ?_
            have := wtN_in hP.B pl x (n := b) (by omega)
            refine at_aload_n 68 X rfl rfl dX12_rest_67 rfl ?_
            refine at_iload_n 69 X rfl rfl dX12_rest_68 rfl ?_
            refine at_iconst 70 X (by decide) dX12_rest_69 rfl ?_
            refine at_callV 73 X _ 12 (cw_X12_putsOf hG F2 P Q hP hR_F2 b 0 (by omega)) clX12 rfl k_125 mo_X12_putsOf w_2213 vo_X12_putsOf.1 vo_X12_putsOf.2 rfl rfl (crm Rt (by decide)) (Nat.le_of_ble_eq_true rfl) dX12_rest_70 rfl ?_
            rintro _ _ ⟨rfl, rfl⟩
            have hol := onL_le hP.B (b := b) (by omega)
            have hor := onR_le hP.B (b := b) (by omega)
            refine at_laddV 74 X ((wtN (sB P) pl x b) + ((onL (sB P) b : Nat) : Int)) (w64_v rfl (by omega) (by omega)) dX12_rest_73 rfl ?_
            refine m_lastoreV 75 X x (by omega) (kr_732 _ (by omega)) (er_732 _ (by omega)) (by omega) dX12_rest_74 rfl ?_
            refine at_aload_n 76 X rfl rfl dX12_rest_75 rfl ?_
            refine m_getR 79 X f_X12_121 k_125 r_125_55 dX12_rest_76 rfl ?_
            refine at_iload_n 80 X rfl rfl dX12_rest_79 rfl ?_
            refine m_aaloadV 81 X h (by omega) k_732 (by decide) (by omega) (rr_732 _ (by omega)) dX12_rest_80 rfl ?_
            refine at_aload_n 82 X rfl rfl dX12_rest_81 rfl ?_
            refine m_getR 85 X f_X12_127 k_125 r_125_57 dX12_rest_82 rfl ?_
            refine at_iload_n 86 X rfl rfl dX12_rest_85 rfl ?_
            refine m_ialoadV 87 X b (by omega) ((x : Nat) : Int) ((wr_o (by omega)).trans ((hpl_F2 b (by omega)).trans hx)) k_782 e_782 (by omega) dX12_rest_86 rfl ?_
            refine at_aload_n 88 X rfl rfl dX12_rest_87 rfl ?_
            refine m_getR 91 X f_X12_61 k_125 r_125_24 dX12_rest_88 rfl ?_
            refine at_iload_n 92 X rfl rfl dX12_rest_91 rfl ?_
            refine m_aaloadV 93 X b (by omega) k_227 (by decide) (by omega) (rr_227 _ (by omega)) dX12_rest_92 rfl ?_
            refine at_iconst 94 X (by decide) dX12_rest_93 rfl ?_
            refine m_ialoadV 95 X 1 (by omega) ((bL (sB P) b : Nat) : Int) ((wr_o (by omega)).trans (hR_F2.2.2.2.2.2.2 b (by omega)).2.1) (kr_227 _ (by omega)) (er_227 _ (by omega)) (by omega) dX12_rest_94 rfl ?_
            have := hP.B.L (b := b) (by omega)
            refine at_iaddV 96 X ((x + bL (sB P) b : Nat) : Int) (w32_v (by omega) (by omega) (by omega)) dX12_rest_95 rfl ?_
            refine at_iconst 97 X (by decide) dX12_rest_96 rfl ?_
            refine at_isubV 98 X ((x + bL (sB P) b - 1 : Nat) : Int) (w32_v (by omega) (by omega) (by omega)) dX12_rest_97 rfl ?_
            refine at_dup2 99 X (show ¬ (0 : Nat) = 1 by decide) (show ¬ (2 : Nat) = 1 by decide) dX12_rest_98 rfl ?_
            refine m_laloadV 100 X (x + bL (sB P) b - 1) (by omega) (wtN (sB P) pl (x + bL (sB P) b - 1) b) ((wr_o (by omega)).trans (hr_F2 (x + bL (sB P) b - 1) (by omega))) (kr_732 _ (by omega)) (er_732 _ (by omega)) (by omega) dX12_rest_99 rfl ?_
            have := wtN_in hP.B pl (x + bL (sB P) b - 1) (n := b) (by omega)
            refine at_aload_n 101 X rfl rfl dX12_rest_100 rfl ?_
            refine at_iload_n 102 X rfl rfl dX12_rest_101 rfl ?_
            refine at_iconst 103 X (by decide) dX12_rest_102 rfl ?_
            refine at_callV 106 X _ 12 (cw_X12_putsOf hG (wr F2 (733 + h) x ((wtN (sB P) pl x b) + ((onL (sB P) b : Nat) : Int))) P Q hP (hR_F2.fr (fun q hq => by simp (disch := omega) only [wr_row]) hP) b 1 (by omega)) clX12 rfl k_125 mo_X12_putsOf w_2213 vo_X12_putsOf.1 vo_X12_putsOf.2 rfl rfl (crm Rt (by decide)) (Nat.le_of_ble_eq_true rfl) dX12_rest_103 rfl ?_
            rintro _ _ ⟨rfl, rfl⟩
            have hol := onL_le hP.B (b := b) (by omega)
            have hor := onR_le hP.B (b := b) (by omega)
            refine at_laddV 107 X ((wtN (sB P) pl (x + bL (sB P) b - 1) b) + ((onR (sB P) b : Nat) : Int)) (w64_v rfl (by omega) (by omega)) dX12_rest_106 rfl ?_
            refine m_lastoreV 108 X (x + bL (sB P) b - 1) (by omega) (kr_732 _ (by omega)) (er_732 _ (by omega)) (by omega) dX12_rest_107 rfl ?_
            refine at_iincV 111 X ((b + 1 : Nat) : Int) (w32_v (by omega) (by omega) (by omega)) rfl dX12_rest_108 rfl (by decide) ?_
            refine at_goto 29 X dX12_rest_111 (by decide) ?_
            exact at_sub _ (by exact ⟨rfl, rfl, rfl, trivial⟩) (ih29 (wr (wr F2 (733 + h) x ((wtN (sB P) pl x b) + ((onL (sB P) b : Nat) : Int))) (733 + h) (x + bL (sB P) b - 1) ((wtN (sB P) pl (x + bL (sB P) b - 1) b) + ((onR (sB P) b : Nat) : Int))) (b + 1) (by first | omega | (simp only [] at *; omega)) (by first | omega | assumption) (fun c hc => by show _ = wtN (sB P) pl c b + wt1 (sB P) pl b c; first | (rw [show wt1 (sB P) pl b c = 0 from if_pos (by omega), Int.add_zero]; exact hr_F2 c hc) | (rw [addw2 hl2.1 (by rw [hr_F2 x (by omega)]) (by rw [hr_F2 (x + bL (sB P) b - 1) (by omega)]), hr_F2 c hc, wt1_at hl2.1 hx])) (fun q hq => by first | exact hf_F2 q hq | (rw [wr_row hq, wr_row hq]; exact hf_F2 q hq)))
          · refine at_goto 108 X dX12_rest_50 (by decide) ?_
            refine at_iincV 111 X ((b + 1 : Nat) : Int) (w32_v (by omega) (by omega) (by omega)) rfl dX12_rest_108 rfl (by decide) ?_
            refine at_goto 29 X dX12_rest_111 (by decide) ?_
            exact at_sub _ (by exact ⟨rfl, rfl, rfl, trivial⟩) (ih29 F2 (b + 1) (by first | omega | (simp only [] at *; omega)) (by first | omega | assumption) (fun c hc => by show _ = wtN (sB P) pl c b + wt1 (sB P) pl b c; first | (rw [show wt1 (sB P) pl b c = 0 from if_pos (by omega), Int.add_zero]; exact hr_F2 c hc) | (rw [addw2 hl2.1 (by rw [hr_F2 x (by omega)]) (by rw [hr_F2 (x + bL (sB P) b - 1) (by omega)]), hr_F2 c hc, wt1_at hl2.1 hx])) (fun q hq => by first | exact hf_F2 q hq | (rw [wr_row hq, wr_row hq]; exact hf_F2 q hq)))
      exact at_sub _ (by exact ⟨rfl, rfl, rfl, trivial⟩) (J29 _ F 0 (Nat.lt_succ_self _) (by first | omega | assumption | rfl) (fun j hj => hz j (by omega)) hf_F)
    · refine at_aload_n 13 X rfl rfl dX12_rest_12 rfl ?_
      refine m_getR 16 X f_X12_121 k_125 r_125_55 dX12_rest_13 rfl ?_
      refine at_iload_n 17 X rfl rfl dX12_rest_16 rfl ?_
      refine m_aaloadV 18 X h (by omega) k_732 (by decide) (by omega) (rr_732 _ (by omega)) dX12_rest_17 rfl ?_
      refine at_iload_n 19 X rfl rfl dX12_rest_18 rfl ?_
      refine at_lconst 20 X (v := 0) (by decide) (by decide) dX12_rest_19 rfl ?_
      refine m_lastoreV 21 X c (by omega) (kr_732 _ (by omega)) (er_732 _ (by omega)) (by omega) dX12_rest_20 rfl ?_
      refine at_iincV 24 X ((c + 1 : Nat) : Int) (w32_v (by omega) (by omega) (by omega)) rfl dX12_rest_21 rfl (by decide) ?_
      refine at_goto 2 X dX12_rest_24 (by decide) ?_
      exact at_sub _ (by exact ⟨rfl, rfl, rfl, trivial⟩) (ih2 (wr F (733 + h) c 0) (c + 1) (by first | omega | (simp only [] at *; omega)) (by first | omega | assumption) (row_ext (F := fun _ => 0) hz rfl) (fun q hq => by rw [wr_row hq]; exact hf_F q hq))
  exact at_sub _ (by exact ⟨rfl, rfl, rfl, trivial⟩) (J2 _ E 0 (Nat.lt_succ_self _) (by first | omega | assumption | rfl) (fun j hj => absurd hj (Nat.not_lt_zero j)) (fun _ _ => rfl))
theorem cw_X12_runs {g : Gw} (hG : GF g) {z : Bool} (E : Mm) (P : SP) (Q : RX) (hP : WS P) (hR_E : RTW E P Q) (G : GP) (T : LN) (hm_E : RMv E T) (hT : WT (sW P) (sB P) T) (hbr_E : ∀ h c, h < 24 → c < sW P → E (708 + h) c = bOn G h c) : CT g yX12_runs cX12_runs 3 (some .int) 2 47 0 0 K2 z [mR 125] (ov E) K2 z (fun r D' => r = some (mI (dN (dyP G (sB P) T 24) : Nat)) ∧ ∃ E1, D' = ov E1 ∧ RD E1 (sB P) (dyP G (sB P) T 24) ∧ RHr E1 G (sB P) T (sW P) 24 ∧ ((∀ q, ¬ (733 ≤ q ∧ q ≤ 756) → ¬ (758 ≤ q ∧ q ≤ 784) → q ≠ 125 → E1 q = E q) ∧ ∀ k, k ≠ 60 → E1 125 k = E 125 k)) := by
  refine CT.mk hG (by decide +kernel) (Nat.le_of_ble_eq_true rfl) (fun κ X Rt _ ok => ?_)
  have hN8 := hP.B.N
  have hW40 := hP.W
  have hT16 := hT.1
  refine at_aload_n 1 X rfl rfl dX12_runs_0 rfl ?_
  refine at_iconst 2 X (by decide) dX12_runs_1 rfl ?_
  refine m_putI 5 X f_X12_387 fw_12_60 k_125 rn_125_60 dX12_runs_2 rfl ?_
  refine at_iconst 6 X (by decide) dX12_runs_5 rfl ?_
  refine at_istore_n 7 X rfl dX12_runs_6 rfl (by decide) ?_
  have J7 : ∀ (f7 : Nat) (F0 : Mm) (b : Nat), 8 - b < f7 → (b ≤ bN (sB P)) → (F0 125 60 = 0) → ((∀ k, k < b → F0 782 k = (bX (sB P) k : Int))) → ((∀ k, k < b → F0 783 k = -1)) → (((∀ q, q ≠ 782 → q ≠ 783 → q ≠ 125 → F0 q = E q) ∧ ∀ k, k ≠ 60 → F0 125 k = E 125 k)) → AT g κ K2 z 0 0 7 [(0, mR 125), (1, mI ((b : Nat) : Int))] [] (ov F0) := by
    intro f7
    induction f7 with
    | zero => intro F0 b hf7; omega
    | succ f7 ih7 =>
    intro F0 b hf7 hb h60 hz1 hz2 hf_F0
    refine at_iload_n 8 X rfl rfl dX12_runs_7 rfl ?_
    have hR_F0 : RTW F0 P Q := hR_E.fr (fun q hq => hf_F0.1 q (by omega) (by omega) (by omega)) hP
    refine at_aload_n 9 X rfl rfl dX12_runs_8 rfl ?_
    refine m_getR 12 X f_X12_23 k_125 r_125_12 dX12_runs_9 rfl ?_
    refine at_bipush 14 X (by decide) (by decide) dX12_runs_12 rfl ?_
    refine m_ialoadV 15 X 6 (by omega) ((bN (sB P) : Nat) : Int) hR_F0.1.2.2.2.2.2.2.1 k_129 e_129 (by omega) dX12_runs_14 rfl ?_
    have := hP.B.N
    refine at_icmp_ge 18 45 X dX12_runs_15 rfl (by decide) (fun h15 => ?_) (fun h15 => ?_)
    · refine at_iconst 46 X (by decide) dX12_runs_45 rfl ?_
      refine at_istore_n 47 X rfl dX12_runs_46 rfl (by decide) ?_
      have J47 : ∀ (f47 : Nat) (F : Mm) (h : Nat), 24 - h < f47 → (h ≤ 24) → (RD F (sB P) (dyP G (sB P) T h)) → (RHr F G (sB P) T (sW P) h) → (((∀ q, ¬ (733 ≤ q ∧ q ≤ 756) → ¬ (758 ≤ q ∧ q ≤ 784) → q ≠ 125 → F q = E q) ∧ ∀ k, k ≠ 60 → F 125 k = E 125 k)) → AT g κ K2 z 0 0 47 [(0, mR 125), (1, mI ((h : Nat) : Int))] [] (ov F) := by
        intro f47
        induction f47 with
        | zero => intro F h hf47; omega
        | succ f47 ih47 =>
        intro F h hf47 hh hd_F hh_F hf_F
        refine at_iload_n 48 X rfl rfl dX12_runs_47 rfl ?_
        refine at_bipush 50 X (by decide) (by decide) dX12_runs_48 rfl ?_
        refine at_icmp_ge 53 275 X dX12_runs_50 rfl (by decide) (fun h50 => ?_) (fun h50 => ?_)
        · refine at_aload_n 276 X rfl rfl dX12_runs_275 rfl ?_
          refine m_getIV 279 X ((dN (dyP G (sB P) T h) : Nat) : Int) hd_F.2.2.2 f_X12_387 k_125 rn_125_60 dX12_runs_276 rfl ?_
          refine at_iret X Rt ?_ (Nat.le_refl _) (Nat.le_refl _) dX12_runs_279
          have h24 : h = 24 := by omega
          subst h24
          exact ⟨rfl, F, rfl, hd_F, hh_F, hf_F⟩
        · have hDI := dyP_DI (G := G) hP.B hT (n := h) (by omega)
          have hDM := mvD_DI (h := h) hT hDI
          have hbr_F : ∀ h c, h < 24 → c < sW P → F (708 + h) c = bOn G h c := fun h c hh hc => by rw [hf_F.1 (708 + h) (by omega) (by omega) (by omega)]; exact hbr_E h c hh hc
          refine at_iconst 54 X (by decide) dX12_runs_53 rfl ?_
          refine at_istore_n 55 X rfl dX12_runs_54 rfl (by decide) ?_
          have J55 : ∀ (f55 : Nat) (F2 : Mm) (k : Nat), 16 - k < f55 → (k ≤ T.1) → ((∀ b, b < bN (sB P) → F2 782 b = mvN T h (dP (dyP G (sB P) T h)) k b)) → ((∀ q, q ≠ 782 → F2 q = F q)) → AT g κ K2 z 0 0 55 [(0, mR 125), (1, mI ((h : Nat) : Int)), (2, mI ((k : Nat) : Int))] [] (ov F2) := by
            intro f55
            induction f55 with
            | zero => intro F2 k hf55; omega
            | succ f55 ih55 =>
            intro F2 k hf55 hk hpl_F2 hq2
            refine at_iload_n 56 X rfl rfl dX12_runs_55 rfl ?_
            have hm_F2 : RMv F2 T := ⟨by rw [hq2 125 (by decide)]; exact (hf_F.2 43 (by decide)).trans hm_E.1, fun i hi => by rw [hq2 (581 + i) (by have := hT.1; omega), hf_F.1 (581 + i) (by have := hT.1; omega) (by have := hT.1; omega) (by have := hT.1; omega)]; exact hm_E.2 i hi⟩
            have hR_F2 : RTW F2 P Q := hR_E.fr (fun q hq => (hq2 q (by omega)).trans (hf_F.1 q (by omega) (by omega) (by omega))) hP
            refine at_aload_n 57 X rfl rfl dX12_runs_56 rfl ?_
            refine m_getIV 60 X ((T.1 : Nat) : Int) hm_F2.1 f_X12_261 k_125 rn_125_43 dX12_runs_57 rfl ?_
            refine at_icmp_ge 63 119 X dX12_runs_60 rfl (by decide) (fun h60 => ?_) (fun h60 => ?_)
            · refine at_aload_n 120 X rfl rfl dX12_runs_119 rfl ?_
              refine at_iload_n 121 X rfl rfl dX12_runs_120 rfl ?_
              have hpl2 : ∀ b, b < bN (sB P) → F2 782 b = mvP T h (dP (dyP G (sB P) T h)) b := fun b hb => by unfold mvP; rw [show T.1 = k by omega]; exact hpl_F2 b hb
              refine at_callV 124 X _ 12 (cw_X12_rest hG F2 P Q hP hR_F2 (mvP T h (dP (dyP G (sB P) T h))) hpl2 hDM.1 h (by omega)) clX12 rfl k_125 mo_X12_rest w_2209 vo_X12_rest.1 vo_X12_rest.2 rfl rfl (crm Rt (by decide)) (Nat.le_of_ble_eq_true rfl) dX12_runs_121 rfl ?_
              rintro _ _ ⟨rfl, F3, rfl, hr_F3, hq_F3⟩
              refine at_iconst 125 X (by decide) dX12_runs_124 rfl ?_
              refine at_istore_n 126 X rfl dX12_runs_125 rfl (by decide) ?_
              have J126 : ∀ (f126 : Nat) (F4 : Mm) (b : Nat) (f : Nat), (8 - f) * 9 + (9 - b) < f126 → (b ≤ f) → (f ≤ bN (sB P)) → ((∀ j, j < f → ¬ ovr G (sB P) h (dP (drN G (sB P) h (mvD T h (dyP G (sB P) T h)) f)) j)) → (RD F4 (sB P) (drN G (sB P) h (mvD T h (dyP G (sB P) T h)) f)) → ((∀ c, c < sW P → F4 (733 + h) c = wtN (sB P) (dP (drN G (sB P) h (mvD T h (dyP G (sB P) T h)) f)) c (bN (sB P)))) → (((∀ q, q ≠ 733 + h → q ≠ 782 → q ≠ 783 → q ≠ 784 → q ≠ 125 → F4 q = F q) ∧ ∀ k, k ≠ 60 → F4 125 k = F 125 k)) → AT g κ K2 z 0 0 126 [(0, mR 125), (1, mI ((h : Nat) : Int)), (2, mI ((b : Nat) : Int))] [] (ov F4) := by
                intro f126
                induction f126 with
                | zero => intro F4 b f hf126; omega
                | succ f126 ih126 =>
                intro F4 b f hf126 hbf hfn hno hd_F4 hr_F4 hf4
                refine at_iload_n 127 X rfl rfl dX12_runs_126 rfl ?_
                have hR_F4 : RTW F4 P Q := hR_E.fr (fun q hq => (hf4.1 q (by omega) (by omega) (by omega) (by omega) (by omega)).trans (hf_F.1 q (by omega) (by omega) (by omega))) hP
                refine at_aload_n 128 X rfl rfl dX12_runs_127 rfl ?_
                refine m_getR 131 X f_X12_23 k_125 r_125_12 dX12_runs_128 rfl ?_
                refine at_bipush 133 X (by decide) (by decide) dX12_runs_131 rfl ?_
                refine m_ialoadV 134 X 6 (by omega) ((bN (sB P) : Nat) : Int) hR_F4.1.2.2.2.2.2.2.1 k_129 e_129 (by omega) dX12_runs_133 rfl ?_
                have := hP.B.N
                refine at_icmp_ge 137 236 X dX12_runs_134 rfl (by decide) (fun h134 => ?_) (fun h134 => ?_)
                · refine at_iconst 237 X (by decide) dX12_runs_236 rfl ?_
                  refine at_istore_n 238 X rfl dX12_runs_237 rfl (by decide) ?_
                  have J238 : ∀ (f238 : Nat) (F5 : Mm) (b2 : Nat), 8 - b2 < f238 → (b2 ≤ bN (sB P)) → (RD F5 (sB P) (dyP G (sB P) T (h + 1))) → ((∀ k, k < b2 → F5 (758 + h) k = dP (dyP G (sB P) T (h + 1)) k)) → ((∀ q, q ≠ 758 + h → F5 q = F4 q)) → AT g κ K2 z 0 0 238 [(0, mR 125), (1, mI ((h : Nat) : Int)), (2, mI ((b2 : Nat) : Int))] [] (ov F5) := by
                    intro f238
                    induction f238 with
                    | zero => intro F5 b2 hf238; omega
                    | succ f238 ih238 =>
                    intro F5 b2 hf238 hb2 hd_F5 hz5 hq5
                    refine at_iload_n 239 X rfl rfl dX12_runs_238 rfl ?_
                    have hR_F5 : RTW F5 P Q := hR_F4.fr (fun q hq => hq5 q (by omega)) hP
                    refine at_aload_n 240 X rfl rfl dX12_runs_239 rfl ?_
                    refine m_getR 243 X f_X12_23 k_125 r_125_12 dX12_runs_240 rfl ?_
                    refine at_bipush 245 X (by decide) (by decide) dX12_runs_243 rfl ?_
                    refine m_ialoadV 246 X 6 (by omega) ((bN (sB P) : Nat) : Int) hR_F5.1.2.2.2.2.2.2.1 k_129 e_129 (by omega) dX12_runs_245 rfl ?_
                    have := hP.B.N
                    refine at_icmp_ge 249 269 X dX12_runs_246 rfl (by decide) (fun h246 => ?_) (fun h246 => ?_)
                    · refine at_iincV 272 X ((h + 1 : Nat) : Int) (w32_v (by omega) (by omega) (by omega)) rfl dX12_runs_269 rfl (by decide) ?_
                      refine at_goto 47 X dX12_runs_272 (by decide) ?_
                      exact at_sub _ (by exact ⟨rfl, rfl, trivial⟩) (ih47 F5 (h + 1) (by first | omega | (simp only [] at *; omega)) (by first | omega | assumption) hd_F5 ⟨fun t k ht hk => if e : t = h then by subst e; exact hz5 k (by omega) else by rw [hq5 (758 + t) (by omega), hf4.1 (758 + t) (by omega) (by omega) (by omega) (by omega) (by omega)]; exact hh_F.1 t k (by omega) hk, fun t c ht hc => if e : t = h then by subst e; rw [hq5 (733 + t) (by omega)]; have := hr_F4 c hc; rw [show f = bN (sB P) by omega] at this; exact this else by rw [hq5 (733 + t) (by omega), hf4.1 (733 + t) (by omega) (by omega) (by omega) (by omega) (by omega)]; exact hh_F.2 t c (by omega) hc⟩ ⟨fun q h1 h2 h3 => by rw [hq5 q (by omega), hf4.1 q (by omega) (by omega) (by omega) (by omega) h3]; exact hf_F.1 q h1 h2 h3, fun k hk => by rw [hq5 125 (by omega)]; exact (hf4.2 k hk).trans (hf_F.2 k hk)⟩)
                    · refine at_aload_n 250 X rfl rfl dX12_runs_249 rfl ?_
                      refine m_getR 253 X f_X12_124 k_125 r_125_56 dX12_runs_250 rfl ?_
                      refine at_iload_n 254 X rfl rfl dX12_runs_253 rfl ?_
                      refine m_aaloadV 255 X h (by omega) k_757 (by decide) (by omega) (rr_757 _ (by omega)) dX12_runs_254 rfl ?_
                      refine at_iload_n 256 X rfl rfl dX12_runs_255 rfl ?_
                      refine at_aload_n 257 X rfl rfl dX12_runs_256 rfl ?_
                      refine m_getR 260 X f_X12_127 k_125 r_125_57 dX12_runs_257 rfl ?_
                      refine at_iload_n 261 X rfl rfl dX12_runs_260 rfl ?_
                      refine m_ialoadV 262 X b2 (by omega) (dP (dyP G (sB P) T (h + 1)) b2) (hd_F5.1 b2 (by omega)) k_782 e_782 (by omega) dX12_runs_261 rfl ?_
                      refine m_iastoreV 263 X b2 (by omega) (kr_757 _ (by omega)) (er_757 _ (by omega)) (by omega) dX12_runs_262 rfl ?_
                      refine at_iincV 266 X ((b2 + 1 : Nat) : Int) (w32_v (by omega) (by omega) (by omega)) rfl dX12_runs_263 rfl (by decide) ?_
                      refine at_goto 238 X dX12_runs_266 (by decide) ?_
                      exact at_sub _ (by exact ⟨rfl, rfl, rfl, trivial⟩) (ih238 (wr F5 (758 + h) b2 (dP (dyP G (sB P) T (h + 1)) b2)) (b2 + 1) (by first | omega | (simp only [] at *; omega)) (by first | omega | assumption) (hd_F5.fr (wr_row (by omega)) (wr_row (by omega)) (wr_row (by omega)) (wr_o (Or.inl (by omega)))) (row_ext hz5 rfl) (fun q hq => by rw [wr_row hq]; exact hq5 q hq))
                  exact at_sub _ (by exact ⟨rfl, rfl, rfl, trivial⟩) (J238 _ F4 0 (Nat.lt_succ_self _) (by first | omega | assumption | rfl) (by have e := hd_F4; rw [show f = bN (sB P) by omega] at e; exact e) (fun j hj => absurd hj (Nat.not_lt_zero j)) (fun _ _ => rfl))
                · have hDIf := drN_DI (G := G) (h := h) (d := (mvD T h (dyP G (sB P) T h))) (by omega) hP.B hDM (n := f) (by omega)
                  have hPb := hDIf.1 b (by omega)
                  have hbr_F4 : ∀ h c, h < 24 → c < sW P → F4 (708 + h) c = bOn G h c := fun h c hh hc => by rw [hf4.1 (708 + h) (by omega) (by omega) (by omega) (by omega) (by omega)]; exact hbr_F h c hh hc
                  refine at_aload_n 138 X rfl rfl dX12_runs_137 rfl ?_
                  refine m_getR 141 X f_X12_127 k_125 r_125_57 dX12_runs_138 rfl ?_
                  refine at_iload_n 142 X rfl rfl dX12_runs_141 rfl ?_
                  refine m_ialoadV 143 X b (by omega) (dP (drN G (sB P) h (mvD T h (dyP G (sB P) T h)) f) b) (hd_F4.1 b (by omega)) k_782 e_782 (by omega) dX12_runs_142 rfl ?_
                  refine at_iconst 144 X (by decide) dX12_runs_143 rfl ?_
                  refine at_icmp_eq 147 230 X dX12_runs_144 rfl (by decide) (fun h144 => ?_) (fun h144 => ?_)
                  · have hnb : ¬ ovr G (sB P) h (dP (drN G (sB P) h (mvD T h (dyP G (sB P) T h)) f)) b := by
                      rintro ⟨q1, q2⟩
                      exact q1 (by omega)
                    have e1 : drN G (sB P) h (mvD T h (dyP G (sB P) T h)) (if b < f then f else f + 1) = (drN G (sB P) h (mvD T h (dyP G (sB P) T h)) f) := by
                      by_cases c : b < f
                      · rw [if_pos c]
                      · rw [if_neg c, drN_s, drS_no (by rw [show f = b by omega] at hnb ⊢; exact hnb)]
                    refine at_iincV 233 X ((b + 1 : Nat) : Int) (w32_v (by omega) (by omega) (by omega)) rfl dX12_runs_230 rfl (by decide) ?_
                    refine at_goto 126 X dX12_runs_233 (by decide) ?_
                    exact at_sub _ (by exact ⟨rfl, rfl, rfl, trivial⟩) (ih126 F4 (b + 1) (if b < f then f else f + 1) (by split <;> omega) (by split <;> omega) (by split <;> omega) (fun j hj => by rw [e1]; exact if c : b < f then hno j (by rw [if_pos c] at hj; exact hj) else if c2 : j = f then (by rw [show j = b by omega]; exact hnb) else hno j (by rw [if_neg c] at hj; omega)) (by rw [e1]; exact hd_F4) (fun c hc => by rw [e1]; exact hr_F4 c hc) hf4)
                  · obtain ⟨x, hx⟩ : ∃ x : Nat, dP (drN G (sB P) h (mvD T h (dyP G (sB P) T h)) f) b = (x : Int) := ⟨(dP (drN G (sB P) h (mvD T h (dyP G (sB P) T h)) f) b).toNat, by omega⟩
                    have hl2 := hP.B.L (b := b) (by omega)
                    have J189 : (ovr G (sB P) h (dP (drN G (sB P) h (mvD T h (dyP G (sB P) T h)) f)) b) → AT g κ K2 z 0 0 189 [(0, mR 125), (1, mI ((h : Nat) : Int)), (2, mI ((b : Nat) : Int))] [] (ov F4) := by
                      intro hov
                      have hbf2 : b = f := by
                        rcases Nat.lt_or_ge b f with c | c
                        · exact absurd hov (hno b c)
                        · omega
                      have e1 : drN G (sB P) h (mvD T h (dyP G (sB P) T h)) (f + 1) = (updf (dP (drN G (sB P) h (mvD T h (dyP G (sB P) T h)) f)) b (-1), updf (dF (drN G (sB P) h (mvD T h (dyP G (sB P) T h)) f)) b (h : Int), (fun i => if i = dN (drN G (sB P) h (mvD T h (dyP G (sB P) T h)) f) then b else dO (drN G (sB P) h (mvD T h (dyP G (sB P) T h)) f) i), dN (drN G (sB P) h (mvD T h (dyP G (sB P) T h)) f) + 1) := by rw [drN_s, ← hbf2, drS_yes (by rw [← hbf2] at hov; exact hov)]
                      have hdn : dN (drN G (sB P) h (mvD T h (dyP G (sB P) T h)) f) < 8 := by
                        have h1 := cntp_lt (p := fun b' => decide (dP (drN G (sB P) h (mvD T h (dyP G (sB P) T h)) f) b' = -1)) (b := b) (n := bN (sB P)) (by omega) (by simp only [decide_eq_true_eq]; exact hov.1)
                        have h2 := hDIf.2.1
                        omega
                      refine at_aload_n 190 X rfl rfl dX12_runs_189 rfl ?_
                      refine m_getR 193 X f_X12_127 k_125 r_125_57 dX12_runs_190 rfl ?_
                      refine at_iload_n 194 X rfl rfl dX12_runs_193 rfl ?_
                      refine at_iconst 195 X (by decide) dX12_runs_194 rfl ?_
                      refine m_iastoreV 196 X b (by omega) k_782 e_782 (by omega) dX12_runs_195 rfl ?_
                      refine at_aload_n 197 X rfl rfl dX12_runs_196 rfl ?_
                      refine m_getR 200 X f_X12_130 k_125 r_125_58 dX12_runs_197 rfl ?_
                      refine at_iload_n 201 X rfl rfl dX12_runs_200 rfl ?_
                      refine at_iload_n 202 X rfl rfl dX12_runs_201 rfl ?_
                      refine m_iastoreV 203 X b (by omega) k_783 e_783 (by omega) dX12_runs_202 rfl ?_
                      refine at_aload_n 204 X rfl rfl dX12_runs_203 rfl ?_
                      refine m_getR 207 X f_X12_133 k_125 r_125_59 dX12_runs_204 rfl ?_
                      refine at_aload_n 208 X rfl rfl dX12_runs_207 rfl ?_
                      refine m_getIV 211 X ((dN (drN G (sB P) h (mvD T h (dyP G (sB P) T h)) f) : Nat) : Int) ((wr_o (by omega)).trans ((wr_o (by omega)).trans hd_F4.2.2.2)) f_X12_387 k_125 rn_125_60 dX12_runs_208 rfl ?_
                      refine at_iload_n 212 X rfl rfl dX12_runs_211 rfl ?_
                      refine m_iastoreV 213 X (dN (drN G (sB P) h (mvD T h (dyP G (sB P) T h)) f)) (by omega) k_784 e_784 (by omega) dX12_runs_212 rfl ?_
                      refine at_aload_n 214 X rfl rfl dX12_runs_213 rfl ?_
                      refine at_dup 215 X (show ¬ (2 : Nat) = 1 by decide) dX12_runs_214 rfl ?_
                      refine m_getIV 218 X ((dN (drN G (sB P) h (mvD T h (dyP G (sB P) T h)) f) : Nat) : Int) ((wr_o (by omega)).trans ((wr_o (by omega)).trans ((wr_o (by omega)).trans hd_F4.2.2.2))) f_X12_387 k_125 rn_125_60 dX12_runs_215 rfl ?_
                      refine at_iconst 219 X (by decide) dX12_runs_218 rfl ?_
                      refine at_iaddV 220 X ((dN (drN G (sB P) h (mvD T h (dyP G (sB P) T h)) f) + 1 : Nat) : Int) (w32_v (by omega) (by omega) (by omega)) dX12_runs_219 rfl ?_
                      refine m_putI 223 X f_X12_387 fw_12_60 k_125 rn_125_60 dX12_runs_220 rfl ?_
                      refine at_aload_n 224 X rfl rfl dX12_runs_223 rfl ?_
                      refine at_iload_n 225 X rfl rfl dX12_runs_224 rfl ?_
                      generalize hF8 : wr (wr (wr (wr F4 782 b (-1)) 783 b ((h : Nat) : Int)) 784 (dN (drN G (sB P) h (mvD T h (dyP G (sB P) T h)) f)) ((b : Nat) : Int)) 125 60 ((dN (drN G (sB P) h (mvD T h (dyP G (sB P) T h)) f) + 1 : Nat) : Int) = F8
                      have hq8 : ∀ q, q ≠ 782 → q ≠ 783 → q ≠ 784 → q ≠ 125 → F8 q = F4 q := fun q h1 h2 h3 h4 => by rw [← hF8]; simp (disch := omega) only [wr_row]
                      have h125 : ∀ k, k ≠ 60 → F8 125 k = F4 125 k := fun k hk => by rw [← hF8]; simp (disch := omega) only [wr_o]
                      have hR8 : RTW F8 P Q := hR_F4.fr (fun q hq => hq8 q (by omega) (by omega) (by omega) (by omega)) hP
                      have hD8 : RD F8 (sB P) (updf (dP (drN G (sB P) h (mvD T h (dyP G (sB P) T h)) f)) b (-1), updf (dF (drN G (sB P) h (mvD T h (dyP G (sB P) T h)) f)) b (h : Int), (fun i => if i = dN (drN G (sB P) h (mvD T h (dyP G (sB P) T h)) f) then b else dO (drN G (sB P) h (mvD T h (dyP G (sB P) T h)) f) i), dN (drN G (sB P) h (mvD T h (dyP G (sB P) T h)) f) + 1) := by rw [← hF8]; exact RD_drop hd_F4
                      have hP8 : PLo (sW P) (sB P) (updf (dP (drN G (sB P) h (mvD T h (dyP G (sB P) T h)) f)) b (-1)) := by
                        have h := drN_DI (G := G) (h := h) (d := (mvD T h (dyP G (sB P) T h))) (by omega) hP.B hDM (n := f + 1) (by omega)
                        rw [e1] at h
                        exact h.1
                      refine at_callV 228 X _ 12 (cw_X12_rest hG F8 P Q hP hR8 (updf (dP (drN G (sB P) h (mvD T h (dyP G (sB P) T h)) f)) b (-1)) hD8.1 hP8 h (by omega)) clX12 rfl k_125 mo_X12_rest w_2209 vo_X12_rest.1 vo_X12_rest.2 rfl rfl (crm Rt (by decide)) (Nat.le_of_ble_eq_true rfl) dX12_runs_225 rfl ?_
                      rintro _ _ ⟨rfl, F6, rfl, hr_F6, hq_F6⟩
                      refine at_iconst 229 X (by decide) dX12_runs_228 rfl ?_
                      refine at_istore_n 230 X rfl dX12_runs_229 rfl (by decide) ?_
                      refine at_iincV 233 X 0 (w32_v (by decide) (by decide) (by decide)) rfl dX12_runs_230 rfl (by decide) ?_
                      refine at_goto 126 X dX12_runs_233 (by decide) ?_
                      exact at_sub _ (by exact ⟨rfl, rfl, rfl, trivial⟩) (ih126 F6 0 (if b < f then f else f + 1) (by split <;> omega) (Nat.zero_le _) (by split <;> omega) (fun j hj => by rw [if_neg (show ¬ b < f by omega)] at hj ⊢; rw [e1]; exact if c : j = b then (by subst c; rintro ⟨q1, -⟩; exact q1 (updf_s _ _ _)) else ovr_keep hP.B (by omega) (hno j (by omega))) (by rw [if_neg (show ¬ b < f by omega), e1]; exact hD8.fr (hq_F6 782 (by omega)) (hq_F6 783 (by omega)) (hq_F6 784 (by omega)) (by rw [hq_F6 125 (by omega)])) (fun c hc => by rw [if_neg (show ¬ b < f by omega), e1]; exact hr_F6 c hc) ⟨fun q h1 h2 h3 h4 h5 => (hq_F6 q h1).trans ((hq8 q h2 h3 h4 h5).trans (hf4.1 q h1 h2 h3 h4 h5)), fun k hk => by rw [hq_F6 125 (by omega)]; exact (h125 k hk).trans (hf4.2 k hk)⟩)
                    refine at_aload_n 148 X rfl rfl dX12_runs_147 rfl ?_
                    refine at_iload_n 149 X rfl rfl dX12_runs_148 rfl ?_
                    refine at_aload_n 150 X rfl rfl dX12_runs_149 rfl ?_
                    refine m_getR 153 X f_X12_127 k_125 r_125_57 dX12_runs_150 rfl ?_
                    refine at_iload_n 154 X rfl rfl dX12_runs_153 rfl ?_
                    refine m_ialoadV 155 X b (by omega) ((x : Nat) : Int) ((hd_F4.1 b (by omega)).trans hx) k_782 e_782 (by omega) dX12_runs_154 rfl ?_
                    refine at_callV 158 X _ 12 (ct_X12_isOver hG F4 P hP G (dP (drN G (sB P) h (mvD T h (dyP G (sB P) T h)) f)) h x (by omega) (by omega) (hr_F4 x (by omega)) (hbr_F4 h x (by omega) (by omega))) clX12 rfl k_125 mo_X12_isOver w_2218 vo_X12_isOver.1 vo_X12_isOver.2 rfl rfl (crm Rt (by decide)) (Nat.le_of_ble_eq_true rfl) dX12_runs_155 rfl ?_
                    rintro _ _ ⟨rfl, rfl⟩
                    refine at_if_ne 161 189 X dX12_runs_158 rfl (by decide) (fun h158 => ?_) (fun h158 => ?_)
                    · have h158 : (bOn G h x * 232792560 < wtN (sB P) (dP (drN G (sB P) h (mvD T h (dyP G (sB P) T h)) f)) x (bN (sB P))) := ite_yes.mp h158
                      exact at_sub _ (by exact ⟨rfl, rfl, rfl, trivial⟩) (J189  ⟨by rw [hx]; omega, by rw [hx, Int.toNat_natCast]; omega⟩)
                    · have h158 : ¬ (bOn G h x * 232792560 < wtN (sB P) (dP (drN G (sB P) h (mvD T h (dyP G (sB P) T h)) f)) x (bN (sB P))) := ite_no.mp h158
                      refine at_aload_n 162 X rfl rfl dX12_runs_161 rfl ?_
                      refine at_iload_n 163 X rfl rfl dX12_runs_162 rfl ?_
                      refine at_aload_n 164 X rfl rfl dX12_runs_163 rfl ?_
                      refine m_getR 167 X f_X12_127 k_125 r_125_57 dX12_runs_164 rfl ?_
                      refine at_iload_n 168 X rfl rfl dX12_runs_167 rfl ?_
                      refine m_ialoadV 169 X b (by omega) ((x : Nat) : Int) ((hd_F4.1 b (by omega)).trans hx) k_782 e_782 (by omega) dX12_runs_168 rfl ?_
                      refine at_aload_n 170 X rfl rfl dX12_runs_169 rfl ?_
                      refine m_getR 173 X f_X12_61 k_125 r_125_24 dX12_runs_170 rfl ?_
                      refine at_iload_n 174 X rfl rfl dX12_runs_173 rfl ?_
                      refine m_aaloadV 175 X b (by omega) k_227 (by decide) (by omega) (rr_227 _ (by omega)) dX12_runs_174 rfl ?_
                      refine at_iconst 176 X (by decide) dX12_runs_175 rfl ?_
                      refine m_ialoadV 177 X 1 (by omega) ((bL (sB P) b : Nat) : Int) (hR_F4.2.2.2.2.2.2 b (by omega)).2.1 (kr_227 _ (by omega)) (er_227 _ (by omega)) (by omega) dX12_runs_176 rfl ?_
                      have := hP.B.L (b := b) (by omega)
                      refine at_iaddV 178 X ((x + bL (sB P) b : Nat) : Int) (w32_v (by omega) (by omega) (by omega)) dX12_runs_177 rfl ?_
                      refine at_iconst 179 X (by decide) dX12_runs_178 rfl ?_
                      refine at_isubV 180 X ((x + bL (sB P) b - 1 : Nat) : Int) (w32_v (by omega) (by omega) (by omega)) dX12_runs_179 rfl ?_
                      refine at_callV 183 X _ 12 (ct_X12_isOver hG F4 P hP G (dP (drN G (sB P) h (mvD T h (dyP G (sB P) T h)) f)) h (x + bL (sB P) b - 1) (by omega) (by omega) (hr_F4 (x + bL (sB P) b - 1) (by omega)) (hbr_F4 h (x + bL (sB P) b - 1) (by omega) (by omega))) clX12 rfl k_125 mo_X12_isOver w_2218 vo_X12_isOver.1 vo_X12_isOver.2 rfl rfl (crm Rt (by decide)) (Nat.le_of_ble_eq_true rfl) dX12_runs_180 rfl ?_
                      rintro _ _ ⟨rfl, rfl⟩
                      refine at_if_ne 186 189 X dX12_runs_183 rfl (by decide) (fun h183 => ?_) (fun h183 => ?_)
                      · have h183 : (bOn G h (x + bL (sB P) b - 1) * 232792560 < wtN (sB P) (dP (drN G (sB P) h (mvD T h (dyP G (sB P) T h)) f)) (x + bL (sB P) b - 1) (bN (sB P))) := ite_yes.mp h183
                        exact at_sub _ (by exact ⟨rfl, rfl, rfl, trivial⟩) (J189  ⟨by rw [hx]; omega, by rw [hx, Int.toNat_natCast]; omega⟩)
                      · have h183 : ¬ (bOn G h (x + bL (sB P) b - 1) * 232792560 < wtN (sB P) (dP (drN G (sB P) h (mvD T h (dyP G (sB P) T h)) f)) (x + bL (sB P) b - 1) (bN (sB P))) := ite_no.mp h183
                        have hnb : ¬ ovr G (sB P) h (dP (drN G (sB P) h (mvD T h (dyP G (sB P) T h)) f)) b := by
                          rintro ⟨q1, q2⟩
                          rw [hx, Int.toNat_natCast] at q2; omega
                        have e1 : drN G (sB P) h (mvD T h (dyP G (sB P) T h)) (if b < f then f else f + 1) = (drN G (sB P) h (mvD T h (dyP G (sB P) T h)) f) := by
                          by_cases c : b < f
                          · rw [if_pos c]
                          · rw [if_neg c, drN_s, drS_no (by rw [show f = b by omega] at hnb ⊢; exact hnb)]
                        refine at_goto 230 X dX12_runs_186 (by decide) ?_
                        refine at_iincV 233 X ((b + 1 : Nat) : Int) (w32_v (by omega) (by omega) (by omega)) rfl dX12_runs_230 rfl (by decide) ?_
                        refine at_goto 126 X dX12_runs_233 (by decide) ?_
                        exact at_sub _ (by exact ⟨rfl, rfl, rfl, trivial⟩) (ih126 F4 (b + 1) (if b < f then f else f + 1) (by split <;> omega) (by split <;> omega) (by split <;> omega) (fun j hj => by rw [e1]; exact if c : b < f then hno j (by rw [if_pos c] at hj; exact hj) else if c2 : j = f then (by rw [show j = b by omega]; exact hnb) else hno j (by rw [if_neg c] at hj; omega)) (by rw [e1]; exact hd_F4) (fun c hc => by rw [e1]; exact hr_F4 c hc) hf4)
              exact at_sub _ (by exact ⟨rfl, rfl, rfl, trivial⟩) (J126 _ F3 0 0 (Nat.lt_succ_self _) (by first | omega | assumption | rfl) (by first | omega | assumption | rfl) (fun j hj => absurd hj (Nat.not_lt_zero j)) ⟨fun k hk => by rw [hq_F3 782 (by omega)]; exact hpl2 k hk, by rw [hq_F3 783 (by omega), hq2 783 (by decide)]; exact hd_F.2.1, by rw [hq_F3 784 (by omega), hq2 784 (by decide)]; exact hd_F.2.2.1, by rw [hq_F3 125 (by omega), hq2 125 (by decide)]; exact hd_F.2.2.2⟩ hr_F3 ⟨fun q h1 h2 h3 h4 h5 => (hq_F3 q h1).trans (hq2 q h2), fun k hk => by rw [hq_F3 125 (by omega), hq2 125 (by decide)]⟩)
            · refine at_aload_n 64 X rfl rfl dX12_runs_63 rfl ?_
              refine m_getR 67 X f_X12_92 k_125 r_125_37 dX12_runs_64 rfl ?_
              refine at_iload_n 68 X rfl rfl dX12_runs_67 rfl ?_
              refine m_aaloadV 69 X k (by omega) k_580 (by decide) (by omega) (rr_580 _ (by omega)) dX12_runs_68 rfl ?_
              refine at_iconst 70 X (by decide) dX12_runs_69 rfl ?_
              refine m_ialoadV 71 X 0 (by omega) ((T.2.1 k : Nat) : Int) (hm_F2.2 k (by omega)).1 (kr_580 _ (by omega)) (er_580 _ (by omega)) (by omega) dX12_runs_70 rfl ?_
              have := hT.2 k (by omega)
              refine at_iload_n 72 X rfl rfl dX12_runs_71 rfl ?_
              refine at_icmp_ne 75 113 X dX12_runs_72 rfl (by decide) (fun h72 => ?_) (fun h72 => ?_)
              · refine at_iincV 116 X ((k + 1 : Nat) : Int) (w32_v (by omega) (by omega) (by omega)) rfl dX12_runs_113 rfl (by decide) ?_
                refine at_goto 55 X dX12_runs_116 (by decide) ?_
                exact at_sub _ (by exact ⟨rfl, rfl, rfl, trivial⟩) (ih55 F2 (k + 1) (by first | omega | (simp only [] at *; omega)) (by first | omega | assumption) (by first | (rw [mvN_s, if_neg (fun q => h72 (by omega))]; exact hpl_F2) | (rw [mvN_s, if_neg (fun q => q.2 h89)]; exact hpl_F2) | (rw [mvN_s, if_pos ⟨by omega, h89⟩]; exact mv_rowN hpl_F2)) (by first | exact hq2 | exact (fun q hq => by rw [wr_row hq]; exact hq2 q hq)))
              · refine at_aload_n 76 X rfl rfl dX12_runs_75 rfl ?_
                refine m_getR 79 X f_X12_127 k_125 r_125_57 dX12_runs_76 rfl ?_
                refine at_aload_n 80 X rfl rfl dX12_runs_79 rfl ?_
                refine m_getR 83 X f_X12_92 k_125 r_125_37 dX12_runs_80 rfl ?_
                refine at_iload_n 84 X rfl rfl dX12_runs_83 rfl ?_
                refine m_aaloadV 85 X k (by omega) k_580 (by decide) (by omega) (rr_580 _ (by omega)) dX12_runs_84 rfl ?_
                refine at_iconst 86 X (by decide) dX12_runs_85 rfl ?_
                refine m_ialoadV 87 X 1 (by omega) ((T.2.2.1 k : Nat) : Int) (hm_F2.2 k (by omega)).2.1 (kr_580 _ (by omega)) (er_580 _ (by omega)) (by omega) dX12_runs_86 rfl ?_
                have := hT.2 k (by omega)
                refine m_ialoadV 88 X (T.2.2.1 k) (by omega) (mvN T h (dP (dyP G (sB P) T h)) k (T.2.2.1 k)) (hpl_F2 (T.2.2.1 k) (by omega)) k_782 e_782 (by omega) dX12_runs_87 rfl ?_
                refine at_iconst 89 X (by decide) dX12_runs_88 rfl ?_
                refine at_icmp_eq 92 113 X dX12_runs_89 rfl (by decide) (fun h89 => ?_) (fun h89 => ?_)
                · refine at_iincV 116 X ((k + 1 : Nat) : Int) (w32_v (by omega) (by omega) (by omega)) rfl dX12_runs_113 rfl (by decide) ?_
                  refine at_goto 55 X dX12_runs_116 (by decide) ?_
                  exact at_sub _ (by exact ⟨rfl, rfl, rfl, trivial⟩) (ih55 F2 (k + 1) (by first | omega | (simp only [] at *; omega)) (by first | omega | assumption) (by first | (rw [mvN_s, if_neg (fun q => h72 (by omega))]; exact hpl_F2) | (rw [mvN_s, if_neg (fun q => q.2 h89)]; exact hpl_F2) | (rw [mvN_s, if_pos ⟨by omega, h89⟩]; exact mv_rowN hpl_F2)) (by first | exact hq2 | exact (fun q hq => by rw [wr_row hq]; exact hq2 q hq)))
                · refine at_aload_n 93 X rfl rfl dX12_runs_92 rfl ?_
                  refine m_getR 96 X f_X12_127 k_125 r_125_57 dX12_runs_93 rfl ?_
                  refine at_aload_n 97 X rfl rfl dX12_runs_96 rfl ?_
                  refine m_getR 100 X f_X12_92 k_125 r_125_37 dX12_runs_97 rfl ?_
                  refine at_iload_n 101 X rfl rfl dX12_runs_100 rfl ?_
                  refine m_aaloadV 102 X k (by omega) k_580 (by decide) (by omega) (rr_580 _ (by omega)) dX12_runs_101 rfl ?_
                  refine at_iconst 103 X (by decide) dX12_runs_102 rfl ?_
                  refine m_ialoadV 104 X 1 (by omega) ((T.2.2.1 k : Nat) : Int) (hm_F2.2 k (by omega)).2.1 (kr_580 _ (by omega)) (er_580 _ (by omega)) (by omega) dX12_runs_103 rfl ?_
                  have := hT.2 k (by omega)
                  refine at_aload_n 105 X rfl rfl dX12_runs_104 rfl ?_
                  refine m_getR 108 X f_X12_92 k_125 r_125_37 dX12_runs_105 rfl ?_
                  refine at_iload_n 109 X rfl rfl dX12_runs_108 rfl ?_
                  refine m_aaloadV 110 X k (by omega) k_580 (by decide) (by omega) (rr_580 _ (by omega)) dX12_runs_109 rfl ?_
                  refine at_iconst 111 X (by decide) dX12_runs_110 rfl ?_
                  refine m_ialoadV 112 X 2 (by omega) ((T.2.2.2 k : Nat) : Int) (hm_F2.2 k (by omega)).2.2 (kr_580 _ (by omega)) (er_580 _ (by omega)) (by omega) dX12_runs_111 rfl ?_
                  have := hT.2 k (by omega)
                  refine m_iastoreV 113 X (T.2.2.1 k) (by omega) k_782 e_782 (by omega) dX12_runs_112 rfl ?_
                  refine at_iincV 116 X ((k + 1 : Nat) : Int) (w32_v (by omega) (by omega) (by omega)) rfl dX12_runs_113 rfl (by decide) ?_
                  refine at_goto 55 X dX12_runs_116 (by decide) ?_
                  exact at_sub _ (by exact ⟨rfl, rfl, rfl, trivial⟩) (ih55 (wr F2 782 (T.2.2.1 k) ((T.2.2.2 k : Nat) : Int)) (k + 1) (by first | omega | (simp only [] at *; omega)) (by first | omega | assumption) (by first | (rw [mvN_s, if_neg (fun q => h72 (by omega))]; exact hpl_F2) | (rw [mvN_s, if_neg (fun q => q.2 h89)]; exact hpl_F2) | (rw [mvN_s, if_pos ⟨by omega, h89⟩]; exact mv_rowN hpl_F2)) (by first | exact hq2 | exact (fun q hq => by rw [wr_row hq]; exact hq2 q hq)))
          exact at_sub _ (by exact ⟨rfl, rfl, rfl, trivial⟩) (J55 _ F 0 (Nat.lt_succ_self _) (by first | omega | assumption | rfl) hd_F.1 (fun _ _ => rfl))
      exact at_sub _ (by exact ⟨rfl, rfl, trivial⟩) (J47 _ F0 0 (Nat.lt_succ_self _) (by first | omega | assumption | rfl) ⟨fun k hk => (hz1 k (by omega)).trans (if_pos hk).symm, fun k hk => hz2 k (by omega), fun i hi => absurd hi (Nat.not_lt_zero i), h60⟩ ⟨fun t k ht => absurd ht (Nat.not_lt_zero t), fun t k ht => absurd ht (Nat.not_lt_zero t)⟩ ⟨fun q h1 h2 h3 => hf_F0.1 q (by omega) (by omega) h3, hf_F0.2⟩)
    · refine at_aload_n 19 X rfl rfl dX12_runs_18 rfl ?_
      refine m_getR 22 X f_X12_127 k_125 r_125_57 dX12_runs_19 rfl ?_
      refine at_iload_n 23 X rfl rfl dX12_runs_22 rfl ?_
      refine at_aload_n 24 X rfl rfl dX12_runs_23 rfl ?_
      refine m_getR 27 X f_X12_61 k_125 r_125_24 dX12_runs_24 rfl ?_
      refine at_iload_n 28 X rfl rfl dX12_runs_27 rfl ?_
      refine m_aaloadV 29 X b (by omega) k_227 (by decide) (by omega) (rr_227 _ (by omega)) dX12_runs_28 rfl ?_
      refine at_iconst 30 X (by decide) dX12_runs_29 rfl ?_
      refine m_ialoadV 31 X 0 (by omega) ((bX (sB P) b : Nat) : Int) (hR_F0.2.2.2.2.2.2 b (by omega)).1 (kr_227 _ (by omega)) (er_227 _ (by omega)) (by omega) dX12_runs_30 rfl ?_
      have := hP.B.X (b := b) (by omega)
      refine m_iastoreV 32 X b (by omega) k_782 e_782 (by omega) dX12_runs_31 rfl ?_
      refine at_aload_n 33 X rfl rfl dX12_runs_32 rfl ?_
      refine m_getR 36 X f_X12_130 k_125 r_125_58 dX12_runs_33 rfl ?_
      refine at_iload_n 37 X rfl rfl dX12_runs_36 rfl ?_
      refine at_iconst 38 X (by decide) dX12_runs_37 rfl ?_
      refine m_iastoreV 39 X b (by omega) k_783 e_783 (by omega) dX12_runs_38 rfl ?_
      refine at_iincV 42 X ((b + 1 : Nat) : Int) (w32_v (by omega) (by omega) (by omega)) rfl dX12_runs_39 rfl (by decide) ?_
      refine at_goto 7 X dX12_runs_42 (by decide) ?_
      exact at_sub _ (by exact ⟨rfl, rfl, trivial⟩) (ih7 (wr (wr F0 782 b ((bX (sB P) b : Nat) : Int)) 783 b (-1)) (b + 1) (by first | omega | (simp only [] at *; omega)) (by first | omega | assumption) (by rw [wr_o (by omega), wr_o (by omega)]; exact h60) (by rw [wr_row (by decide)]; exact row_ext (F := fun k => (bX (sB P) k : Int)) hz1 rfl) (row_ext (F := fun _ => -1) (by rw [wr_row (by decide)]; exact hz2) rfl) ⟨fun q h1 h2 h3 => by rw [wr_row h2, wr_row h1]; exact hf_F0.1 q h1 h2 h3, fun k hk => by rw [wr_row (by decide), wr_row (by decide)]; exact hf_F0.2 k hk⟩)
  exact at_sub _ (by exact ⟨rfl, rfl, trivial⟩) (J7 _ (wr E 125 60 0) 0 (Nat.lt_succ_self _) (by first | omega | assumption | rfl) (wr_s _ _ _ _) (fun j hj => absurd hj (Nat.not_lt_zero j)) (fun j hj => absurd hj (Nat.not_lt_zero j)) ⟨fun q h1 h2 h3 => wr_row h3, fun k hk => wr_o (Or.inr hk)⟩)
theorem cw_X12_lays {g : Gw} (hG : GF g) {z : Bool} (E : Mm) (P : SP) (Q : RX) (hP : WS P) (hR_E : RTW E P Q) (G : GP) (hW : WR G) (hgw : gW G = sW P) (hp_E : RPg E G) (nl : Nat) (lx lr : Nat → Nat) (hl_E : RLg E G nl lx lr) (hc_E : E 125 54 = (mk (gC G) 24 : Nat)) (hlw_E : RLw E (gLw G)) (st : Nat) (hst : st < 2147483648) (hK_E : RKn E (gLw G) st) (d : Nat) (hd : d < 400) (hgt : ∀ h, h < 24 → gT' G h = ltP P (moonP P d) h) (hgr : ∀ h, h < 24 → gR G h = lrP P (moonP P d) h) : CT g yX12_lays cX12_lays 2 none 5 115 0 0 K2 z [mR 125, mI ((d : Nat) : Int)] (ov E) K2 z (fun r D' => r = none ∧ ∃ E1, D' = ov E1 ∧ RSh E1 G 24 ∧ RKn E1 (gLw G) st ∧ ∀ q, ¬ (576 ≤ q ∧ q ≤ 579) → ¬ (658 ≤ q ∧ q ≤ 731) → E1 q = E q) := by
  refine CT.mk hG (by decide +kernel) (Nat.le_of_ble_eq_true rfl) (fun κ X Rt _ ok => ?_)
  refine at_aload_n 1 X rfl rfl dX12_lays_0 rfl ?_
  refine at_iload_n 2 X rfl rfl dX12_lays_1 rfl ?_
  refine at_callV 5 X _ 12 (cw_X12_laysRaw hG E P Q hP hR_E G hW hp_E d hd hgw hgt hgr) clX12 rfl k_125 mo_X12_laysRaw w_2170 vo_X12_laysRaw.1 vo_X12_laysRaw.2 rfl rfl (crm Rt (by decide)) (Nat.le_of_ble_eq_true rfl) dX12_lays_2 rfl ?_
  rintro _ _ ⟨rfl, F1, rfl, hrw_F1, hq_F1⟩
  refine at_aload_n 6 X rfl rfl dX12_lays_5 rfl ?_
  refine at_callV 9 X _ 12 (cw_X12_laysShades hG F1 P Q hP (hR_E.fr (fun q hq => hq_F1 q (by omega)) hP) G hW hgw ⟨by rw [hq_F1 125 (by omega)]; exact hp_E.1, fun p hp => by have := hW.2.1; rw [hq_F1 (142 + p) (by omega)]; exact hp_E.2 p hp⟩ nl lx lr ⟨by rw [hq_F1 125 (by omega)]; exact hl_E.1, hl_E.2.1, fun k hk => by have := hl_E.2.1; rw [hq_F1 (209 + k) (by omega)]; exact hl_E.2.2.1 k hk, hl_E.2.2.2⟩ (by rw [hq_F1 125 (by omega)]; exact hc_E) hrw_F1 (hlw_E.fr hW.2.2.2.2.2.1 (by rw [hq_F1 125 (by omega)]) (fun q a b => hq_F1 q (by omega))) st hst (hK_E.fr (by rw [hq_F1 125 (by omega)]) (hq_F1 578 (by omega)) (hq_F1 579 (by omega)))) clX12 rfl k_125 mo_X12_laysShades w_2174 vo_X12_laysShades.1 vo_X12_laysShades.2 rfl rfl (crm Rt (by decide)) (Nat.le_of_ble_eq_true rfl) dX12_lays_6 rfl ?_
  rintro _ _ ⟨rfl, F2, rfl, hs_F2, hK_F2, hq_F2⟩
  refine at_vret X Rt ?_ (Nat.le_refl _) (Nat.le_refl _) dX12_lays_9
  exact ⟨rfl, F2, rfl, hs_F2, hK_F2, fun q h1 h2 => (hq_F2 q h1 (by omega) (by omega)).trans (hq_F1 q (by omega))⟩
