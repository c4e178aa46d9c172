theorem sum_le {n p k : Nat} (f : Nat → Nat) (hf : ∀ i, i < n → f i ≤ k) (hp : p ≤ n) : itr (fun i v => v + f i) 0 p ≤ p * k := by
  induction p with
  | zero => exact Nat.zero_le _
  | succ p ih =>
    have h1 := ih (by omega)
    have h2 := hf p (by omega)
    rw [itr_s, Nat.succ_mul]
    omega
theorem wt_le {B : BM} {W b p : Nat} (h : WB W B) (hb : b < bN B) (hp : p < bL B b) : bH B b + bD B b p ≤ 108 := by
  have := h.H hb
  have := h.D hb hp
  omega
theorem sumL_le {B : BM} {W b : Nat} (h : WB W B) (hb : b < bN B) {p : Nat} (hp : p ≤ bL B b) : sumL B b p ≤ p * 2052 := by
  have hl := h.L hb
  refine sum_le (n := bL B b) (fun p => (bH B b + bD B b p) * (bL B b - 1 - p)) (fun i hi => ?_) hp
  have h1 := wt_le h hb hi
  exact Nat.le_trans (Nat.mul_le_mul h1 (show bL B b - 1 - i ≤ 19 by omega)) (by decide)
theorem sumR_le {B : BM} {W b : Nat} (h : WB W B) (hb : b < bN B) {p : Nat} (hp : p ≤ bL B b) : sumR B b p ≤ p * 2052 := by
  have hl := h.L hb
  refine sum_le (n := bL B b) (fun p => (bH B b + bD B b p) * p) (fun i hi => ?_) hp
  have h1 := wt_le h hb hi
  exact Nat.le_trans (Nat.mul_le_mul h1 (show i ≤ 19 by omega)) (by decide)
theorem un_le (n : Nat) : UN / n ≤ 232792560 := Nat.div_le_self _ _
theorem onL_le {B : BM} {W b : Nat} (h : WB W B) (hb : b < bN B) : onL B b ≤ 9553806662400 := by
  have hl := h.L hb
  have h1 := sumL_le h hb (Nat.le_refl (bL B b))
  exact Nat.le_trans (Nat.mul_le_mul (show sumL B b (bL B b) ≤ 41040 by omega) (un_le _)) (by decide)
theorem onR_le {B : BM} {W b : Nat} (h : WB W B) (hb : b < bN B) : onR B b ≤ 9553806662400 := by
  have hl := h.L hb
  have h1 := sumR_le h hb (Nat.le_refl (bL B b))
  exact Nat.le_trans (Nat.mul_le_mul (show sumR B b (bL B b) ≤ 41040 by omega) (un_le _)) (by decide)
theorem dX0_rightEnd_0 : decode cX0_rightEnd 0 = .ok (.iload_n 2, 1) := by decide +kernel
theorem dX0_rightEnd_1 : decode cX0_rightEnd 1 = .ok (.aload_n 0, 1) := by decide +kernel
theorem dX0_rightEnd_2 : decode cX0_rightEnd 2 = .ok (.getfield 15, 3) := by decide +kernel
theorem dX0_rightEnd_5 : decode cX0_rightEnd 5 = .ok (.iload_n 1, 1) := by decide +kernel
theorem dX0_rightEnd_6 : decode cX0_rightEnd 6 = .ok (.iaload, 1) := by decide +kernel
theorem dX0_rightEnd_7 : decode cX0_rightEnd 7 = .ok (.iadd, 1) := by decide +kernel
theorem dX0_rightEnd_8 : decode cX0_rightEnd 8 = .ok (.iconst 1, 1) := by decide +kernel
theorem dX0_rightEnd_9 : decode cX0_rightEnd 9 = .ok (.isub, 1) := by decide +kernel
theorem dX0_rightEnd_10 : decode cX0_rightEnd 10 = .ok (.ireturn, 1) := by decide +kernel
theorem ct_X0_rightEnd {g : Gw} (hG : GF g) {z : Bool} (E : Mm) (B : BM) (a W : Nat) (ha : a = 76 ∨ a = 91) (hB : CB E a B) (hW : WB W B) (hW4 : W ≤ 40) (b : Nat) (hb : b < bN B) (x : Int) (hx : -1 ≤ x ∧ x ≤ 40) : CT g yX0_rightEnd cX0_rightEnd 3 (some .int) 0 0 0 0 K2 z [mR a, mI ((b : Nat) : Int), mI x] (ov E) K2 z (fun r D' => r = some (mI (x + (bL B b : Int) - 1)) ∧ D' = ov E) := by
  refine CT.mk hG (by decide +kernel) (Nat.le_of_ble_eq_true rfl) (fun κ X Rt _ ok => ?_)
  have hN8 := hW.N
  refine at_iload_n 1 X rfl rfl dX0_rightEnd_0 rfl ?_
  refine at_aload_n 2 X rfl rfl dX0_rightEnd_1 rfl ?_
  refine m_getR 5 X f_X0_15 (kX0 ha) (rX0_1 ha) dX0_rightEnd_2 rfl ?_
  refine at_iload_n 6 X rfl rfl dX0_rightEnd_5 rfl ?_
  refine m_ialoadV 7 X b (by omega) ((bL B b : Nat) : Int) (hB.L (b := b) (by omega)) (kX0_1 ha) (eX0_1 ha) (by omega) dX0_rightEnd_6 rfl ?_
  have := hW.L (b := b) (by omega)
  refine at_iaddV 8 X (x + ((bL B b : Nat) : Int)) (w32_v rfl (by omega) (by omega)) dX0_rightEnd_7 rfl ?_
  refine at_iconst 9 X (by decide) dX0_rightEnd_8 rfl ?_
  refine at_isubV 10 X ((x + ((bL B b : Nat) : Int)) - 1) (w32_v rfl (by omega) (by omega)) dX0_rightEnd_9 rfl ?_
  refine at_iret X Rt ?_ (Nat.le_refl _) (Nat.le_refl _) dX0_rightEnd_10
  exact ⟨rfl, rfl⟩
theorem dX0_isCell_0 : decode cX0_isCell 0 = .ok (.iload_n 1, 1) := by decide +kernel
theorem dX0_isCell_1 : decode cX0_isCell 1 = .ok (.ifCond .lt 23, 3) := by decide +kernel
theorem dX0_isCell_4 : decode cX0_isCell 4 = .ok (.iload_n 1, 1) := by decide +kernel
theorem dX0_isCell_5 : decode cX0_isCell 5 = .ok (.bipush 8, 2) := by decide +kernel
theorem dX0_isCell_7 : decode cX0_isCell 7 = .ok (.if_icmp .ge 17, 3) := by decide +kernel
theorem dX0_isCell_10 : decode cX0_isCell 10 = .ok (.iload_n 2, 1) := by decide +kernel
theorem dX0_isCell_11 : decode cX0_isCell 11 = .ok (.ifCond .lt 13, 3) := by decide +kernel
theorem dX0_isCell_14 : decode cX0_isCell 14 = .ok (.iload_n 2, 1) := by decide +kernel
theorem dX0_isCell_15 : decode cX0_isCell 15 = .ok (.bipush 20, 2) := by decide +kernel
theorem dX0_isCell_17 : decode cX0_isCell 17 = .ok (.if_icmp .ge 7, 3) := by decide +kernel
theorem dX0_isCell_20 : decode cX0_isCell 20 = .ok (.iconst 1, 1) := by decide +kernel
theorem dX0_isCell_21 : decode cX0_isCell 21 = .ok (.goto 4, 3) := by decide +kernel
theorem dX0_isCell_24 : decode cX0_isCell 24 = .ok (.iconst 0, 1) := by decide +kernel
theorem dX0_isCell_25 : decode cX0_isCell 25 = .ok (.ireturn, 1) := by decide +kernel
theorem ct_X0_isCell {g : Gw} (hG : GF g) {z : Bool} (E : Mm) (a : Nat) (ha : a = 76 ∨ a = 91) (b p : Nat) : CT g yX0_isCell cX0_isCell 3 (some .boolean) 0 0 0 0 K2 z [mR a, mI ((b : Nat) : Int), mI ((p : Nat) : Int)] (ov E) K2 z (fun r D' => r = some (mI (if b < 8 ∧ p < 20 then 1 else 0)) ∧ D' = ov E) := by
  refine CT.mk hG (by decide +kernel) (Nat.le_of_ble_eq_true rfl) (fun κ X Rt _ ok => ?_)
  refine at_iload_n 1 X rfl rfl dX0_isCell_0 rfl ?_
  refine at_if_lt 4 24 X dX0_isCell_1 rfl (by decide) (fun h1 => ?_) (fun h1 => ?_)
  · refine at_iconst 25 X (by decide) dX0_isCell_24 rfl ?_
    refine at_zret X Rt ?_ (by first | decide | (split <;> decide)) (Nat.le_refl _) (Nat.le_refl _) dX0_isCell_25
    first
      | (exfalso; omega)
      | exact ⟨by rw [if_pos (by omega)], rfl⟩
      | exact ⟨by rw [if_neg (by omega)], rfl⟩
  · refine at_iload_n 5 X rfl rfl dX0_isCell_4 rfl ?_
    refine at_bipush 7 X (by decide) (by decide) dX0_isCell_5 rfl ?_
    refine at_icmp_ge 10 24 X dX0_isCell_7 rfl (by decide) (fun h7 => ?_) (fun h7 => ?_)
    · refine at_iconst 25 X (by decide) dX0_isCell_24 rfl ?_
      refine at_zret X Rt ?_ (by first | decide | (split <;> decide)) (Nat.le_refl _) (Nat.le_refl _) dX0_isCell_25
      first
        | (exfalso; omega)
        | exact ⟨by rw [if_pos (by omega)], rfl⟩
        | exact ⟨by rw [if_neg (by omega)], rfl⟩
    · refine at_iload_n 11 X rfl rfl dX0_isCell_10 rfl ?_
      refine at_if_lt 14 24 X dX0_isCell_11 rfl (by decide) (fun h11 => ?_) (fun h11 => ?_)
      · refine at_iconst 25 X (by decide) dX0_isCell_24 rfl ?_
        refine at_zret X Rt ?_ (by first | decide | (split <;> decide)) (Nat.le_refl _) (Nat.le_refl _) dX0_isCell_25
        first
          | (exfalso; omega)
          | exact ⟨by rw [if_pos (by omega)], rfl⟩
          | exact ⟨by rw [if_neg (by omega)], rfl⟩
      · refine at_iload_n 15 X rfl rfl dX0_isCell_14 rfl ?_
        refine at_bipush 17 X (by decide) (by decide) dX0_isCell_15 rfl ?_
        refine at_icmp_ge 20 24 X dX0_isCell_17 rfl (by decide) (fun h17 => ?_) (fun h17 => ?_)
        · refine at_iconst 25 X (by decide) dX0_isCell_24 rfl ?_
          refine at_zret X Rt ?_ (by first | decide | (split <;> decide)) (Nat.le_refl _) (Nat.le_refl _) dX0_isCell_25
          first
            | (exfalso; omega)
            | exact ⟨by rw [if_pos (by omega)], rfl⟩
            | exact ⟨by rw [if_neg (by omega)], rfl⟩
        · refine at_iconst 21 X (by decide) dX0_isCell_20 rfl ?_
          refine at_goto 25 X dX0_isCell_21 (by decide) ?_
          refine at_zret X Rt ?_ (by first | decide | (split <;> decide)) (Nat.le_refl _) (Nat.le_refl _) dX0_isCell_25
          first
            | (exfalso; omega)
            | exact ⟨by rw [if_pos (by omega)], rfl⟩
            | exact ⟨by rw [if_neg (by omega)], rfl⟩
theorem dX0_loadOn_0 : decode cX0_loadOn 0 = .ok (.aload_n 0, 1) := by decide +kernel
theorem dX0_loadOn_1 : decode cX0_loadOn 1 = .ok (.iload_n 1, 1) := by decide +kernel
theorem dX0_loadOn_2 : decode cX0_loadOn 2 = .ok (.iload_n 2, 1) := by decide +kernel
theorem dX0_loadOn_3 : decode cX0_loadOn 3 = .ok (.invokevirtual 45, 3) := by decide +kernel
theorem dX0_loadOn_6 : decode cX0_loadOn 6 = .ok (.ifCond .eq 17, 3) := by decide +kernel
theorem dX0_loadOn_9 : decode cX0_loadOn 9 = .ok (.aload_n 0, 1) := by decide +kernel
theorem dX0_loadOn_10 : decode cX0_loadOn 10 = .ok (.getfield 21, 3) := by decide +kernel
theorem dX0_loadOn_13 : decode cX0_loadOn 13 = .ok (.iload_n 1, 1) := by decide +kernel
theorem dX0_loadOn_14 : decode cX0_loadOn 14 = .ok (.bipush 20, 2) := by decide +kernel
theorem dX0_loadOn_16 : decode cX0_loadOn 16 = .ok (.imul, 1) := by decide +kernel
theorem dX0_loadOn_17 : decode cX0_loadOn 17 = .ok (.iload_n 2, 1) := by decide +kernel
theorem dX0_loadOn_18 : decode cX0_loadOn 18 = .ok (.iadd, 1) := by decide +kernel
theorem dX0_loadOn_19 : decode cX0_loadOn 19 = .ok (.iaload, 1) := by decide +kernel
theorem dX0_loadOn_20 : decode cX0_loadOn 20 = .ok (.goto 4, 3) := by decide +kernel
theorem dX0_loadOn_23 : decode cX0_loadOn 23 = .ok (.iconst 0, 1) := by decide +kernel
theorem dX0_loadOn_24 : decode cX0_loadOn 24 = .ok (.ireturn, 1) := by decide +kernel
theorem ct_X0_loadOn {g : Gw} (hG : GF g) {z : Bool} (E : Mm) (B : BM) (a W : Nat) (ha : a = 76 ∨ a = 91) (hB : CB E a B) (hW : WB W B) (hW4 : W ≤ 40) (b p : Nat) (hb : b < bN B) (hp : p < bL B b) : CT g yX0_loadOn cX0_loadOn 3 (some .int) 1 22 0 0 K2 z [mR a, mI ((b : Nat) : Int), mI ((p : Nat) : Int)] (ov E) K2 z (fun r D' => r = some (mI (bD B b p : Int)) ∧ D' = ov E) := by
  refine CT.mk hG (by decide +kernel) (Nat.le_of_ble_eq_true rfl) (fun κ X Rt _ ok => ?_)
  have hN8 := hW.N
  refine at_aload_n 1 X rfl rfl dX0_loadOn_0 rfl ?_
  refine at_iload_n 2 X rfl rfl dX0_loadOn_1 rfl ?_
  refine at_iload_n 3 X rfl rfl dX0_loadOn_2 rfl ?_
  refine at_callV 6 X _ 0 (ct_X0_isCell hG E _ ha b p) clX0 rfl (kX0 ha) mo_X0_isCell w_811 vo_X0_isCell.1 vo_X0_isCell.2 rfl rfl (crm Rt (by decide)) (Nat.le_of_ble_eq_true rfl) dX0_loadOn_3 rfl ?_
  rintro _ _ ⟨rfl, rfl⟩
  refine at_if_eq 9 23 X dX0_loadOn_6 rfl (by decide) (fun h6 => ?_) (fun h6 => ?_)
  · have h6 : ¬ (b < 8 ∧ p < 20) := ite_no.mp h6
    exfalso; have := hW.N; have := hW.L hb; omega
  · have h6 : (b < 8 ∧ p < 20) := ite_yes.mp h6
    refine at_aload_n 10 X rfl rfl dX0_loadOn_9 rfl ?_
    refine m_getR 13 X f_X0_21 (kX0 ha) (rX0_3 ha) dX0_loadOn_10 rfl ?_
    refine at_iload_n 14 X rfl rfl dX0_loadOn_13 rfl ?_
    refine at_bipush 16 X (by decide) (by decide) dX0_loadOn_14 rfl ?_
    refine at_imulV 17 X ((b * 20 : Nat) : Int) (w32_v (by omega) (by omega) (by omega)) dX0_loadOn_16 rfl ?_
    refine at_iload_n 18 X rfl rfl dX0_loadOn_17 rfl ?_
    refine at_iaddV 19 X ((b * 20 + p : Nat) : Int) (w32_v (by omega) (by omega) (by omega)) dX0_loadOn_18 rfl ?_
    refine m_ialoadV 20 X (b * 20 + p) (by omega) ((bD B b p : Nat) : Int) (hB.D (b := b) (p := p) (by omega) (by omega)) (kX0_3 ha) (eX0_3 ha) (by omega) dX0_loadOn_19 rfl ?_
    have := hW.D (b := b) (p := p) (by omega) (by omega)
    refine at_goto 24 X dX0_loadOn_20 (by decide) ?_
    refine at_iret X Rt ?_ (Nat.le_refl _) (Nat.le_refl _) dX0_loadOn_24
    exact ⟨rfl, rfl⟩
/-- weight and loads of a beam, so far -/
def allB (B : BM) (b : Nat) : Nat → Nat := itr (fun p v => v + (bH B b + bD B b p)) 0
theorem dX0_allOf_0 : decode cX0_allOf 0 = .ok (.iconst 0, 1) := by decide +kernel
theorem dX0_allOf_1 : decode cX0_allOf 1 = .ok (.istore_n 2, 1) := by decide +kernel
theorem dX0_allOf_2 : decode cX0_allOf 2 = .ok (.iconst 0, 1) := by decide +kernel
theorem dX0_allOf_3 : decode cX0_allOf 3 = .ok (.istore_n 3, 1) := by decide +kernel
theorem dX0_allOf_4 : decode cX0_allOf 4 = .ok (.iload_n 3, 1) := by decide +kernel
theorem dX0_allOf_5 : decode cX0_allOf 5 = .ok (.aload_n 0, 1) := by decide +kernel
theorem dX0_allOf_6 : decode cX0_allOf 6 = .ok (.getfield 15, 3) := by decide +kernel
theorem dX0_allOf_9 : decode cX0_allOf 9 = .ok (.iload_n 1, 1) := by decide +kernel
theorem dX0_allOf_10 : decode cX0_allOf 10 = .ok (.iaload, 1) := by decide +kernel
theorem dX0_allOf_11 : decode cX0_allOf 11 = .ok (.if_icmp .ge 25, 3) := by decide +kernel
theorem dX0_allOf_14 : decode cX0_allOf 14 = .ok (.iload_n 2, 1) := by decide +kernel
theorem dX0_allOf_15 : decode cX0_allOf 15 = .ok (.aload_n 0, 1) := by decide +kernel
theorem dX0_allOf_16 : decode cX0_allOf 16 = .ok (.getfield 18, 3) := by decide +kernel
theorem dX0_allOf_19 : decode cX0_allOf 19 = .ok (.iload_n 1, 1) := by decide +kernel
theorem dX0_allOf_20 : decode cX0_allOf 20 = .ok (.iaload, 1) := by decide +kernel
theorem dX0_allOf_21 : decode cX0_allOf 21 = .ok (.aload_n 0, 1) := by decide +kernel
theorem dX0_allOf_22 : decode cX0_allOf 22 = .ok (.iload_n 1, 1) := by decide +kernel
theorem dX0_allOf_23 : decode cX0_allOf 23 = .ok (.iload_n 3, 1) := by decide +kernel
theorem dX0_allOf_24 : decode cX0_allOf 24 = .ok (.invokevirtual 49, 3) := by decide +kernel
theorem dX0_allOf_27 : decode cX0_allOf 27 = .ok (.iadd, 1) := by decide +kernel
theorem dX0_allOf_28 : decode cX0_allOf 28 = .ok (.iadd, 1) := by decide +kernel
theorem dX0_allOf_29 : decode cX0_allOf 29 = .ok (.istore_n 2, 1) := by decide +kernel
theorem dX0_allOf_30 : decode cX0_allOf 30 = .ok (.iinc 3 1, 3) := by decide +kernel
theorem dX0_allOf_33 : decode cX0_allOf 33 = .ok (.goto (-29), 3) := by decide +kernel
theorem dX0_allOf_36 : decode cX0_allOf 36 = .ok (.iload_n 2, 1) := by decide +kernel
theorem dX0_allOf_37 : decode cX0_allOf 37 = .ok (.ireturn, 1) := by decide +kernel
theorem ct_X0_allOf {g : Gw} (hG : GF g) {z : Bool} (E : Mm) (B : BM) (a W : Nat) (ha : a = 76 ∨ a = 91) (hB : CB E a B) (hW : WB W B) (hW4 : W ≤ 40) (b : Nat) (hb : b < bN B) : CT g yX0_allOf cX0_allOf 4 (some .int) 2 44 0 0 K2 z [mR a, mI ((b : Nat) : Int)] (ov E) K2 z (fun r D' => r = some (mI (allB B b (bL B b) : Int)) ∧ D' = ov E) := by
  refine CT.mk hG (by decide +kernel) (Nat.le_of_ble_eq_true rfl) (fun κ X Rt _ ok => ?_)
  have hN8 := hW.N
  refine at_iconst 1 X (by decide) dX0_allOf_0 rfl ?_
  refine at_istore_n 2 X rfl dX0_allOf_1 rfl (by decide) ?_
  refine at_iconst 3 X (by decide) dX0_allOf_2 rfl ?_
  refine at_istore_n 4 X rfl dX0_allOf_3 rfl (by decide) ?_
  have J4 : ∀ (f4 : Nat) (p : Nat) (v : Nat), 20 - p < f4 → (p ≤ bL B b) → (v = allB B b p) → (v ≤ p * 108) → AT g κ K2 z 0 0 4 [(0, mR a), (1, mI ((b : Nat) : Int)), (2, mI ((v : Nat) : Int)), (3, mI ((p : Nat) : Int))] [] (ov E) := by
    intro f4
    induction f4 with
    | zero => intro p v hf4; omega
    | succ f4 ih4 =>
    intro p v hf4 hp hv hv2
    refine at_iload_n 5 X rfl rfl dX0_allOf_4 rfl ?_
    refine at_aload_n 6 X rfl rfl dX0_allOf_5 rfl ?_
    refine m_getR 9 X f_X0_15 (kX0 ha) (rX0_1 ha) dX0_allOf_6 rfl ?_
    refine at_iload_n 10 X rfl rfl dX0_allOf_9 rfl ?_
    refine m_ialoadV 11 X b (by omega) ((bL B b : Nat) : Int) (hB.L (b := b) (by omega)) (kX0_1 ha) (eX0_1 ha) (by omega) dX0_allOf_10 rfl ?_
    have := hW.L (b := b) (by omega)
    refine at_icmp_ge 14 36 X dX0_allOf_11 rfl (by decide) (fun h11 => ?_) (fun h11 => ?_)
    · refine at_iload_n 37 X rfl rfl dX0_allOf_36 rfl ?_
      refine at_iret X Rt ?_ (Nat.le_refl _) (Nat.le_refl _) dX0_allOf_37
      exact ⟨by rw [hv, show p = bL B b by omega], rfl⟩
    · refine at_iload_n 15 X rfl rfl dX0_allOf_14 rfl ?_
      refine at_aload_n 16 X rfl rfl dX0_allOf_15 rfl ?_
      refine m_getR 19 X f_X0_18 (kX0 ha) (rX0_2 ha) dX0_allOf_16 rfl ?_
      refine at_iload_n 20 X rfl rfl dX0_allOf_19 rfl ?_
      refine m_ialoadV 21 X b (by omega) ((bH B b : Nat) : Int) (hB.H (b := b) (by omega)) (kX0_2 ha) (eX0_2 ha) (by omega) dX0_allOf_20 rfl ?_
      have := hW.H (b := b) (by omega)
      refine at_aload_n 22 X rfl rfl dX0_allOf_21 rfl ?_
      refine at_iload_n 23 X rfl rfl dX0_allOf_22 rfl ?_
      refine at_iload_n 24 X rfl rfl dX0_allOf_23 rfl ?_
      refine at_callV 27 X _ 0 (ct_X0_loadOn hG E B a W ha hB hW hW4 b p (by omega) (by omega)) clX0 rfl (kX0 ha) mo_X0_loadOn w_1248 vo_X0_loadOn.1 vo_X0_loadOn.2 rfl rfl (crm Rt (by decide)) (Nat.le_of_ble_eq_true rfl) dX0_allOf_24 rfl ?_
      rintro _ _ ⟨rfl, rfl⟩
      have := hW.D (b := b) (p := p) (by omega) (by omega)
      refine at_iaddV 28 X ((bH B b + bD B b p : Nat) : Int) (w32_v (by omega) (by omega) (by omega)) dX0_allOf_27 rfl ?_
      refine at_iaddV 29 X ((v + (bH B b + bD B b p) : Nat) : Int) (w32_v (by omega) (by omega) (by omega)) dX0_allOf_28 rfl ?_
      refine at_istore_n 30 X rfl dX0_allOf_29 rfl (by decide) ?_
      refine at_iincV 33 X ((p + 1 : Nat) : Int) (w32_v (by omega) (by omega) (by omega)) rfl dX0_allOf_30 rfl (by decide) ?_
      refine at_goto 4 X dX0_allOf_33 (by decide) ?_
      have := hW.L hb
      exact at_sub _ (by exact ⟨rfl, rfl, rfl, rfl, trivial⟩) (ih4 (p + 1) (v + (bH B b + bD B b p)) (by first | omega | (simp only [] at *; omega)) (by first | omega | assumption) (by unfold allB; rw [itr_s, hv]; rfl) (by omega))
  exact at_sub _ (by exact ⟨rfl, rfl, rfl, rfl, trivial⟩) (J4 _ 0 0 (Nat.lt_succ_self _) (by first | omega | assumption | rfl) rfl (by omega))
theorem dX0_weigh_0 : decode cX0_weigh 0 = .ok (.aload_n 0, 1) := by decide +kernel
theorem dX0_weigh_1 : decode cX0_weigh 1 = .ok (.getfield 15, 3) := by decide +kernel
theorem dX0_weigh_4 : decode cX0_weigh 4 = .ok (.iload_n 1, 1) := by decide +kernel
theorem dX0_weigh_5 : decode cX0_weigh 5 = .ok (.iaload, 1) := by decide +kernel
theorem dX0_weigh_6 : decode cX0_weigh 6 = .ok (.iconst 1, 1) := by decide +kernel
theorem dX0_weigh_7 : decode cX0_weigh 7 = .ok (.isub, 1) := by decide +kernel
theorem dX0_weigh_8 : decode cX0_weigh 8 = .ok (.istore_n 2, 1) := by decide +kernel
theorem dX0_weigh_9 : decode cX0_weigh 9 = .ok (.iload_n 2, 1) := by decide +kernel
theorem dX0_weigh_10 : decode cX0_weigh 10 = .ok (.ifCond .gt 4, 3) := by decide +kernel
theorem dX0_weigh_13 : decode cX0_weigh 13 = .ok (.return_, 1) := by decide +kernel
theorem dX0_weigh_14 : decode cX0_weigh 14 = .ok (.ldc2_w 53, 3) := by decide +kernel
theorem dX0_weigh_17 : decode cX0_weigh 17 = .ok (.iload_n 2, 1) := by decide +kernel
theorem dX0_weigh_18 : decode cX0_weigh 18 = .ok (.i2l, 1) := by decide +kernel
theorem dX0_weigh_19 : decode cX0_weigh 19 = .ok (.ldiv, 1) := by decide +kernel
theorem dX0_weigh_20 : decode cX0_weigh 20 = .ok (.lstore_n 3, 1) := by decide +kernel
theorem dX0_weigh_21 : decode cX0_weigh 21 = .ok (.lconst 0, 1) := by decide +kernel
theorem dX0_weigh_22 : decode cX0_weigh 22 = .ok (.lstore 5, 2) := by decide +kernel
theorem dX0_weigh_24 : decode cX0_weigh 24 = .ok (.lconst 0, 1) := by decide +kernel
theorem dX0_weigh_25 : decode cX0_weigh 25 = .ok (.lstore 7, 2) := by decide +kernel
theorem dX0_weigh_27 : decode cX0_weigh 27 = .ok (.iconst 0, 1) := by decide +kernel
theorem dX0_weigh_28 : decode cX0_weigh 28 = .ok (.istore 9, 2) := by decide +kernel
theorem dX0_weigh_30 : decode cX0_weigh 30 = .ok (.iload 9, 2) := by decide +kernel
theorem dX0_weigh_32 : decode cX0_weigh 32 = .ok (.iload_n 2, 1) := by decide +kernel
theorem dX0_weigh_33 : decode cX0_weigh 33 = .ok (.if_icmp .gt 62, 3) := by decide +kernel
theorem dX0_weigh_36 : decode cX0_weigh 36 = .ok (.iload 9, 2) := by decide +kernel
theorem dX0_weigh_38 : decode cX0_weigh 38 = .ok (.bipush 20, 2) := by decide +kernel
theorem dX0_weigh_40 : decode cX0_weigh 40 = .ok (.if_icmp .ge 55, 3) := by decide +kernel
theorem dX0_weigh_43 : decode cX0_weigh 43 = .ok (.aload_n 0, 1) := by decide +kernel
theorem dX0_weigh_44 : decode cX0_weigh 44 = .ok (.getfield 18, 3) := by decide +kernel
theorem dX0_weigh_47 : decode cX0_weigh 47 = .ok (.iload_n 1, 1) := by decide +kernel
theorem dX0_weigh_48 : decode cX0_weigh 48 = .ok (.iaload, 1) := by decide +kernel
theorem dX0_weigh_49 : decode cX0_weigh 49 = .ok (.aload_n 0, 1) := by decide +kernel
theorem dX0_weigh_50 : decode cX0_weigh 50 = .ok (.getfield 21, 3) := by decide +kernel
theorem dX0_weigh_53 : decode cX0_weigh 53 = .ok (.iload_n 1, 1) := by decide +kernel
theorem dX0_weigh_54 : decode cX0_weigh 54 = .ok (.bipush 20, 2) := by decide +kernel
theorem dX0_weigh_56 : decode cX0_weigh 56 = .ok (.imul, 1) := by decide +kernel
theorem dX0_weigh_57 : decode cX0_weigh 57 = .ok (.iload 9, 2) := by decide +kernel
theorem dX0_weigh_59 : decode cX0_weigh 59 = .ok (.iadd, 1) := by decide +kernel
theorem dX0_weigh_60 : decode cX0_weigh 60 = .ok (.iaload, 1) := by decide +kernel
theorem dX0_weigh_61 : decode cX0_weigh 61 = .ok (.iadd, 1) := by decide +kernel
theorem dX0_weigh_62 : decode cX0_weigh 62 = .ok (.i2l, 1) := by decide +kernel
theorem dX0_weigh_63 : decode cX0_weigh 63 = .ok (.lstore 10, 2) := by decide +kernel
theorem dX0_weigh_65 : decode cX0_weigh 65 = .ok (.lload 5, 2) := by decide +kernel
theorem dX0_weigh_67 : decode cX0_weigh 67 = .ok (.lload 10, 2) := by decide +kernel
theorem dX0_weigh_69 : decode cX0_weigh 69 = .ok (.iload_n 2, 1) := by decide +kernel
theorem dX0_weigh_70 : decode cX0_weigh 70 = .ok (.iload 9, 2) := by decide +kernel
theorem dX0_weigh_72 : decode cX0_weigh 72 = .ok (.isub, 1) := by decide +kernel
theorem dX0_weigh_73 : decode cX0_weigh 73 = .ok (.i2l, 1) := by decide +kernel
theorem dX0_weigh_74 : decode cX0_weigh 74 = .ok (.lmul, 1) := by decide +kernel
theorem dX0_weigh_75 : decode cX0_weigh 75 = .ok (.ladd, 1) := by decide +kernel
theorem dX0_weigh_76 : decode cX0_weigh 76 = .ok (.lstore 5, 2) := by decide +kernel
theorem dX0_weigh_78 : decode cX0_weigh 78 = .ok (.lload 7, 2) := by decide +kernel
theorem dX0_weigh_80 : decode cX0_weigh 80 = .ok (.lload 10, 2) := by decide +kernel
theorem dX0_weigh_82 : decode cX0_weigh 82 = .ok (.iload 9, 2) := by decide +kernel
theorem dX0_weigh_84 : decode cX0_weigh 84 = .ok (.i2l, 1) := by decide +kernel
theorem dX0_weigh_85 : decode cX0_weigh 85 = .ok (.lmul, 1) := by decide +kernel
theorem dX0_weigh_86 : decode cX0_weigh 86 = .ok (.ladd, 1) := by decide +kernel
theorem dX0_weigh_87 : decode cX0_weigh 87 = .ok (.lstore 7, 2) := by decide +kernel
theorem dX0_weigh_89 : decode cX0_weigh 89 = .ok (.iinc 9 1, 3) := by decide +kernel
theorem dX0_weigh_92 : decode cX0_weigh 92 = .ok (.goto (-62), 3) := by decide +kernel
theorem dX0_weigh_95 : decode cX0_weigh 95 = .ok (.aload_n 0, 1) := by decide +kernel
theorem dX0_weigh_96 : decode cX0_weigh 96 = .ok (.getfield 24, 3) := by decide +kernel
theorem dX0_weigh_99 : decode cX0_weigh 99 = .ok (.iload_n 1, 1) := by decide +kernel
theorem dX0_weigh_100 : decode cX0_weigh 100 = .ok (.lload 5, 2) := by decide +kernel
theorem dX0_weigh_102 : decode cX0_weigh 102 = .ok (.lload_n 3, 1) := by decide +kernel
theorem dX0_weigh_103 : decode cX0_weigh 103 = .ok (.lmul, 1) := by decide +kernel
theorem dX0_weigh_104 : decode cX0_weigh 104 = .ok (.lastore, 1) := by decide +kernel
theorem dX0_weigh_105 : decode cX0_weigh 105 = .ok (.aload_n 0, 1) := by decide +kernel
theorem dX0_weigh_106 : decode cX0_weigh 106 = .ok (.getfield 28, 3) := by decide +kernel
theorem dX0_weigh_109 : decode cX0_weigh 109 = .ok (.iload_n 1, 1) := by decide +kernel
theorem dX0_weigh_110 : decode cX0_weigh 110 = .ok (.lload 7, 2) := by decide +kernel
theorem dX0_weigh_112 : decode cX0_weigh 112 = .ok (.lload_n 3, 1) := by decide +kernel
theorem dX0_weigh_113 : decode cX0_weigh 113 = .ok (.lmul, 1) := by decide +kernel
theorem dX0_weigh_114 : decode cX0_weigh 114 = .ok (.lastore, 1) := by decide +kernel
theorem dX0_weigh_115 : decode cX0_weigh 115 = .ok (.return_, 1) := by decide +kernel
theorem ct_X0_weigh {g : Gw} (hG : GF g) {z : Bool} (E : Mm) (B : BM) (a b : Nat) (ha : a = 76 ∨ a = 91) (hb : b < 8) (h2 : E (a + 2) b = (bL B b : Int)) (h3 : E (a + 3) b = (bH B b : Int)) (h4 : ∀ p, p < bL B b → E (a + 4) (b * 20 + p) = (bD B b p : Int)) (hl : 2 ≤ bL B b ∧ bL B b ≤ 20) (hh : bH B b ≤ 9) (hd : ∀ p, p < bL B b → bD B b p ≤ 99) : CT g yX0_weigh cX0_weigh 12 none 0 0 0 0 K2 z [mR a, mI ((b : Nat) : Int)] (ov E) K2 z (fun r D' => r = none ∧ D' = ov (wr (wr E (a + 5) b (onL B b : Int)) (a + 6) b (onR B b : Int))) := by
  refine CT.mk hG (by decide +kernel) (Nat.le_of_ble_eq_true rfl) (fun κ X Rt _ ok => ?_)
  refine at_aload_n 1 X rfl rfl dX0_weigh_0 rfl ?_
  refine m_getR 4 X f_X0_15 (kX0 ha) (rX0_1 ha) dX0_weigh_1 rfl ?_
  refine at_iload_n 5 X rfl rfl dX0_weigh_4 rfl ?_
  refine m_ialoadV 6 X b (by omega) ((bL B b : Nat) : Int) h2 (kX0_1 ha) (eX0_1 ha) (by omega) dX0_weigh_5 rfl ?_
  refine at_iconst 7 X (by decide) dX0_weigh_6 rfl ?_
  refine at_isubV 8 X ((bL B b - 1 : Nat) : Int) (w32_v (by omega) (by omega) (by omega)) dX0_weigh_7 rfl ?_
  refine at_istore_n 9 X rfl dX0_weigh_8 rfl (by decide) ?_
  refine at_iload_n 10 X rfl rfl dX0_weigh_9 rfl ?_
  refine at_if_gt 13 14 X dX0_weigh_10 rfl (by decide) (fun h10 => ?_) (fun h10 => ?_)
  · refine at_ldc2 17 X (n := 232792560) w_819 (by decide) (by decide) dX0_weigh_14 rfl ?_
    refine at_iload_n 18 X rfl rfl dX0_weigh_17 rfl ?_
    refine at_i2l 19 X dX0_weigh_18 rfl ?_
    have hun := un_le (bL B b - 1)
    have hun0 := Int.natCast_nonneg (UN / (bL B b - 1))
    refine at_ldivV 20 X (by omega) ((UN / (bL B b - 1) : Nat) : Int) (w64_v (Int.ofNat_tdiv 232792560 (bL B b - 1)).symm (by omega) (by omega)) dX0_weigh_19 rfl ?_
    refine at_lstore_n 21 X rfl dX0_weigh_20 rfl (by decide) ?_
    refine at_lconst 22 X (v := 0) (by decide) (by decide) dX0_weigh_21 rfl ?_
    refine at_lstore 24 X dX0_weigh_22 rfl (by decide) ?_
    refine at_lconst 25 X (v := 0) (by decide) (by decide) dX0_weigh_24 rfl ?_
    refine at_lstore 27 X dX0_weigh_25 rfl (by decide) ?_
    refine at_iconst 28 X (by decide) dX0_weigh_27 rfl ?_
    refine at_istore 30 X dX0_weigh_28 rfl (by decide) ?_
    have J30 : ∀ (f30 : Nat) (p : Nat) (vl : Nat) (vr : Nat), 20 - p < f30 → (p ≤ bL B b) → (vl = sumL B b p) → (vr = sumR B b p) → (vl ≤ p * 2052) → (vr ≤ p * 2052) → AT g κ K2 z 0 0 30 [(0, mR a), (1, mI ((b : Nat) : Int)), (2, mI ((bL B b - 1 : Nat) : Int)), (3, mL ((UN / (bL B b - 1) : Nat) : Int)), (5, mL ((vl : Nat) : Int)), (7, mL ((vr : Nat) : Int)), (9, mI ((p : Nat) : Int))] [] (ov E) := by
      intro f30
      induction f30 with
      | zero => intro p vl vr hf30; omega
      | succ f30 ih30 =>
      intro p vl vr hf30 hp hvl hvr hl2 hr2
      refine at_iload 32 X rfl dX0_weigh_30 rfl ?_
      refine at_iload_n 33 X rfl rfl dX0_weigh_32 rfl ?_
      refine at_icmp_gt 36 95 X dX0_weigh_33 rfl (by decide) (fun h33 => ?_) (fun h33 => ?_)
      · have hq1 : onL B b ≤ 9553806662400 := Nat.le_trans (Nat.mul_le_mul (show sumL B b (bL B b) ≤ 41040 by rw [← show p = bL B b by omega, ← hvl]; omega) (un_le _)) (by decide)
        have hq2 : onR B b ≤ 9553806662400 := Nat.le_trans (Nat.mul_le_mul (show sumR B b (bL B b) ≤ 41040 by rw [← show p = bL B b by omega, ← hvr]; omega) (un_le _)) (by decide)
        refine at_aload_n 96 X rfl rfl dX0_weigh_95 rfl ?_
        refine m_getR 99 X f_X0_24 (kX0 ha) (rX0_4 ha) dX0_weigh_96 rfl ?_
        refine at_iload_n 100 X rfl rfl dX0_weigh_99 rfl ?_
        refine at_lload 102 X rfl dX0_weigh_100 rfl ?_
        refine at_lload_n 103 X rfl rfl dX0_weigh_102 rfl ?_
        refine at_lmulV 104 X ((onL B b : Nat) : Int) (w64_v (by rw [hvl, ← Int.natCast_mul, show p = bL B b by omega]; rfl) (by omega) (by omega)) dX0_weigh_103 rfl ?_
        refine m_lastoreV 105 X b (by omega) (kX0_4 ha) (eX0_4 ha) (by omega) dX0_weigh_104 rfl ?_
        refine at_aload_n 106 X rfl rfl dX0_weigh_105 rfl ?_
        refine m_getR 109 X f_X0_28 (kX0 ha) (rX0_5 ha) dX0_weigh_106 rfl ?_
        refine at_iload_n 110 X rfl rfl dX0_weigh_109 rfl ?_
        refine at_lload 112 X rfl dX0_weigh_110 rfl ?_
        refine at_lload_n 113 X rfl rfl dX0_weigh_112 rfl ?_
        refine at_lmulV 114 X ((onR B b : Nat) : Int) (w64_v (by rw [hvr, ← Int.natCast_mul, show p = bL B b by omega]; rfl) (by omega) (by omega)) dX0_weigh_113 rfl ?_
        refine m_lastoreV 115 X b (by omega) (kX0_5 ha) (eX0_5 ha) (by omega) dX0_weigh_114 rfl ?_
        refine at_vret X Rt ?_ (Nat.le_refl _) (Nat.le_refl _) dX0_weigh_115
        exact ⟨rfl, rfl⟩
      · refine at_iload 38 X rfl dX0_weigh_36 rfl ?_
        refine at_bipush 40 X (by decide) (by decide) dX0_weigh_38 rfl ?_
        refine at_icmp_ge 43 95 X dX0_weigh_40 rfl (by decide) (fun h40 => ?_) (fun h40 => ?_)
        · exfalso; omega
        · refine at_aload_n 44 X rfl rfl dX0_weigh_43 rfl ?_
          refine m_getR 47 X f_X0_18 (kX0 ha) (rX0_2 ha) dX0_weigh_44 rfl ?_
          refine at_iload_n 48 X rfl rfl dX0_weigh_47 rfl ?_
          refine m_ialoadV 49 X b (by omega) ((bH B b : Nat) : Int) h3 (kX0_2 ha) (eX0_2 ha) (by omega) dX0_weigh_48 rfl ?_
          refine at_aload_n 50 X rfl rfl dX0_weigh_49 rfl ?_
          refine m_getR 53 X f_X0_21 (kX0 ha) (rX0_3 ha) dX0_weigh_50 rfl ?_
          refine at_iload_n 54 X rfl rfl dX0_weigh_53 rfl ?_
          refine at_bipush 56 X (by decide) (by decide) dX0_weigh_54 rfl ?_
          refine at_imulV 57 X ((b * 20 : Nat) : Int) (w32_v (by omega) (by omega) (by omega)) dX0_weigh_56 rfl ?_
          refine at_iload 59 X rfl dX0_weigh_57 rfl ?_
          refine at_iaddV 60 X ((b * 20 + p : Nat) : Int) (w32_v (by omega) (by omega) (by omega)) dX0_weigh_59 rfl ?_
          refine m_ialoadV 61 X (b * 20 + p) (by omega) ((bD B b p : Nat) : Int) (h4 p (by omega)) (kX0_3 ha) (eX0_3 ha) (by omega) dX0_weigh_60 rfl ?_
          have := hd p (by omega)
          refine at_iaddV 62 X ((bH B b + bD B b p : Nat) : Int) (w32_v (by omega) (by omega) (by omega)) dX0_weigh_61 rfl ?_
          refine at_i2l 63 X dX0_weigh_62 rfl ?_
          refine at_lstore 65 X dX0_weigh_63 rfl (by decide) ?_
          refine at_lload 67 X rfl dX0_weigh_65 rfl ?_
          refine at_lload 69 X rfl dX0_weigh_67 rfl ?_
          refine at_iload_n 70 X rfl rfl dX0_weigh_69 rfl ?_
          refine at_iload 72 X rfl dX0_weigh_70 rfl ?_
          refine at_isubV 73 X ((bL B b - 1 - p : Nat) : Int) (w32_v (by omega) (by omega) (by omega)) dX0_weigh_72 rfl ?_
          refine at_i2l 74 X dX0_weigh_73 rfl ?_
          have hm1 := Nat.mul_le_mul (show bH B b + bD B b p ≤ 108 by omega) (show bL B b - 1 - p ≤ 19 by omega)
          refine at_lmulV 75 X (((bH B b + bD B b p) * (bL B b - 1 - p) : Nat) : Int) (w64_v (Int.natCast_mul _ _).symm (by omega) (by omega)) dX0_weigh_74 rfl ?_
          refine at_laddV 76 X ((vl + ((bH B b + bD B b p) * (bL B b - 1 - p)) : Nat) : Int) (w64_v (by omega) (by omega) (by omega)) dX0_weigh_75 rfl ?_
          refine at_lstore 78 X dX0_weigh_76 rfl (by decide) ?_
          refine at_lload 80 X rfl dX0_weigh_78 rfl ?_
          refine at_lload 82 X rfl dX0_weigh_80 rfl ?_
          refine at_iload 84 X rfl dX0_weigh_82 rfl ?_
          refine at_i2l 85 X dX0_weigh_84 rfl ?_
          have hm2 := Nat.mul_le_mul (show bH B b + bD B b p ≤ 108 by omega) (show p ≤ 19 by omega)
          refine at_lmulV 86 X (((bH B b + bD B b p) * p : Nat) : Int) (w64_v (Int.natCast_mul _ _).symm (by omega) (by omega)) dX0_weigh_85 rfl ?_
          refine at_laddV 87 X ((vr + ((bH B b + bD B b p) * p) : Nat) : Int) (w64_v (by omega) (by omega) (by omega)) dX0_weigh_86 rfl ?_
          refine at_lstore 89 X dX0_weigh_87 rfl (by decide) ?_
          refine at_iincV 92 X ((p + 1 : Nat) : Int) (w32_v (by omega) (by omega) (by omega)) rfl dX0_weigh_89 rfl (by decide) ?_
          refine at_goto 30 X dX0_weigh_92 (by decide) ?_
          exact at_sub _ (by exact ⟨rfl, rfl, rfl, rfl, rfl, rfl, rfl, trivial⟩) (ih30 (p + 1) (vl + ((bH B b + bD B b p) * (bL B b - 1 - p))) (vr + ((bH B b + bD B b p) * p)) (by first | omega | (simp only [] at *; omega)) (by first | omega | assumption) (by unfold sumL; rw [itr_s]; rw [hvl]; rfl) (by unfold sumR; rw [itr_s]; rw [hvr]; rfl) (by first | omega | assumption) (by first | omega | assumption))
    exact at_sub _ (by exact ⟨rfl, rfl, rfl, rfl, rfl, rfl, rfl, trivial⟩) (J30 _ 0 0 0 (Nat.lt_succ_self _) (by first | omega | assumption | rfl) rfl rfl (by first | omega | assumption | rfl) (by first | omega | assumption | rfl))
  · exfalso; omega
def setD (B : BM) (b p m : Nat) : BM := (bN B, bX B, bL B, bH B, fun c q => if c = b ∧ q = p then m else bD B c q)
theorem setD_s (B : BM) (b p m : Nat) : bD (setD B b p m) b p = m := if_pos ⟨rfl, rfl⟩
theorem setD_o {B : BM} {b p m c q : Nat} (h : c ≠ b ∨ q ≠ p) : bD (setD B b p m) c q = bD B c q := if_neg (by omega)
theorem setD_WB {B : BM} {W b p m : Nat} (h : WB W B) (hm : m ≤ 99) : WB W (setD B b p m) := ⟨h.1, fun c hc => ⟨(h.2 c hc).1, (h.2 c hc).2.1, fun q hq => by
  by_cases k : c = b ∧ q = p
  · obtain ⟨rfl, rfl⟩ := k; rw [setD_s]; exact hm
  · rw [setD_o (by omega)]; exact (h.2 c hc).2.2 q hq⟩⟩
theorem setD_back {B : BM} {b p m : Nat} : setD (setD B b p m) b p (bD B b p) = B := by
  obtain ⟨n, x, l, h, d⟩ := B
  show (n, x, l, h, fun c q => if c = b ∧ q = p then d b p else if c = b ∧ q = p then m else d c q) = (n, x, l, h, d)
  refine congrArg (fun z => (n, x, l, h, z)) (funext fun c => funext fun q => ?_)
  by_cases k : c = b ∧ q = p
  · rw [if_pos k, k.1, k.2]
  · rw [if_neg k, if_neg k]
theorem sum_o {B B' : BM} {b : Nat} (hl : bL B' b = bL B b) (hh : bH B' b = bH B b) (hd : ∀ p, bD B' b p = bD B b p) : onL B' b = onL B b ∧ onR B' b = onR B b := by
  have e1 : sumL B' b = sumL B b := by
    unfold sumL
    funext n
    exact itr_congr (fun i _ v => by rw [hl, hh, hd])
  have e2 : sumR B' b = sumR B b := by
    unfold sumR
    funext n
    exact itr_congr (fun i _ v => by rw [hh, hd])
  unfold onL onR
  rw [e1, e2, hl]
  exact ⟨rfl, rfl⟩
theorem CB_set {E : Mm} {a W : Nat} {B : BM} {b p m : Nat} (h : CB E a B) (hW : WB W B) (hb : b < bN B) (hp : p < bL B b) : CB (wr (wr (wr E (a + 4) (b * 20 + p) (m : Int)) (a + 5) b (onL (setD B b p m) b : Int)) (a + 6) b (onR (setD B b p m) b : Int)) a (setD B b p m) := by
  refine ⟨?_, fun c hc => ?_⟩
  · rw [wr_o (by omega), wr_o (by omega), wr_o (by omega)]; exact h.N
  · have hl := hW.L hc
    have hl2 := hW.L hb
    refine ⟨?_, ?_, ?_, fun q hq => ?_, ?_, ?_⟩
    · rw [wr_o (by omega), wr_o (by omega), wr_o (by omega)]; exact h.X hc
    · rw [wr_o (by omega), wr_o (by omega), wr_o (by omega)]; exact h.L hc
    · rw [wr_o (by omega), wr_o (by omega), wr_o (by omega)]; exact h.H hc
    · have hq' : q < bL B c := hq
      rw [wr_o (by omega), wr_o (by omega)]
      by_cases k : c = b ∧ q = p
      · obtain ⟨rfl, rfl⟩ := k
        rw [wr_s, setD_s]
      · rw [wr_o (by omega), setD_o (by omega)]; exact h.D hc hq
    · rw [wr_o (by omega)]
      by_cases k : c = b
      · subst k; rw [wr_s]
      · rw [wr_o (by omega), wr_o (by omega), (sum_o (B := B) (B' := setD B b p m) (b := c) rfl rfl (fun q => setD_o (by omega))).1]; exact h.l hc
    · by_cases k : c = b
      · subst k; rw [wr_s]
      · rw [wr_o (by omega), wr_o (by omega), wr_o (by omega), (sum_o (B := B) (B' := setD B b p m) (b := c) rfl rfl (fun q => setD_o (by omega))).2]; exact h.r hc
theorem dX0_setLoad_0 : decode cX0_setLoad 0 = .ok (.aload_n 0, 1) := by decide +kernel
theorem dX0_setLoad_1 : decode cX0_setLoad 1 = .ok (.iload_n 1, 1) := by decide +kernel
theorem dX0_setLoad_2 : decode cX0_setLoad 2 = .ok (.iload_n 2, 1) := by decide +kernel
theorem dX0_setLoad_3 : decode cX0_setLoad 3 = .ok (.invokevirtual 45, 3) := by decide +kernel
theorem dX0_setLoad_6 : decode cX0_setLoad 6 = .ok (.ifCond .eq 20, 3) := by decide +kernel
theorem dX0_setLoad_9 : decode cX0_setLoad 9 = .ok (.aload_n 0, 1) := by decide +kernel
theorem dX0_setLoad_10 : decode cX0_setLoad 10 = .ok (.getfield 21, 3) := by decide +kernel
theorem dX0_setLoad_13 : decode cX0_setLoad 13 = .ok (.iload_n 1, 1) := by decide +kernel
theorem dX0_setLoad_14 : decode cX0_setLoad 14 = .ok (.bipush 20, 2) := by decide +kernel
theorem dX0_setLoad_16 : decode cX0_setLoad 16 = .ok (.imul, 1) := by decide +kernel
theorem dX0_setLoad_17 : decode cX0_setLoad 17 = .ok (.iload_n 2, 1) := by decide +kernel
theorem dX0_setLoad_18 : decode cX0_setLoad 18 = .ok (.iadd, 1) := by decide +kernel
theorem dX0_setLoad_19 : decode cX0_setLoad 19 = .ok (.iload_n 3, 1) := by decide +kernel
theorem dX0_setLoad_20 : decode cX0_setLoad 20 = .ok (.iastore, 1) := by decide +kernel
theorem dX0_setLoad_21 : decode cX0_setLoad 21 = .ok (.aload_n 0, 1) := by decide +kernel
theorem dX0_setLoad_22 : decode cX0_setLoad 22 = .ok (.iload_n 1, 1) := by decide +kernel
theorem dX0_setLoad_23 : decode cX0_setLoad 23 = .ok (.invokevirtual 41, 3) := by decide +kernel
theorem dX0_setLoad_26 : decode cX0_setLoad 26 = .ok (.return_, 1) := by decide +kernel
theorem ct_X0_setLoad {g : Gw} (hG : GF g) {z : Bool} (E : Mm) (B : BM) (a W : Nat) (ha : a = 76 ∨ a = 91) (hB : CB E a B) (hW : WB W B) (hW4 : W ≤ 40) (b p m : Nat) (hb : b < bN B) (hp : p < bL B b) (hm : m ≤ 99) : CT g yX0_setLoad cX0_setLoad 4 none 1 31 0 0 K2 z [mR a, mI ((b : Nat) : Int), mI ((p : Nat) : Int), mI ((m : Nat) : Int)] (ov E) K2 z (fun r D' => r = none ∧ ∃ E1, D' = ov E1 ∧ CB E1 a (setD B b p m) ∧ ∀ q, q ≠ a + 4 → q ≠ a + 5 → q ≠ a + 6 → E1 q = E q) := by
  refine CT.mk hG (by decide +kernel) (Nat.le_of_ble_eq_true rfl) (fun κ X Rt _ ok => ?_)
  have hN8 := hW.N
  refine at_aload_n 1 X rfl rfl dX0_setLoad_0 rfl ?_
  refine at_iload_n 2 X rfl rfl dX0_setLoad_1 rfl ?_
  refine at_iload_n 3 X rfl rfl dX0_setLoad_2 rfl ?_
  refine at_callV 6 X _ 0 (ct_X0_isCell hG E _ ha b p) clX0 rfl (kX0 ha) mo_X0_isCell w_811 vo_X0_isCell.1 vo_X0_isCell.2 rfl rfl (crm Rt (by decide)) (Nat.le_of_ble_eq_true rfl) dX0_setLoad_3 rfl ?_
  rintro _ _ ⟨rfl, rfl⟩
  have := hW.L hb
  refine at_if_eq 9 26 X dX0_setLoad_6 rfl (by decide) (fun h6 => ?_) (fun h6 => ?_)
  · have h6 : ¬ (b < 8 ∧ p < 20) := ite_no.mp h6
    exfalso; have := hW.L hb; omega
  · have h6 : (b < 8 ∧ p < 20) := ite_yes.mp h6
    refine at_aload_n 10 X rfl rfl dX0_setLoad_9 rfl ?_
    refine m_getR 13 X f_X0_21 (kX0 ha) (rX0_3 ha) dX0_setLoad_10 rfl ?_
    refine at_iload_n 14 X rfl rfl dX0_setLoad_13 rfl ?_
    refine at_bipush 16 X (by decide) (by decide) dX0_setLoad_14 rfl ?_
    refine at_imulV 17 X ((b * 20 : Nat) : Int) (w32_v (by omega) (by omega) (by omega)) dX0_setLoad_16 rfl ?_
    refine at_iload_n 18 X rfl rfl dX0_setLoad_17 rfl ?_
    refine at_iaddV 19 X ((b * 20 + p : Nat) : Int) (w32_v (by omega) (by omega) (by omega)) dX0_setLoad_18 rfl ?_
    refine at_iload_n 20 X rfl rfl dX0_setLoad_19 rfl ?_
    refine m_iastoreV 21 X (b * 20 + p) (by omega) (kX0_3 ha) (eX0_3 ha) (by omega) dX0_setLoad_20 rfl ?_
    refine at_aload_n 22 X rfl rfl dX0_setLoad_21 rfl ?_
    refine at_iload_n 23 X rfl rfl dX0_setLoad_22 rfl ?_
    refine at_callV 26 X _ 0 (ct_X0_weigh hG (wr E (a + 4) (b * 20 + p) ((m : Nat) : Int)) (setD B b p m) a b ha (by omega) ((wr_o (by omega)).trans (hB.L hb)) ((wr_o (by omega)).trans (hB.H hb)) (fun q hq => if k : q = p then by subst k; rw [wr_s, setD_s] else by rw [wr_o (by omega), setD_o (by omega)]; exact hB.D hb hq) (hW.L hb) (hW.H hb).2 (fun q hq => if k : q = p then by subst k; rw [setD_s]; exact hm else by rw [setD_o (by omega)]; exact hW.D hb hq)) clX0 rfl (kX0 ha) mo_X0_weigh w_815 vo_X0_weigh.1 vo_X0_weigh.2 rfl rfl (crm Rt (by decide)) (Nat.le_of_ble_eq_true rfl) dX0_setLoad_23 rfl ?_
    rintro _ _ ⟨rfl, rfl⟩
    refine at_vret X Rt ?_ (Nat.le_refl _) (Nat.le_refl _) dX0_setLoad_26
    exact ⟨rfl, _, rfl, CB_set hB hW hb hp, fun q h1 h2 h3 => funext fun j => by rw [wr_o (by omega), wr_o (by omega), wr_o (by omega)]⟩
