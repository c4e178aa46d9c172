theorem dX10_hasRoom_0 : decode cX10_hasRoom 0 = .ok (.aload_n 0, 1) := by decide +kernel
theorem dX10_hasRoom_1 : decode cX10_hasRoom 1 = .ok (.getfield 19, 3) := by decide +kernel
theorem dX10_hasRoom_4 : decode cX10_hasRoom 4 = .ok (.bipush 20, 2) := by decide +kernel
theorem dX10_hasRoom_6 : decode cX10_hasRoom 6 = .ok (.iadd, 1) := by decide +kernel
theorem dX10_hasRoom_7 : decode cX10_hasRoom 7 = .ok (.sipush 600, 3) := by decide +kernel
theorem dX10_hasRoom_10 : decode cX10_hasRoom 10 = .ok (.if_icmp .gt 7, 3) := by decide +kernel
theorem dX10_hasRoom_13 : decode cX10_hasRoom 13 = .ok (.iconst 1, 1) := by decide +kernel
theorem dX10_hasRoom_14 : decode cX10_hasRoom 14 = .ok (.goto 4, 3) := by decide +kernel
theorem dX10_hasRoom_17 : decode cX10_hasRoom 17 = .ok (.iconst 0, 1) := by decide +kernel
theorem dX10_hasRoom_18 : decode cX10_hasRoom 18 = .ok (.ireturn, 1) := by decide +kernel
theorem ct_X10_hasRoom {g : Gw} (hG : GF g) {z : Bool} (E : Mm) (s : Nat) (hs : E 1 1 = (s : Int)) (hs2 : s ≤ 600) : CT g yX10_hasRoom cX10_hasRoom 1 (some .boolean) 0 0 0 0 K2 z [mR 1] (ov (E)) K2 z (fun r D' => r = some (mI (if s + 20 ≤ 600 then 1 else 0)) ∧ D' = ov E) := by
  refine CT.mk hG (by decide +kernel) (Nat.le_of_ble_eq_true rfl) (fun κ X Rt _ ok => ?_)
  refine at_aload_n 1 X rfl rfl dX10_hasRoom_0 rfl ?_
  refine m_getI 4 X f_X10_19 k_1 rn_1_1 dX10_hasRoom_1 rfl ?_
  refine at_bipush 6 X (by decide) (by decide) dX10_hasRoom_4 rfl ?_
  refine at_iadd 7 X dX10_hasRoom_6 rfl ?_
  rw [hs, w32_id (by omega) (by omega)]
  refine at_sipush 10 X (by decide) (by decide) dX10_hasRoom_7 rfl ?_
  refine at_icmp_gt 13 17 X dX10_hasRoom_10 rfl (by decide) (fun h10 => ?_) (fun h10 => ?_)
  · refine at_iconst 18 X (by decide) dX10_hasRoom_17 rfl ?_
    refine at_zret X Rt ⟨by first | rw [if_pos (by omega)] | rw [if_neg (by omega)], rfl⟩ (by decide) (Nat.le_refl _) (Nat.le_refl _) dX10_hasRoom_18
  · refine at_iconst 14 X (by decide) dX10_hasRoom_13 rfl ?_
    refine at_goto 18 X dX10_hasRoom_14 (by decide) ?_
    refine at_zret X Rt ⟨by first | rw [if_pos (by omega)] | rw [if_neg (by omega)], rfl⟩ (by decide) (Nat.le_refl _) (Nat.le_refl _) dX10_hasRoom_18
theorem dX10_add_0 : decode cX10_add 0 = .ok (.bipush 24, 2) := by decide +kernel
theorem dX10_add_2 : decode cX10_add 2 = .ok (.istore_n 2, 1) := by decide +kernel
theorem dX10_add_3 : decode cX10_add 3 = .ok (.iload_n 2, 1) := by decide +kernel
theorem dX10_add_4 : decode cX10_add 4 = .ok (.ifCond .lt 42, 3) := by decide +kernel
theorem dX10_add_7 : decode cX10_add 7 = .ok (.aload_n 0, 1) := by decide +kernel
theorem dX10_add_8 : decode cX10_add 8 = .ok (.getfield 19, 3) := by decide +kernel
theorem dX10_add_11 : decode cX10_add 11 = .ok (.sipush 600, 3) := by decide +kernel
theorem dX10_add_14 : decode cX10_add 14 = .ok (.if_icmp .ge 26, 3) := by decide +kernel
theorem dX10_add_17 : decode cX10_add 17 = .ok (.aload_n 0, 1) := by decide +kernel
theorem dX10_add_18 : decode cX10_add 18 = .ok (.getfield 9, 3) := by decide +kernel
theorem dX10_add_21 : decode cX10_add 21 = .ok (.aload_n 0, 1) := by decide +kernel
theorem dX10_add_22 : decode cX10_add 22 = .ok (.getfield 19, 3) := by decide +kernel
theorem dX10_add_25 : decode cX10_add 25 = .ok (.iload_n 1, 1) := by decide +kernel
theorem dX10_add_26 : decode cX10_add 26 = .ok (.iload_n 2, 1) := by decide +kernel
theorem dX10_add_27 : decode cX10_add 27 = .ok (.iushr, 1) := by decide +kernel
theorem dX10_add_28 : decode cX10_add 28 = .ok (.i2b, 1) := by decide +kernel
theorem dX10_add_29 : decode cX10_add 29 = .ok (.bastore, 1) := by decide +kernel
theorem dX10_add_30 : decode cX10_add 30 = .ok (.aload_n 0, 1) := by decide +kernel
theorem dX10_add_31 : decode cX10_add 31 = .ok (.dup, 1) := by decide +kernel
theorem dX10_add_32 : decode cX10_add 32 = .ok (.getfield 19, 3) := by decide +kernel
theorem dX10_add_35 : decode cX10_add 35 = .ok (.iconst 1, 1) := by decide +kernel
theorem dX10_add_36 : decode cX10_add 36 = .ok (.iadd, 1) := by decide +kernel
theorem dX10_add_37 : decode cX10_add 37 = .ok (.putfield 19, 3) := by decide +kernel
theorem dX10_add_40 : decode cX10_add 40 = .ok (.iinc 2 (-8), 3) := by decide +kernel
theorem dX10_add_43 : decode cX10_add 43 = .ok (.goto (-40), 3) := by decide +kernel
theorem dX10_add_46 : decode cX10_add 46 = .ok (.return_, 1) := by decide +kernel
/-- four bytes of an int, laid at the tape's end; i of them -/
def addS (E : Mm) (s : Nat) (v : Int) (i : Nat) : Mm := fun q j => if q = 2 ∧ s ≤ j ∧ j < s + i then i2b (iushr v (24 - 8 * ((j - s : Nat) : Int))) else if q = 1 ∧ j = 1 then ((s + i : Nat) : Int) else E q j
theorem addS_sz (E : Mm) (s : Nat) (v : Int) (i : Nat) : addS E s v i 1 1 = ((s + i : Nat) : Int) := by
  unfold addS
  rw [if_neg (by omega), if_pos ⟨rfl, rfl⟩]
theorem addS_step (E : Mm) (s : Nat) (v : Int) (i : Nat) : wr (wr (addS E s v i) 2 (s + i) (i2b (iushr v (24 - 8 * (i : Int))))) 1 1 ((s + (i + 1) : Nat) : Int) = addS E s v (i + 1) := by
  funext q j
  unfold wr addS
  by_cases c1 : q = 1 ∧ j = 1
  · rw [if_pos c1, if_neg (by omega), if_pos c1]
  · rw [if_neg c1]
    by_cases c2 : q = 2 ∧ j = s + i
    · rw [if_pos c2, if_pos ⟨c2.1, by omega, by omega⟩, show j - s = i by omega]
    · rw [if_neg c2]
      by_cases c3 : q = 2 ∧ s ≤ j ∧ j < s + i
      · rw [if_pos c3, if_pos ⟨c3.1, by omega, by omega⟩]
      · rw [if_neg c3, if_neg c1, if_neg c1, if_neg (show ¬ (q = 2 ∧ s ≤ j ∧ j < s + (i + 1)) by omega)]
theorem addS_zero {E : Mm} {s : Nat} {v : Int} (h : E 1 1 = (s : Int)) : addS E s v 0 = E := by
  funext q j
  unfold addS
  by_cases c : q = 1 ∧ j = 1
  · rw [if_neg (by omega), if_pos c, c.1, c.2, h]
    rfl
  · rw [if_neg (by omega), if_neg c]
theorem ct_X10_add {g : Gw} (hG : GF g) {z : Bool} (E : Mm) (s : Nat) (v : Int) (hs : E 1 1 = (s : Int)) (hs2 : s + 4 ≤ 600) : CT g yX10_add cX10_add 3 none 0 0 0 0 K2 z [mR 1, mI v] (ov (E)) K2 z (fun r D' => r = none ∧ D' = ov (addS E s v 4)) := by
  refine CT.mk hG (by decide +kernel) (Nat.le_of_ble_eq_true rfl) (fun κ X Rt _ ok => ?_)
  have L0 : ∀ (f i : Nat), 4 - i < f → i ≤ 4 → AT g κ K2 z 0 0 3 [(2, mI (24 - 8 * (i : Int))), (0, mR 1), (1, mI v)] [] (ov (addS E s v i)) := by
    intro f
    induction f with
    | zero => intro i h; omega
    | succ f ih =>
    intro i hf hi
    refine at_iload_n 4 X rfl rfl dX10_add_3 rfl ?_
    refine at_if_lt 7 46 X dX10_add_4 rfl (by decide) (fun h4 => ?_) (fun h4 => ?_)
    · refine at_vret X Rt ⟨rfl, by rw [show i = 4 by omega]⟩ (Nat.le_refl _) (Nat.le_refl _) dX10_add_46
    · refine at_aload_n 8 X rfl rfl dX10_add_7 rfl ?_
      refine m_getI 11 X f_X10_19 k_1 rn_1_1 dX10_add_8 rfl ?_
      rw [addS_sz]
      refine at_sipush 14 X (by decide) (by decide) dX10_add_11 rfl ?_
      refine at_icmp_ge 17 40 X dX10_add_14 rfl (by decide) (fun h14 => ?_) (fun h14 => ?_)
      · exact absurd h14 (by omega)
      · refine at_aload_n 18 X rfl rfl dX10_add_17 rfl ?_
        refine m_getR 21 X f_X10_9 k_1 r_1_0 dX10_add_18 rfl ?_
        refine at_aload_n 22 X rfl rfl dX10_add_21 rfl ?_
        refine m_getI 25 X f_X10_19 k_1 rn_1_1 dX10_add_22 rfl ?_
        rw [addS_sz]
        refine at_iload_n 26 X rfl rfl dX10_add_25 rfl ?_
        refine at_iload_n 27 X rfl rfl dX10_add_26 rfl ?_
        refine at_iushr 28 X dX10_add_27 rfl ?_
        refine at_i2b 29 X dX10_add_28 rfl ?_
        refine m_bastore 30 X k_2 e_2 (by omega) (by omega) ⟨by unfold i2b; omega, by unfold i2b; omega⟩ dX10_add_29 rfl ?_
        refine at_aload_n 31 X rfl rfl dX10_add_30 rfl ?_
        refine at_dup 32 X (by decide) dX10_add_31 rfl ?_
        refine m_getI 35 X f_X10_19 k_1 rn_1_1 dX10_add_32 rfl ?_
        rw [wr_o (Or.inl (by decide)), addS_sz]
        refine at_iconst 36 X (by decide) dX10_add_35 rfl ?_
        refine at_iadd 37 X dX10_add_36 rfl ?_
        rw [w32_id (by omega) (by omega), show ((s + i : Nat) : Int) + 1 = ((s + (i + 1) : Nat) : Int) from rfl]
        refine m_putI 40 X f_X10_19 fw_10_1 k_1 rn_1_1 dX10_add_37 rfl ?_
        refine at_iinc 43 X rfl dX10_add_40 rfl (by decide) ?_
        refine at_goto 3 X dX10_add_43 (by decide) ?_
        rw [Int.toNat_natCast, addS_step, w32_id (by omega) (by omega), show (24 : Int) - 8 * (i : Int) + (-8) = 24 - 8 * ((i + 1 : Nat) : Int) by omega]
        exact at_sub _ (by exact ⟨rfl, rfl, rfl, trivial⟩) (ih (i + 1) (by omega) (by omega))
  refine at_bipush 2 X (by decide) (by decide) dX10_add_0 rfl ?_
  refine at_istore_n 3 X rfl dX10_add_2 rfl (by decide) ?_
  have h := L0 5 0 (by omega) (by omega)
  rw [addS_zero hs] at h
  exact at_sub _ (by exact ⟨rfl, rfl, rfl, trivial⟩) h
theorem dX11_feed_0 : decode cX11_feed 0 = .ok (.aload_n 0, 1) := by decide +kernel
theorem dX11_feed_1 : decode cX11_feed 1 = .ok (.getfield 12, 3) := by decide +kernel
theorem dX11_feed_4 : decode cX11_feed 4 = .ok (.invokevirtual 105, 3) := by decide +kernel
theorem dX11_feed_7 : decode cX11_feed 7 = .ok (.ifCond .ne 5, 3) := by decide +kernel
theorem dX11_feed_10 : decode cX11_feed 10 = .ok (.iconst (-1), 1) := by decide +kernel
theorem dX11_feed_11 : decode cX11_feed 11 = .ok (.ireturn, 1) := by decide +kernel
theorem dX11_feed_12 : decode cX11_feed 12 = .ok (.aload_n 0, 1) := by decide +kernel
theorem dX11_feed_13 : decode cX11_feed 13 = .ok (.getfield 12, 3) := by decide +kernel
theorem dX11_feed_16 : decode cX11_feed 16 = .ok (.iload_n 1, 1) := by decide +kernel
theorem dX11_feed_17 : decode cX11_feed 17 = .ok (.invokevirtual 109, 3) := by decide +kernel
theorem dX11_feed_20 : decode cX11_feed 20 = .ok (.aload_n 0, 1) := by decide +kernel
theorem dX11_feed_21 : decode cX11_feed 21 = .ok (.getfield 12, 3) := by decide +kernel
theorem dX11_feed_24 : decode cX11_feed 24 = .ok (.iload_n 2, 1) := by decide +kernel
theorem dX11_feed_25 : decode cX11_feed 25 = .ok (.invokevirtual 109, 3) := by decide +kernel
theorem dX11_feed_28 : decode cX11_feed 28 = .ok (.aload_n 0, 1) := by decide +kernel
theorem dX11_feed_29 : decode cX11_feed 29 = .ok (.getfield 12, 3) := by decide +kernel
theorem dX11_feed_32 : decode cX11_feed 32 = .ok (.iload_n 3, 1) := by decide +kernel
theorem dX11_feed_33 : decode cX11_feed 33 = .ok (.invokevirtual 109, 3) := by decide +kernel
theorem dX11_feed_36 : decode cX11_feed 36 = .ok (.aload_n 0, 1) := by decide +kernel
theorem dX11_feed_37 : decode cX11_feed 37 = .ok (.getfield 12, 3) := by decide +kernel
theorem dX11_feed_40 : decode cX11_feed 40 = .ok (.iload 4, 2) := by decide +kernel
theorem dX11_feed_42 : decode cX11_feed 42 = .ok (.invokevirtual 109, 3) := by decide +kernel
theorem dX11_feed_45 : decode cX11_feed 45 = .ok (.aload_n 0, 1) := by decide +kernel
theorem dX11_feed_46 : decode cX11_feed 46 = .ok (.getfield 12, 3) := by decide +kernel
theorem dX11_feed_49 : decode cX11_feed 49 = .ok (.iload 5, 2) := by decide +kernel
theorem dX11_feed_51 : decode cX11_feed 51 = .ok (.invokevirtual 109, 3) := by decide +kernel
theorem dX11_feed_54 : decode cX11_feed 54 = .ok (.aload_n 0, 1) := by decide +kernel
theorem dX11_feed_55 : decode cX11_feed 55 = .ok (.getfield 12, 3) := by decide +kernel
theorem dX11_feed_58 : decode cX11_feed 58 = .ok (.getfield 113, 3) := by decide +kernel
theorem dX11_feed_61 : decode cX11_feed 61 = .ok (.ireturn, 1) := by decide +kernel
/-- what feeding does to the class's tape -/
def feedX (E : Mm) (s : Nat) (x0 x1 x2 x3 x4 : Int) : Mm := if s + 20 ≤ 600 then addS (addS (addS (addS (addS E s x0 4) (s + 4) x1 4) (s + 8) x2 4) (s + 12) x3 4) (s + 16) x4 4 else E
theorem ct_X11_feed {g : Gw} (hG : GF g) {z : Bool} (E : Mm) (s : Nat) (x0 x1 x2 x3 x4 : Int) (hs : E 1 1 = (s : Int)) (hs2 : s ≤ 600) : CT g yX11_feed cX11_feed 6 (some .int) 1 22 0 0 K2 z [mR 0, mI x0, mI x1, mI x2, mI x3, mI x4] (ov (E)) K2 z (fun r D' => r = some (mI (if s + 20 ≤ 600 then ((s + 20 : Nat) : Int) else -1)) ∧ D' = ov (feedX E s x0 x1 x2 x3 x4)) := by
  refine CT.mk hG (by decide +kernel) (Nat.le_of_ble_eq_true rfl) (fun κ X Rt _ ok => ?_)
  refine at_aload_n 1 X rfl rfl dX11_feed_0 rfl ?_
  refine m_getR 4 X f_X11_12 k_0 r_0_0 dX11_feed_1 rfl ?_
  refine at_callV 7 X _ 10 (ct_X10_hasRoom hG E s hs hs2) clX10 rfl k_1 mo_X10_hasRoom w_649 vo_X10_hasRoom.1 vo_X10_hasRoom.2 rfl rfl (crm Rt (by decide)) (Nat.le_of_ble_eq_true rfl) dX11_feed_4 rfl ?_
  rintro _ _ ⟨rfl, rfl⟩
  have h7 := @ite_no (s + 20 ≤ 600) _
  refine at_if_ne 10 12 X dX11_feed_7 rfl (by decide) (fun h7 => ?_) (fun h7 => ?_)
  · refine at_aload_n 13 X rfl rfl dX11_feed_12 rfl ?_
    refine m_getR 16 X f_X11_12 k_0 r_0_0 dX11_feed_13 rfl ?_
    refine at_iload_n 17 X rfl rfl dX11_feed_16 rfl ?_
    refine at_callV 20 X _ 10 (ct_X10_add hG E s x0 hs (by omega)) clX10 rfl k_1 mo_X10_add w_653 vo_X10_add.1 vo_X10_add.2 rfl rfl (crm Rt (by decide)) (Nat.le_of_ble_eq_true rfl) dX11_feed_17 rfl ?_
    rintro _ _ ⟨rfl, rfl⟩
    refine at_aload_n 21 X rfl rfl dX11_feed_20 rfl ?_
    refine m_getR 24 X f_X11_12 k_0 r_0_0 dX11_feed_21 rfl ?_
    refine at_iload_n 25 X rfl rfl dX11_feed_24 rfl ?_
    refine at_callV 28 X _ 10 (ct_X10_add hG (addS E s x0 4) (s + 4) x1 (addS_sz _ _ _ _) (by omega)) clX10 rfl k_1 mo_X10_add w_653 vo_X10_add.1 vo_X10_add.2 rfl rfl (crm Rt (by decide)) (Nat.le_of_ble_eq_true rfl) dX11_feed_25 rfl ?_
    rintro _ _ ⟨rfl, rfl⟩
    refine at_aload_n 29 X rfl rfl dX11_feed_28 rfl ?_
    refine m_getR 32 X f_X11_12 k_0 r_0_0 dX11_feed_29 rfl ?_
    refine at_iload_n 33 X rfl rfl dX11_feed_32 rfl ?_
    refine at_callV 36 X _ 10 (ct_X10_add hG (addS (addS E s x0 4) (s + 4) x1 4) (s + 8) x2 (addS_sz _ _ _ _) (by omega)) clX10 rfl k_1 mo_X10_add w_653 vo_X10_add.1 vo_X10_add.2 rfl rfl (crm Rt (by decide)) (Nat.le_of_ble_eq_true rfl) dX11_feed_33 rfl ?_
    rintro _ _ ⟨rfl, rfl⟩
    refine at_aload_n 37 X rfl rfl dX11_feed_36 rfl ?_
    refine m_getR 40 X f_X11_12 k_0 r_0_0 dX11_feed_37 rfl ?_
    refine at_iload 42 X rfl dX11_feed_40 rfl ?_
    refine at_callV 45 X _ 10 (ct_X10_add hG (addS (addS (addS E s x0 4) (s + 4) x1 4) (s + 8) x2 4) (s + 12) x3 (addS_sz _ _ _ _) (by omega)) clX10 rfl k_1 mo_X10_add w_653 vo_X10_add.1 vo_X10_add.2 rfl rfl (crm Rt (by decide)) (Nat.le_of_ble_eq_true rfl) dX11_feed_42 rfl ?_
    rintro _ _ ⟨rfl, rfl⟩
    refine at_aload_n 46 X rfl rfl dX11_feed_45 rfl ?_
    refine m_getR 49 X f_X11_12 k_0 r_0_0 dX11_feed_46 rfl ?_
    refine at_iload 51 X rfl dX11_feed_49 rfl ?_
    refine at_callV 54 X _ 10 (ct_X10_add hG (addS (addS (addS (addS E s x0 4) (s + 4) x1 4) (s + 8) x2 4) (s + 12) x3 4) (s + 16) x4 (addS_sz _ _ _ _) (by omega)) clX10 rfl k_1 mo_X10_add w_653 vo_X10_add.1 vo_X10_add.2 rfl rfl (crm Rt (by decide)) (Nat.le_of_ble_eq_true rfl) dX11_feed_51 rfl ?_
    rintro _ _ ⟨rfl, rfl⟩
    refine at_aload_n 55 X rfl rfl dX11_feed_54 rfl ?_
    refine m_getR 58 X f_X11_12 k_0 r_0_0 dX11_feed_55 rfl ?_
    refine m_getI 61 X f_X11_113 k_1 rn_1_1 dX11_feed_58 rfl ?_
    refine at_iret X Rt ⟨by rw [if_pos (by omega), addS_sz], by unfold feedX; rw [if_pos (by omega)]⟩ (Nat.le_refl _) (Nat.le_refl _) dX11_feed_61
  · refine at_iconst 11 X (by decide) dX11_feed_10 rfl ?_
    refine at_iret X Rt ⟨by rw [if_neg (by omega)], by unfold feedX; rw [if_neg (by omega)]⟩ (Nat.le_refl _) (Nat.le_refl _) dX11_feed_11
