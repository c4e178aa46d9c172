theorem ct_X0_rightEndN {g : Gw} (hG : GF g) {z : Bool} (E : Mm) (B : BM) (a W : Nat) (ha : a = 76 ∨ a = 91) (hB : CB E a B) (hW : WB W B) (hW4 : W ≤ 40) (b : Nat) (hb : b < bN B) (x : Nat) (hx : x ≤ 40) : CT g yX0_rightEnd cX0_rightEnd 3 (some .int) 0 0 0 0 K2 z [mR a, mI (b : Int), mI (x : Int)] (ov E) K2 z (fun r D' => r = some (mI ((x + bL B b - 1 : Nat) : Int)) ∧ D' = ov E) := by
  have h := ct_X0_rightEnd hG E B a W ha hB hW hW4 b hb (x : Int) (by omega) (z := z)
  have hl := hW.L hb
  rw [show ((x : Int) + (bL B b : Int) - 1) = ((x + bL B b - 1 : Nat) : Int) by omega] at h
  exact h
theorem dX4_holdsUp_0 : decode cX4_holdsUp 0 = .ok (.aload_n 1, 1) := by decide +kernel
theorem dX4_holdsUp_1 : decode cX4_holdsUp 1 = .ok (.iload_n 2, 1) := by decide +kernel
theorem dX4_holdsUp_2 : decode cX4_holdsUp 2 = .ok (.iload_n 3, 1) := by decide +kernel
theorem dX4_holdsUp_3 : decode cX4_holdsUp 3 = .ok (.invokevirtual 146, 3) := by decide +kernel
theorem dX4_holdsUp_6 : decode cX4_holdsUp 6 = .ok (.istore 5, 2) := by decide +kernel
theorem dX4_holdsUp_8 : decode cX4_holdsUp 8 = .ok (.iload_n 3, 1) := by decide +kernel
theorem dX4_holdsUp_9 : decode cX4_holdsUp 9 = .ok (.ifCond .lt 61, 3) := by decide +kernel
theorem dX4_holdsUp_12 : decode cX4_holdsUp 12 = .ok (.iload 5, 2) := by decide +kernel
theorem dX4_holdsUp_14 : decode cX4_holdsUp 14 = .ok (.aload_n 0, 1) := by decide +kernel
theorem dX4_holdsUp_15 : decode cX4_holdsUp 15 = .ok (.getfield 47, 3) := by decide +kernel
theorem dX4_holdsUp_18 : decode cX4_holdsUp 18 = .ok (.if_icmp .ge 52, 3) := by decide +kernel
theorem dX4_holdsUp_21 : decode cX4_holdsUp 21 = .ok (.aload_n 0, 1) := by decide +kernel
theorem dX4_holdsUp_22 : decode cX4_holdsUp 22 = .ok (.iload_n 3, 1) := by decide +kernel
theorem dX4_holdsUp_23 : decode cX4_holdsUp 23 = .ok (.iload 4, 2) := by decide +kernel
theorem dX4_holdsUp_25 : decode cX4_holdsUp 25 = .ok (.invokevirtual 143, 3) := by decide +kernel
theorem dX4_holdsUp_28 : decode cX4_holdsUp 28 = .ok (.i2l, 1) := by decide +kernel
theorem dX4_holdsUp_29 : decode cX4_holdsUp 29 = .ok (.ldc2_w 151, 3) := by decide +kernel
theorem dX4_holdsUp_32 : decode cX4_holdsUp 32 = .ok (.lmul, 1) := by decide +kernel
theorem dX4_holdsUp_33 : decode cX4_holdsUp 33 = .ok (.aload_n 1, 1) := by decide +kernel
theorem dX4_holdsUp_34 : decode cX4_holdsUp 34 = .ok (.getfield 153, 3) := by decide +kernel
theorem dX4_holdsUp_37 : decode cX4_holdsUp 37 = .ok (.iload_n 2, 1) := by decide +kernel
theorem dX4_holdsUp_38 : decode cX4_holdsUp 38 = .ok (.laload, 1) := by decide +kernel
theorem dX4_holdsUp_39 : decode cX4_holdsUp 39 = .ok (.lcmp, 1) := by decide +kernel
theorem dX4_holdsUp_40 : decode cX4_holdsUp 40 = .ok (.ifCond .lt 30, 3) := by decide +kernel
theorem dX4_holdsUp_43 : decode cX4_holdsUp 43 = .ok (.aload_n 0, 1) := by decide +kernel
theorem dX4_holdsUp_44 : decode cX4_holdsUp 44 = .ok (.iload 5, 2) := by decide +kernel
theorem dX4_holdsUp_46 : decode cX4_holdsUp 46 = .ok (.iload 4, 2) := by decide +kernel
theorem dX4_holdsUp_48 : decode cX4_holdsUp 48 = .ok (.invokevirtual 143, 3) := by decide +kernel
theorem dX4_holdsUp_51 : decode cX4_holdsUp 51 = .ok (.i2l, 1) := by decide +kernel
theorem dX4_holdsUp_52 : decode cX4_holdsUp 52 = .ok (.ldc2_w 151, 3) := by decide +kernel
theorem dX4_holdsUp_55 : decode cX4_holdsUp 55 = .ok (.lmul, 1) := by decide +kernel
theorem dX4_holdsUp_56 : decode cX4_holdsUp 56 = .ok (.aload_n 1, 1) := by decide +kernel
theorem dX4_holdsUp_57 : decode cX4_holdsUp 57 = .ok (.getfield 156, 3) := by decide +kernel
theorem dX4_holdsUp_60 : decode cX4_holdsUp 60 = .ok (.iload_n 2, 1) := by decide +kernel
theorem dX4_holdsUp_61 : decode cX4_holdsUp 61 = .ok (.laload, 1) := by decide +kernel
theorem dX4_holdsUp_62 : decode cX4_holdsUp 62 = .ok (.lcmp, 1) := by decide +kernel
theorem dX4_holdsUp_63 : decode cX4_holdsUp 63 = .ok (.ifCond .lt 7, 3) := by decide +kernel
theorem dX4_holdsUp_66 : decode cX4_holdsUp 66 = .ok (.iconst 1, 1) := by decide +kernel
theorem dX4_holdsUp_67 : decode cX4_holdsUp 67 = .ok (.goto 4, 3) := by decide +kernel
theorem dX4_holdsUp_70 : decode cX4_holdsUp 70 = .ok (.iconst 0, 1) := by decide +kernel
theorem dX4_holdsUp_71 : decode cX4_holdsUp 71 = .ok (.ireturn, 1) := by decide +kernel
theorem ct_X4_holdsUp {g : Gw} (hG : GF g) {z : Bool} (E : Mm) (a : Nat) (ha : a = 30 ∨ a = 39) (G : GP) (hw : WG G) (hg_E : CG E a G) (hl_E : CL E 4 (gLw G)) (B : BM) (s : Nat) (hs : s = 76 ∨ s = 91) (hB_E : CB E s B) (hW : WB (gW G) B) (b x h : Nat) (hb : b < bN B) (hx : x ≤ 40) (hh : h < 24) : CT g yX4_holdsUp cX4_holdsUp 6 (some .boolean) 3 75 0 0 K2 z [mR a, mR s, mI ((b : Nat) : Int), mI ((x : Nat) : Int), mI ((h : Nat) : Int)] (ov E) K2 z (fun r D' => r = some (mI (if stP G B b x h = true then 1 else 0)) ∧ ∃ E1, D' = ov E1 ∧ CG E1 a G ∧ ∀ q, q ≠ a + 8 → q ≠ 7 → E1 q = E q) := by
  refine CT.mk hG (by decide +kernel) (Nat.le_of_ble_eq_true rfl) (fun κ X Rt _ ok => ?_)
  have hf_E : ∀ q, q ≠ a + 8 → q ≠ 7 → E q = E q := fun _ _ _ => rfl
  have hW40 := hw.W
  have hN11 := hw.N
  have hN8 := hW.N
  refine at_aload_n 1 X rfl rfl dX4_holdsUp_0 rfl ?_
  refine at_iload_n 2 X rfl rfl dX4_holdsUp_1 rfl ?_
  refine at_iload_n 3 X rfl rfl dX4_holdsUp_2 rfl ?_
  refine at_callV 6 X _ 0 (ct_X0_rightEndN hG E B s (gW G) hs hB_E hW hW40 b (by omega) x (by omega)) clX0 rfl (kX0 hs) mo_X0_rightEnd w_1403 vo_X0_rightEnd.1 vo_X0_rightEnd.2 rfl rfl (crm Rt (by decide)) (Nat.le_of_ble_eq_true rfl) dX4_holdsUp_3 rfl ?_
  rintro _ _ ⟨rfl, rfl⟩
  have hl2 := hW.L (b := b) (by omega)
  refine at_istore 8 X dX4_holdsUp_6 rfl (by decide) ?_
  refine at_iload_n 9 X rfl rfl dX4_holdsUp_8 rfl ?_
  refine at_if_lt 12 70 X dX4_holdsUp_9 rfl (by decide) (fun h9 => ?_) (fun h9 => ?_)
  · refine at_iconst 71 X (by decide) dX4_holdsUp_70 rfl ?_
    refine at_zret X Rt ?_ (by first | decide | (split <;> decide)) (Nat.le_refl _) (Nat.le_refl _) dX4_holdsUp_71
    refine ⟨?_, E, rfl, hg_E, hf_E⟩
    first
      | (rw [if_neg (by simp only [stP, Bool.and_eq_true, decide_eq_true_eq]; omega)])
      | (rw [if_pos (by simp only [stP, Bool.and_eq_true, decide_eq_true_eq]; omega)])
  · refine at_iload 14 X rfl dX4_holdsUp_12 rfl ?_
    refine at_aload_n 15 X rfl rfl dX4_holdsUp_14 rfl ?_
    refine m_getIV 18 X ((gW G : Nat) : Int) hg_E.1.W f_X4_47 (kX4 ha) (nX4_9 ha) dX4_holdsUp_15 rfl ?_
    have := hw.W
    refine at_icmp_ge 21 70 X dX4_holdsUp_18 rfl (by decide) (fun h18 => ?_) (fun h18 => ?_)
    · refine at_iconst 71 X (by decide) dX4_holdsUp_70 rfl ?_
      refine at_zret X Rt ?_ (by first | decide | (split <;> decide)) (Nat.le_refl _) (Nat.le_refl _) dX4_holdsUp_71
      refine ⟨?_, E, rfl, hg_E, hf_E⟩
      first
        | (rw [if_neg (by simp only [stP, Bool.and_eq_true, decide_eq_true_eq]; omega)])
        | (rw [if_pos (by simp only [stP, Bool.and_eq_true, decide_eq_true_eq]; omega)])
    · refine at_aload_n 22 X rfl rfl dX4_holdsUp_21 rfl ?_
      refine at_iload_n 23 X rfl rfl dX4_holdsUp_22 rfl ?_
      refine at_iload 25 X rfl dX4_holdsUp_23 rfl ?_
      refine at_callV 28 X _ 4 (ct_X4_borneOn hG E a ha G hw hg_E hl_E h x (by omega) (by omega)) clX4 rfl (kX4 ha) mo_X4_borneOn w_1404 vo_X4_borneOn.1 vo_X4_borneOn.2 rfl rfl (crm Rt (by decide)) (Nat.le_of_ble_eq_true rfl) dX4_holdsUp_25 rfl ?_
      rintro _ _ ⟨rfl, F1, rfl, hg_F1, hq_F1⟩
      have hl_F1 := hl_E.fr (fun q _ _ => hq_F1 q (by omega) (by omega))
      have hf_F1 : ∀ q, q ≠ a + 8 → q ≠ 7 → F1 q = E q := fun q h0 h1 => (hq_F1 q h0 h1).trans (hf_E q h0 h1)
      have := bOn_in G h x
      have hB_F1 := hB_E.fr (fun q _ _ => hq_F1 q (by omega) (by omega))
      refine at_i2l 29 X dX4_holdsUp_28 rfl ?_
      refine at_ldc2 32 X (n := 232792560) w_1405 (by decide) (by decide) dX4_holdsUp_29 rfl ?_
      refine at_lmulV 33 X ((bOn G h x) * 232792560) (w64_v rfl (by omega) (by omega)) dX4_holdsUp_32 rfl ?_
      refine at_aload_n 34 X rfl rfl dX4_holdsUp_33 rfl ?_
      refine m_getR 37 X f_X4_153 (kX0 hs) (rX0_4 hs) dX4_holdsUp_34 rfl ?_
      refine at_iload_n 38 X rfl rfl dX4_holdsUp_37 rfl ?_
      refine m_laloadV 39 X b (by omega) ((onL B b : Nat) : Int) (hB_F1.l (b := b) (by omega)) (kX0_4 hs) (eX0_4 hs) (by omega) dX4_holdsUp_38 rfl ?_
      have := onL_le hW (b := b) (by omega)
      refine at_lif_lt 40 43 70 X dX4_holdsUp_39 rfl dX4_holdsUp_40 rfl (by decide) (fun h39 => ?_) (fun h39 => ?_)
      · refine at_iconst 71 X (by decide) dX4_holdsUp_70 rfl ?_
        refine at_zret X Rt ?_ (by first | decide | (split <;> decide)) (Nat.le_refl _) (Nat.le_refl _) dX4_holdsUp_71
        refine ⟨?_, F1, rfl, hg_F1, hf_F1⟩
        first
          | (rw [if_neg (by simp only [stP, Bool.and_eq_true, decide_eq_true_eq]; omega)])
          | (rw [if_pos (by simp only [stP, Bool.and_eq_true, decide_eq_true_eq]; omega)])
      · refine at_aload_n 44 X rfl rfl dX4_holdsUp_43 rfl ?_
        refine at_iload 46 X rfl dX4_holdsUp_44 rfl ?_
        refine at_iload 48 X rfl dX4_holdsUp_46 rfl ?_
        refine at_callV 51 X _ 4 (ct_X4_borneOn hG F1 a ha G hw hg_F1 hl_F1 h (x + bL B b - 1) (by omega) (by omega)) clX4 rfl (kX4 ha) mo_X4_borneOn w_1404 vo_X4_borneOn.1 vo_X4_borneOn.2 rfl rfl (crm Rt (by decide)) (Nat.le_of_ble_eq_true rfl) dX4_holdsUp_48 rfl ?_
        rintro _ _ ⟨rfl, F2, rfl, hg_F2, hq_F2⟩
        have hl_F2 := hl_F1.fr (fun q _ _ => hq_F2 q (by omega) (by omega))
        have hf_F2 : ∀ q, q ≠ a + 8 → q ≠ 7 → F2 q = E q := fun q h0 h1 => (hq_F2 q h0 h1).trans (hf_F1 q h0 h1)
        have := bOn_in G h (x + bL B b - 1)
        have hB_F2 := hB_F1.fr (fun q _ _ => hq_F2 q (by omega) (by omega))
        refine at_i2l 52 X dX4_holdsUp_51 rfl ?_
        refine at_ldc2 55 X (n := 232792560) w_1405 (by decide) (by decide) dX4_holdsUp_52 rfl ?_
        refine at_lmulV 56 X ((bOn G h (x + bL B b - 1)) * 232792560) (w64_v rfl (by omega) (by omega)) dX4_holdsUp_55 rfl ?_
        refine at_aload_n 57 X rfl rfl dX4_holdsUp_56 rfl ?_
        refine m_getR 60 X f_X4_156 (kX0 hs) (rX0_5 hs) dX4_holdsUp_57 rfl ?_
        refine at_iload_n 61 X rfl rfl dX4_holdsUp_60 rfl ?_
        refine m_laloadV 62 X b (by omega) ((onR B b : Nat) : Int) (hB_F2.r (b := b) (by omega)) (kX0_5 hs) (eX0_5 hs) (by omega) dX4_holdsUp_61 rfl ?_
        have := onR_le hW (b := b) (by omega)
        refine at_lif_lt 63 66 70 X dX4_holdsUp_62 rfl dX4_holdsUp_63 rfl (by decide) (fun h62 => ?_) (fun h62 => ?_)
        · refine at_iconst 71 X (by decide) dX4_holdsUp_70 rfl ?_
          refine at_zret X Rt ?_ (by first | decide | (split <;> decide)) (Nat.le_refl _) (Nat.le_refl _) dX4_holdsUp_71
          refine ⟨?_, F2, rfl, hg_F2, hf_F2⟩
          first
            | (rw [if_neg (by simp only [stP, Bool.and_eq_true, decide_eq_true_eq]; omega)])
            | (rw [if_pos (by simp only [stP, Bool.and_eq_true, decide_eq_true_eq]; omega)])
        · refine at_iconst 67 X (by decide) dX4_holdsUp_66 rfl ?_
          refine at_goto 71 X dX4_holdsUp_67 (by decide) ?_
          refine at_zret X Rt ?_ (by first | decide | (split <;> decide)) (Nat.le_refl _) (Nat.le_refl _) dX4_holdsUp_71
          refine ⟨?_, F2, rfl, hg_F2, hf_F2⟩
          first
            | (rw [if_neg (by simp only [stP, Bool.and_eq_true, decide_eq_true_eq]; omega)])
            | (rw [if_pos (by simp only [stP, Bool.and_eq_true, decide_eq_true_eq]; omega)])
/-- left ends by which a beam stands, as bits -/
def plcP (G : GP) (B : BM) (b h : Nat) : Nat := mk (fun x => stP G B b x h) (gW G + 1 - bL B b)
theorem dX4_placesFor_0 : decode cX4_placesFor 0 = .ok (.lconst 0, 1) := by decide +kernel
theorem dX4_placesFor_1 : decode cX4_placesFor 1 = .ok (.lstore 4, 2) := by decide +kernel
theorem dX4_placesFor_3 : decode cX4_placesFor 3 = .ok (.iconst 0, 1) := by decide +kernel
theorem dX4_placesFor_4 : decode cX4_placesFor 4 = .ok (.istore 6, 2) := by decide +kernel
theorem dX4_placesFor_6 : decode cX4_placesFor 6 = .ok (.iload 6, 2) := by decide +kernel
theorem dX4_placesFor_8 : decode cX4_placesFor 8 = .ok (.aload_n 1, 1) := by decide +kernel
theorem dX4_placesFor_9 : decode cX4_placesFor 9 = .ok (.getfield 159, 3) := by decide +kernel
theorem dX4_placesFor_12 : decode cX4_placesFor 12 = .ok (.iload_n 2, 1) := by decide +kernel
theorem dX4_placesFor_13 : decode cX4_placesFor 13 = .ok (.iaload, 1) := by decide +kernel
theorem dX4_placesFor_14 : decode cX4_placesFor 14 = .ok (.iadd, 1) := by decide +kernel
theorem dX4_placesFor_15 : decode cX4_placesFor 15 = .ok (.aload_n 0, 1) := by decide +kernel
theorem dX4_placesFor_16 : decode cX4_placesFor 16 = .ok (.getfield 47, 3) := by decide +kernel
theorem dX4_placesFor_19 : decode cX4_placesFor 19 = .ok (.if_icmp .gt 30, 3) := by decide +kernel
theorem dX4_placesFor_22 : decode cX4_placesFor 22 = .ok (.aload_n 0, 1) := by decide +kernel
theorem dX4_placesFor_23 : decode cX4_placesFor 23 = .ok (.aload_n 1, 1) := by decide +kernel
theorem dX4_placesFor_24 : decode cX4_placesFor 24 = .ok (.iload_n 2, 1) := by decide +kernel
theorem dX4_placesFor_25 : decode cX4_placesFor 25 = .ok (.iload 6, 2) := by decide +kernel
theorem dX4_placesFor_27 : decode cX4_placesFor 27 = .ok (.iload_n 3, 1) := by decide +kernel
theorem dX4_placesFor_28 : decode cX4_placesFor 28 = .ok (.invokevirtual 162, 3) := by decide +kernel
theorem dX4_placesFor_31 : decode cX4_placesFor 31 = .ok (.ifCond .eq 12, 3) := by decide +kernel
theorem dX4_placesFor_34 : decode cX4_placesFor 34 = .ok (.lload 4, 2) := by decide +kernel
theorem dX4_placesFor_36 : decode cX4_placesFor 36 = .ok (.lconst 1, 1) := by decide +kernel
theorem dX4_placesFor_37 : decode cX4_placesFor 37 = .ok (.iload 6, 2) := by decide +kernel
theorem dX4_placesFor_39 : decode cX4_placesFor 39 = .ok (.lshl, 1) := by decide +kernel
theorem dX4_placesFor_40 : decode cX4_placesFor 40 = .ok (.lor, 1) := by decide +kernel
theorem dX4_placesFor_41 : decode cX4_placesFor 41 = .ok (.lstore 4, 2) := by decide +kernel
theorem dX4_placesFor_43 : decode cX4_placesFor 43 = .ok (.iinc 6 1, 3) := by decide +kernel
theorem dX4_placesFor_46 : decode cX4_placesFor 46 = .ok (.goto (-40), 3) := by decide +kernel
theorem dX4_placesFor_49 : decode cX4_placesFor 49 = .ok (.lload 4, 2) := by decide +kernel
theorem dX4_placesFor_51 : decode cX4_placesFor 51 = .ok (.lreturn, 1) := by decide +kernel
theorem ct_X4_placesFor {g : Gw} (hG : GF g) {z : Bool} (E : Mm) (a : Nat) (ha : a = 30 ∨ a = 39) (G : GP) (hw : WG G) (hg_E : CG E a G) (hl_E : CL E 4 (gLw G)) (B : BM) (s : Nat) (hs : s = 76 ∨ s = 91) (hB_E : CB E s B) (hW : WB (gW G) B) (b h : Nat) (hb : b < bN B) (hh : h < 24) : CT g yX4_placesFor cX4_placesFor 7 (some .long) 4 100 0 0 K2 z [mR a, mR s, mI ((b : Nat) : Int), mI ((h : Nat) : Int)] (ov E) K2 z (fun r D' => r = some (mL (plcP G B b h : Nat)) ∧ ∃ E1, D' = ov E1 ∧ CG E1 a G ∧ ∀ q, q ≠ a + 8 → q ≠ 7 → E1 q = E q) := by
  refine CT.mk hG (by decide +kernel) (Nat.le_of_ble_eq_true rfl) (fun κ X Rt _ ok => ?_)
  have hf_E : ∀ q, q ≠ a + 8 → q ≠ 7 → E q = E q := fun _ _ _ => rfl
  have hW40 := hw.W
  have hN11 := hw.N
  have hN8 := hW.N
  have hl2 := hW.L (b := b) (by omega)
  refine at_lconst 1 X (v := 0) (by decide) (by decide) dX4_placesFor_0 rfl ?_
  refine at_lstore 3 X dX4_placesFor_1 rfl (by decide) ?_
  refine at_iconst 4 X (by decide) dX4_placesFor_3 rfl ?_
  refine at_istore 6 X dX4_placesFor_4 rfl (by decide) ?_
  have J6 : ∀ (f6 : Nat) (F : Mm) (x : Nat) (v : Nat), 41 - x < f6 → (x ≤ gW G + 1 - bL B b) → (v = mk (fun x => stP G B b x h) x) → (CG F a G) → (CL F 4 (gLw G)) → ((∀ q, q ≠ a + 8 → q ≠ 7 → F q = E q)) → (CB F s B) → AT g κ K2 z 0 0 6 [(0, mR a), (1, mR s), (2, mI ((b : Nat) : Int)), (3, mI ((h : Nat) : Int)), (4, mL ((v : Nat) : Int)), (6, mI ((x : Nat) : Int))] [] (ov F) := by
    intro f6
    induction f6 with
    | zero => intro F x v hf6; omega
    | succ f6 ih6 =>
    intro F x v hf6 hx hv hg_F hl_F hf_F hB_F
    refine at_iload 8 X rfl dX4_placesFor_6 rfl ?_
    refine at_aload_n 9 X rfl rfl dX4_placesFor_8 rfl ?_
    refine m_getR 12 X f_X4_159 (kX0 hs) (rX0_1 hs) dX4_placesFor_9 rfl ?_
    refine at_iload_n 13 X rfl rfl dX4_placesFor_12 rfl ?_
    refine m_ialoadV 14 X b (by omega) ((bL B b : Nat) : Int) (hB_F.L (b := b) (by omega)) (kX0_1 hs) (eX0_1 hs) (by omega) dX4_placesFor_13 rfl ?_
    have := hW.L (b := b) (by omega)
    refine at_iaddV 15 X ((x + bL B b : Nat) : Int) (w32_v (by omega) (by omega) (by omega)) dX4_placesFor_14 rfl ?_
    refine at_aload_n 16 X rfl rfl dX4_placesFor_15 rfl ?_
    refine m_getIV 19 X ((gW G : Nat) : Int) hg_F.1.W f_X4_47 (kX4 ha) (nX4_9 ha) dX4_placesFor_16 rfl ?_
    have := hw.W
    refine at_icmp_gt 22 49 X dX4_placesFor_19 rfl (by decide) (fun h19 => ?_) (fun h19 => ?_)
    · refine at_lload 51 X rfl dX4_placesFor_49 rfl ?_
      refine at_lret X Rt ?_ (Nat.le_refl _) (Nat.le_refl _) dX4_placesFor_51
      exact ⟨by unfold plcP; rw [hv, show x = gW G + 1 - bL B b by omega], F, rfl, hg_F, hf_F⟩
    · refine at_aload_n 23 X rfl rfl dX4_placesFor_22 rfl ?_
      refine at_aload_n 24 X rfl rfl dX4_placesFor_23 rfl ?_
      refine at_iload_n 25 X rfl rfl dX4_placesFor_24 rfl ?_
      refine at_iload 27 X rfl dX4_placesFor_25 rfl ?_
      refine at_iload_n 28 X rfl rfl dX4_placesFor_27 rfl ?_
      refine at_callV 31 X _ 4 (ct_X4_holdsUp hG F a ha G hw hg_F hl_F B s hs hB_F hW b x h (by omega) (by omega) (by omega)) clX4 rfl (kX4 ha) mo_X4_holdsUp w_1612 vo_X4_holdsUp.1 vo_X4_holdsUp.2 rfl rfl (crm Rt (by decide)) (Nat.le_of_ble_eq_true rfl) dX4_placesFor_28 rfl ?_
      rintro _ _ ⟨rfl, F1, rfl, hg_F1, hq_F1⟩
      have hl_F1 := hl_F.fr (fun q _ _ => hq_F1 q (by omega) (by omega))
      have hB_F1 := hB_F.fr (fun q _ _ => hq_F1 q (by omega) (by omega))
      have hf_F1 : ∀ q, q ≠ a + 8 → q ≠ 7 → F1 q = E q := fun q h0 h1 => (hq_F1 q h0 h1).trans (hf_F q h0 h1)
      refine at_if_eq 34 43 X dX4_placesFor_31 rfl (by decide) (fun h31 => ?_) (fun h31 => ?_)
      · have h31 : ¬ (stP G B b x h = true) := ite_no.mp h31
        refine at_iincV 46 X ((x + 1 : Nat) : Int) (w32_v (by omega) (by omega) (by omega)) rfl dX4_placesFor_43 rfl (by decide) ?_
        refine at_goto 6 X dX4_placesFor_46 (by decide) ?_
        exact at_sub _ (by exact ⟨rfl, rfl, rfl, rfl, rfl, rfl, trivial⟩) (ih6 F1 (x + 1) v (by first | omega | (simp only [] at *; omega)) (by first | omega | assumption) (by first | rfl | (rw [hv]; exact (mk_f (p := fun x => stP G B b x h) h31).symm)) hg_F1 hl_F1 hf_F1 hB_F1)
      · have h31 : (stP G B b x h = true) := ite_yes.mp h31
        refine at_lload 36 X rfl dX4_placesFor_34 rfl ?_
        refine at_lconst 37 X (v := 1) (by decide) (by decide) dX4_placesFor_36 rfl ?_
        refine at_iload 39 X rfl dX4_placesFor_37 rfl ?_
        refine at_lshlV 40 X ((2 ^ x : Nat) : Int) (lshl1 (by omega)) dX4_placesFor_39 rfl ?_
        refine at_lorV 41 X ((mk (fun x => stP G B b x h) (x + 1) : Nat) : Int) (by rw [hv]; exact mk_lor (q := fun x => stP G B b x h) (by omega) h31) dX4_placesFor_40 rfl ?_
        refine at_lstore 43 X dX4_placesFor_41 rfl (by decide) ?_
        refine at_iincV 46 X ((x + 1 : Nat) : Int) (w32_v (by omega) (by omega) (by omega)) rfl dX4_placesFor_43 rfl (by decide) ?_
        refine at_goto 6 X dX4_placesFor_46 (by decide) ?_
        exact at_sub _ (by exact ⟨rfl, rfl, rfl, rfl, rfl, rfl, trivial⟩) (ih6 F1 (x + 1) (mk (fun x => stP G B b x h) (x + 1)) (by first | omega | (simp only [] at *; omega)) (by first | omega | assumption) (by first | rfl | (rw [hv]; exact (mk_f (p := fun x => stP G B b x h) h31).symm)) hg_F1 hl_F1 hf_F1 hB_F1)
  exact at_sub _ (by exact ⟨rfl, rfl, rfl, rfl, rfl, rfl, trivial⟩) (J6 _ E 0 0 (Nat.lt_succ_self _) (by first | omega | assumption | rfl) rfl hg_E hl_E hf_E hB_E)
